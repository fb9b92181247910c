def tf (a : Nat → Int32) (t : Nat) (e : Int64) (i : Nat) : Nat → Int32 := fun j => if t ≤ j ∧ j < t + i then nI (byN e (j - t)) else a j
theorem tf_0 (a : Nat → Int32) (t : Nat) (e : Int64) : tf a t e 0 = a := by funext j; exact if_neg (by omega)
theorem tf_s (a : Nat → Int32) (t : Nat) (e : Int64) (i : Nat) : va_up (tf a t e i) (t + i) (nI (byN e i)) = tf a t e (i + 1) := by
  funext j
  unfold va_up tf
  by_cases q : j = t + i
  · subst q; rw [if_pos rfl, if_pos (by omega), Nat.add_sub_cancel_left]
  · rw [if_neg q]
    by_cases z : t ≤ j ∧ j < t + i
    · rw [if_pos z, if_pos (by omega)]
    · rw [if_neg z, if_neg (by omega)]
theorem byN_lt (e : Int64) (k : Nat) : byN e k < 256 := Nat.mod_lt _ (by decide)
set_option maxRecDepth 10000 in
set_option maxHeartbeats 2000000 in
theorem fd30 {g : gG} {h : gH} {m n1 T : Nat} {V : VS} {s : Nat → Int32} {l : Nat → Int64} {A : Nat → Nat → Int32} {B : Nat → Nat → Int64} {e : Int64} {Q : Option Value → gH → Prop} (h8 : n1 ≤ 8) (hT : T + n1 ≤ 240) (hQ : ∀ h1, MM h1 m V (va_up s 7 (nI (T + n1))) l (va_up A 6 (tf (A 6) T e n1)) B → Fr m 27 h h1 → Q (some (.int (nI (T + n1)))) h1) : ∀ i, i ≤ n1 → ∀ h1, MM h1 m V (va_up s 7 (nI (T + i))) l (va_up A 6 (tf (A 6) T e i)) B → Fr m 27 h h1 → Ex g mX12_feed (gZm g mX12_feed Q) 30 [some (.ref m), some (.long e), none, some (.int (nI n1)), some (.int (nI i))] [] h1 0 0 := by
  refine lp_up n1 (fun i hi ih h1 hm1 F => ?_) (fun h1 hm1 F => ?_)
  · have mo := hm1.1
    have m7 : h1.1 (m + 7) = some (.inl (0, 240, .inl (va_up A 6 (tf (A 6) T e i) 6))) := hm1.2 6 (by decide)
    refine x_iload dX12_feed_30 rfl ?_
    refine x_iload_n dX12_feed_32 rfl ?_
    refine x_icmp_ge_f 73 dX12_feed_33 (by decide) (ge_f (N := n1) rfl hi (by omega)) ?_
    refine x_aload_n dX12_feed_36 rfl ?_
    refine x_get fX12_32 mo rfl dX12_feed_37 ?_
    refine x_aload_n dX12_feed_40 rfl ?_
    refine x_get fX12_110 mo rfl dX12_feed_41 ?_
    refine x_lload_n dX12_feed_44 rfl ?_
    refine x_bipush (v := 8) dX12_feed_45 (by decide) ?_
    refine x_iload dX12_feed_47 rfl ?_
    refine x_imul dX12_feed_49 ?_
    rw [m8]
    refine x_lshr dX12_feed_50 ?_
    refine x_ldc2 dX12_feed_51 kX12_113 ?_
    refine x_land dX12_feed_54 ?_
    refine x_l2i dX12_feed_55 ?_
    rw [mfI e i (by omega)]
    refine x_iast (T + i) m7 (va_up_self _ _ _) (by omega) (by decide) dX12_feed_56 ?_
    refine x_aload_n dX12_feed_57 rfl ?_
    refine x_dup dX12_feed_58 rfl ?_
    refine x_get fX12_110 ((hset_n (by omega)).trans mo) rfl dX12_feed_59 ?_
    refine x_iconst (v := 1) dX12_feed_62 (by decide) ?_
    refine x_iadd dX12_feed_63 ?_
    rw [show va_up s 7 (nI (T + i)) 7 + 1 = nI (T + (i + 1)) by rw [va_up_self]; exact nI_1 _]
    refine x_put (fs' := mF m V (va_up s 7 (nI (T + (i + 1)))) l) fX12_110 ((hset_n (by omega)).trans mo) (Nat.le_of_ble_eq_true rfl) rfl rfl rfl dX12_feed_64 ?_
    refine x_inc_4  dX12_feed_67 (by decide) (nI_inc _) rfl ?_
    refine x_goto 30 dX12_feed_70 (by decide) ?_
    have hm2 := hm1.int (i := 6) (f := va_up (va_up A 6 (tf (A 6) T e i) 6) (T + i) (nI (byN e i))) rfl
    have eA : va_up (va_up A 6 (tf (A 6) T e i)) 6 (va_up (va_up A 6 (tf (A 6) T e i) 6) (T + i) (nI (byN e i))) = va_up A 6 (tf (A 6) T e (i + 1)) := by rw [va_2, va_up_self, tf_s]
    exact ih _ (eA ▸ hm2.num) ((F.tr (Fr.set (by omega) (by omega))).tr (Fr.set (by omega) (by omega)))
  · refine x_iload dX12_feed_30 rfl ?_
    refine x_iload_n dX12_feed_32 rfl ?_
    refine x_icmp_ge_t 73 dX12_feed_33 (by decide) (ge_t (N := n1) rfl (by omega)) ?_
    refine x_aload_n dX12_feed_73 rfl ?_
    refine x_get fX12_110 hm1.1 rfl dX12_feed_74 ?_
    rw [va_up_self]
    refine x_iret rfl dX12_feed_77 ⟨by decide, by decide⟩ ?_
    exact hQ _ hm1 F
set_option maxRecDepth 10000 in
set_option maxHeartbeats 2000000 in
theorem c_X12_feed {g : gG} {h : gH} {m : Nat} {S : AS} (hn : isN h m S) {e : Int64} {n : Int32} : Ct g mX12_feed [.ref m, .long e, .int n] h (some (.int (oFeed S e n).1)) (Pn m (oFeed S e n).2 h) := by
  obtain ⟨hz, s, l, A, B, hm, hv, hr⟩ := id hn
  have mo := hm.1
  have ok8 : S.1.1 0 ≤ 8 := hv.1.1.1
  have ok4 : S.1.1 1 ≤ 4 := hv.1.1.2.1
  have okr : S.1.1 2 ≤ 4 := hv.1.1.2.2
  have t256 : S.1.1 3 < 256 := lt256 hv.1.2.1 hv.1.1.1
  have hT := hr.2.1
  have hT1 := hT.1
  refine Cn.of (L := [some (.ref m), some (.long e), none, some (.int n), none]) (by decide) (Nat.le_of_ble_eq_true rfl) rfl ?_
  refine x_iload_n dX12_feed_0 rfl ?_
  refine x_iconst (v := 1) dX12_feed_1 (by decide) ?_
  refine x_bipush (v := 8) dX12_feed_2 (by decide) ?_
  refine x_rdS (c_X12_in (v := n) (a := 1) (b := 8)) lkX12_in sX12_93 dX12_feed_4 rfl rfl (Nat.le_of_ble_eq_true rfl) (by decide) ⟨rfl, rfl, by decide, by decide⟩ ?_
  refine x_if_neB 12 dX12_feed_7 (by decide) (fun c7 => ?_) (fun c7 => ?_)
  · obtain ⟨n1, hn1, rfl⟩ := ut_E (b := 8) (ut_p.mpr ⟨by have h1 := (fa_le _ _).mp c7.1; exact (fa_le _ _).mpr (by have e1 : (1 : Int32).toInt = 1 := rfl; have e2 : (0 : Int32).toInt = 0 := rfl; omega), c7.2⟩) (by decide)
    have le240 : nI S.2.2.1.1 + nI n1 ≤ 240 ↔ S.2.2.1.1 + n1 ≤ 240 := by rw [nI_add]; exact nI_leI (b := 240) (by omega) (by decide)
    have np : ¬ nI n1 < 1 := Int32.not_lt.mpr c7.1
    refine x_aload_n dX12_feed_12 rfl ?_
    refine x_get fX12_110 mo rfl dX12_feed_13 ?_
    refine x_iload_n dX12_feed_16 rfl ?_
    rw [hT.2.1]
    refine x_iadd dX12_feed_17 ?_
    refine x_sipush (v := 240) dX12_feed_18 (by decide) ?_
    refine x_icmp_le 27 dX12_feed_21 (by decide) (fun c21 => ?_) (fun c21 => ?_)
    · refine x_iconst (v := 0) dX12_feed_27 (by decide) ?_
      refine x_ist_4 dX12_feed_28 (by decide) rfl ?_
      have cl := le240.mp c21
      refine fd30 (h := h) (s := s) (A := A) (B := B) (T := S.2.2.1.1) hn1 cl (fun h1 hm1 F => ?_) 0 (Nat.zero_le _) h (by rw [tf_0, va_id, show nI (S.2.2.1.1 + 0) = s 7 from hT.2.1.symm, va_id]; exact hm) Fr.rf
      refine fnA (S' := (S.1, S.2.1, tkT S.2.2.1 e n1, S.2.2.2)) (isN.of hz hm1 hv ⟨hr.1, ⟨cl, va_up_self _ _ _, fun i hi => ?_⟩, hr.2.2⟩ F) ?_
      · have hi : i < S.2.2.1.1 + n1 := hi
        rw [va_up_self]
        show (if i < S.2.2.1.1 then S.2.2.1.2 i else byN e (i - S.2.2.1.1)) < 256 ∧ (if S.2.2.1.1 ≤ i ∧ i < S.2.2.1.1 + n1 then nI (byN e (i - S.2.2.1.1)) else A 6 i) = nI (if i < S.2.2.1.1 then S.2.2.1.2 i else byN e (i - S.2.2.1.1))
        by_cases q : i < S.2.2.1.1
        · rw [if_pos q, if_neg (by omega)]; exact hT.2.2 i q
        · rw [if_neg q, if_pos (by omega)]; exact ⟨byN_lt _ _, rfl⟩
      · (rw [oFeed, if_pos ⟨np, c7.2⟩, iN_nI (by omega), if_pos cl]) <;> rfl
    · refine x_bipush (v := -2) dX12_feed_24 (by decide) ?_
      refine x_iret rfl dX12_feed_26 ⟨by decide, by decide⟩ ?_
      exact fnA hn.rf (by rw [oFeed, if_pos ⟨np, c7.2⟩, iN_nI (by omega), if_neg (fun z => c21 (le240.mpr z))] <;> rfl)
  · refine x_iconst (v := -1) dX12_feed_10 (by decide) ?_
    refine x_iret rfl dX12_feed_11 ⟨by decide, by decide⟩ ?_
    exact fnA hn.rf (by rw [oFeed, if_neg (fun z => c7 ⟨Int32.not_lt.mp z.1, z.2⟩)] <;> rfl)
def kf (a b : Nat → Int32) (t i : Nat) : Nat → Int32 := fun j => if t ≤ j ∧ j < t + i then b (j - t) else a j
theorem kf_0 (a b : Nat → Int32) (t : Nat) : kf a b t 0 = a := by funext j; exact if_neg (by omega)
theorem kf_s (a b : Nat → Int32) (t i : Nat) : va_up (kf a b t i) (t + i) (b i) = kf a b t (i + 1) := by
  funext j
  unfold va_up kf
  by_cases q : j = t + i
  · subst q; rw [if_pos rfl, if_pos (by omega), Nat.add_sub_cancel_left]
  · rw [if_neg q]
    by_cases z : t ≤ j ∧ j < t + i
    · rw [if_pos z, if_pos (by omega)]
    · rw [if_neg z, if_neg (by omega)]
def rf (a b : Nat → Int32) (t i : Nat) : Nat → Int32 := fun j => if j < i then b (t + j) else a j
theorem rf_0 (a b : Nat → Int32) (t : Nat) : rf a b t 0 = a := by funext j; exact if_neg (by omega)
theorem rf_s (a b : Nat → Int32) (t i : Nat) : va_up (rf a b t i) i (b (t + i)) = rf a b t (i + 1) := by
  funext j
  unfold va_up rf
  by_cases q : j = i
  · subst q; rw [if_pos rfl, if_pos (by omega)]
  · rw [if_neg q]
    by_cases z : j < i
    · rw [if_pos z, if_pos (by omega)]
    · rw [if_neg z, if_neg (by omega)]
theorem mlen_le : ∀ c, c < 26 → mlen c ≤ 256 := by decide
set_option maxRecDepth 10000 in
set_option maxHeartbeats 2000000 in
theorem mrK3 {g : gG} {h : gH} {m n1 t c : Nat} {V : VS} {s : Nat → Int32} {l : Nat → Int64} {A : Nat → Nat → Int32} {B : Nat → Nat → Int64} (hc : c < 26) (hl : mlg c = false) (h24 : c ≠ 24) (hn : n1 ≤ mlen c) (ht : t + n1 ≤ 80) : ∀ i, i ≤ n1 → ∀ h1, MM h1 m V (va_up s 25 (nI (t + i))) l (va_up A 24 (kf (A 24) (A c) t i)) B → Fr m 27 h h1 → Ex g mX12_moveRow (gZm g mX12_moveRow (fun o h' => o = none ∧ MM h' m V (va_up s 25 (nI (t + n1))) l (va_up A 24 (kf (A 24) (A c) t n1)) B ∧ Fr m 27 h h')) 3 [some (.ref m), some (.ref (m + 1 + c)), some (.int (nI n1)), some (.int 1), some (.int (nI i))] [] h1 0 0 := by
  refine lp_up n1 (fun i hi ih h1 hm1 F => ?_) (fun h1 hm1 F => ?_)
  · have mo := hm1.1
    have l256 := mlen_le c hc
    have m25 : h1.1 (m + 25) = some (.inl (0, 80, .inl ((va_up A 24 (kf (A 24) (A c) t i)) 24))) := hm1.2 24 (by decide)
    have mc : h1.1 (m + 1 + c) = some (.inl (0, mlen c, .inl (A c))) := (hm1.2 c hc).trans (by rw [mcell, if_neg (by rw [hl]; decide), va_up_ne _ _ h24])
    refine x_iload dX12_moveRow_3 rfl ?_
    refine x_iload_n dX12_moveRow_5 rfl ?_
    refine x_icmp_ge_f 58 dX12_moveRow_6 (by decide) (ge_f (N := n1) rfl hi (by omega)) ?_
    refine x_iload_n dX12_moveRow_9 rfl ?_
    refine x_if_eq_f 29 dX12_moveRow_10 (by decide) (by decide) ?_
    refine x_aload_n dX12_moveRow_13 rfl ?_
    refine x_get fX12_87 mo rfl dX12_moveRow_14 ?_
    refine x_aload_n dX12_moveRow_17 rfl ?_
    refine x_get fX12_422 mo rfl dX12_moveRow_18 ?_
    refine x_aload_n dX12_moveRow_21 rfl ?_
    refine x_iload dX12_moveRow_22 rfl ?_
    refine x_iald i mc rfl (by omega) (by omega) dX12_moveRow_24 ?_
    refine x_iast (t + i) m25 (va_up_self _ _ _) (by omega) (by decide) dX12_moveRow_25 ?_
    refine x_goto 42 dX12_moveRow_26 (by decide) ?_
    refine x_aload_n dX12_moveRow_42 rfl ?_
    refine x_dup dX12_moveRow_43 rfl ?_
    refine x_get fX12_422 ((hset_n (by omega)).trans mo) rfl dX12_moveRow_44 ?_
    refine x_iconst (v := 1) dX12_moveRow_47 (by decide) ?_
    refine x_iadd dX12_moveRow_48 ?_
    rw [show va_up s 25 (nI (t + i)) 25 + 1 = nI (t + (i + 1)) by rw [va_up_self]; exact nI_1 _]
    refine x_put (fs' := mF m V (va_up s 25 (nI (t + (i + 1)))) l) fX12_422 ((hset_n (by omega)).trans mo) (Nat.le_of_ble_eq_true rfl) rfl rfl rfl dX12_moveRow_49 ?_
    refine x_inc_4  dX12_moveRow_52 (by decide) (nI_inc _) rfl ?_
    refine x_goto 3 dX12_moveRow_55 (by decide) ?_
    have hm2 := hm1.int (i := 24) (f := va_up ((va_up A 24 (kf (A 24) (A c) t i)) 24) (t + i) (A c i)) rfl
    have eA : va_up (va_up A 24 (kf (A 24) (A c) t i)) 24 (va_up ((va_up A 24 (kf (A 24) (A c) t i)) 24) (t + i) (A c i)) = (va_up A 24 (kf (A 24) (A c) t (i + 1))) := by rw [va_2, va_up_self, kf_s]
    exact ih _ (eA ▸ hm2.num) ((F.tr (Fr.set (by omega) (by omega))).tr (Fr.set (by omega) (by omega)))
  · have l256 := mlen_le c hc
    refine x_iload dX12_moveRow_3 rfl ?_
    refine x_iload_n dX12_moveRow_5 rfl ?_
    refine x_icmp_ge_t 58 dX12_moveRow_6 (by decide) (ge_t (N := n1) rfl (by omega)) ?_
    refine x_vret rfl dX12_moveRow_58 ⟨by decide, by decide⟩ ?_
    exact ⟨rfl, hm1, F⟩
set_option maxRecDepth 10000 in
set_option maxHeartbeats 2000000 in
theorem mrK {g : gG} {h : gH} {m n1 t c : Nat} {V : VS} {s : Nat → Int32} {l : Nat → Int64} {A : Nat → Nat → Int32} {B : Nat → Nat → Int64} (hc : c < 26) (hl : mlg c = false) (h24 : c ≠ 24) (hn : n1 ≤ mlen c) (ht : t + n1 ≤ 80) (hm : MM h m V s l A B) (h25 : s 25 = nI t) : Ct g mX12_moveRow [.ref m, .ref (m + 1 + c), .int (nI n1), .int 1] h none (fun h' => MM h' m V (va_up s 25 (nI (t + n1))) l (va_up A 24 (kf (A 24) (A c) t n1)) B ∧ Fr m 27 h h') := by
  refine Cn.of (L := [some (.ref m), some (.ref (m + 1 + c)), some (.int (nI n1)), some (.int 1), none]) (by decide) (Nat.le_of_ble_eq_true rfl) rfl ?_
  refine x_iconst (v := 0) dX12_moveRow_0 (by decide) ?_
  refine x_ist_4 dX12_moveRow_1 (by decide) rfl ?_
  exact mrK3 hc hl h24 hn ht 0 (Nat.zero_le _) h (by rw [kf_0, va_id, show nI (t + 0) = s 25 from h25.symm, va_id]; exact hm) Fr.rf
set_option maxRecDepth 10000 in
set_option maxHeartbeats 2000000 in
theorem mrR3 {g : gG} {h : gH} {m n1 t c : Nat} {V : VS} {s : Nat → Int32} {l : Nat → Int64} {A : Nat → Nat → Int32} {B : Nat → Nat → Int64} (hc : c < 26) (hl : mlg c = false) (h24 : c ≠ 24) (hn : n1 ≤ mlen c) (ht : t + n1 ≤ 80) : ∀ i, i ≤ n1 → ∀ h1, MM h1 m V (va_up s 25 (nI (t + i))) l (va_up A c (rf (A c) (A 24) t i)) B → Fr m 27 h h1 → Ex g mX12_moveRow (gZm g mX12_moveRow (fun o h' => o = none ∧ MM h' m V (va_up s 25 (nI (t + n1))) l (va_up A c (rf (A c) (A 24) t n1)) B ∧ Fr m 27 h h')) 3 [some (.ref m), some (.ref (m + 1 + c)), some (.int (nI n1)), some (.int 0), some (.int (nI i))] [] h1 0 0 := by
  refine lp_up n1 (fun i hi ih h1 hm1 F => ?_) (fun h1 hm1 F => ?_)
  · have mo := hm1.1
    have l256 := mlen_le c hc
    have m25 : h1.1 (m + 25) = some (.inl (0, 80, .inl (A 24))) := (hm1.2 24 (by decide)).trans (by rw [mcell, if_neg (by decide), va_up_ne _ _ (Ne.symm h24)]; rfl)
    have mc : h1.1 (m + 1 + c) = some (.inl (0, mlen c, .inl ((va_up A c (rf (A c) (A 24) t i)) c))) := (hm1.2 c hc).trans (by rw [mcell, if_neg (by rw [hl]; decide)])
    refine x_iload dX12_moveRow_3 rfl ?_
    refine x_iload_n dX12_moveRow_5 rfl ?_
    refine x_icmp_ge_f 58 dX12_moveRow_6 (by decide) (ge_f (N := n1) rfl hi (by omega)) ?_
    refine x_iload_n dX12_moveRow_9 rfl ?_
    refine x_if_eq_t 29 dX12_moveRow_10 (by decide) rfl ?_
    refine x_aload_n dX12_moveRow_29 rfl ?_
    refine x_iload dX12_moveRow_30 rfl ?_
    refine x_aload_n dX12_moveRow_32 rfl ?_
    refine x_get fX12_87 mo rfl dX12_moveRow_33 ?_
    refine x_aload_n dX12_moveRow_36 rfl ?_
    refine x_get fX12_422 mo rfl dX12_moveRow_37 ?_
    refine x_iald (t + i) m25 (va_up_self _ _ _) (by omega) (by decide) dX12_moveRow_40 ?_
    refine x_iast i mc rfl (by omega) (by omega) dX12_moveRow_41 ?_
    refine x_aload_n dX12_moveRow_42 rfl ?_
    refine x_dup dX12_moveRow_43 rfl ?_
    refine x_get fX12_422 ((hset_n (by omega)).trans mo) rfl dX12_moveRow_44 ?_
    refine x_iconst (v := 1) dX12_moveRow_47 (by decide) ?_
    refine x_iadd dX12_moveRow_48 ?_
    rw [show va_up s 25 (nI (t + i)) 25 + 1 = nI (t + (i + 1)) by rw [va_up_self]; exact nI_1 _]
    refine x_put (fs' := mF m V (va_up s 25 (nI (t + (i + 1)))) l) fX12_422 ((hset_n (by omega)).trans mo) (Nat.le_of_ble_eq_true rfl) rfl rfl rfl dX12_moveRow_49 ?_
    refine x_inc_4  dX12_moveRow_52 (by decide) (nI_inc _) rfl ?_
    refine x_goto 3 dX12_moveRow_55 (by decide) ?_
    have hm2 := hm1.int (i := c) (f := va_up ((va_up A c (rf (A c) (A 24) t i)) c) i (A 24 (t + i))) hl
    have eA : va_up (va_up A c (rf (A c) (A 24) t i)) c (va_up ((va_up A c (rf (A c) (A 24) t i)) c) i (A 24 (t + i))) = (va_up A c (rf (A c) (A 24) t (i + 1))) := by rw [va_2, va_up_self, rf_s]
    exact ih _ (eA ▸ hm2.num) ((F.tr (Fr.set (by omega) (by omega))).tr (Fr.set (by omega) (by omega)))
  · have l256 := mlen_le c hc
    refine x_iload dX12_moveRow_3 rfl ?_
    refine x_iload_n dX12_moveRow_5 rfl ?_
    refine x_icmp_ge_t 58 dX12_moveRow_6 (by decide) (ge_t (N := n1) rfl (by omega)) ?_
    refine x_vret rfl dX12_moveRow_58 ⟨by decide, by decide⟩ ?_
    exact ⟨rfl, hm1, F⟩
set_option maxRecDepth 10000 in
set_option maxHeartbeats 2000000 in
theorem mrR {g : gG} {h : gH} {m n1 t c : Nat} {V : VS} {s : Nat → Int32} {l : Nat → Int64} {A : Nat → Nat → Int32} {B : Nat → Nat → Int64} (hc : c < 26) (hl : mlg c = false) (h24 : c ≠ 24) (hn : n1 ≤ mlen c) (ht : t + n1 ≤ 80) (hm : MM h m V s l A B) (h25 : s 25 = nI t) : Ct g mX12_moveRow [.ref m, .ref (m + 1 + c), .int (nI n1), .int 0] h none (fun h' => MM h' m V (va_up s 25 (nI (t + n1))) l (va_up A c (rf (A c) (A 24) t n1)) B ∧ Fr m 27 h h') := by
  refine Cn.of (L := [some (.ref m), some (.ref (m + 1 + c)), some (.int (nI n1)), some (.int 0), none]) (by decide) (Nat.le_of_ble_eq_true rfl) rfl ?_
  refine x_iconst (v := 0) dX12_moveRow_0 (by decide) ?_
  refine x_ist_4 dX12_moveRow_1 (by decide) rfl ?_
  exact mrR3 hc hl h24 hn ht 0 (Nat.zero_le _) h (by rw [rf_0, va_id, show nI (t + 0) = s 25 from h25.symm, va_id]; exact hm) Fr.rf
