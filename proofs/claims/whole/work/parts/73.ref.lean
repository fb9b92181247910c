set_option maxRecDepth 10000 in
set_option maxHeartbeats 2000000 in
theorem ni22 {g : gG} {h : gH} {m : Nat} {S : AS} {s : Nat → Int32} {l : Nat → Int64} {A : Nat → Nat → Int32} {B : Nat → Nat → Int64} (hz : m + 27 ≤ h.2) (hv : rpV S.1 A) (hr : rpO S s A B) {n1 : Nat} (h20 : n1 ≤ 20) (hu : ut (nI n1) 20 = true) : ∀ i, i ≤ n1 → ∀ h1, MM h1 m (nV_ S.1 i) (va_up s 17 (pnN S.1 i).2.1) l A B → Fr m 27 h h1 → Ex g mX12_night (gZm g mX12_night (fun o h' => o = some (.int (oNight S.1 (nI n1)).1) ∧ Pn m ((oNight S.1 (nI n1)).2, S.2) h h')) 22 [some (.ref m), some (.int (nI n1)), some (.int (nI i))] [] h1 0 0 := by
  refine lp_up n1 (fun i hi ih h1 hm1 F => ?_) (fun h1 hm1 F => ?_)
  · refine x_iload_n dX12_night_22 rfl ?_
    refine x_iload_n dX12_night_23 rfl ?_
    refine x_icmp_ge_f 45 dX12_night_24 (by decide) (ge_f (N := n1) rfl hi (by omega)) ?_
    refine x_aload_n dX12_night_27 rfl ?_
    refine x_aload_n dX12_night_28 rfl ?_
    refine x_aload_n dX12_night_29 rfl ?_
    refine x_get fX12_103 hm1.1 rfl dX12_night_30 ?_
    refine x_cvV (c_X12_behind (V := nV_ S.1 i) (W := nW_ S.1 i) (t := (nV_ S.1 i).1 3) hm1 (nV_rp hv i) (nW_ok hv.1 i).1 rfl rfl rfl rfl rfl (va_up_self _ _ _).symm) hm1.1 lkX12_behind sX12_283 dX12_night_33 rfl rfl (Nat.le_of_ble_eq_true rfl) (by decide) ⟨rfl, rfl, by decide, by decide⟩ ?_
    rintro h2 ⟨hm2, F2⟩
    have e := nW_s hv.1 i
    have e1 : (pnS (nW_ S.1 i) ((nV_ S.1 i).1 0)).1 3 = (pnN S.1 (i + 1)).1 3 := e.1
    have e2 : (pnS (nW_ S.1 i) ((nV_ S.1 i).1 0)).2.1 = (pnN S.1 (i + 1)).2.1 := e.2
    rw [va_2, e2] at hm2
    rw [e1]
    refine x_put (fs' := mF m (nV_ S.1 (i + 1)) (va_up s 17 (pnN S.1 (i + 1)).2.1) l) fX12_103 hm2.1 (Nat.le_of_ble_eq_true rfl) rfl rfl rfl dX12_night_36 ?_
    refine x_inc_2  dX12_night_39 (by decide) (nI_inc _) rfl ?_
    refine x_goto 22 dX12_night_42 (by decide) ?_
    exact ih _ hm2.num ((F.tr F2).tr (Fr.set (by omega) (by omega)))
  · refine x_iload_n dX12_night_22 rfl ?_
    refine x_iload_n dX12_night_23 rfl ?_
    refine x_icmp_ge_t 45 dX12_night_24 (by decide) (ge_t (N := n1) rfl (by omega)) ?_
    refine x_aload_n dX12_night_45 rfl ?_
    refine x_aload_n dX12_night_46 rfl ?_
    refine x_get fX12_277 hm1.1 rfl dX12_night_47 ?_
    rw [va_up_self]
    refine x_put (fs' := mF m ((nV_ S.1 n1).1, (pnN S.1 n1).2.1, S.1.2.2) (va_up s 17 (pnN S.1 n1).2.1) l) fX12_25 hm1.1 (Nat.le_of_ble_eq_true rfl) rfl rfl rfl dX12_night_50 ?_
    refine x_aload_n dX12_night_53 rfl ?_
    refine x_dup dX12_night_54 rfl ?_
    refine x_get fX12_227 hset_s rfl dX12_night_55 ?_
    refine x_iload_n dX12_night_58 rfl ?_
    refine x_iadd dX12_night_59 ?_
    rw [nI_add]
    refine x_put (fs' := mF m ((va_up (va_up S.1.1 3 ((pnN S.1 n1).1 3)) 5 (S.1.1 5 + n1)), (pnN S.1 n1).2.1, S.1.2.2) (va_up s 17 (pnN S.1 n1).2.1) l) fX12_227 hset_s (Nat.le_of_ble_eq_true rfl) rfl rfl rfl dX12_night_60 ?_
    refine x_aload_n dX12_night_63 rfl ?_
    refine x_get fX12_103 hset_s rfl dX12_night_64 ?_
    refine x_iret rfl dX12_night_67 ⟨by decide, by decide⟩ ?_
    have hm4 : MM _ m ((va_up (va_up S.1.1 3 ((pnN S.1 n1).1 3)) 5 (S.1.1 5 + n1)), (pnN S.1 n1).2.1, S.1.2.2) (va_up s 17 (pnN S.1 n1).2.1) l A B := (hm1.num (V' := ((nV_ S.1 n1).1, (pnN S.1 n1).2.1, S.1.2.2)) (s' := va_up s 17 (pnN S.1 n1).2.1) (l' := l)).num
    have hm5 : MM _ m (pnN S.1 n1) (va_up s 17 (pnN S.1 n1).2.1) l A B := ⟨hm4.1.trans (congrArg (fun v => some (Sum.inr (12, mF m v (va_up s 17 (pnN S.1 n1).2.1) l))) (nV_end hv.1 n1)), hm4.2⟩
    have hp : rpV (pnN S.1 n1) A := by
      have ok := (pnN_ok hv.1 n1).1
      rw [← nV_end hv.1 n1] at ok ⊢
      exact ⟨ok, hv.2.1, hv.2.2.1, hv.2.2.2.1, hv.2.2.2.2⟩
    refine fnM hz hm5 hp hr ((F.tr (Fr.set (by omega) (by omega))).tr (Fr.set (by omega) (by omega))) ?_
    (rw [oNight, if_pos hu, iN_nI (by omega)]) <;> rfl
set_option maxRecDepth 10000 in
set_option maxHeartbeats 2000000 in
theorem c_X12_night {g : gG} {h : gH} {m : Nat} {S : AS} (hn : isN h m S) {n : Int32} : Ct g mX12_night [.ref m, .int n] h (some (.int (oNight S.1 n).1)) (Pn m ((oNight S.1 n).2, S.2) h) := by
  obtain ⟨hz, s, l, A, B, hm, hv, hr⟩ := id hn
  have mo := hm.1
  have ok8 : S.1.1 0 ≤ 8 := hv.1.1.1
  have ok4 : S.1.1 1 ≤ 4 := hv.1.1.2.1
  have okr : S.1.1 2 ≤ 4 := hv.1.1.2.2
  have t256 : S.1.1 3 < 256 := lt256 hv.1.2.1 hv.1.1.1
  refine Cn.of (L := [some (.ref m), some (.int n), none]) (by decide) (Nat.le_of_ble_eq_true rfl) rfl ?_
  refine x_iload_n dX12_night_0 rfl ?_
  refine x_iconst (v := 0) dX12_night_1 (by decide) ?_
  refine x_bipush (v := 20) dX12_night_2 (by decide) ?_
  refine x_rdS mc_in lkX12_in sX12_93 dX12_night_4 rfl rfl (Nat.le_of_ble_eq_true rfl) (by decide) ⟨rfl, rfl, by decide, by decide⟩ ?_
  refine x_if_neB 12 dX12_night_7 (by decide) (fun c7 => ?_) (fun c7 => ?_)
  · have c7x := c7
    obtain ⟨n1, hn1, rfl⟩ := ut_E (b := 20) c7 (by decide)
    refine x_aload_n dX12_night_12 rfl ?_
    refine x_aload_n dX12_night_13 rfl ?_
    refine x_get fX12_25 mo rfl dX12_night_14 ?_
    refine x_put (fs' := mF m S.1 (va_up s 17 S.1.2.1) l) fX12_277 mo (Nat.le_of_ble_eq_true rfl) rfl rfl rfl dX12_night_17 ?_
    refine x_iconst (v := 0) dX12_night_20 (by decide) ?_
    refine x_ist_2 dX12_night_21 (by decide) rfl ?_
    have e0 : nV_ S.1 0 = S.1 := by
      show (va_up S.1.1 3 (S.1.1 3), S.1.2) = S.1
      rw [va_id]
    exact ni22 hz hv hr hn1 c7x 0 (Nat.zero_le _) _ (by rw [e0]; exact hm.num) (Fr.set (by omega) (by omega))
  · refine x_iconst (v := -1) dX12_night_10 (by decide) ?_
    refine x_iret rfl dX12_night_11 ⟨by decide, by decide⟩ ?_
    exact fnV hn (by simp only [oNight, c7, eq_self, Bool.false_eq_true, reduceCtorEq, and_true, true_and, and_false, false_and, not_true_eq_false, not_false_eq_true, if_true, if_false, ne_eq, or_true, true_or, or_false, false_or])
theorem gr_cc {U V : VS} {t S : Nat} (hr : U.2.2 = V.2.2) : ∀ n, gr U t S n = gr V t S n
  | 0 => rfl
  | n + 1 => by rw [gr, gr, gr_cc hr n, hr]
theorem rea_cc {U V : VS} {t c : Nat} (h0 : U.1 0 = V.1 0) (hr : U.2.2 = V.2.2) : ∀ d, rea U t c d = rea V t c d
  | 0 => rfl
  | d + 1 => by rw [rea, rea, rea_cc h0 hr d, gr_cc hr, h0]
def frI (V : VS) (n : Nat) (f : Nat → Int32) : Prop := ∀ i, i < n → f (2 * i) = nrP V (i + 1) ∧ f (2 * i + 1) = nrC V (i + 1)
theorem frI_s {V : VS} {n : Nat} {f : Nat → Int32} (h : frI V n f) : frI V (n + 1) (va_up (va_up f (2 * n) (nrP V (n + 1))) (2 * n + 1) (nrC V (n + 1))) := by
  intro i hi
  by_cases e : i = n
  · subst e; rw [va_up_ne _ _ (show 2 * i ≠ 2 * i + 1 by omega), va_up_self, va_up_self]; exact ⟨rfl, rfl⟩
  · rw [va_up_ne _ _ (show 2 * i ≠ 2 * n + 1 by omega), va_up_ne _ _ (show 2 * i ≠ 2 * n by omega), va_up_ne _ _ (show 2 * i + 1 ≠ 2 * n + 1 by omega), va_up_ne _ _ (show 2 * i + 1 ≠ 2 * n by omega)]; exact h i (by omega)
set_option maxRecDepth 10000 in
set_option maxHeartbeats 2000000 in
theorem fr15 {g : gG} {h : gH} {m : Nat} {V : VS} {s : Nat → Int32} {l : Nat → Int64} {A : Nat → Nat → Int32} {B : Nat → Nat → Int64} (hv : rpV V A) {n1 : Nat} (h12 : n1 ≤ 12) : ∀ i, i ≤ n1 → ∀ h1 f, MM h1 m V (va_up s 17 (pnN V i).2.1) l (va_up A 16 f) B → frI V i f → Fr m 27 h h1 → Ex g mX12_findRows (gZm g mX12_findRows (fun o h' => o = none ∧ ∃ f z, MM h' m V (va_up s 17 z) l (va_up A 16 f) B ∧ frI V n1 f ∧ Fr m 27 h h')) 15 [some (.ref m), some (.int (nI n1)), some (.int (nI ((pnN V i).1 3))), some (.int (nI i))] [] h1 0 0 := by
  refine lp_up n1 (fun i hi ih h1 f hm1 hf F => ?_) (fun h1 f hm1 hf F => ?_)
  · refine x_iload_n dX12_findRows_15 rfl ?_
    refine x_iload_n dX12_findRows_16 rfl ?_
    refine x_icmp_ge_f 60 dX12_findRows_17 (by decide) (ge_f (N := n1) rfl hi (by omega)) ?_
    refine x_aload_n dX12_findRows_20 rfl ?_
    refine x_iload_n dX12_findRows_21 rfl ?_
    refine x_cvV (c_X12_behind (W := nW_ V i) (t := (pnN V i).1 3) hm1 (show rpV V (va_up A 16 f) from hv) (nW_ok hv.1 i).1 rfl rfl rfl rfl rfl (va_up_self _ _ _).symm) hm1.1 lkX12_behind sX12_283 dX12_findRows_22 rfl rfl (Nat.le_of_ble_eq_true rfl) (by decide) ⟨rfl, rfl, by decide, by decide⟩ ?_
    rintro h2 ⟨hm2, F2⟩
    have e := nW_s hv.1 i
    rw [va_2, e.2] at hm2
    rw [e.1]
    have ok1 := pnN_ok hv.1 (i + 1)
    have t2 : (pnN V (i + 1)).1 3 < 256 := lt256 ok1.1.2.1 ok1.1.1.1
    have m17 : h2.1 (m + 17) = some (.inl (0, 24, .inl (va_up A 16 f 16))) := hm2.2 16 (by decide)
    refine x_ist_2 dX12_findRows_25 (by decide) rfl ?_
    refine x_aload_n dX12_findRows_26 rfl ?_
    refine x_get fX12_63 hm2.1 rfl dX12_findRows_27 ?_
    refine x_iconst (v := 2) dX12_findRows_30 (by decide) ?_
    refine x_iload_n dX12_findRows_31 rfl ?_
    refine x_imul dX12_findRows_32 ?_
    refine x_iload_n dX12_findRows_33 rfl ?_
    refine x_iast (2 * i) m17 (by rw [show (2 : Int32) = nI 2 from rfl, ts_mul]) (by omega) (by decide) dX12_findRows_34 ?_
    have hm3 := hm2.int (i := 16) (f := va_up (va_up A 16 f 16) (2 * i) (nI ((pnN V (i + 1)).1 3))) rfl
    refine x_aload_n dX12_findRows_35 rfl ?_
    refine x_get fX12_63 hm3.1 rfl dX12_findRows_36 ?_
    refine x_iconst (v := 2) dX12_findRows_39 (by decide) ?_
    refine x_iload_n dX12_findRows_40 rfl ?_
    refine x_imul dX12_findRows_41 ?_
    refine x_iconst (v := 1) dX12_findRows_42 (by decide) ?_
    refine x_iadd dX12_findRows_43 ?_
    refine x_aload_n dX12_findRows_44 rfl ?_
    refine x_iload_n dX12_findRows_45 rfl ?_
    refine x_iconst (v := 0) dX12_findRows_46 (by decide) ?_
    refine x_rdV (c_X12_reachBy (c := 0) hm3 (show rpV V _ from hv) t2 (by decide)) hm3.1 lkX12_reachBy sX12_292 dX12_findRows_47 rfl rfl (Nat.le_of_ble_eq_true rfl) (by decide) ⟨rfl, rfl, by decide, by decide⟩ ?_
    refine x_rdS (c_X12_ones (rea_lt hv.1 _ (by decide) 7)) lkX12_ones sX12_270 dX12_findRows_50 rfl rfl (Nat.le_of_ble_eq_true rfl) (by decide) ⟨rfl, rfl, by decide, by decide⟩ ?_
    rw [show nI (bc8 (rea V ((pnN V (i + 1)).1 3) 0 7)) = nrC V (i + 1) by rw [nrC, rea_cc (ok1.2.1 0 (by decide) (by decide)) ok1.2.2.1]]
    refine x_iast (2 * i + 1) hset_s (by rw [show (2 : Int32) = nI 2 from rfl, ts_mul]; exact nI_1 _) (by omega) (by decide) dX12_findRows_53 ?_
    refine x_inc_3  dX12_findRows_54 (by decide) (nI_inc _) rfl ?_
    refine x_goto 15 dX12_findRows_57 (by decide) ?_
    have hm4 := hm3.int (i := 16) (f := va_up (va_up (va_up A 16 f) 16 (va_up (va_up A 16 f 16) (2 * i) (nrP V (i + 1))) 16) (2 * i + 1) (nrC V (i + 1))) rfl
    have eA : va_up (va_up (va_up A 16 f) 16 (va_up (va_up A 16 f 16) (2 * i) (nrP V (i + 1)))) 16 (va_up (va_up (va_up A 16 f) 16 (va_up (va_up A 16 f 16) (2 * i) (nrP V (i + 1))) 16) (2 * i + 1) (nrC V (i + 1))) = va_up A 16 (va_up (va_up f (2 * i) (nrP V (i + 1))) (2 * i + 1) (nrC V (i + 1))) := by rw [va_2, va_2, va_up_self, va_up_self]
    exact ih _ _ (eA ▸ hm4) (frI_s hf) (((F.tr F2).tr (Fr.set (by omega) (by omega))).tr (Fr.set (by omega) (by omega)))
  · refine x_iload_n dX12_findRows_15 rfl ?_
    refine x_iload_n dX12_findRows_16 rfl ?_
    refine x_icmp_ge_t 60 dX12_findRows_17 (by decide) (ge_t (N := n1) rfl (by omega)) ?_
    refine x_vret rfl dX12_findRows_60 ⟨by decide, by decide⟩ ?_
    exact ⟨rfl, f, _, hm1, hf, F⟩
set_option maxRecDepth 10000 in
set_option maxHeartbeats 2000000 in
theorem c_X12_findRows {g : gG} {h : gH} {m : Nat} {V : VS} {s : Nat → Int32} {l : Nat → Int64} {A : Nat → Nat → Int32} {B : Nat → Nat → Int64} (hm : MM h m V s l A B) (hv : rpV V A) {n1 : Nat} (h12 : n1 ≤ 12) : Ct g mX12_findRows [.ref m, .int (nI n1)] h none (fun h' => ∃ f z, MM h' m V (va_up s 17 z) l (va_up A 16 f) B ∧ frI V n1 f ∧ Fr m 27 h h') := by
  have mo := hm.1
  refine Cn.of (L := [some (.ref m), some (.int (nI n1)), none, none]) (by decide) (Nat.le_of_ble_eq_true rfl) rfl ?_
  refine x_aload_n dX12_findRows_0 rfl ?_
  refine x_aload_n dX12_findRows_1 rfl ?_
  refine x_get fX12_25 mo rfl dX12_findRows_2 ?_
  refine x_put (fs' := mF m V (va_up s 17 V.2.1) l) fX12_277 mo (Nat.le_of_ble_eq_true rfl) rfl rfl rfl dX12_findRows_5 ?_
  refine x_aload_n dX12_findRows_8 rfl ?_
  refine x_get fX12_103 hset_s rfl dX12_findRows_9 ?_
  refine x_ist_2 dX12_findRows_12 (by decide) rfl ?_
  refine x_iconst (v := 0) dX12_findRows_13 (by decide) ?_
  refine x_ist_3 dX12_findRows_14 (by decide) rfl ?_
  exact fr15 hv h12 0 (Nat.zero_le _) _ (A 16) (by rw [va_id]; exact hm.num) (fun i hi => absurd hi (Nat.not_lt_zero i)) (Fr.set (by omega) (by omega))
set_option maxRecDepth 10000 in
set_option maxHeartbeats 2000000 in
theorem pv24 {g : gG} {h : gH} {m n1 : Nat} {V : VS} {s : Nat → Int32} {l : Nat → Int64} {A : Nat → Nat → Int32} {B : Nat → Nat → Int64} {Q : Option Value → gH → Prop} (h12 : n1 ≤ 12) (hQ : ∀ h1, MM h1 m V s l (va_up A 15 (rf (A 15) (A 16) 0 (2 * n1))) B → Fr m 27 h h1 → Q (some (.int (s 18))) h1) : ∀ i, i ≤ 2 * n1 → ∀ h1, MM h1 m V s l (va_up A 15 (rf (A 15) (A 16) 0 i)) B → Fr m 27 h h1 → Ex g mX12_prove (gZm g mX12_prove Q) 24 [some (.ref m), some (.int (nI n1)), some (.int (nI i))] [] h1 0 0 := by
  refine lp_up (2 * n1) (fun i hi ih h1 hm1 F => ?_) (fun h1 hm1 F => ?_)
  · have m16 : h1.1 (m + 16) = some (.inl (0, 24, .inl (va_up A 15 (rf (A 15) (A 16) 0 i) 15))) := hm1.2 15 (by decide)
    have m17 : h1.1 (m + 17) = some (.inl (0, 24, .inl (A 16))) := hm1.2 16 (by decide)
    have e2 : (2 : Int32) * nI n1 = nI (2 * n1) := by rw [show (2 : Int32) = nI 2 from rfl, ts_mul]
    refine x_iload_n dX12_prove_24 rfl ?_
    refine x_iconst (v := 2) dX12_prove_25 (by decide) ?_
    refine x_iload_n dX12_prove_26 rfl ?_
    refine x_imul dX12_prove_27 ?_
    refine x_icmp_ge_f 49 dX12_prove_28 (by decide) (ge_f (N := 2 * n1) e2 hi (by omega)) ?_
    refine x_aload_n dX12_prove_31 rfl ?_
    refine x_get fX12_60 hm1.1 rfl dX12_prove_32 ?_
    refine x_iload_n dX12_prove_35 rfl ?_
    refine x_aload_n dX12_prove_36 rfl ?_
    refine x_get fX12_63 hm1.1 rfl dX12_prove_37 ?_
    refine x_iload_n dX12_prove_40 rfl ?_
    refine x_iald i m17 rfl (by omega) (by decide) dX12_prove_41 ?_
    rw [show A 16 i = A 16 (0 + i) by rw [Nat.zero_add]]
    refine x_iast i m16 rfl (by omega) (by decide) dX12_prove_42 ?_
    refine x_inc_2  dX12_prove_43 (by decide) (nI_inc _) rfl ?_
    refine x_goto 24 dX12_prove_46 (by decide) ?_
    have hm2 := hm1.int (i := 15) (f := va_up (va_up A 15 (rf (A 15) (A 16) 0 i) 15) i (A 16 (0 + i))) rfl
    have eA : va_up (va_up A 15 (rf (A 15) (A 16) 0 i)) 15 (va_up (va_up A 15 (rf (A 15) (A 16) 0 i) 15) i (A 16 (0 + i))) = va_up A 15 (rf (A 15) (A 16) 0 (i + 1)) := by rw [va_2, va_up_self, rf_s]
    exact ih _ (eA ▸ hm2) (F.tr (Fr.set (by omega) (by omega)))
  · have e2 : (2 : Int32) * nI n1 = nI (2 * n1) := by rw [show (2 : Int32) = nI 2 from rfl, ts_mul]
    refine x_iload_n dX12_prove_24 rfl ?_
    refine x_iconst (v := 2) dX12_prove_25 (by decide) ?_
    refine x_iload_n dX12_prove_26 rfl ?_
    refine x_imul dX12_prove_27 ?_
    refine x_icmp_ge_t 49 dX12_prove_28 (by decide) (ge_t (N := 2 * n1) e2 (by omega)) ?_
    refine x_aload_n dX12_prove_49 rfl ?_
    refine x_get fX12_230 hm1.1 rfl dX12_prove_50 ?_
    refine x_iret rfl dX12_prove_53 ⟨by decide, by decide⟩ ?_
    exact hQ _ hm1 F
set_option maxRecDepth 10000 in
set_option maxHeartbeats 2000000 in
theorem c_X12_prove {g : gG} {h : gH} {m : Nat} {S : AS} (hn : isN h m S) {n : Int32} : Ct g mX12_prove [.ref m, .int n] h (some (.int (oProve S n).1)) (Pn m (oProve S n).2 h) := by
  obtain ⟨hz, s, l, A, B, hm, hv, hr⟩ := id hn
  have mo := hm.1
  have ok8 : S.1.1 0 ≤ 8 := hv.1.1.1
  have ok4 : S.1.1 1 ≤ 4 := hv.1.1.2.1
  have okr : S.1.1 2 ≤ 4 := hv.1.1.2.2
  have t256 : S.1.1 3 < 256 := lt256 hv.1.2.1 hv.1.1.1
  refine Cn.of (L := [some (.ref m), some (.int n), none]) (by decide) (Nat.le_of_ble_eq_true rfl) rfl ?_
  refine x_iload_n dX12_prove_0 rfl ?_
  refine x_iconst (v := 1) dX12_prove_1 (by decide) ?_
  refine x_bipush (v := 12) dX12_prove_2 (by decide) ?_
  refine x_rdS (c_X12_in (v := n) (a := 1) (b := 12)) lkX12_in sX12_93 dX12_prove_4 rfl rfl (Nat.le_of_ble_eq_true rfl) (by decide) ⟨rfl, rfl, by decide, by decide⟩ ?_
  refine x_if_neB 12 dX12_prove_7 (by decide) (fun c7 => ?_) (fun c7 => ?_)
  · obtain ⟨n1, hn1, rfl⟩ := ut_E (b := 12) (ut_p.mpr ⟨by have h1 := (fa_le _ _).mp c7.1; exact (fa_le _ _).mpr (by have e1 : (1 : Int32).toInt = 1 := rfl; have e2 : (0 : Int32).toInt = 0 := rfl; omega), c7.2⟩) (by decide)
    have np : ¬ nI n1 < 1 := Int32.not_lt.mpr c7.1
    refine x_aload_n dX12_prove_12 rfl ?_
    refine x_iload_n dX12_prove_13 rfl ?_
    refine x_cnV (c_X12_findRows hm hv hn1) mo lkX12_findRows sX12_356 dX12_prove_14 rfl rfl (Nat.le_of_ble_eq_true rfl) (by decide) ⟨rfl, rfl, by decide, by decide⟩ ?_
    rintro h2 ⟨f, z, hm1, hf, F2⟩
    refine x_aload_n dX12_prove_17 rfl ?_
    refine x_iload_n dX12_prove_18 rfl ?_
    refine x_put (fs' := mF m S.1 (va_up (va_up s 17 z) 18 (nI n1)) l) fX12_230 hm1.1 (Nat.le_of_ble_eq_true rfl) rfl rfl rfl dX12_prove_19 ?_
    have hm2 := hm1.num (V' := S.1) (s' := va_up (va_up s 17 z) 18 (nI n1)) (l' := l)
    refine x_iconst (v := 0) dX12_prove_22 (by decide) ?_
    refine x_ist_2 dX12_prove_23 (by decide) rfl ?_
    refine pv24 (h := h) (A := va_up A 16 f) hn1 (fun h3 hm3 F3 => ?_) 0 (Nat.zero_le _) _ (by rw [rf_0, va_id]; exact hm2) (F2.tr (Fr.set (by omega) (by omega)))
    refine fnA (S' := rwS S n1 (fun i => nrP S.1 (i + 1)) (fun i => nrC S.1 (i + 1))) (isN.of hz hm3 hv ⟨hr.1, hr.2.1, ⟨hn1, va_up_self _ _ _, fun i hi => ?_⟩, hr.2.2.2⟩ F3) ?_
    · have hi : i < n1 := hi
      show rf (A 15) f 0 (2 * n1) (2 * i) = _ ∧ rf (A 15) f 0 (2 * n1) (2 * i + 1) = _
      unfold rf
      rw [if_pos (by omega), if_pos (by omega), Nat.zero_add, Nat.zero_add]
      exact hf i hi
    · rw [va_up_self, oProve, if_pos ⟨np, c7.2⟩, iN_nI (by omega)]
  · refine x_iconst (v := -1) dX12_prove_10 (by decide) ?_
    refine x_iret rfl dX12_prove_11 ⟨by decide, by decide⟩ ?_
    exact fnA hn.rf (by rw [oProve, if_neg (fun z => c7 ⟨Int32.not_lt.mp z.1, z.2⟩)] <;> rfl)
theorem h24d : ∀ i, i < 24 → nI i / 2 = nI (i / 2) := by decide
set_option maxRecDepth 10000 in
set_option maxHeartbeats 2000000 in
theorem ju10 {g : gG} {h h1 : gH} {m : Nat} {S : AS} {s : Nat → Int32} {l : Nat → Int64} {A : Nat → Nat → Int32} {B : Nat → Nat → Int64} (hm1 : MM h1 m S.1 s l A B) (hR : rpR S.2.2.2.1 s A) (hf : frI S.1 S.2.2.2.1.1 (A 16)) (hN : Pn m S h h1) : ∀ i, i ≤ 2 * S.2.2.2.1.1 → (∀ k, k < i → A 15 k = A 16 k) → Ex g mX12_judge (gZm g mX12_judge (fun o h' => o = some (.int (qJudge S)) ∧ Pn m S h h')) 10 [some (.ref m), some (.int (nI i))] [] h1 0 0 := by
  have r12 := hR.1
  have m16 : h1.1 (m + 16) = some (.inl (0, 24, .inl (A 15))) := hm1.2 15 (by decide)
  have m17 : h1.1 (m + 17) = some (.inl (0, 24, .inl (A 16))) := hm1.2 16 (by decide)
  refine lp_up (2 * S.2.2.2.1.1) (fun i hi ih he => ?_) (fun he => ?_)
  · have e2 : (2 : Int32) * nI S.2.2.2.1.1 = nI (2 * S.2.2.2.1.1) := by rw [show (2 : Int32) = nI 2 from rfl, ts_mul]
    refine x_iload_n dX12_judge_10 rfl ?_
    refine x_iconst (v := 2) dX12_judge_11 (by decide) ?_
    refine x_aload_n dX12_judge_12 rfl ?_
    refine x_get fX12_230 hm1.1 rfl dX12_judge_13 ?_
    rw [hR.2.1]
    refine x_imul dX12_judge_16 ?_
    refine x_icmp_ge_f 47 dX12_judge_17 (by decide) (ge_f (N := 2 * S.2.2.2.1.1) e2 hi (by omega)) ?_
    refine x_aload_n dX12_judge_20 rfl ?_
    refine x_get fX12_60 hm1.1 rfl dX12_judge_21 ?_
    refine x_iload_n dX12_judge_24 rfl ?_
    refine x_iald i m16 rfl (by omega) (by decide) dX12_judge_25 ?_
    refine x_aload_n dX12_judge_26 rfl ?_
    refine x_get fX12_63 hm1.1 rfl dX12_judge_27 ?_
    refine x_iload_n dX12_judge_30 rfl ?_
    refine x_iald i m17 rfl (by omega) (by decide) dX12_judge_31 ?_
    refine x_icmp_eq 41 dX12_judge_32 (by decide) (fun c32 => ?_) (fun c32 => ?_)
    · refine x_inc_1  dX12_judge_41 (by decide) (nI_inc _) rfl ?_
      refine x_goto 10 dX12_judge_44 (by decide) ?_
      exact ih (fun k hk => by
        rcases Nat.lt_or_ge k i with z | z
        · exact he k z
        · rw [show k = i by omega]; exact c32)
    · refine x_iload_n dX12_judge_35 rfl ?_
      refine x_iconst (v := 2) dX12_judge_36 (by decide) ?_
      refine x_idiv dX12_judge_37 (by decide) ?_
      refine x_iconst (v := 1) dX12_judge_38 (by decide) ?_
      refine x_iadd dX12_judge_39 ?_
      refine x_iret rfl dX12_judge_40 ⟨by decide, by decide⟩ ?_
      have hi2 : i / 2 < S.2.2.2.1.1 := by omega
      have key : ∀ q, q < S.2.2.2.1.1 → (S.2.2.2.1.2.1 q = A 15 (2 * q) ∧ S.2.2.2.1.2.2 q = A 15 (2 * q + 1)) ∧ (nrP S.1 (q + 1) = A 16 (2 * q) ∧ nrC S.1 (q + 1) = A 16 (2 * q + 1)) := fun q hq => ⟨⟨(hR.2.2 q hq).1.symm, (hR.2.2 q hq).2.symm⟩, ⟨(hf q hq).1.symm, (hf q hq).2.symm⟩⟩
      have J : jgF S = i / 2 := first_is hi2 (decide_eq_true (fun z => by
          have k := key _ hi2
          rw [k.1.1, k.1.2, k.2.1, k.2.2] at z
          rcases (show i = 2 * (i / 2) ∨ i = 2 * (i / 2) + 1 by omega) with e | e
          · rw [← e] at z; exact c32 z.1
          · rw [← e] at z; exact c32 z.2)) (fun q hq => decide_eq_false (fun z => z (by
          have k := key q (by omega)
          rw [k.1.1, k.1.2, k.2.1, k.2.2]
          exact ⟨he _ (by omega), he _ (by omega)⟩)))
      have ed : nI i / 2 = nI (i / 2) := h24d i (by omega)
      exact ⟨by rw [qJudge, J, if_pos hi2, ed, nI_1], hN⟩
  · have e2 : (2 : Int32) * nI S.2.2.2.1.1 = nI (2 * S.2.2.2.1.1) := by rw [show (2 : Int32) = nI 2 from rfl, ts_mul]
    refine x_iload_n dX12_judge_10 rfl ?_
    refine x_iconst (v := 2) dX12_judge_11 (by decide) ?_
    refine x_aload_n dX12_judge_12 rfl ?_
    refine x_get fX12_230 hm1.1 rfl dX12_judge_13 ?_
    rw [hR.2.1]
    refine x_imul dX12_judge_16 ?_
    refine x_icmp_ge_t 47 dX12_judge_17 (by decide) (ge_t (N := 2 * S.2.2.2.1.1) e2 (by omega)) ?_
    refine x_iconst (v := 0) dX12_judge_47 (by decide) ?_
    refine x_iret rfl dX12_judge_48 ⟨by decide, by decide⟩ ?_
    have J : jgF S = S.2.2.2.1.1 := first_no (fun q hq => decide_eq_false (fun z => z (by
        rw [← (hR.2.2 q hq).1, ← (hR.2.2 q hq).2, ← (hf q hq).1, ← (hf q hq).2]
        exact ⟨he _ (by omega), he _ (by omega)⟩)))
    exact ⟨by rw [qJudge, J, if_neg (Nat.lt_irrefl _)] <;> rfl, hN⟩
set_option maxRecDepth 10000 in
set_option maxHeartbeats 2000000 in
theorem c_X12_judge {g : gG} {h : gH} {m : Nat} {S : AS} (hn : isN h m S) : Ct g mX12_judge [.ref m] h (some (.int (qJudge S))) (Pn m S h) := by
  obtain ⟨hz, s, l, A, B, hm, hv, hr⟩ := id hn
  have mo := hm.1
  have ok8 : S.1.1 0 ≤ 8 := hv.1.1.1
  have ok4 : S.1.1 1 ≤ 4 := hv.1.1.2.1
  have okr : S.1.1 2 ≤ 4 := hv.1.1.2.2
  have t256 : S.1.1 3 < 256 := lt256 hv.1.2.1 hv.1.1.1
  have hR := hr.2.2.1
  refine Cn.of (L := [some (.ref m), none]) (by decide) (Nat.le_of_ble_eq_true rfl) rfl ?_
  refine x_aload_n dX12_judge_0 rfl ?_
  refine x_aload_n dX12_judge_1 rfl ?_
  refine x_get fX12_230 mo rfl dX12_judge_2 ?_
  rw [hR.2.1]
  refine x_cnV (c_X12_findRows hm hv hR.1) mo lkX12_findRows sX12_356 dX12_judge_5 rfl rfl (Nat.le_of_ble_eq_true rfl) (by decide) ⟨rfl, rfl, by decide, by decide⟩ ?_
  rintro h1 ⟨f, z, hm1, hf, F1⟩
  refine x_iconst (v := 0) dX12_judge_8 (by decide) ?_
  refine x_ist_1 dX12_judge_9 (by decide) rfl ?_
  exact ju10 (h := h) hm1 hR (by rw [va_up_self]; exact hf) (isN.of hz hm1 hv hr F1) 0 (Nat.zero_le _) (fun k hk => absurd hk (Nat.not_lt_zero k))
