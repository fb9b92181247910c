theorem l63 {n : Nat} (h : n < 2 ^ 63) : (lN n).toInt = (n : Int) := by rw [lN_ti (by omega), if_pos h]
theorem l63_lt {a b : Nat} (ha : a < 2 ^ 63) (hb : b < 2 ^ 63) : lN a < lN b ↔ a < b := by rw [fa_lt64, l63 ha, l63 hb]; omega
theorem l63_eq {a b : Nat} (ha : a < 2 ^ 63) (hb : b < 2 ^ 63) : lN a = lN b ↔ a = b := ⟨fun h => by have := congrArg Int64.toInt h; rw [l63 ha, l63 hb] at this; omega, fun h => by rw [h]⟩
theorem p3 (n : Nat) : 2 ^ (3 * n) = 8 ^ n := by rw [Nat.pow_mul]
def ofc (V : VS) (t on p : Nat) : Nat := if on.testBit p = true then 8 else if t.testBit p = true then stays V p else comes V p
theorem ofc_le {V : VS} (hv : okV V) {t on p : Nat} (hp : p < V.1 0) : ofc V t on p ≤ 8 := by
  unfold ofc
  split
  · exact Nat.le_refl _
  · split
    · exact stays_le hv hp
    · exact comes_le hv hp
theorem ofc_chv {V : VS} (p : Nat) : ofc V (V.1 3) (heldS V (V.1 1)) p = chv V p := by
  unfold ofc chv chn
  by_cases z : onS V p (V.1 1) = 0
  · rw [if_neg (fun y => (hs_bit _).mp y z), if_neg (show ¬ (onS V p (V.1 1) ≠ 0) from fun y => y z)]
  · rw [if_pos ((hs_bit _).mpr z), if_pos z]
theorem cwt_cg {c d : Nat → Nat} {s : Nat} : ∀ n, (∀ p, p < n → c p = d p) → cwt c s n = cwt d s n
  | 0, _ => rfl
  | n + 1, h => by rw [cwt, cwt, cwt_cg n (fun p hp => h p (by omega)), h n (by omega)]
theorem od_cg {V : VS} {c d : Nat → Nat} {a b n : Nat} (h : ∀ p, p < V.1 0 → c p = d p) : od V c a b n = od V d a b n := fb_sm_cong (fun k _ => by rw [cwt_cg _ h])
def OO (m : Nat) (V : VS) (s : Nat → Int32) (l : Nat → Int64) (A : Nat → Nat → Int32) (B : Nat → Nat → Int64) (h : gH) : Prop := ∃ A', MM h m V s l A' B ∧ ∀ i, i ≠ 11 → A' i = A i
theorem OO.rf {m : Nat} {V : VS} {s : Nat → Int32} {l : Nat → Int64} {A : Nat → Nat → Int32} {B : Nat → Nat → Int64} {h : gH} (hm : MM h m V s l A B) : OO m V s l A B h := ⟨A, hm, fun _ _ => rfl⟩
theorem OO.v {V : VS} {A A' : Nat → Nat → Int32} (hv : rpV V A) (h : ∀ i, i ≠ 11 → A' i = A i) : rpV V A' := hv.cg (fun i hi j hj => by rw [h i (by omega)])
set_option maxRecDepth 10000 in
set_option maxHeartbeats 2000000 in
theorem c_X12_allOdds {g : gG} {h : gH} {m : Nat} {V : VS} {s : Nat → Int32} {l : Nat → Int64} {A : Nat → Nat → Int32} {B : Nat → Nat → Int64} (hm : MM h m V s l A B) (hv : rpV V A) : Rd g mX12_allOdds [.ref m] h (.long (lN (8 ^ V.1 0))) := by
  have mo := hm.1
  have ok8 : V.1 0 ≤ 8 := hv.1.1.1
  have ok4 : V.1 1 ≤ 4 := hv.1.1.2.1
  have okr : V.1 2 ≤ 4 := hv.1.1.2.2
  have t256 : V.1 3 < 256 := lt256 hv.1.2.1 hv.1.1.1
  refine Cn.of (L := [some (.ref m)]) (by decide) (Nat.le_of_ble_eq_true rfl) rfl ?_
  refine x_lconst (v := 1) dX12_allOdds_0 (by decide) ?_
  refine x_iconst (v := 3) dX12_allOdds_1 (by decide) ?_
  refine x_aload_n dX12_allOdds_2 rfl ?_
  refine x_get fX12_97 mo rfl dX12_allOdds_3 ?_
  refine x_imul dX12_allOdds_6 ?_
  rw [show (3 : Int32) * nI (V.1 0) = nI (3 * V.1 0) by rw [show (3 : Int32) = nI 3 from rfl, ts_mul]]
  refine x_lshl dX12_allOdds_7 ?_
  refine x_lret rfl dX12_allOdds_8 ⟨by decide, by decide⟩ ?_
  exact ⟨by rw [show (1 : Int64) = lN 1 from rfl, wb_shl 1 (by omega), Nat.one_mul, p3], rfl⟩
set_option maxRecDepth 10000 in
set_option maxHeartbeats 2000000 in
theorem fo2 {g : gG} {h : gH} {m : Nat} {V : VS} {s : Nat → Int32} {l : Nat → Int64} {A : Nat → Nat → Int32} {B : Nat → Nat → Int64} (hv : rpV V A) {t on : Nat} (ht : t < 256) (hon : on < 256) : ∀ i, i ≤ V.1 0 → ∀ h1 f, MM h1 m V s l (va_up A 11 f) B → (∀ p, p < i → f p = nI (ofc V t on p)) → Fr m 27 h h1 → Ex g mX12_findOften (gZm g mX12_findOften (fun o h' => o = none ∧ ∃ f, MM h' m V s l (va_up A 11 f) B ∧ (∀ p, p < V.1 0 → f p = nI (ofc V t on p)) ∧ Fr m 27 h h')) 2 [some (.ref m), some (.int (nI t)), some (.int (nI on)), some (.int (nI i))] [] h1 0 0 := by
  have ok8 : V.1 0 ≤ 8 := hv.1.1.1
  have ok4 : V.1 1 ≤ 4 := hv.1.1.2.1
  have okr : V.1 2 ≤ 4 := hv.1.1.2.2
  have t256 : V.1 3 < 256 := lt256 hv.1.2.1 hv.1.1.1
  refine lp_up (V.1 0) (fun i hi ih h1 f hm1 hf F => ?_) (fun h1 f hm1 hf F => ?_)
  · have m12 : h1.1 (m + 12) = some (.inl (0, 8, .inl (va_up A 11 f 11))) := hm1.2 11 (by decide)
    refine x_iload_n dX12_findOften_2 rfl ?_
    refine x_aload_n dX12_findOften_3 rfl ?_
    refine x_get fX12_97 hm1.1 rfl dX12_findOften_4 ?_
    refine x_icmp_ge_f 58 dX12_findOften_7 (by decide) (ge_f (N := V.1 0) rfl hi (by omega)) ?_
    refine x_aload_n dX12_findOften_10 rfl ?_
    refine x_get fX12_47 hm1.1 rfl dX12_findOften_11 ?_
    refine x_iload_n dX12_findOften_14 rfl ?_
    refine x_iload_n dX12_findOften_15 rfl ?_
    refine x_iload_n dX12_findOften_16 rfl ?_
    refine x_ishr dX12_findOften_17 ?_
    refine x_iconst (v := 1) dX12_findOften_18 (by decide) ?_
    refine x_iand dX12_findOften_19 ?_
    rw [sr_bit on hon i (by omega)]
    refine x_iconst (v := 1) dX12_findOften_20 (by decide) ?_
    refine x_icmp_ne 29 dX12_findOften_21 (by decide) (fun c21 => ?_) (fun c21 => ?_)
    · refine x_iload_n dX12_findOften_29 rfl ?_
      refine x_iload_n dX12_findOften_30 rfl ?_
      refine x_ishr dX12_findOften_31 ?_
      refine x_iconst (v := 1) dX12_findOften_32 (by decide) ?_
      refine x_iand dX12_findOften_33 ?_
      rw [sr_bit t ht i (by omega)]
      refine x_iconst (v := 1) dX12_findOften_34 (by decide) ?_
      refine x_icmp_ne 46 dX12_findOften_35 (by decide) (fun c35 => ?_) (fun c35 => ?_)
      · refine x_aload_n dX12_findOften_46 rfl ?_
        refine x_iload_n dX12_findOften_47 rfl ?_
        refine x_rdV (c_X12_comesOf hm1 (show rpV V (va_up A 11 f) from hv) hi) hm1.1 lkX12_comesOf sX12_252 dX12_findOften_48 rfl rfl (Nat.le_of_ble_eq_true rfl) (by decide) ⟨rfl, rfl, by decide, by decide⟩ ?_
        rw [show (nI (comes V i) : Int32) = nI (ofc V t on i) by rw [ofc, if_neg (fun z => c21 (b2i_t z)), if_neg (fun z => c35 (b2i_t z))] <;> rfl]
        refine x_iast i m12 rfl (by omega) (by decide) dX12_findOften_51 ?_
        refine x_inc_3  dX12_findOften_52 (by decide) (nI_inc _) rfl ?_
        refine x_goto 2 dX12_findOften_55 (by decide) ?_
        have hm2 := hm1.int (i := 11) (f := va_up (va_up A 11 f 11) i (nI (ofc V t on i))) rfl
        have eA : va_up (va_up A 11 f) 11 (va_up (va_up A 11 f 11) i (nI (ofc V t on i))) = va_up A 11 (va_up f i (nI (ofc V t on i))) := by rw [va_2, va_up_self]
        exact ih _ _ (eA ▸ hm2) (fun p hp => by
          by_cases e : p = i
          · subst e; rw [va_up_self]
          · rw [va_up_ne _ _ e]; exact hf p (by omega)) (F.tr (Fr.set (by omega) (by omega)))
      · refine x_aload_n dX12_findOften_38 rfl ?_
        refine x_iload_n dX12_findOften_39 rfl ?_
        refine x_rdV (c_X12_staysOf hm1 (show rpV V (va_up A 11 f) from hv) hi) hm1.1 lkX12_staysOf sX12_249 dX12_findOften_40 rfl rfl (Nat.le_of_ble_eq_true rfl) (by decide) ⟨rfl, rfl, by decide, by decide⟩ ?_
        refine x_goto 51 dX12_findOften_43 (by decide) ?_
        rw [show (nI (stays V i) : Int32) = nI (ofc V t on i) by rw [ofc, if_neg (fun z => c21 (b2i_t z)), if_pos (b2i_1.mp c35)] <;> rfl]
        refine x_iast i m12 rfl (by omega) (by decide) dX12_findOften_51 ?_
        refine x_inc_3  dX12_findOften_52 (by decide) (nI_inc _) rfl ?_
        refine x_goto 2 dX12_findOften_55 (by decide) ?_
        have hm2 := hm1.int (i := 11) (f := va_up (va_up A 11 f 11) i (nI (ofc V t on i))) rfl
        have eA : va_up (va_up A 11 f) 11 (va_up (va_up A 11 f 11) i (nI (ofc V t on i))) = va_up A 11 (va_up f i (nI (ofc V t on i))) := by rw [va_2, va_up_self]
        exact ih _ _ (eA ▸ hm2) (fun p hp => by
          by_cases e : p = i
          · subst e; rw [va_up_self]
          · rw [va_up_ne _ _ e]; exact hf p (by omega)) (F.tr (Fr.set (by omega) (by omega)))
    · refine x_bipush (v := 8) dX12_findOften_24 (by decide) ?_
      refine x_goto 51 dX12_findOften_26 (by decide) ?_
      rw [show (8 : Int32) = nI (ofc V t on i) by rw [ofc, if_pos (b2i_1.mp c21)] <;> rfl]
      refine x_iast i m12 rfl (by omega) (by decide) dX12_findOften_51 ?_
      refine x_inc_3  dX12_findOften_52 (by decide) (nI_inc _) rfl ?_
      refine x_goto 2 dX12_findOften_55 (by decide) ?_
      have hm2 := hm1.int (i := 11) (f := va_up (va_up A 11 f 11) i (nI (ofc V t on i))) rfl
      have eA : va_up (va_up A 11 f) 11 (va_up (va_up A 11 f 11) i (nI (ofc V t on i))) = va_up A 11 (va_up f i (nI (ofc V t on i))) := by rw [va_2, va_up_self]
      exact ih _ _ (eA ▸ hm2) (fun p hp => by
        by_cases e : p = i
        · subst e; rw [va_up_self]
        · rw [va_up_ne _ _ e]; exact hf p (by omega)) (F.tr (Fr.set (by omega) (by omega)))
  · refine x_iload_n dX12_findOften_2 rfl ?_
    refine x_aload_n dX12_findOften_3 rfl ?_
    refine x_get fX12_97 hm1.1 rfl dX12_findOften_4 ?_
    refine x_icmp_ge_t 58 dX12_findOften_7 (by decide) (ge_t (N := V.1 0) rfl (by omega)) ?_
    refine x_vret rfl dX12_findOften_58 ⟨by decide, by decide⟩ ?_
    exact ⟨rfl, f, hm1, hf, F⟩
set_option maxRecDepth 10000 in
set_option maxHeartbeats 2000000 in
theorem c_X12_findOften {g : gG} {h : gH} {m : Nat} {V : VS} {s : Nat → Int32} {l : Nat → Int64} {A : Nat → Nat → Int32} {B : Nat → Nat → Int64} (hm : MM h m V s l A B) (hv : rpV V A) {t on : Nat} (ht : t < 256) (hon : on < 256) : Ct g mX12_findOften [.ref m, .int (nI t), .int (nI on)] h none (fun h' => ∃ f, MM h' m V s l (va_up A 11 f) B ∧ (∀ p, p < V.1 0 → f p = nI (ofc V t on p)) ∧ Fr m 27 h h') := by
  refine Cn.of (L := [some (.ref m), some (.int (nI t)), some (.int (nI on)), none]) (by decide) (Nat.le_of_ble_eq_true rfl) rfl ?_
  refine x_iconst (v := 0) dX12_findOften_0 (by decide) ?_
  refine x_ist_3 dX12_findOften_1 (by decide) rfl ?_
  exact fo2 hv ht hon 0 (Nat.zero_le _) h (A 11) (by rw [va_id]; exact hm) (fun p hp => absurd hp (Nat.not_lt_zero p)) Fr.rf
set_option maxRecDepth 10000 in
set_option maxHeartbeats 2000000 in
theorem of5 {g : gG} {h : gH} {m : Nat} {V : VS} {s : Nat → Int32} {l : Nat → Int64} {A : Nat → Nat → Int32} {B : Nat → Nat → Int64} (hm : MM h m V s l A B) (hv : rpV V A) {c : Nat → Nat} (hc : ∀ p, p < V.1 0 → A 11 p = nI (c p) ∧ c p ≤ 8) {t : Nat} (ht : t < 256) : ∀ i, i ≤ V.1 0 → Ex g mX12_oftenOf (gZm g mX12_oftenOf (fun o h' => o = some (.long (lN (cwt c t (V.1 0)))) ∧ h' = h)) 5 [some (.ref m), some (.int (nI t)), some (.long (lN (cwt c t i))), none, some (.int (nI i))] [] h 0 0 := by
  have mo := hm.1
  have m12 : h.1 (m + 12) = some (.inl (0, 8, .inl (A 11))) := hm.2 11 (by decide)
  have ok8 : V.1 0 ≤ 8 := hv.1.1.1
  have ok4 : V.1 1 ≤ 4 := hv.1.1.2.1
  have okr : V.1 2 ≤ 4 := hv.1.1.2.2
  have t256 : V.1 3 < 256 := lt256 hv.1.2.1 hv.1.1.1
  refine lp_up (V.1 0) (fun i hi ih => ?_) ?_
  · refine x_iload dX12_oftenOf_5 rfl ?_
    refine x_aload_n dX12_oftenOf_7 rfl ?_
    refine x_get fX12_97 mo rfl dX12_oftenOf_8 ?_
    refine x_icmp_ge_f 55 dX12_oftenOf_11 (by decide) (ge_f (N := V.1 0) rfl hi (by omega)) ?_
    refine x_lload_n dX12_oftenOf_14 rfl ?_
    refine x_iload_n dX12_oftenOf_15 rfl ?_
    refine x_iload dX12_oftenOf_16 rfl ?_
    refine x_ishr dX12_oftenOf_18 ?_
    refine x_iconst (v := 1) dX12_oftenOf_19 (by decide) ?_
    refine x_iand dX12_oftenOf_20 ?_
    rw [sr_bit t ht i (by omega)]
    refine x_iconst (v := 1) dX12_oftenOf_21 (by decide) ?_
    refine x_icmp_ne 36 dX12_oftenOf_22 (by decide) (fun c22 => ?_) (fun c22 => ?_)
    · refine x_bipush (v := 8) dX12_oftenOf_36 (by decide) ?_
      refine x_aload_n dX12_oftenOf_38 rfl ?_
      refine x_get fX12_47 mo rfl dX12_oftenOf_39 ?_
      refine x_iload dX12_oftenOf_42 rfl ?_
      refine x_iald i m12 rfl (by omega) (by decide) dX12_oftenOf_44 ?_
      rw [(hc i hi).1]
      refine x_isub dX12_oftenOf_45 ?_
      rw [sub8 (hc i hi).2]
      refine x_i2l dX12_oftenOf_46 ?_
      refine x_lmul dX12_oftenOf_47 ?_
      refine x_lst_2 dX12_oftenOf_48 (by decide) rfl ?_
      refine x_inc_4  dX12_oftenOf_49 (by decide) (nI_inc _) rfl ?_
      refine x_goto 5 dX12_oftenOf_52 (by decide) ?_
      have E : lN (cwt c t (i + 1)) = lN (cwt c t i) * (nI (8 - c i)).toInt64 := by rw [cwt, if_neg (fun z => c22 (b2i_t z)), mulL (by have := (hc i hi).2; omega)]
      rw [E] at ih
      exact ih
    · refine x_aload_n dX12_oftenOf_25 rfl ?_
      refine x_get fX12_47 mo rfl dX12_oftenOf_26 ?_
      refine x_iload dX12_oftenOf_29 rfl ?_
      refine x_iald i m12 rfl (by omega) (by decide) dX12_oftenOf_31 ?_
      rw [(hc i hi).1]
      refine x_i2l dX12_oftenOf_32 ?_
      refine x_goto 47 dX12_oftenOf_33 (by decide) ?_
      refine x_lmul dX12_oftenOf_47 ?_
      refine x_lst_2 dX12_oftenOf_48 (by decide) rfl ?_
      refine x_inc_4  dX12_oftenOf_49 (by decide) (nI_inc _) rfl ?_
      refine x_goto 5 dX12_oftenOf_52 (by decide) ?_
      have E : lN (cwt c t (i + 1)) = lN (cwt c t i) * (nI (c i)).toInt64 := by rw [cwt, if_pos (b2i_1.mp c22), mulL (by have := (hc i hi).2; omega)]
      rw [E] at ih
      exact ih
  · refine x_iload dX12_oftenOf_5 rfl ?_
    refine x_aload_n dX12_oftenOf_7 rfl ?_
    refine x_get fX12_97 mo rfl dX12_oftenOf_8 ?_
    refine x_icmp_ge_t 55 dX12_oftenOf_11 (by decide) (ge_t (N := V.1 0) rfl (by omega)) ?_
    refine x_lload_n dX12_oftenOf_55 rfl ?_
    refine x_lret rfl dX12_oftenOf_56 ⟨by decide, by decide⟩ ?_
    exact ⟨rfl, rfl⟩
set_option maxRecDepth 10000 in
set_option maxHeartbeats 2000000 in
theorem c_X12_oftenOf {g : gG} {h : gH} {m : Nat} {V : VS} {s : Nat → Int32} {l : Nat → Int64} {A : Nat → Nat → Int32} {B : Nat → Nat → Int64} (hm : MM h m V s l A B) (hv : rpV V A) {c : Nat → Nat} (hc : ∀ p, p < V.1 0 → A 11 p = nI (c p) ∧ c p ≤ 8) {t : Nat} (ht : t < 256) : Rd g mX12_oftenOf [.ref m, .int (nI t)] h (.long (lN (cwt c t (V.1 0)))) := by
  refine Cn.of (L := [some (.ref m), some (.int (nI t)), none, none, none]) (by decide) (Nat.le_of_ble_eq_true rfl) rfl ?_
  refine x_lconst (v := 1) dX12_oftenOf_0 (by decide) ?_
  refine x_lst_2 dX12_oftenOf_1 (by decide) rfl ?_
  refine x_iconst (v := 0) dX12_oftenOf_2 (by decide) ?_
  refine x_ist_4 dX12_oftenOf_3 (by decide) rfl ?_
  exact of5 hm hv hc ht 0 (Nat.zero_le _)
set_option maxRecDepth 10000 in
set_option maxHeartbeats 2000000 in
theorem ob15 {g : gG} {h : gH} {m : Nat} {V : VS} {s : Nat → Int32} {l : Nat → Int64} {A : Nat → Nat → Int32} {B : Nat → Nat → Int64} (hm : MM h m V s l A B) (hv : rpV V A) {c : Nat → Nat} (hc : ∀ p, p < V.1 0 → A 11 p = nI (c p) ∧ c p ≤ 8) {a b : Nat} {w3 : Int32} {Q : Option Value → gH → Prop} (ha : a < 8) (hb : b < 8) (hQ : Q (some (.long (lN (od V c a b (2 ^ V.1 0))))) h) : ∀ i, i ≤ 2 ^ V.1 0 → Ex g mX12_oddsBy (gZm g mX12_oddsBy Q) 15 [some (.ref m), some (.int (nI a)), some (.int (nI b)), some (.int w3), some (.long (lN (od V c a b i))), none, some (.int (nI i))] [] h 0 0 := by
  have mo := hm.1
  have ok8 : V.1 0 ≤ 8 := hv.1.1.1
  have ok4 : V.1 1 ≤ 4 := hv.1.1.2.1
  have okr : V.1 2 ≤ 4 := hv.1.1.2.2
  have t256 : V.1 3 < 256 := lt256 hv.1.2.1 hv.1.1.1
  have n8 : 2 ^ V.1 0 ≤ 256 := Nat.pow_le_pow_right (n := 2) (by decide) (show V.1 0 ≤ 8 by omega)
  refine lp_up (2 ^ V.1 0) (fun i hi ih => ?_) ?_
  · refine x_iload dX12_oddsBy_15 rfl ?_
    refine x_iconst (v := 1) dX12_oddsBy_17 (by decide) ?_
    refine x_aload_n dX12_oddsBy_18 rfl ?_
    refine x_get fX12_97 mo rfl dX12_oddsBy_19 ?_
    refine x_ishl dX12_oddsBy_22 ?_
    refine x_icmp_ge_f 62 dX12_oddsBy_23 (by decide) (ge_f (N := 2 ^ V.1 0) (sh1 _ (by omega)) hi (by omega)) ?_
    refine x_lload dX12_oddsBy_26 rfl ?_
    refine x_aload_n dX12_oddsBy_28 rfl ?_
    refine x_iload dX12_oddsBy_29 rfl ?_
    refine x_iload_n dX12_oddsBy_31 rfl ?_
    refine x_rdV (c_X12_reachBy hm hv (t := i) (by omega) ha) mo lkX12_reachBy sX12_292 dX12_oddsBy_32 rfl rfl (Nat.le_of_ble_eq_true rfl) (by decide) ⟨rfl, rfl, by decide, by decide⟩ ?_
    refine x_iload_n dX12_oddsBy_35 rfl ?_
    refine x_ishr dX12_oddsBy_36 ?_
    refine x_iconst (v := 1) dX12_oddsBy_37 (by decide) ?_
    refine x_iand dX12_oddsBy_38 ?_
    rw [sr_bit _ (rea_lt hv.1 i ha 7) b hb]
    refine x_iconst (v := 1) dX12_oddsBy_39 (by decide) ?_
    refine x_icmp_ne 52 dX12_oddsBy_40 (by decide) (fun c40 => ?_) (fun c40 => ?_)
    · refine x_lconst (v := 0) dX12_oddsBy_52 (by decide) ?_
      refine x_ladd dX12_oddsBy_53 ?_
      refine x_lst_4 dX12_oddsBy_54 (by decide) rfl ?_
      refine x_inc_6  dX12_oddsBy_56 (by decide) (nI_inc _) rfl ?_
      refine x_goto 15 dX12_oddsBy_59 (by decide) ?_
      have E : lN (od V c a b (i + 1)) = lN (od V c a b i) + 0 := by rw [od_s, if_neg (fun z => c40 (b2i_t z)), show (0 : Int64) = lN 0 from rfl, lN_add]
      rw [E] at ih
      exact ih
    · refine x_aload_n dX12_oddsBy_43 rfl ?_
      refine x_iload dX12_oddsBy_44 rfl ?_
      refine x_rdV (c_X12_oftenOf hm hv hc (by omega)) mo lkX12_oftenOf sX12_305 dX12_oddsBy_46 rfl rfl (Nat.le_of_ble_eq_true rfl) (by decide) ⟨rfl, rfl, by decide, by decide⟩ ?_
      refine x_goto 53 dX12_oddsBy_49 (by decide) ?_
      refine x_ladd dX12_oddsBy_53 ?_
      refine x_lst_4 dX12_oddsBy_54 (by decide) rfl ?_
      refine x_inc_6  dX12_oddsBy_56 (by decide) (nI_inc _) rfl ?_
      refine x_goto 15 dX12_oddsBy_59 (by decide) ?_
      have E : lN (od V c a b (i + 1)) = lN (od V c a b i) + lN (cwt c i (V.1 0)) := by rw [od_s, if_pos (b2i_1.mp c40), lN_add]
      rw [E] at ih
      exact ih
  · refine x_iload dX12_oddsBy_15 rfl ?_
    refine x_iconst (v := 1) dX12_oddsBy_17 (by decide) ?_
    refine x_aload_n dX12_oddsBy_18 rfl ?_
    refine x_get fX12_97 mo rfl dX12_oddsBy_19 ?_
    refine x_ishl dX12_oddsBy_22 ?_
    refine x_icmp_ge_t 62 dX12_oddsBy_23 (by decide) (ge_t (N := 2 ^ V.1 0) (sh1 _ (by omega)) (by omega)) ?_
    refine x_lload dX12_oddsBy_62 rfl ?_
    refine x_lret rfl dX12_oddsBy_64 ⟨by decide, by decide⟩ ?_
    exact hQ
set_option maxRecDepth 10000 in
set_option maxHeartbeats 2000000 in
theorem c_X12_oddsBy {g : gG} {h : gH} {m : Nat} {V : VS} {s : Nat → Int32} {l : Nat → Int64} {A : Nat → Nat → Int32} {B : Nat → Nat → Int64} (hO : OO m V s l A B h) (hv : rpV V A) {a b on : Nat} (ha : a < 8) (hb : b < 8) (hon : on < 256) : Ct g mX12_oddsBy [.ref m, .int (nI a), .int (nI b), .int (nI on)] h (some (.long (lN (od V (ofc V (V.1 3) on) a b (2 ^ V.1 0))))) (fun h' => OO m V s l A B h' ∧ Fr m 27 h h') := by
  obtain ⟨A0, hm, e0⟩ := hO
  have hv0 := OO.v hv e0
  have mo := hm.1
  have ok8 : V.1 0 ≤ 8 := hv.1.1.1
  have ok4 : V.1 1 ≤ 4 := hv.1.1.2.1
  have okr : V.1 2 ≤ 4 := hv.1.1.2.2
  have t256 : V.1 3 < 256 := lt256 hv.1.2.1 hv.1.1.1
  refine Cn.of (L := [some (.ref m), some (.int (nI a)), some (.int (nI b)), some (.int (nI on)), none, none, none]) (by decide) (Nat.le_of_ble_eq_true rfl) rfl ?_
  refine x_aload_n dX12_oddsBy_0 rfl ?_
  refine x_aload_n dX12_oddsBy_1 rfl ?_
  refine x_get fX12_103 mo rfl dX12_oddsBy_2 ?_
  refine x_iload_n dX12_oddsBy_5 rfl ?_
  refine x_cnV (c_X12_findOften hm hv0 t256 hon) mo lkX12_findOften sX12_301 dX12_oddsBy_6 rfl rfl (Nat.le_of_ble_eq_true rfl) (by decide) ⟨rfl, rfl, by decide, by decide⟩ ?_
  rintro h1 ⟨f, hm1, hf, F1⟩
  refine x_lconst (v := 0) dX12_oddsBy_9 (by decide) ?_
  refine x_lst_4 dX12_oddsBy_10 (by decide) rfl ?_
  refine x_iconst (v := 0) dX12_oddsBy_12 (by decide) ?_
  refine x_ist_6 dX12_oddsBy_13 (by decide) rfl ?_
  exact ob15 (c := ofc V (V.1 3) on) hm1 (show rpV V (va_up A0 11 f) from hv0) (fun p hp => ⟨by rw [va_up_self]; exact hf p hp, ofc_le hv.1 hp⟩) ha hb ⟨rfl, ⟨_, hm1, fun i hi => (va_up_ne _ _ hi).trans (e0 i hi)⟩, F1⟩ 0 (Nat.zero_le _)
set_option maxRecDepth 10000 in
set_option maxHeartbeats 2000000 in
theorem c_X12_oddsOf {g : gG} {h : gH} {m : Nat} {V : VS} {s : Nat → Int32} {l : Nat → Int64} {A : Nat → Nat → Int32} {B : Nat → Nat → Int64} (hO : OO m V s l A B h) (hv : rpV V A) {a b : Nat} (ha : a < 8) (hb : b < 8) : Ct g mX12_oddsOf [.ref m, .int (nI a), .int (nI b)] h (some (.long (lN (odN V a b)))) (fun h' => OO m V s l A B h' ∧ Fr m 27 h h') := by
  have hO0 := hO
  obtain ⟨A0, hm, e0⟩ := hO
  have hv0 := OO.v hv e0
  have mo := hm.1
  refine Cn.of (L := [some (.ref m), some (.int (nI a)), some (.int (nI b))]) (by decide) (Nat.le_of_ble_eq_true rfl) rfl ?_
  refine x_aload_n dX12_oddsOf_0 rfl ?_
  refine x_iload_n dX12_oddsOf_1 rfl ?_
  refine x_iload_n dX12_oddsOf_2 rfl ?_
  refine x_aload_n dX12_oddsOf_3 rfl ?_
  refine x_rdV (c_X12_heldSet hm hv0) mo lkX12_heldSet sX12_274 dX12_oddsOf_4 rfl rfl (Nat.le_of_ble_eq_true rfl) (by decide) ⟨rfl, rfl, by decide, by decide⟩ ?_
  refine x_cvV (c_X12_oddsBy hO0 hv ha hb (lt256 (heldS_lt V hv.1 _ (Nat.le_refl _)) hv.1.1.1)) mo lkX12_oddsBy sX12_309 dX12_oddsOf_7 rfl rfl (Nat.le_of_ble_eq_true rfl) (by decide) ⟨rfl, rfl, by decide, by decide⟩ ?_
  rintro h1 ⟨O1, F1⟩
  refine x_lret rfl dX12_oddsOf_10 ⟨by decide, by decide⟩ ?_
  exact ⟨by rw [odN, od_cg (fun p _ => ofc_chv p)], O1, F1⟩
theorem OO.o {S : AS} {s : Nat → Int32} {A A' : Nat → Nat → Int32} {B : Nat → Nat → Int64} (hr : rpO S s A B) (e : ∀ i, i ≠ 11 → A' i = A i) : rpO S s A' B := by
  obtain ⟨⟨⟨k1, k2⟩, k3⟩, ⟨t1, t2, t3⟩, ⟨r1, r2, r3⟩, hH, hL, ⟨q1, q2, q3⟩⟩ := hr
  refine ⟨⟨⟨k1, k2⟩, fun z => ?_⟩, ⟨t1, t2, by rw [e 6 (by decide)]; exact t3⟩, ⟨r1, r2, by rw [e 15 (by decide)]; exact r3⟩, fun i hi => ?_, fun i hi => ?_, ⟨q1, q2, by rw [e 23 (by decide)]; exact q3⟩⟩
  · have := k3 z
    simp only [e 24 (by decide)]
    exact this
  · rw [e 17 (by decide), e 18 (by decide)]; exact hH i hi
  · rw [e 20 (by decide), e 21 (by decide), e 22 (by decide)]; exact hL i hi
theorem OO.n {m : Nat} {S : AS} {s : Nat → Int32} {l : Nat → Int64} {A : Nat → Nat → Int32} {B : Nat → Nat → Int64} {h h' : gH} (hO : OO m S.1 s l A B h') (hz : m + 27 ≤ h.2) (hv : rpV S.1 A) (hr : rpO S s A B) (F : Fr m 27 h h') : Pn m S h h' := by
  obtain ⟨A', hm, e⟩ := hO
  exact isN.of hz hm (OO.v hv e) (OO.o hr e) F
