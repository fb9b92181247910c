/-- the odds of a way from a to b, of 8 to the number of paths, by the chances c -/
def od (V : VS) (c : Nat → Nat) (a b n : Nat) : Nat := fb_sm (fun s => if (rea V s a 7).testBit b then cwt c s (V.1 0) else 0) n
theorem od_s (V : VS) (c : Nat → Nat) (a b i : Nat) : od V c a b (i + 1) = od V c a b i + (if (rea V i a 7).testBit b then cwt c i (V.1 0) else 0) := rfl
theorem cwt_le {c : Nat → Nat} {s : Nat} : ∀ n, (∀ p, p < n → c p ≤ 8) → cwt c s n ≤ 8 ^ n
  | 0, _ => Nat.le_refl _
  | n + 1, h => by
    have ih := cwt_le (c := c) (s := s) n (fun p hp => h p (by omega))
    have h1 := h n (by omega)
    rw [cwt, Nat.pow_succ]
    refine Nat.mul_le_mul ih ?_
    split <;> omega
theorem od_le {V : VS} {c : Nat → Nat} {a b : Nat} (hc : ∀ p, p < V.1 0 → c p ≤ 8) (n : Nat) : od V c a b n ≤ n * 8 ^ V.1 0 := by
  refine fb_sm_bound fun s _ => ?_
  split
  · exact cwt_le _ hc
  · exact Nat.zero_le _
theorem pow8 {n : Nat} (h : n ≤ 8) : 8 ^ n ≤ 16777216 := Nat.le_trans (Nat.pow_le_pow_right (by decide) h) (by decide)
theorem pow3 (n : Nat) : 2 ^ (3 * n) = 8 ^ n := by rw [Nat.pow_mul]
theorem od_lt {V : VS} {c : Nat → Nat} {a b : Nat} (hn : V.1 0 ≤ 8) (hc : ∀ p, p < V.1 0 → c p ≤ 8) : od V c a b (2 ^ V.1 0) < 2 ^ 40 := by
  have h1 := od_le (V := V) (c := c) (a := a) (b := b) hc (2 ^ V.1 0)
  have h2 := p256 hn
  have h3 := pow8 hn
  have h4 : 2 ^ V.1 0 * 8 ^ V.1 0 ≤ 256 * 16777216 := Nat.mul_le_mul h2 h3
  omega
theorem lg_lt {x y : Int64} : lg_cmp x y < 0 ↔ x < y := by
  unfold lg_cmp
  by_cases h1 : x > y
  · rw [if_pos h1]
    exact ⟨fun q => absurd q (by decide), fun q => absurd h1 (Int64.lt_asymm q)⟩
  · rw [if_neg h1]
    by_cases h2 : x = y
    · rw [if_pos h2]
      exact ⟨fun q => absurd q (by decide), fun q => absurd h2 (Int64.ne_of_lt q)⟩
    · rw [if_neg h2]
      refine ⟨fun _ => ?_, fun _ => by decide⟩
      rcases Int64.lt_or_eq_of_le (Int64.not_lt.mp h1) with q | q
      · exact q
      · exact absurd q h2
set_option maxRecDepth 10000 in
set_option maxHeartbeats 2000000 in
theorem c_X1_oddsOf {g : gG} {h : gH} {c : Nat} {J K X : Nat → Int64} {wh : Int64} {V : VS} {a b : Nat} (hv : okV V) (hi0 : isC h c J K X (nI (2 ^ V.1 0)) wh) (hJ : okJ V J (2 ^ V.1 0)) (hK : okK (chv V) K (V.1 0)) (ha : a < 8) (hb : b < 8) : Rd g mX1_oddsOf [.ref c, .int (nI a), .int (nI b)] h (.long (lN (od V (chv V) a b (2 ^ V.1 0)))) := by
  have c0 := hi0.1
  have c1 := hi0.2.1
  have c2 := hi0.2.2.1
  have c3 := hi0.2.2.2
  have p8 := p256 hv.1.1
  refine Cn.of (L := [some (.ref c), some (.int (nI a)), some (.int (nI b)), none, none, none]) (by decide) (Nat.le_of_ble_eq_true rfl) rfl ?_
  refine x_lconst (v := 0) dX1_oddsOf_0 (by decide) ?_
  refine x_lst_3 dX1_oddsOf_1 (by decide) rfl ?_
  refine x_iconst (v := 0) dX1_oddsOf_2 (by decide) ?_
  refine x_ist_5 dX1_oddsOf_3 (by decide) rfl ?_
  refine lp_up (P := fun i => Ex g mX1_oddsOf _ 5 [some (.ref c), some (.int (nI a)), some (.int (nI b)), some (.long (lN (od V (chv V) a b i))), none, some (.int (nI i))] [] h 0 0) (2 ^ V.1 0) (fun i hi ih => ?_) ?_ 0 (Nat.zero_le _)
  · have ej := hJ i hi a b ha hb
    have ek := hK i hi
    refine x_iload dX1_oddsOf_5 rfl ?_
    refine x_aload_n dX1_oddsOf_7 rfl ?_
    refine x_get fX1_27 (by assumption) rfl dX1_oddsOf_8 ?_
    refine x_icmp_ge_f 41 dX1_oddsOf_11 (by decide) (ge_f rfl hi (by omega)) ?_
    refine x_aload_n dX1_oddsOf_14 rfl ?_
    refine x_iload dX1_oddsOf_15 rfl ?_
    refine x_iload_n dX1_oddsOf_17 rfl ?_
    refine x_iload_n dX1_oddsOf_18 rfl ?_
    refine x_rdV (c_X1_joins hi0 (by omega) ha hb) (by assumption) lkX1_joins sX1_61 dX1_oddsOf_19 rfl rfl (Nat.le_of_ble_eq_true rfl) (by decide) ⟨rfl, rfl, by decide, by decide⟩ ?_
    refine x_if_eqB 35 dX1_oddsOf_22 (by decide) (fun c22 => ?_) (fun c22 => ?_)
    · refine x_inc_5  dX1_oddsOf_35 (by decide) (nI_inc _) rfl ?_
      refine x_goto 5 dX1_oddsOf_38 (by decide) ?_
      rw [ej] at c22
      rw [od_s, if_neg c22, Nat.add_zero] at ih; exact ih
    · refine x_lload_n dX1_oddsOf_25 rfl ?_
      refine x_aload_n dX1_oddsOf_26 rfl ?_
      refine x_get fX1_15 (by assumption) rfl dX1_oddsOf_27 ?_
      refine x_iload dX1_oddsOf_30 rfl ?_
      refine x_lald _ (by assumption) rfl (by omega) (by decide) dX1_oddsOf_32 ?_
      rw [ek]
      refine x_ladd dX1_oddsOf_33 ?_
      refine x_lst_3 dX1_oddsOf_34 (by decide) rfl ?_
      refine x_inc_5  dX1_oddsOf_35 (by decide) (nI_inc _) rfl ?_
      refine x_goto 5 dX1_oddsOf_38 (by decide) ?_
      rw [ej] at c22
      rw [od_s, if_pos c22] at ih; rw [lN_add]; exact ih
  · refine x_iload dX1_oddsOf_5 rfl ?_
    refine x_aload_n dX1_oddsOf_7 rfl ?_
    refine x_get fX1_27 (by assumption) rfl dX1_oddsOf_8 ?_
    refine x_icmp_ge_t 41 dX1_oddsOf_11 (by decide) (ge_t rfl (by omega)) ?_
    refine x_lload_n dX1_oddsOf_41 rfl ?_
    refine x_lret rfl dX1_oddsOf_42 ⟨by decide, by decide⟩ ?_
    exact ⟨rfl, rfl⟩
set_option maxRecDepth 10000 in
set_option maxHeartbeats 2000000 in
theorem c_X1_oddsReach {g : gG} {h : gH} {c : Nat} {J K X : Nat → Int64} {V : VS} {a b e : Nat} (hv : okV V) (hi0 : isC h c J K X (nI (2 ^ V.1 0)) (lN (2 ^ (3 * V.1 0)))) (hJ : okJ V J (2 ^ V.1 0)) (hK : okK (chv V) K (V.1 0)) (ha : a < 8) (hb : b < 8) (he : e ≤ 8) : Rd g mX1_oddsReach [.ref c, .int (nI a), .int (nI b), .int (nI e)] h (.int (b2i (e * 8 ^ V.1 0 ≤ od V (chv V) a b (2 ^ V.1 0) * 8))) := by
  have c0 := hi0.1
  have c1 := hi0.2.1
  have c2 := hi0.2.2.1
  have c3 := hi0.2.2.2
  have h1 := od_lt (V := V) (c := chv V) (a := a) (b := b) hv.1.1 (fun p hp => chn_le hv hp _)
  have h2 := pow8 hv.1.1
  have h3 : e * 8 ^ V.1 0 ≤ 8 * 16777216 := Nat.mul_le_mul he h2
  have hc : lg_cmp (lN (od V (chv V) a b (2 ^ V.1 0) * 8)) (lN (e * 8 ^ V.1 0)) < 0 ↔ ¬ (e * 8 ^ V.1 0 ≤ od V (chv V) a b (2 ^ V.1 0) * 8) := by
    rw [lg_lt, pk_lLT (by omega) (by omega)]; omega
  refine Cn.of (L := [some (.ref c), some (.int (nI a)), some (.int (nI b)), some (.int (nI e))]) (by decide) (Nat.le_of_ble_eq_true rfl) rfl ?_
  refine x_aload_n dX1_oddsReach_0 rfl ?_
  refine x_iload_n dX1_oddsReach_1 rfl ?_
  refine x_iload_n dX1_oddsReach_2 rfl ?_
  refine x_rdV (c_X1_oddsOf hv hi0 hJ hK ha hb) (by assumption) lkX1_oddsOf sX1_65 dX1_oddsReach_3 rfl rfl (Nat.le_of_ble_eq_true rfl) (by decide) ⟨rfl, rfl, by decide, by decide⟩ ?_
  refine x_ldc2 dX1_oddsReach_6 kX1_69 ?_
  refine x_lmul dX1_oddsReach_9 ?_
  refine sw_topl (show _ = lN (od V (chv V) a b (2 ^ V.1 0) * 8) from lN_mul _ 8) ?_
  refine x_iload_n dX1_oddsReach_10 rfl ?_
  refine x_i2l dX1_oddsReach_11 ?_
  refine x_aload_n dX1_oddsReach_12 rfl ?_
  refine x_get fX1_30 (by assumption) rfl dX1_oddsReach_13 ?_
  refine x_lmul dX1_oddsReach_16 ?_
  refine sw_topl (show _ = lN (e * 8 ^ V.1 0) by rw [nI_l (by omega), lN_mul, pow3]) ?_
  refine x_lcmp dX1_oddsReach_17 ?_
  refine x_if_lt 25 dX1_oddsReach_18 (by decide) (fun c18 => ?_) (fun c18 => ?_)
  · refine x_iconst (v := 0) dX1_oddsReach_25 (by decide) ?_
    refine x_zret rfl dX1_oddsReach_26 ⟨by decide, by decide⟩ rfl ?_
    exact ⟨by rw [b2i_f (hc.mp c18)], rfl⟩
  · refine x_iconst (v := 1) dX1_oddsReach_21 (by decide) ?_
    refine x_goto 26 dX1_oddsReach_22 (by decide) ?_
    refine x_zret rfl dX1_oddsReach_26 ⟨by decide, by decide⟩ rfl ?_
    exact ⟨by rw [b2i_t (Decidable.not_not.mp (fun q => c18 (hc.mpr q)))], rfl⟩
def jv (V : VS) (a b s : Nat) : Nat := if (rea V s a 7).testBit b then 1 else 0
/-- a stretch of the values from f on is x -/
def okX (X : Nat → Int64) (f n : Nat) (x : Nat → Nat) : Prop := ∀ s, s < n → X (f + s) = lN (x s)
def exX (f n : Nat) (X X' : Nat → Int64) : Prop := ∀ j, (j < f ∨ f + n ≤ j) → X' j = X j
set_option maxRecDepth 10000 in
set_option maxHeartbeats 2000000 in
theorem c_X1_valueWhereJoined {g : gG} {h : gH} {c : Nat} {J K X : Nat → Int64} {wh : Int64} {V : VS} {f a b : Nat} (hv : okV V) (hi0 : isC h c J K X (nI (2 ^ V.1 0)) wh) (hJ : okJ V J (2 ^ V.1 0)) (hf : f + 2 ^ V.1 0 ≤ 2048) (ha : a < 8) (hb : b < 8) : Ct g mX1_valueWhereJoined [.ref c, .int (nI f), .int (nI a), .int (nI b)] h none (fun h' => ∃ X', isC h' c J K X' (nI (2 ^ V.1 0)) wh ∧ okX X' f (2 ^ V.1 0) (jv V a b) ∧ exX f (2 ^ V.1 0) X X' ∧ Fr c 4 h h') := by
  have c0 := hi0.1
  have c1 := hi0.2.1
  have c2 := hi0.2.2.1
  have c3 := hi0.2.2.2
  have p8 := p256 hv.1.1
  refine Cn.of (L := [some (.ref c), some (.int (nI f)), some (.int (nI a)), some (.int (nI b)), none]) (by decide) (Nat.le_of_ble_eq_true rfl) rfl ?_
  refine x_iconst (v := 0) dX1_valueWhereJoined_0 (by decide) ?_
  refine x_ist_4 dX1_valueWhereJoined_1 (by decide) rfl ?_
  refine lp_up (P := fun i => ∀ h1 X1, isC h1 c J K X1 (nI (2 ^ V.1 0)) wh → okX X1 f i (jv V a b) → exX f (2 ^ V.1 0) X X1 → Fr c 4 h h1 → Ex g mX1_valueWhereJoined _ 3 [some (.ref c), some (.int (nI f)), some (.int (nI a)), some (.int (nI b)), some (.int (nI i))] [] h1 0 0) (2 ^ V.1 0) (fun i hi ih h1 X1 hi1 hx1 he1 hf1 => ?_) (fun h1 X1 hi1 hx1 he1 hf1 => ?_) 0 (Nat.zero_le _) h X hi0 (fun s q => absurd q (Nat.not_lt_zero s)) (fun _ _ => rfl) Fr.rf
  · have ej := hJ i hi a b ha hb
    have d0 := hi1.1
    refine x_iload dX1_valueWhereJoined_3 rfl ?_
    refine x_aload_n dX1_valueWhereJoined_5 rfl ?_
    refine x_get fX1_27 (by assumption) rfl dX1_valueWhereJoined_6 ?_
    refine x_icmp_ge_f 43 dX1_valueWhereJoined_9 (by decide) (ge_f rfl hi (by omega)) ?_
    refine x_aload_n dX1_valueWhereJoined_12 rfl ?_
    refine x_get fX1_18 (by assumption) rfl dX1_valueWhereJoined_13 ?_
    refine x_iload_n dX1_valueWhereJoined_16 rfl ?_
    refine x_iload dX1_valueWhereJoined_17 rfl ?_
    refine x_iadd dX1_valueWhereJoined_19 ?_
    rw [nI_add]
    refine x_aload_n dX1_valueWhereJoined_20 rfl ?_
    refine x_iload dX1_valueWhereJoined_21 rfl ?_
    refine x_iload_n dX1_valueWhereJoined_23 rfl ?_
    refine x_iload_n dX1_valueWhereJoined_24 rfl ?_
    refine x_rdV (c_X1_joins hi1 (by omega) ha hb) (by assumption) lkX1_joins sX1_61 dX1_valueWhereJoined_25 rfl rfl (Nat.le_of_ble_eq_true rfl) (by decide) ⟨rfl, rfl, by decide, by decide⟩ ?_
    refine x_if_eqB 35 dX1_valueWhereJoined_28 (by decide) (fun c28 => ?_) (fun c28 => ?_)
    · refine x_lconst (v := 0) dX1_valueWhereJoined_35 (by decide) ?_
      refine x_last (f + i) hi1.2.2.2 rfl (by omega) (by decide) dX1_valueWhereJoined_36 ?_
      refine x_inc_4  dX1_valueWhereJoined_37 (by decide) (nI_inc _) rfl ?_
      refine x_goto 3 dX1_valueWhereJoined_40 (by decide) ?_
      rw [ej] at c28
      refine ih _ _ (isC.rX hi1) (fun s hs => ?_) (fun j hj => ?_) (hf1.tr (Fr.set (by omega) (by omega)))
      · by_cases e : s = i
        · subst e; simp only [va_up, if_true]; rw [jv, if_neg c28]; rfl
        · simp only [va_up, if_neg (show ¬ f + s = f + i by omega)]; exact hx1 s (by omega)
      · simp only [va_up, if_neg (show ¬ j = f + i by omega)]; exact he1 j hj
    · refine x_lconst (v := 1) dX1_valueWhereJoined_31 (by decide) ?_
      refine x_goto 36 dX1_valueWhereJoined_32 (by decide) ?_
      refine x_last (f + i) hi1.2.2.2 rfl (by omega) (by decide) dX1_valueWhereJoined_36 ?_
      refine x_inc_4  dX1_valueWhereJoined_37 (by decide) (nI_inc _) rfl ?_
      refine x_goto 3 dX1_valueWhereJoined_40 (by decide) ?_
      rw [ej] at c28
      refine ih _ _ (isC.rX hi1) (fun s hs => ?_) (fun j hj => ?_) (hf1.tr (Fr.set (by omega) (by omega)))
      · by_cases e : s = i
        · subst e; simp only [va_up, if_true]; rw [jv, if_pos c28]; rfl
        · simp only [va_up, if_neg (show ¬ f + s = f + i by omega)]; exact hx1 s (by omega)
      · simp only [va_up, if_neg (show ¬ j = f + i by omega)]; exact he1 j hj
  · have d0 := hi1.1
    refine x_iload dX1_valueWhereJoined_3 rfl ?_
    refine x_aload_n dX1_valueWhereJoined_5 rfl ?_
    refine x_get fX1_27 (by assumption) rfl dX1_valueWhereJoined_6 ?_
    refine x_icmp_ge_t 43 dX1_valueWhereJoined_9 (by decide) (ge_t rfl (by omega)) ?_
    refine x_vret rfl dX1_valueWhereJoined_43 ⟨by decide, by decide⟩ ?_
    exact ⟨rfl, X1, hi1, hx1, he1, hf1⟩
def mx (p g t : Nat) (x : Nat → Nat) (s : Nat) : Nat := (8 - (if s.testBit p then t else g)) * x (clr s p) + (if s.testBit p then t else g) * x (clr s p + 2 ^ p)
theorem or_p : ∀ s, s < 256 → ∀ p, p < 8 → s.testBit p = false → s ||| 2 ^ p = s + 2 ^ p := by decide +kernel
theorem clr_p : ∀ s, s < 256 → ∀ p, p < 8 → s.testBit p = false → clr (s + 2 ^ p) p = s ∧ clr s p = s ∧ (s + 2 ^ p).testBit p = true := by decide +kernel
theorem clr_n : ∀ s, s < 256 → ∀ p, p < 8 → (clr s p).testBit p = false ∧ (s = clr s p ∨ s = clr s p + 2 ^ p) ∧ clr s p ≤ s := by decide +kernel
theorem mulL2 {a b : Nat} (h : a < 2 ^ 31) : (nI a).toInt64 * lN b = lN (a * b) := by rw [nI_l h, lN_mul]
set_option maxRecDepth 10000 in
set_option maxHeartbeats 2000000 in
theorem c_X1_mix {g : gG} {h : gH} {c : Nat} {J K X : Nat → Int64} {wh : Int64} {V : VS} {f p gg tt : Nat} {x : Nat → Nat} (hv : okV V) (hi0 : isC h c J K X (nI (2 ^ V.1 0)) wh) (hf : f + 2 ^ V.1 0 ≤ 2048) (hp : p < V.1 0) (hg : gg ≤ 8) (ht : tt ≤ 8) (hX : okX X f (2 ^ V.1 0) x) : Ct g mX1_mix [.ref c, .int (nI f), .int (nI p), .int (nI gg), .int (nI tt)] h none (fun h' => ∃ X', isC h' c J K X' (nI (2 ^ V.1 0)) wh ∧ okX X' f (2 ^ V.1 0) (mx p gg tt x) ∧ exX f (2 ^ V.1 0) X X' ∧ Fr c 4 h h') := by
  have c0 := hi0.1
  have c1 := hi0.2.1
  have c2 := hi0.2.2.1
  have c3 := hi0.2.2.2
  have p8 := p256 hv.1.1
  have hp8 : p < 8 := by have := hv.1.1; omega
  have h0 : 0 < 2 ^ p := Nat.pos_of_ne_zero (by simp)
  refine Cn.of (L := [some (.ref c), some (.int (nI f)), some (.int (nI p)), some (.int (nI gg)), some (.int (nI tt)), none, none, none, none, none, none]) (by decide) (Nat.le_of_ble_eq_true rfl) rfl ?_
  refine x_iconst (v := 1) dX1_mix_0 (by decide) ?_
  refine x_iload_n dX1_mix_1 rfl ?_
  refine x_ishl dX1_mix_2 ?_
  refine sw_top (sh1 _ (by omega)) ?_
  refine x_ist_5 dX1_mix_3 (by decide) rfl ?_
  refine x_iconst (v := 0) dX1_mix_5 (by decide) ?_
  refine x_ist_6 dX1_mix_6 (by decide) rfl ?_
  refine lp_up (P := fun i => ∀ h1 X1 u v, isC h1 c J K X1 (nI (2 ^ V.1 0)) wh → (∀ r, r < 2 ^ V.1 0 → X1 (f + r) = lN (if clr r p < i then mx p gg tt x r else x r)) → exX f (2 ^ V.1 0) X X1 → Fr c 4 h h1 → Ex g mX1_mix _ 8 [some (.ref c), some (.int (nI f)), some (.int (nI p)), some (.int (nI gg)), some (.int (nI tt)), some (.int (nI (2 ^ p))), some (.int (nI i)), u, none, v, none] [] h1 0 0) (2 ^ V.1 0) (fun i hi ih h1 X1 u v hi1 hx1 he1 hf1 => ?_) (fun h1 X1 u v hi1 hx1 he1 hf1 => ?_) 0 (Nat.zero_le _) h X none none hi0 (fun r hr => by rw [if_neg (Nat.not_lt_zero _)]; exact hX r hr) (fun _ _ => rfl) Fr.rf
  · have d0 := hi1.1
    have eb := fa_bit (n := i) (j := p) (by omega)
    refine x_iload dX1_mix_8 rfl ?_
    refine x_aload_n dX1_mix_10 rfl ?_
    refine x_get fX1_27 (by assumption) rfl dX1_mix_11 ?_
    refine x_icmp_ge_f 107 dX1_mix_14 (by decide) (ge_f rfl hi (by omega)) ?_
    refine x_iload dX1_mix_17 rfl ?_
    refine x_iload dX1_mix_19 rfl ?_
    refine x_iand dX1_mix_21 ?_
    refine x_if_ne 101 dX1_mix_22 (by decide) (fun c22 => ?_) (fun c22 => ?_)
    · refine x_inc_6  dX1_mix_101 (by decide) (nI_inc _) rfl ?_
      refine x_goto 8 dX1_mix_104 (by decide) ?_
      refine ih h1 X1 _ _ hi1 (fun r hr => ?_) he1 hf1
      rw [hx1 r hr]
      have cr := clr_n r (by omega) p hp8
      have ne : ¬ clr r p = i := fun q => c22 (eb.mpr (by rw [← q]; exact cr.1))
      by_cases l : clr r p < i
      · rw [if_pos l, if_pos (by omega)]
      · rw [if_neg l, if_neg (by omega)]
    · have cb := eb.mp c22
      have co := or_p i (by omega) p hp8 cb
      have cl : i + 2 ^ p < 2 ^ V.1 0 := by rw [← co]; exact or_bit hi hp
      have cp := clr_p i (by omega) p hp8 cb
      have x1 : X1 (f + i) = lN (x i) := by rw [hx1 i hi, cp.2.1, if_neg (Nat.lt_irrefl i)]
      have x2 : X1 (f + (i + 2 ^ p)) = lN (x (i + 2 ^ p)) := by rw [hx1 _ cl, cp.1, if_neg (Nat.lt_irrefl i)]
      refine x_aload_n dX1_mix_25 rfl ?_
      refine x_get fX1_18 (by assumption) rfl dX1_mix_26 ?_
      refine x_iload_n dX1_mix_29 rfl ?_
      refine x_iload dX1_mix_30 rfl ?_
      refine x_iadd dX1_mix_32 ?_
      rw [nI_add]
      refine x_lald (f + i) hi1.2.2.2 rfl (by omega) (by decide) dX1_mix_33 ?_
      rw [x1]
      refine x_lst_7 dX1_mix_34 (by decide) rfl ?_
      refine x_aload_n dX1_mix_36 rfl ?_
      refine x_get fX1_18 (by assumption) rfl dX1_mix_37 ?_
      refine x_iload_n dX1_mix_40 rfl ?_
      refine x_iload dX1_mix_41 rfl ?_
      refine x_iload dX1_mix_43 rfl ?_
      refine x_ior dX1_mix_45 ?_
      rw [fa_or, co]
      refine x_iadd dX1_mix_46 ?_
      rw [nI_add]
      refine x_lald (f + (i + 2 ^ p)) hi1.2.2.2 rfl (by omega) (by decide) dX1_mix_47 ?_
      rw [x2]
      refine x_lst_9 dX1_mix_48 (by decide) rfl ?_
      refine x_aload_n dX1_mix_50 rfl ?_
      refine x_get fX1_18 (by assumption) rfl dX1_mix_51 ?_
      refine x_iload_n dX1_mix_54 rfl ?_
      refine x_iload dX1_mix_55 rfl ?_
      refine x_iadd dX1_mix_57 ?_
      rw [nI_add]
      refine x_bipush (v := 8) dX1_mix_58 (by decide) ?_
      refine x_iload_n dX1_mix_60 rfl ?_
      refine x_isub dX1_mix_61 ?_
      rw [sub8 hg]
      refine x_i2l dX1_mix_62 ?_
      refine x_lload dX1_mix_63 rfl ?_
      refine x_lmul dX1_mix_65 ?_
      refine x_iload_n dX1_mix_66 rfl ?_
      refine x_i2l dX1_mix_67 ?_
      refine x_lload dX1_mix_68 rfl ?_
      refine x_lmul dX1_mix_70 ?_
      refine x_ladd dX1_mix_71 ?_
      refine sw_topl (show _ = lN ((8 - gg) * x i + gg * x (i + 2 ^ p)) by rw [mulL2 (by omega), mulL2 (by omega), lN_add]) ?_
      refine x_last (f + i) hi1.2.2.2 rfl (by omega) (by decide) dX1_mix_72 ?_
      have q2 := isC.rX (J' := va_up X1 (f + i) (lN ((8 - gg) * x i + gg * x (i + 2 ^ p)))) hi1
      refine x_aload_n dX1_mix_73 rfl ?_
      refine x_get fX1_18 q2.1 rfl dX1_mix_74 ?_
      refine x_iload_n dX1_mix_77 rfl ?_
      refine x_iload dX1_mix_78 rfl ?_
      refine x_iload dX1_mix_80 rfl ?_
      refine x_ior dX1_mix_82 ?_
      rw [fa_or, co]
      refine x_iadd dX1_mix_83 ?_
      rw [nI_add]
      refine x_bipush (v := 8) dX1_mix_84 (by decide) ?_
      refine x_iload dX1_mix_86 rfl ?_
      refine x_isub dX1_mix_88 ?_
      rw [sub8 ht]
      refine x_i2l dX1_mix_89 ?_
      refine x_lload dX1_mix_90 rfl ?_
      refine x_lmul dX1_mix_92 ?_
      refine x_iload dX1_mix_93 rfl ?_
      refine x_i2l dX1_mix_95 ?_
      refine x_lload dX1_mix_96 rfl ?_
      refine x_lmul dX1_mix_98 ?_
      refine x_ladd dX1_mix_99 ?_
      refine sw_topl (show _ = lN ((8 - tt) * x i + tt * x (i + 2 ^ p)) by rw [mulL2 (by omega), mulL2 (by omega), lN_add]) ?_
      refine x_last (f + (i + 2 ^ p)) q2.2.2.2 rfl (by omega) (by decide) dX1_mix_100 ?_
      refine x_inc_6  dX1_mix_101 (by decide) (nI_inc _) rfl ?_
      refine x_goto 8 dX1_mix_104 (by decide) ?_
      refine ih _ _ _ _ (isC.rX q2) (fun r hr => ?_) (fun j hj => ?_) ((hf1.tr (Fr.set (by omega) (by omega))).tr (Fr.set (by omega) (by omega)))
      · have cr := clr_n r (by omega) p hp8
        by_cases e1 : r = i
        · subst e1
          simp only [va_up, if_neg (show ¬ f + r = f + (r + 2 ^ p) by omega), if_true]
          rw [cp.2.1, if_pos (Nat.lt_succ_self r), mx, cb, cp.2.1]; rfl
        · by_cases e2 : r = i + 2 ^ p
          · subst e2
            simp only [va_up, if_true]
            rw [cp.1, if_pos (Nat.lt_succ_self i), mx, cp.2.2, cp.1]; rfl
          · simp only [va_up, if_neg (show ¬ f + r = f + (i + 2 ^ p) by omega), if_neg (show ¬ f + r = f + i by omega)]
            rw [hx1 r hr]
            have ne : ¬ clr r p = i := fun q => by rcases cr.2.1 with z | z <;> omega
            by_cases l : clr r p < i
            · rw [if_pos l, if_pos (by omega)]
            · rw [if_neg l, if_neg (by omega)]
      · simp only [va_up, if_neg (show ¬ j = f + (i + 2 ^ p) by omega), if_neg (show ¬ j = f + i by omega)]; exact he1 j hj
  · have d0 := hi1.1
    refine x_iload dX1_mix_8 rfl ?_
    refine x_aload_n dX1_mix_10 rfl ?_
    refine x_get fX1_27 (by assumption) rfl dX1_mix_11 ?_
    refine x_icmp_ge_t 107 dX1_mix_14 (by decide) (ge_t rfl (by omega)) ?_
    refine x_vret rfl dX1_mix_107 ⟨by decide, by decide⟩ ?_
    exact ⟨rfl, X1, hi1, fun r hr => by rw [hx1 r hr, if_pos (Nat.lt_of_le_of_lt (clr_n r (by omega) p hp8).2.2 hr)], he1, hf1⟩
