def mxs (g t x : Nat → Nat) : Nat → Nat → Nat
  | 0 => x
  | k + 1 => mx k (g k) (t k) (mxs g t x k)
theorem mx_le {p g t B s : Nat} {x : Nat → Nat} (hg : g ≤ 8) (ht : t ≤ 8) (hx : ∀ s, x s ≤ B) : mx p g t x s ≤ 8 * B := by
  unfold mx
  have key : ∀ q, q ≤ 8 → (8 - q) * x (clr s p) + q * x (clr s p + 2 ^ p) ≤ 8 * B := by
    intro q hq
    have h1 : (8 - q) * x (clr s p) ≤ (8 - q) * B := Nat.mul_le_mul_left _ (hx _)
    have h2 : q * x (clr s p + 2 ^ p) ≤ q * B := Nat.mul_le_mul_left _ (hx _)
    have h3 : (8 - q) * B + q * B = 8 * B := by rw [← Nat.add_mul, show 8 - q + q = 8 by omega]
    omega
  split
  · exact key t ht
  · exact key g hg
theorem mxs_le {g t x : Nat → Nat} {B : Nat} (hx : ∀ s, x s ≤ B) : ∀ k, (∀ p, p < k → g p ≤ 8 ∧ t p ≤ 8) → ∀ s, mxs g t x k s ≤ 8 ^ k * B
  | 0, _, s => by rw [Nat.pow_zero, Nat.one_mul]; exact hx s
  | k + 1, h, s => by
    have h1 := mx_le (p := k) (s := s) (x := mxs g t x k) (h k (by omega)).1 (h k (by omega)).2 (mxs_le hx k (fun p hp => h p (by omega)))
    rw [Nat.pow_succ, Nat.mul_comm (8 ^ k) 8, Nat.mul_assoc]; exact h1
theorem jv_le (V : VS) (a b s : Nat) : jv V a b s ≤ 1 := by unfold jv; split <;> omega
/-- what the odds of a way would be if somebody were on each of s -/
def hvl (V : VS) (a b : Nat) : Nat → Nat := mxs (chv V) (fun _ => 8) (jv V a b) (V.1 0)
theorem hvl_le {V : VS} (hv : okV V) (a b s : Nat) : hvl V a b s ≤ 16777216 := by
  have h1 := mxs_le (g := chv V) (t := fun _ => 8) (jv_le V a b) (V.1 0) (fun p hp => ⟨chn_le hv hp _, Nat.le_refl _⟩) s
  have := pow8 hv.1.1
  unfold hvl
  omega
def sbs (s t : Nat) : Prop := s &&& t = s
def sbs_dec (s t : Nat) : Decidable (sbs s t) := inferInstanceAs (Decidable (_ = _))
def btr (y : Nat → Nat) (s b : Nat) : Prop := y b < y s ∨ (y s = y b ∧ bc8 s < bc8 b)
theorem lg_le {x y : Int64} : lg_cmp x y ≤ 0 ↔ ¬ y < x := by
  unfold lg_cmp
  by_cases h1 : x > y
  · rw [if_pos h1]
    exact ⟨fun q => absurd q (by decide), fun q => absurd h1 q⟩
  · rw [if_neg h1]
    refine ⟨fun _ => h1, fun _ => ?_⟩
    split <;> decide
theorem bc8_lt : ∀ x, x < 256 → bc8 x < 9 := by decide +kernel
theorem btr_dec (y : Nat → Nat) (s b : Nat) : btr y s b ∨ ¬ btr y s b := Classical.em _
set_option maxRecDepth 10000 in
set_option maxHeartbeats 2000000 in
theorem c_X1_isBetterHeld {g : gG} {h : gH} {c : Nat} {J K X : Nat → Int64} {wh : Int64} {V : VS} {s b : Nat} {y : Nat → Nat} (hi0 : isC h c J K X (nI (2 ^ V.1 0)) wh) (hs : s < 256) (hb : b < 256) (es : X s = lN (y s)) (eb : X b = lN (y b)) (ls : y s < 2 ^ 63) (lb : y b < 2 ^ 63) : Rd g mX1_isBetterHeld [.ref c, .int (nI s), .int (nI b)] h (.int (@b2i (btr y s b) (Classical.propDecidable _))) := by
  have c0 := hi0.1
  have c1 := hi0.2.1
  have c2 := hi0.2.2.1
  have c3 := hi0.2.2.2
  have l1 := bc8_lt s hs
  have l2 := bc8_lt b hb
  refine Cn.of (L := [some (.ref c), some (.int (nI s)), some (.int (nI b))]) (by decide) (Nat.le_of_ble_eq_true rfl) rfl ?_
  refine x_aload_n dX1_isBetterHeld_0 rfl ?_
  refine x_get fX1_18 (by assumption) rfl dX1_isBetterHeld_1 ?_
  refine x_iload_n dX1_isBetterHeld_4 rfl ?_
  refine x_lald s c3 rfl (by omega) (by decide) dX1_isBetterHeld_5 ?_
  refine x_aload_n dX1_isBetterHeld_6 rfl ?_
  refine x_get fX1_18 (by assumption) rfl dX1_isBetterHeld_7 ?_
  refine x_iload_n dX1_isBetterHeld_10 rfl ?_
  refine x_lald b c3 rfl (by omega) (by decide) dX1_isBetterHeld_11 ?_
  rw [es, eb]
  refine x_lcmp dX1_isBetterHeld_12 ?_
  refine x_if_eq 38 dX1_isBetterHeld_13 (by decide) (fun c13 => ?_) (fun c13 => ?_)
  · refine x_iload_n dX1_isBetterHeld_38 rfl ?_
    refine x_rdS (c_J6_bitCount_0f7a4 hs) lkJ6_bitCount_0f7a4 sX1_82 dX1_isBetterHeld_39 rfl rfl (Nat.le_of_ble_eq_true rfl) (by decide) ⟨rfl, rfl, by decide, by decide⟩ ?_
    refine x_iload_n dX1_isBetterHeld_42 rfl ?_
    refine x_rdS (c_J6_bitCount_0f7a4 hb) lkJ6_bitCount_0f7a4 sX1_82 dX1_isBetterHeld_43 rfl rfl (Nat.le_of_ble_eq_true rfl) (by decide) ⟨rfl, rfl, by decide, by decide⟩ ?_
    refine x_icmp_ge 53 dX1_isBetterHeld_46 (by decide) (fun c46 => ?_) (fun c46 => ?_)
    · refine x_iconst (v := 0) dX1_isBetterHeld_53 (by decide) ?_
      refine x_zret rfl dX1_isBetterHeld_54 ⟨by decide, by decide⟩ rfl ?_
      have e := (pk_lEQ ls lb).mp (lg_0.mp c13)
      have n := (nI_leI (by omega) (by omega)).mp c46
      exact ⟨by rw [@b2i_f _ (Classical.propDecidable _) (fun q => q.elim (fun z => by omega) (fun z => by have := z.2; omega))], rfl⟩
    · refine x_iconst (v := 1) dX1_isBetterHeld_49 (by decide) ?_
      refine x_goto 54 dX1_isBetterHeld_50 (by decide) ?_
      refine x_zret rfl dX1_isBetterHeld_54 ⟨by decide, by decide⟩ rfl ?_
      have e := (pk_lEQ ls lb).mp (lg_0.mp c13)
      have n : ¬ bc8 b ≤ bc8 s := fun z => c46 ((nI_leI (by omega) (by omega)).mpr z)
      exact ⟨by rw [@b2i_t _ (Classical.propDecidable _) (show btr y s b from Or.inr ⟨e, by omega⟩)], rfl⟩
  · refine x_aload_n dX1_isBetterHeld_16 rfl ?_
    refine x_get fX1_18 (by assumption) rfl dX1_isBetterHeld_17 ?_
    refine x_iload_n dX1_isBetterHeld_20 rfl ?_
    refine x_lald s c3 rfl (by omega) (by decide) dX1_isBetterHeld_21 ?_
    refine x_aload_n dX1_isBetterHeld_22 rfl ?_
    refine x_get fX1_18 (by assumption) rfl dX1_isBetterHeld_23 ?_
    refine x_iload_n dX1_isBetterHeld_26 rfl ?_
    refine x_lald b c3 rfl (by omega) (by decide) dX1_isBetterHeld_27 ?_
    rw [es, eb]
    refine x_lcmp dX1_isBetterHeld_28 ?_
    refine x_if_le 36 dX1_isBetterHeld_29 (by decide) (fun c29 => ?_) (fun c29 => ?_)
    · refine x_iconst (v := 0) dX1_isBetterHeld_36 (by decide) ?_
      refine x_zret rfl dX1_isBetterHeld_37 ⟨by decide, by decide⟩ rfl ?_
      have e : ¬ y s = y b := fun z => c13 (lg_0.mpr ((pk_lEQ ls lb).mpr z))
      have n : ¬ y b < y s := fun z => lg_le.mp c29 ((pk_lLT lb ls).mpr z)
      exact ⟨by rw [@b2i_f _ (Classical.propDecidable _) (fun q => q.elim n (fun z => e z.1))], rfl⟩
    · refine x_iconst (v := 1) dX1_isBetterHeld_32 (by decide) ?_
      refine x_goto 37 dX1_isBetterHeld_33 (by decide) ?_
      refine x_zret rfl dX1_isBetterHeld_37 ⟨by decide, by decide⟩ rfl ?_
      have n : y b < y s := (pk_lLT lb ls).mp (Classical.not_not.mp (fun z => c29 (lg_le.mpr z)))
      exact ⟨by rw [@b2i_t _ (Classical.propDecidable _) (show btr y s b from Or.inl n)], rfl⟩
/-- the best set to hold, of the sets below s -/
noncomputable def hbs (y : Nat → Nat) (t n : Nat) : Nat → Nat
  | 0 => 0
  | s + 1 => @ite _ (s &&& t = s ∧ bc8 s ≤ n ∧ btr y s (hbs y t n s)) (Classical.propDecidable _) s (hbs y t n s)
theorem hbs_lt (y : Nat → Nat) (t n : Nat) : ∀ s, hbs y t n s ≤ s
  | 0 => Nat.le_refl _
  | s + 1 => by
    have ih := hbs_lt y t n s
    unfold hbs
    split <;> omega
theorem hbs_1 (y : Nat → Nat) (t n : Nat) : hbs y t n 1 = 0 := by
  unfold hbs
  split <;> rfl
theorem hbs_y {y : Nat → Nat} {t n s : Nat} (h : s &&& t = s ∧ bc8 s ≤ n ∧ btr y s (hbs y t n s)) : hbs y t n (s + 1) = s := if_pos h
theorem hbs_n {y : Nat → Nat} {t n s : Nat} (h : ¬ (s &&& t = s ∧ bc8 s ≤ n ∧ btr y s (hbs y t n s))) : hbs y t n (s + 1) = hbs y t n s := if_neg h
set_option maxRecDepth 10000 in
set_option maxHeartbeats 2000000 in
theorem c_X1_bestHeld {g : gG} {h : gH} {c : Nat} {J K X : Nat → Int64} {s0 : Int32} {wh : Int64} {w : Nat} {V : VS} {a b n : Nat} (hv : isV h w V) (hi0 : isC h c J K X s0 wh) (hd : w + 12 ≤ c ∨ c + 4 ≤ w) (ha : a < 8) (hb : b < 8) (hn : n ≤ 3) : Ct g mX1_bestHeld [.ref c, .ref w, .int (nI a), .int (nI b), .int (nI n)] h (some (.int (nI (hbs (hvl V a b) (V.1 3) n (2 ^ V.1 0))))) (fun h' => (∃ J' X', isC h' c J' K X' (nI (2 ^ V.1 0)) (lN (2 ^ (3 * V.1 0)))) ∧ Fr c 4 h h') := by
  obtain ⟨okw, ar, hww, rpw⟩ := id hv
  have kwp : V.1 0 ≤ 8 := okw.1.1
  have kww : V.1 1 ≤ 4 := okw.1.2.1
  have kwr : V.1 2 ≤ 4 := okw.1.2.2
  have w0 : h.1 w = some (.inr (10, wF w (wS V))) := hww.1
  have w1 : h.1 (w + 1) = some (.inl (0, 8, .inl (ar 0))) := hww.2 0 (by decide)
  have w2 : h.1 (w + 2) = some (.inl (0, 8, .inl (ar 1))) := hww.2 1 (by decide)
  have w3 : h.1 (w + 3) = some (.inl (0, 8, .inl (ar 2))) := hww.2 2 (by decide)
  have w4 : h.1 (w + 4) = some (.inl (0, 8, .inl (ar 3))) := hww.2 3 (by decide)
  have w5 : h.1 (w + 5) = some (.inl (0, 8, .inl (ar 4))) := hww.2 4 (by decide)
  have w6 : h.1 (w + 6) = some (.inl (0, 4, .inl (ar 5))) := hww.2 5 (by decide)
  have w7 : h.1 (w + 7) = some (.inl (0, 4, .inl (ar 6))) := hww.2 6 (by decide)
  have w8 : h.1 (w + 8) = some (.inl (0, 4, .inl (ar 7))) := hww.2 7 (by decide)
  have w9 : h.1 (w + 9) = some (.inl (0, 8, .inl (ar 8))) := hww.2 8 (by decide)
  have w10 : h.1 (w + 10) = some (.inl (0, 4, .inl (ar 9))) := hww.2 9 (by decide)
  have w11 : h.1 (w + 11) = some (.inl (0, 4, .inl (ar 10))) := hww.2 10 (by decide)
  have c0 := hi0.1
  have c1 := hi0.2.1
  have c2 := hi0.2.2.1
  have c3 := hi0.2.2.2
  have p8 := p256 okw.1.1
  have t8 := lt256 okw.2.1 okw.1.1
  refine Cn.of (L := [some (.ref c), some (.ref w), some (.int (nI a)), some (.int (nI b)), some (.int (nI n)), none, none, none]) (by decide) (Nat.le_of_ble_eq_true rfl) rfl ?_
  refine x_aload_n dX1_bestHeld_0 rfl ?_
  refine x_aload_n dX1_bestHeld_1 rfl ?_
  refine x_cnV (c_X1_joinAll hv hi0 hd) (by assumption) lkX1_joinAll sX1_49 dX1_bestHeld_2 rfl rfl (Nat.le_of_ble_eq_true rfl) (by decide) ⟨rfl, rfl, by decide, by decide⟩ ?_
  rintro hA ⟨J1, I1, hJ1, F1⟩
  have d1 := I1.1
  refine x_aload_n dX1_bestHeld_5 rfl ?_
  refine x_iconst (v := 0) dX1_bestHeld_6 (by decide) ?_
  refine x_iload_n dX1_bestHeld_7 rfl ?_
  refine x_iload_n dX1_bestHeld_8 rfl ?_
  refine x_cnV (c_X1_valueWhereJoined (f := 0) okw I1 hJ1 (by omega) ha hb) (by assumption) lkX1_valueWhereJoined sX1_71 dX1_bestHeld_9 rfl rfl (Nat.le_of_ble_eq_true rfl) (by decide) ⟨rfl, rfl, by decide, by decide⟩ ?_
  rintro hB ⟨X2, I2, hX2, -, F2⟩
  refine x_iconst (v := 0) dX1_bestHeld_12 (by decide) ?_
  refine x_ist_5 dX1_bestHeld_13 (by decide) rfl ?_
  refine lp_up (P := fun i => ∀ h1 X1 u v, isC h1 c J1 K X1 (nI (2 ^ V.1 0)) (lN (2 ^ (3 * V.1 0))) → okX X1 0 (2 ^ V.1 0) (mxs (chv V) (fun _ => 8) (jv V a b) i) → Fr c 4 h h1 → Ex g mX1_bestHeld _ 15 [some (.ref c), some (.ref w), some (.int (nI a)), some (.int (nI b)), some (.int (nI n)), some (.int (nI i)), u, v] [] h1 0 0) (V.1 0) (fun i hi ih h1 X1 u v hi1 hx1 hf1 => ?_) (fun h1 X1 u v hi1 hx1 hf1 => ?_) 0 (Nat.zero_le _) _ _ none none I2 hX2 (F1.tr F2)
  · have v1 := hv.fr hf1 hd
    have m0 := v1.o
    have d1 := hi1.1
    refine x_iload dX1_bestHeld_15 rfl ?_
    refine x_aload_n dX1_bestHeld_17 rfl ?_
    refine x_get fX1_21 m0 rfl dX1_bestHeld_18 ?_
    refine x_icmp_ge_f 51 dX1_bestHeld_21 (by decide) (ge_f rfl hi (by omega)) ?_
    refine x_aload_n dX1_bestHeld_24 rfl ?_
    refine x_iconst (v := 0) dX1_bestHeld_25 (by decide) ?_
    refine x_iload dX1_bestHeld_26 rfl ?_
    refine x_aload_n dX1_bestHeld_28 rfl ?_
    refine x_iload dX1_bestHeld_29 rfl ?_
    refine x_aload_n dX1_bestHeld_31 rfl ?_
    refine x_iload dX1_bestHeld_32 rfl ?_
    refine x_rdV (c_X10_isThere v1 (by omega)) m0 lkX10_isThere sX1_53 dX1_bestHeld_34 rfl rfl (Nat.le_of_ble_eq_true rfl) (by decide) ⟨rfl, rfl, by decide, by decide⟩ ?_
    refine x_rdV (c_X10_chanceOf v1 hi) m0 lkX10_chanceOf sX1_57 dX1_bestHeld_37 rfl rfl (Nat.le_of_ble_eq_true rfl) (by decide) ⟨rfl, rfl, by decide, by decide⟩ ?_
    refine x_bipush (v := 8) dX1_bestHeld_40 (by decide) ?_
    refine x_cnV (c_X1_mix (f := 0) okw hi1 (by omega) hi (chn_le okw hi _) (by decide) hx1) (by assumption) lkX1_mix sX1_75 dX1_bestHeld_42 rfl rfl (Nat.le_of_ble_eq_true rfl) (by decide) ⟨rfl, rfl, by decide, by decide⟩ ?_
    rintro h2 ⟨X2, I2, hX2, -, F2⟩
    refine x_inc_5  dX1_bestHeld_45 (by decide) (nI_inc _) rfl ?_
    refine x_goto 15 dX1_bestHeld_48 (by decide) ?_
    exact ih h2 X2 _ _ I2 hX2 (hf1.tr F2)
  · have v1 := hv.fr hf1 hd
    have m0 := v1.o
    have d1 := hi1.1
    have pos : 0 < 2 ^ V.1 0 := Nat.pos_of_ne_zero (by simp)
    have hx0 : ∀ s, s < 2 ^ V.1 0 → X1 s = lN (hvl V a b s) := fun s hs => by have := hx1 s hs; rwa [Nat.zero_add] at this
    have hy : ∀ s, hvl V a b s < 2 ^ 63 := fun s => by have := hvl_le okw a b s; omega
    refine x_iload dX1_bestHeld_15 rfl ?_
    refine x_aload_n dX1_bestHeld_17 rfl ?_
    refine x_get fX1_21 m0 rfl dX1_bestHeld_18 ?_
    refine x_icmp_ge_t 51 dX1_bestHeld_21 (by decide) (ge_t rfl (by omega)) ?_
    refine x_iconst (v := 0) dX1_bestHeld_51 (by decide) ?_
    refine x_ist_5 dX1_bestHeld_52 (by decide) rfl ?_
    refine x_iconst (v := 1) dX1_bestHeld_54 (by decide) ?_
    refine x_ist_6 dX1_bestHeld_55 (by decide) rfl ?_
    refine x_heap rfl ?_
    have h1e := hbs_1 (hvl V a b) (V.1 3) n
    rw [show (0 : Int32) = nI (hbs (hvl V a b) (V.1 3) n (0 + 1)) by rw [h1e]; rfl]
    refine lp_up (P := fun i => ∀ u, Ex g mX1_bestHeld _ 57 [some (.ref c), some (.ref w), some (.int (nI a)), some (.int (nI b)), some (.int (nI n)), some (.int (nI (hbs (hvl V a b) (V.1 3) n (i + 1)))), some (.int (nI (i + 1))), u] [] h1 0 0) (2 ^ V.1 0 - 1) (fun i hi ih u => ?_) (fun u => ?_) 0 (Nat.zero_le _) _
    · have hi : i < 2 ^ V.1 0 - 1 := hi
      have hs : i + 1 < 2 ^ V.1 0 := by omega
      have sI := sbs_I (i + 1) (by omega) (V.1 3) t8
      have bl := hbs_lt (hvl V a b) (V.1 3) n (i + 1)
      have l9 := bc8_lt (i + 1) (by omega)
      have gtI : nI n < nI (bc8 (i + 1)) ↔ n < bc8 (i + 1) := nI_ltI (by omega) (by omega)
      refine x_iload dX1_bestHeld_57 rfl ?_
      refine x_aload_n dX1_bestHeld_59 rfl ?_
      refine x_get fX1_27 d1 rfl dX1_bestHeld_60 ?_
      refine x_icmp_ge_f 121 dX1_bestHeld_63 (by decide) (ge_f rfl hs (by omega)) ?_
      refine x_iload dX1_bestHeld_66 rfl ?_
      refine x_aload_n dX1_bestHeld_68 rfl ?_
      refine x_get fX1_79 m0 rfl dX1_bestHeld_69 ?_
      refine x_iconst (v := -1) dX1_bestHeld_72 (by decide) ?_
      refine x_ixor dX1_bestHeld_73 ?_
      refine x_iand dX1_bestHeld_74 ?_
      refine x_if_ne 92 dX1_bestHeld_75 (by decide) (fun c75 => ?_) (fun c75 => ?_)
      · refine x_iconst (v := 0) dX1_bestHeld_92 (by decide) ?_
        refine x_ist_7 dX1_bestHeld_93 (by decide) rfl ?_
        refine x_iload dX1_bestHeld_95 rfl ?_
        refine x_if_eq_t 115 dX1_bestHeld_97 (by decide) rfl ?_
        refine x_inc_6  dX1_bestHeld_115 (by decide) (nI_inc _) rfl ?_
        refine x_goto 57 dX1_bestHeld_118 (by decide) ?_
        have := ih (some (.int 0))
        rw [hbs_n (fun q => c75 (sI.mpr q.1))] at this; exact this
      · refine x_iload dX1_bestHeld_78 rfl ?_
        refine x_rdS (c_J6_bitCount_0f7a4 (by omega)) lkJ6_bitCount_0f7a4 sX1_82 dX1_bestHeld_80 rfl rfl (Nat.le_of_ble_eq_true rfl) (by decide) ⟨rfl, rfl, by decide, by decide⟩ ?_
        refine x_iload dX1_bestHeld_83 rfl ?_
        refine x_icmp_gt 92 dX1_bestHeld_85 (by decide) (fun c85 => ?_) (fun c85 => ?_)
        · refine x_iconst (v := 0) dX1_bestHeld_92 (by decide) ?_
          refine x_ist_7 dX1_bestHeld_93 (by decide) rfl ?_
          refine x_iload dX1_bestHeld_95 rfl ?_
          refine x_if_eq_t 115 dX1_bestHeld_97 (by decide) rfl ?_
          refine x_inc_6  dX1_bestHeld_115 (by decide) (nI_inc _) rfl ?_
          refine x_goto 57 dX1_bestHeld_118 (by decide) ?_
          have := ih (some (.int 0))
          rw [hbs_n (fun q => absurd (gtI.mp c85) (by have := q.2.1; omega))] at this; exact this
        · refine x_iconst (v := 1) dX1_bestHeld_88 (by decide) ?_
          refine x_goto 93 dX1_bestHeld_89 (by decide) ?_
          refine x_ist_7 dX1_bestHeld_93 (by decide) rfl ?_
          refine x_iload dX1_bestHeld_95 rfl ?_
          refine x_if_eq_f 115 dX1_bestHeld_97 (by decide) (by decide) ?_
          refine x_aload_n dX1_bestHeld_100 rfl ?_
          refine x_iload dX1_bestHeld_101 rfl ?_
          refine x_iload dX1_bestHeld_103 rfl ?_
          refine x_rdV (c_X1_isBetterHeld hi1 (by omega) (by omega) (hx0 _ hs) (hx0 _ (by omega)) (hy _) (hy _)) d1 lkX1_isBetterHeld sX1_88 dX1_bestHeld_105 rfl rfl (Nat.le_of_ble_eq_true rfl) (by decide) ⟨rfl, rfl, by decide, by decide⟩ ?_
          refine x_if_eqB 115 dX1_bestHeld_108 (by decide) (fun c108 => ?_) (fun c108 => ?_)
          · refine x_inc_6  dX1_bestHeld_115 (by decide) (nI_inc _) rfl ?_
            refine x_goto 57 dX1_bestHeld_118 (by decide) ?_
            have := ih (some (.int 1))
            rw [hbs_n (fun q => c108 q.2.2)] at this; exact this
          · refine x_iload dX1_bestHeld_111 rfl ?_
            refine x_ist_5 dX1_bestHeld_113 (by decide) rfl ?_
            refine x_inc_6  dX1_bestHeld_115 (by decide) (nI_inc _) rfl ?_
            refine x_goto 57 dX1_bestHeld_118 (by decide) ?_
            have := ih (some (.int 1))
            rw [hbs_y ⟨sI.mp c75, by have : ¬ n < bc8 (i + 1) := fun z => c85 (gtI.mpr z); omega, c108⟩] at this; exact this
    · have en : 2 ^ V.1 0 - 1 + 1 = 2 ^ V.1 0 := by omega
      rw [en]
      refine x_iload dX1_bestHeld_57 rfl ?_
      refine x_aload_n dX1_bestHeld_59 rfl ?_
      refine x_get fX1_27 d1 rfl dX1_bestHeld_60 ?_
      refine x_icmp_ge_t 121 dX1_bestHeld_63 (by decide) (ge_t rfl (by omega)) ?_
      refine x_iload dX1_bestHeld_121 rfl ?_
      refine x_iret rfl dX1_bestHeld_123 ⟨by decide, by decide⟩ ?_
      exact ⟨rfl, ⟨J1, X1, hi1⟩, hf1⟩
def sur (V : VS) : Nat → Nat
  | 0 => 0
  | p + 1 => if (V.1 3).testBit p = true ∧ chn V p true = 8 then sur V p ||| 2 ^ p else sur V p
theorem sur_lt (V : VS) : ∀ n, sur V n < 2 ^ n
  | 0 => by show 0 < 1; decide
  | n + 1 => by
    have ih := sur_lt V n
    have h2 : 2 ^ n < 2 ^ (n + 1) := Nat.pow_lt_pow_right (by decide) (by omega)
    unfold sur
    split
    · exact Nat.or_lt_two_pow (Nat.lt_trans ih h2) h2
    · exact Nat.lt_trans ih h2
set_option maxRecDepth 10000 in
set_option maxHeartbeats 2000000 in
theorem c_X1_surePaths {g : gG} {h : gH} {w : Nat} {V : VS} (hv : isV h w V) : Rd g mX1_surePaths [.ref w] h (.int (nI (sur V (V.1 0)))) := by
  obtain ⟨okw, a, hww, rpw⟩ := id hv
  have kwp : V.1 0 ≤ 8 := okw.1.1
  have kww : V.1 1 ≤ 4 := okw.1.2.1
  have kwr : V.1 2 ≤ 4 := okw.1.2.2
  have w0 : h.1 w = some (.inr (10, wF w (wS V))) := hww.1
  have w1 : h.1 (w + 1) = some (.inl (0, 8, .inl (a 0))) := hww.2 0 (by decide)
  have w2 : h.1 (w + 2) = some (.inl (0, 8, .inl (a 1))) := hww.2 1 (by decide)
  have w3 : h.1 (w + 3) = some (.inl (0, 8, .inl (a 2))) := hww.2 2 (by decide)
  have w4 : h.1 (w + 4) = some (.inl (0, 8, .inl (a 3))) := hww.2 3 (by decide)
  have w5 : h.1 (w + 5) = some (.inl (0, 8, .inl (a 4))) := hww.2 4 (by decide)
  have w6 : h.1 (w + 6) = some (.inl (0, 4, .inl (a 5))) := hww.2 5 (by decide)
  have w7 : h.1 (w + 7) = some (.inl (0, 4, .inl (a 6))) := hww.2 6 (by decide)
  have w8 : h.1 (w + 8) = some (.inl (0, 4, .inl (a 7))) := hww.2 7 (by decide)
  have w9 : h.1 (w + 9) = some (.inl (0, 8, .inl (a 8))) := hww.2 8 (by decide)
  have w10 : h.1 (w + 10) = some (.inl (0, 4, .inl (a 9))) := hww.2 9 (by decide)
  have w11 : h.1 (w + 11) = some (.inl (0, 4, .inl (a 10))) := hww.2 10 (by decide)
  refine Cn.of (L := [some (.ref w), none, none]) (by decide) (Nat.le_of_ble_eq_true rfl) rfl ?_
  refine x_iconst (v := 0) dX1_surePaths_0 (by decide) ?_
  refine x_ist_1 dX1_surePaths_1 (by decide) rfl ?_
  refine x_iconst (v := 0) dX1_surePaths_2 (by decide) ?_
  refine x_ist_2 dX1_surePaths_3 (by decide) rfl ?_
  refine lp_up (P := fun i => Ex g mX1_surePaths _ 4 [some (.ref w), some (.int (nI (sur V i))), some (.int (nI i))] [] h 0 0) (V.1 0) (fun i hi ih => ?_) ?_ 0 (Nat.zero_le _)
  · have c8q : nI (chn V i true) = 8 ↔ chn V i true = 8 := nI_eq (b := 8) (by have := chn_le okw hi true; omega) (by decide)
    refine x_iload_n dX1_surePaths_4 rfl ?_
    refine x_aload_n dX1_surePaths_5 rfl ?_
    refine x_get fX1_21 (by assumption) rfl dX1_surePaths_6 ?_
    refine x_icmp_ge_f 43 dX1_surePaths_9 (by decide) (ge_f rfl hi (by omega)) ?_
    refine x_aload_n dX1_surePaths_12 rfl ?_
    refine x_iload_n dX1_surePaths_13 rfl ?_
    refine x_rdV (c_X10_isThere hv (by omega)) (by assumption) lkX10_isThere sX1_53 dX1_surePaths_14 rfl rfl (Nat.le_of_ble_eq_true rfl) (by decide) ⟨rfl, rfl, by decide, by decide⟩ ?_
    refine x_if_eqB 37 dX1_surePaths_17 (by decide) (fun c17 => ?_) (fun c17 => ?_)
    · refine x_inc_2  dX1_surePaths_37 (by decide) (nI_inc _) rfl ?_
      refine x_goto 4 dX1_surePaths_40 (by decide) ?_
      rw [show sur V (i + 1) = sur V i from if_neg (fun q => c17 q.1)] at ih; exact ih
    · refine x_aload_n dX1_surePaths_20 rfl ?_
      refine x_iload_n dX1_surePaths_21 rfl ?_
      refine x_iconst (v := 1) dX1_surePaths_22 (by decide) ?_
      refine x_rdV (c_X10_chanceOf (b := true) hv hi) (by assumption) lkX10_chanceOf sX1_57 dX1_surePaths_23 rfl rfl (Nat.le_of_ble_eq_true rfl) (by decide) ⟨rfl, rfl, by decide, by decide⟩ ?_
      refine x_bipush (v := 8) dX1_surePaths_26 (by decide) ?_
      refine x_icmp_ne 37 dX1_surePaths_28 (by decide) (fun c28 => ?_) (fun c28 => ?_)
      · refine x_inc_2  dX1_surePaths_37 (by decide) (nI_inc _) rfl ?_
        refine x_goto 4 dX1_surePaths_40 (by decide) ?_
        rw [show sur V (i + 1) = sur V i from if_neg (fun q => c28 (c8q.mpr q.2))] at ih; exact ih
      · refine x_iload_n dX1_surePaths_31 rfl ?_
        refine x_iconst (v := 1) dX1_surePaths_32 (by decide) ?_
        refine x_iload_n dX1_surePaths_33 rfl ?_
        refine x_ishl dX1_surePaths_34 ?_
        refine x_ior dX1_surePaths_35 ?_
        refine x_ist_1 dX1_surePaths_36 (by decide) rfl ?_
        refine x_inc_2  dX1_surePaths_37 (by decide) (nI_inc _) rfl ?_
        refine x_goto 4 dX1_surePaths_40 (by decide) ?_
        rw [show sur V (i + 1) = sur V i ||| 2 ^ i from if_pos ⟨c17, c8q.mp c28⟩] at ih; rw [sh1 _ (by omega), fa_or]; exact ih
  · refine x_iload_n dX1_surePaths_4 rfl ?_
    refine x_aload_n dX1_surePaths_5 rfl ?_
    refine x_get fX1_21 (by assumption) rfl dX1_surePaths_6 ?_
    refine x_icmp_ge_t 43 dX1_surePaths_9 (by decide) (ge_t rfl (by omega)) ?_
    refine x_iload_n dX1_surePaths_43 rfl ?_
    refine x_iret rfl dX1_surePaths_44 ⟨by decide, by decide⟩ ?_
    exact ⟨rfl, rfl⟩
/-- the fewest keepers of the sets below s; 999: none -/
def fk (V : VS) (a b : Nat) : Nat → Nat
  | 0 => 999
  | s + 1 => if s &&& V.1 3 = s ∧ (fk V a b s = 999 ∨ bc8 s < bc8 (fk V a b s)) ∧ (rea V (s ||| sur V (V.1 0)) a 7).testBit b = true then s else fk V a b s
def fkI (x : Nat) : Int32 := if x = 999 then -9 else nI x
def fkN (x : Nat) : Nat := if x = 999 then 9 else bc8 x
theorem fk_lt (V : VS) (a b : Nat) : ∀ s, fk V a b s = 999 ∨ fk V a b s < s
  | 0 => Or.inl rfl
  | s + 1 => by
    have ih := fk_lt V a b s
    unfold fk
    split
    · exact Or.inr (Nat.lt_succ_self s)
    · exact ih.imp id (fun q => by omega)
theorem fkN_lt {s : Nat} (x : Nat) (hs : s < 256) : (bc8 s < fkN x) ↔ (x = 999 ∨ bc8 s < bc8 x) := by
  have := bc8_lt s hs
  unfold fkN
  by_cases e : x = 999
  · rw [if_pos e]; exact ⟨fun _ => Or.inl e, fun _ => this⟩
  · rw [if_neg e]; exact ⟨Or.inr, fun q => q.elim (fun z => absurd z e) id⟩
set_option maxRecDepth 10000 in
set_option maxHeartbeats 2000000 in
theorem c_X1_fewestKept {g : gG} {h : gH} {c : Nat} {J K X : Nat → Int64} {s0 : Int32} {wh : Int64} {w : Nat} {V : VS} {a b : Nat} (hv : isV h w V) (hi0 : isC h c J K X s0 wh) (hd : w + 12 ≤ c ∨ c + 4 ≤ w) (ha : a < 8) (hb : b < 8) : Ct g mX1_fewestKept [.ref c, .ref w, .int (nI a), .int (nI b)] h (some (.int (fkI (fk V a b (2 ^ V.1 0))))) (fun h' => (∃ J', isC h' c J' K X (nI (2 ^ V.1 0)) (lN (2 ^ (3 * V.1 0)))) ∧ Fr c 4 h h') := by
  obtain ⟨okw, ar, hww, rpw⟩ := id hv
  have kwp : V.1 0 ≤ 8 := okw.1.1
  have kww : V.1 1 ≤ 4 := okw.1.2.1
  have kwr : V.1 2 ≤ 4 := okw.1.2.2
  have w0 : h.1 w = some (.inr (10, wF w (wS V))) := hww.1
  have w1 : h.1 (w + 1) = some (.inl (0, 8, .inl (ar 0))) := hww.2 0 (by decide)
  have w2 : h.1 (w + 2) = some (.inl (0, 8, .inl (ar 1))) := hww.2 1 (by decide)
  have w3 : h.1 (w + 3) = some (.inl (0, 8, .inl (ar 2))) := hww.2 2 (by decide)
  have w4 : h.1 (w + 4) = some (.inl (0, 8, .inl (ar 3))) := hww.2 3 (by decide)
  have w5 : h.1 (w + 5) = some (.inl (0, 8, .inl (ar 4))) := hww.2 4 (by decide)
  have w6 : h.1 (w + 6) = some (.inl (0, 4, .inl (ar 5))) := hww.2 5 (by decide)
  have w7 : h.1 (w + 7) = some (.inl (0, 4, .inl (ar 6))) := hww.2 6 (by decide)
  have w8 : h.1 (w + 8) = some (.inl (0, 4, .inl (ar 7))) := hww.2 7 (by decide)
  have w9 : h.1 (w + 9) = some (.inl (0, 8, .inl (ar 8))) := hww.2 8 (by decide)
  have w10 : h.1 (w + 10) = some (.inl (0, 4, .inl (ar 9))) := hww.2 9 (by decide)
  have w11 : h.1 (w + 11) = some (.inl (0, 4, .inl (ar 10))) := hww.2 10 (by decide)
  have c0 := hi0.1
  have c1 := hi0.2.1
  have c2 := hi0.2.2.1
  have c3 := hi0.2.2.2
  have p8 := p256 okw.1.1
  have t8 := lt256 okw.2.1 okw.1.1
  have sl := sur_lt V (V.1 0)
  refine Cn.of (L := [some (.ref c), some (.ref w), some (.int (nI a)), some (.int (nI b)), none, none, none, none, none]) (by decide) (Nat.le_of_ble_eq_true rfl) rfl ?_
  refine x_aload_n dX1_fewestKept_0 rfl ?_
  refine x_aload_n dX1_fewestKept_1 rfl ?_
  refine x_cnV (c_X1_joinAll hv hi0 hd) (by assumption) lkX1_joinAll sX1_49 dX1_fewestKept_2 rfl rfl (Nat.le_of_ble_eq_true rfl) (by decide) ⟨rfl, rfl, by decide, by decide⟩ ?_
  rintro hA ⟨J1, I1, hJ1, F1⟩
  have v1 := hv.fr F1 hd
  have m0 := v1.o
  have d1 := I1.1
  refine x_aload_n dX1_fewestKept_5 rfl ?_
  refine x_rdS (c_X1_surePaths v1) lkX1_surePaths sX1_92 dX1_fewestKept_6 rfl rfl (Nat.le_of_ble_eq_true rfl) (by decide) ⟨rfl, rfl, by decide, by decide⟩ ?_
  refine x_ist_4 dX1_fewestKept_9 (by decide) rfl ?_
  refine x_bipush (v := -9) dX1_fewestKept_11 (by decide) ?_
  refine x_ist_5 dX1_fewestKept_13 (by decide) rfl ?_
  refine x_bipush (v := 9) dX1_fewestKept_15 (by decide) ?_
  refine x_ist_6 dX1_fewestKept_17 (by decide) rfl ?_
  refine x_iconst (v := 0) dX1_fewestKept_19 (by decide) ?_
  refine x_ist_7 dX1_fewestKept_20 (by decide) rfl ?_
  refine lp_up (P := fun i => ∀ u, Ex g mX1_fewestKept _ 22 [some (.ref c), some (.ref w), some (.int (nI a)), some (.int (nI b)), some (.int (nI (sur V (V.1 0)))), some (.int (fkI (fk V a b i))), some (.int (nI (fkN (fk V a b i)))), some (.int (nI i)), u] [] hA 0 0) (2 ^ V.1 0) (fun i hi ih u => ?_) (fun u => ?_) 0 (Nat.zero_le _) none
  · have sI := sbs_I i (by omega) (V.1 3) t8
    have so : i ||| sur V (V.1 0) < 2 ^ V.1 0 := Nat.or_lt_two_pow hi sl
    have ej := hJ1 _ so a b ha hb
    have l9 := bc8_lt i (by omega)
    have fl : fkN (fk V a b i) < 2 ^ 31 := by
      unfold fkN; split
      · decide
      · rcases fk_lt V a b i with q | q
        · omega
        · have := bc8_lt (fk V a b i) (by omega); omega
    have cI : nI (fkN (fk V a b i)) ≤ nI (bc8 i) ↔ ¬ (fk V a b i = 999 ∨ bc8 i < bc8 (fk V a b i)) := by rw [← fkN_lt _ (show i < 256 by omega), nI_leI fl (by omega)]; omega
    refine x_iload dX1_fewestKept_22 rfl ?_
    refine x_aload_n dX1_fewestKept_24 rfl ?_
    refine x_get fX1_27 d1 rfl dX1_fewestKept_25 ?_
    refine x_icmp_ge_f 85 dX1_fewestKept_28 (by decide) (ge_f rfl hi (by omega)) ?_
    refine x_iload dX1_fewestKept_31 rfl ?_
    refine x_rdS (c_J6_bitCount_0f7a4 (by omega)) lkJ6_bitCount_0f7a4 sX1_82 dX1_fewestKept_33 rfl rfl (Nat.le_of_ble_eq_true rfl) (by decide) ⟨rfl, rfl, by decide, by decide⟩ ?_
    refine x_ist_8 dX1_fewestKept_36 (by decide) rfl ?_
    refine x_iload dX1_fewestKept_38 rfl ?_
    refine x_aload_n dX1_fewestKept_40 rfl ?_
    refine x_get fX1_79 m0 rfl dX1_fewestKept_41 ?_
    refine x_iconst (v := -1) dX1_fewestKept_44 (by decide) ?_
    refine x_ixor dX1_fewestKept_45 ?_
    refine x_iand dX1_fewestKept_46 ?_
    refine x_if_ne 79 dX1_fewestKept_47 (by decide) (fun c47 => ?_) (fun c47 => ?_)
    · refine x_inc_7  dX1_fewestKept_79 (by decide) (nI_inc _) rfl ?_
      refine x_goto 22 dX1_fewestKept_82 (by decide) ?_
      have := ih (some (.int (nI (bc8 i))))
      rw [show fk V a b (i + 1) = fk V a b i from if_neg (fun q => c47 (sI.mpr q.1))] at this; exact this
    · refine x_iload dX1_fewestKept_50 rfl ?_
      refine x_iload dX1_fewestKept_52 rfl ?_
      refine x_icmp_ge 79 dX1_fewestKept_54 (by decide) (fun c54 => ?_) (fun c54 => ?_)
      · refine x_inc_7  dX1_fewestKept_79 (by decide) (nI_inc _) rfl ?_
        refine x_goto 22 dX1_fewestKept_82 (by decide) ?_
        have := ih (some (.int (nI (bc8 i))))
        rw [show fk V a b (i + 1) = fk V a b i from if_neg (fun q => cI.mp c54 q.2.1)] at this; exact this
      · refine x_aload_n dX1_fewestKept_57 rfl ?_
        refine x_iload dX1_fewestKept_58 rfl ?_
        refine x_iload dX1_fewestKept_60 rfl ?_
        refine x_ior dX1_fewestKept_62 ?_
        rw [fa_or]
        refine x_iload_n dX1_fewestKept_63 rfl ?_
        refine x_iload_n dX1_fewestKept_64 rfl ?_
        refine x_rdV (c_X1_joins I1 (by omega) ha hb) d1 lkX1_joins sX1_61 dX1_fewestKept_65 rfl rfl (Nat.le_of_ble_eq_true rfl) (by decide) ⟨rfl, rfl, by decide, by decide⟩ ?_
        refine x_if_eqB 79 dX1_fewestKept_68 (by decide) (fun c68 => ?_) (fun c68 => ?_)
        · refine x_inc_7  dX1_fewestKept_79 (by decide) (nI_inc _) rfl ?_
          refine x_goto 22 dX1_fewestKept_82 (by decide) ?_
          rw [ej] at c68
          have := ih (some (.int (nI (bc8 i))))
          rw [show fk V a b (i + 1) = fk V a b i from if_neg (fun q => c68 q.2.2)] at this; exact this
        · refine x_iload dX1_fewestKept_71 rfl ?_
          refine x_ist_5 dX1_fewestKept_73 (by decide) rfl ?_
          refine x_iload dX1_fewestKept_75 rfl ?_
          refine x_ist_6 dX1_fewestKept_77 (by decide) rfl ?_
          refine x_inc_7  dX1_fewestKept_79 (by decide) (nI_inc _) rfl ?_
          refine x_goto 22 dX1_fewestKept_82 (by decide) ?_
          rw [ej] at c68
          have := ih (some (.int (nI (bc8 i))))
          rw [show fk V a b (i + 1) = i from if_pos ⟨sI.mp c47, Decidable.not_not.mp (fun q => c54 (cI.mpr q)), c68⟩, show fkI i = nI i from if_neg (by omega), show fkN i = bc8 i from if_neg (by omega)] at this; exact this
  · refine x_iload dX1_fewestKept_22 rfl ?_
    refine x_aload_n dX1_fewestKept_24 rfl ?_
    refine x_get fX1_27 d1 rfl dX1_fewestKept_25 ?_
    refine x_icmp_ge_t 85 dX1_fewestKept_28 (by decide) (ge_t rfl (by omega)) ?_
    refine x_iload dX1_fewestKept_85 rfl ?_
    refine x_iret rfl dX1_fewestKept_87 ⟨by decide, by decide⟩ ?_
    exact ⟨rfl, ⟨J1, I1⟩, F1⟩
