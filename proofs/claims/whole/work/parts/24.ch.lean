theorem x_getR {g : gG} {M : gM} {Z : gZt} {pc : Nat} {L : List (Option Value)} {st : List Value} {h : gH} {k n a ci kf idx : Nat} {ty : FieldType} {fs : List Value} {v : Value} (F : gFdR M.1.cls idx ci kf ty) (ha : h.1 a = some (.inr (ci, fs))) (hv : fs[kf]? = some v) (d : decode M.2.1 pc = .ok (.getfield idx, 3)) (kk : Ex g M Z (pc + 3) L (v :: st) h k n) : Ex g M Z pc L (.ref a :: st) h k n := by
  intro p e s m args below meth c H locs ls C R Fr Lh
  obtain ⟨Cn, T, N, ref, hc, hk, hin, hl, hs⟩ := F
  obtain ⟨hx, hb, hml, hrt, hown, hts, hlk, hnm, hsc⟩ := id C
  exact va_get hx hb hts hin hown hsc.1 (R.P1 ha) 0 (fs := fs) rfl hc kf hk (hts _ hl) (gsame hts hs) hv d (kk p e s m args below meth c H locs ls C R Fr Lh)
theorem sh1L : ∀ k, k < 9 → (1 : Int64) <<< (((3 : Int32) * nI k).toInt64 &&& 63) = lN (2 ^ (3 * k)) := by decide +kernel
theorem apart_bm : ∀ a, a < 8 → ∀ b, b < 8 → bm (-9205322385119247871) (8 * a + b) = decide (a = b) := by decide +kernel
theorem rea_0 {V : VS} (hv : okV V) {a : Nat} (ha : a < 8) (b : Nat) : (rea V 0 a 7).testBit b = decide (a = b) := by
  have e : rea V 0 a 1 = rea V 0 a 0 := by
    apply Nat.eq_of_testBit_eq
    intro j
    rw [Bool.eq_iff_iff]
    constructor
    · intro h
      rcases (gr_bit V 0 _ j _).mp h with h | ⟨p, _, h2, _⟩
      · exact h
      · rw [Nat.zero_testBit] at h2; cases h2
    · exact rea_up
  rw [← rea_last hv ha e]
  show (2 ^ a).testBit b = _
  rw [Nat.testBit_two_pow]
theorem le8 {x : Int32} {i N : Nat} (hx : x = nI N) (h : i < N) (hN : N < 2 ^ 31) : ¬ x ≤ nI i := ge_f hx h hN
set_option maxRecDepth 10000 in
set_option maxHeartbeats 2000000 in
theorem c_X1_joinAll {g : gG} {h : gH} {c : Nat} {J K X : Nat → Int64} {s0 : Int32} {wh : Int64} {w : Nat} {V : VS} (hv : isV h w V) (hi0 : isC h c J K X s0 wh) (hd : w + 12 ≤ c ∨ c + 4 ≤ w) : Ct g mX1_joinAll [.ref c, .ref w] h none (fun h' => ∃ J', isC h' c J' K X (nI (2 ^ V.1 0)) (lN (2 ^ (3 * V.1 0))) ∧ okJ V J' (2 ^ V.1 0) ∧ Fr c 4 h h') := by
  obtain ⟨okw, a, hww, rpw⟩ := id hv
  have kwp : V.1 0 ≤ 8 := okw.1.1
  have kww : V.1 1 ≤ 4 := okw.1.2.1
  have kwr : V.1 2 ≤ 4 := okw.1.2.2
  have w0 : h.1 w = some (.inr (10, wF w (wS V))) := hww.1
  have w1 : h.1 (w + 1) = some (.inl (0, 8, .inl (a 0))) := hww.2 0 (by decide)
  have w2 : h.1 (w + 2) = some (.inl (0, 8, .inl (a 1))) := hww.2 1 (by decide)
  have w3 : h.1 (w + 3) = some (.inl (0, 8, .inl (a 2))) := hww.2 2 (by decide)
  have w4 : h.1 (w + 4) = some (.inl (0, 8, .inl (a 3))) := hww.2 3 (by decide)
  have w5 : h.1 (w + 5) = some (.inl (0, 8, .inl (a 4))) := hww.2 4 (by decide)
  have w6 : h.1 (w + 6) = some (.inl (0, 4, .inl (a 5))) := hww.2 5 (by decide)
  have w7 : h.1 (w + 7) = some (.inl (0, 4, .inl (a 6))) := hww.2 6 (by decide)
  have w8 : h.1 (w + 8) = some (.inl (0, 4, .inl (a 7))) := hww.2 7 (by decide)
  have w9 : h.1 (w + 9) = some (.inl (0, 8, .inl (a 8))) := hww.2 8 (by decide)
  have w10 : h.1 (w + 10) = some (.inl (0, 4, .inl (a 9))) := hww.2 9 (by decide)
  have w11 : h.1 (w + 11) = some (.inl (0, 4, .inl (a 10))) := hww.2 10 (by decide)
  have c0 := hi0.1
  have c1 := hi0.2.1
  have c2 := hi0.2.2.1
  have c3 := hi0.2.2.2
  refine Cn.of (L := [some (.ref c), some (.ref w), none, none, none]) (by decide) (Nat.le_of_ble_eq_true rfl) rfl ?_
  refine x_aload_n dX1_joinAll_0 rfl ?_
  refine x_iconst (v := 1) dX1_joinAll_1 (by decide) ?_
  refine x_aload_n dX1_joinAll_2 rfl ?_
  refine x_get fX1_21 w0 rfl dX1_joinAll_3 ?_
  refine x_ishl dX1_joinAll_6 ?_
  refine sw_top (sh1 _ (by omega)) ?_
  refine x_put (fs' := cF c (nI (2 ^ V.1 0)) wh) fX1_27 c0 (Nat.le_of_ble_eq_true rfl) rfl rfl rfl dX1_joinAll_7 ?_
  have I1 := isC.num (s' := nI (2 ^ V.1 0)) (wh' := wh) hi0
  have F1 : Fr c 4 h (hset h c (.inr (1, cF c (nI (2 ^ V.1 0)) wh))) := Fr.set (Nat.le_refl _) (by omega)
  have W1 := (hv.fr F1 hd).o
  refine x_aload_n dX1_joinAll_10 rfl ?_
  refine x_lconst (v := 1) dX1_joinAll_11 (by decide) ?_
  refine x_iconst (v := 3) dX1_joinAll_12 (by decide) ?_
  refine x_aload_n dX1_joinAll_13 rfl ?_
  refine x_get fX1_21 W1 rfl dX1_joinAll_14 ?_
  refine x_imul dX1_joinAll_17 ?_
  refine x_lshl dX1_joinAll_18 ?_
  refine sw_topl (sh1L _ (by omega)) ?_
  refine x_put (fs' := cF c (nI (2 ^ V.1 0)) (lN (2 ^ (3 * V.1 0)))) fX1_30 I1.1 (Nat.le_of_ble_eq_true rfl) rfl rfl rfl dX1_joinAll_19 ?_
  have I2 := isC.num (s' := nI (2 ^ V.1 0)) (wh' := lN (2 ^ (3 * V.1 0))) I1
  refine x_aload_n dX1_joinAll_22 rfl ?_
  refine x_get fX1_9 I2.1 rfl dX1_joinAll_23 ?_
  refine x_iconst (v := 0) dX1_joinAll_26 (by decide) ?_
  refine x_ldc2 dX1_joinAll_27 kX1_34 ?_
  refine x_last 0 I2.2.1 rfl (by decide) (by decide) dX1_joinAll_30 ?_
  have I3 := isC.rJ (J' := va_up J 0 (-9205322385119247871)) I2
  have FR3 := (F1.tr (Fr.set (w := c) (n := 4) (h := hset h c (.inr (1, cF c (nI (2 ^ V.1 0)) wh))) (a := c) (e := .inr (1, cF c (nI (2 ^ V.1 0)) (lN (2 ^ (3 * V.1 0))))) (Nat.le_refl _) (by omega))).tr (Fr.set (a := c + 1) (e := .inl (1, 256, .inr (.inl (va_up J 0 (-9205322385119247871))))) (by omega) (by omega))
  refine x_iconst (v := 0) dX1_joinAll_31 (by decide) ?_
  refine x_ist_2 dX1_joinAll_32 (by decide) rfl ?_
  refine lp_up (P := fun i => ∀ h1 J1 u v, isC h1 c J1 K X (nI (2 ^ V.1 0)) (lN (2 ^ (3 * V.1 0))) → okJ V J1 (2 ^ i) → Fr c 4 h h1 → Ex g mX1_joinAll _ 33 [some (.ref c), some (.ref w), some (.int (nI i)), u, v] [] h1 0 0) (V.1 0) (fun i hi ih h1 J1 u v hi1 hj1 hf1 => ?_) (fun h1 J1 u v hi1 hj1 hf1 => ?_) 0 (Nat.zero_le _) _ _ none none I3 ?_ FR3
  · have v1 := hv.fr hf1 hd
    obtain ⟨ok1, a1, hw1, rp1⟩ := id v1
    have m0 := hw1.1
    have ok2 := okw.2.2.2.1 i hi
    have p8 := p256 (show i + 1 ≤ 8 by omega)
    have p9 : 2 ^ (i + 1) = 2 ^ i + 2 ^ i := by rw [Nat.pow_succ]; omega
    refine x_iload_n dX1_joinAll_33 rfl ?_
    refine x_aload_n dX1_joinAll_34 rfl ?_
    refine x_get fX1_21 m0 rfl dX1_joinAll_35 ?_
    refine x_icmp_ge_f 97 dX1_joinAll_38 (by decide) (ge_f rfl hi (by omega)) ?_
    refine x_iconst (v := 1) dX1_joinAll_41 (by decide) ?_
    refine x_iload_n dX1_joinAll_42 rfl ?_
    refine x_ishl dX1_joinAll_43 ?_
    refine sw_top (sh1 _ (by omega)) ?_
    refine x_ist_3 dX1_joinAll_44 (by decide) rfl ?_
    refine x_iconst (v := 0) dX1_joinAll_45 (by decide) ?_
    refine x_ist_4 dX1_joinAll_46 (by decide) rfl ?_
    refine lp_up (P := fun s => ∀ h2 J2, isC h2 c J2 K X (nI (2 ^ V.1 0)) (lN (2 ^ (3 * V.1 0))) → okJ V J2 (2 ^ i) → (∀ r, r < s → ∀ a b, a < 8 → b < 8 → bm (J2 (2 ^ i + r)) (8 * a + b) = (rea V (2 ^ i + r) a 7).testBit b) → Fr c 4 h h2 → Ex g mX1_joinAll _ 48 [some (.ref c), some (.ref w), some (.int (nI i)), some (.int (nI (2 ^ i))), some (.int (nI s))] [] h2 0 0) (2 ^ i) (fun s hs ihs h2 J2 hi2 hj2 hk2 hf2 => ?_) (fun h2 J2 hi2 hj2 hk2 hf2 => ?_) 0 (Nat.zero_le _) h1 J1 hi1 hj1 (fun r q => absurd q (Nat.not_lt_zero r)) hf1
    · have v2 := hv.fr hf2 hd
      obtain ⟨ok3, a3, hw3, rp3⟩ := id v2
      have n0 := hw3.1
      have n2 := hw3.2 1 (by decide)
      have n3 := hw3.2 2 (by decide)
      have e1 := rp3.1 1 i (by decide) hi
      have e2 := rp3.1 2 i (by decide) hi
      refine x_iload dX1_joinAll_48 rfl ?_
      refine x_iload_n dX1_joinAll_50 rfl ?_
      refine x_icmp_ge_f 91 dX1_joinAll_51 (by decide) (ge_f rfl hs (by omega)) ?_
      refine x_aload_n dX1_joinAll_54 rfl ?_
      refine x_get fX1_9 hi2.1 rfl dX1_joinAll_55 ?_
      refine x_iload dX1_joinAll_58 rfl ?_
      refine x_iload_n dX1_joinAll_60 rfl ?_
      refine x_ior dX1_joinAll_61 ?_
      refine sw_top (show nI s ||| nI (2 ^ i) = nI (2 ^ i + s) by rw [fa_or, or_add hs]) ?_
      refine x_aload_n dX1_joinAll_62 rfl ?_
      refine x_get fX1_9 hi2.1 rfl dX1_joinAll_63 ?_
      refine x_iload dX1_joinAll_66 rfl ?_
      refine x_lald s hi2.2.1 rfl (by omega) (by decide) dX1_joinAll_68 ?_
      refine x_aload_n dX1_joinAll_69 rfl ?_
      refine x_getR fX1_36 n0 rfl dX1_joinAll_70 ?_
      refine x_iload_n dX1_joinAll_73 rfl ?_
      refine x_iald i n2 rfl (by show i < 8; omega) (by decide) dX1_joinAll_74 ?_
      refine sw_top e1 ?_
      refine x_aload_n dX1_joinAll_75 rfl ?_
      refine x_getR fX1_40 n0 rfl dX1_joinAll_76 ?_
      refine x_iload_n dX1_joinAll_79 rfl ?_
      refine x_iald i n3 rfl (by show i < 8; omega) (by decide) dX1_joinAll_80 ?_
      refine sw_top e2 ?_
      refine x_rdS (c_X1_joinedToo ok2.2.1 ok2.2.2.1) lkX1_joinedToo sX1_43 dX1_joinAll_81 rfl rfl (Nat.le_of_ble_eq_true rfl) (by decide) ⟨rfl, rfl, by decide, by decide⟩ ?_
      refine x_last (2 ^ i + s) hi2.2.1 rfl (by omega) (by decide) dX1_joinAll_84 ?_
      refine x_inc_4  dX1_joinAll_85 (by decide) (nI_inc _) rfl ?_
      refine x_goto 48 dX1_joinAll_88 (by decide) ?_
      refine ihs _ _ (isC.rJ hi2) (fun r hr a b ha hb => ?_) (fun r hr a b ha hb => ?_) (hf2.tr (Fr.set (by omega) (by omega)))
      · simp only [va_up, if_neg (show ¬ r = 2 ^ i + s by omega)]; exact hj2 r hr a b ha hb
      · by_cases e : r = s
        · subst e; simp only [va_up, if_true]; exact okJ_too okw hi hs (hj2 r hs) a b ha hb
        · simp only [va_up, if_neg (show ¬ 2 ^ i + r = 2 ^ i + s by omega)]; exact hk2 r (by omega) a b ha hb
    · refine x_iload dX1_joinAll_48 rfl ?_
      refine x_iload_n dX1_joinAll_50 rfl ?_
      refine x_icmp_ge_t 91 dX1_joinAll_51 (by decide) (ge_t rfl (by omega)) ?_
      refine x_inc_2  dX1_joinAll_91 (by decide) (nI_inc _) rfl ?_
      refine x_goto 33 dX1_joinAll_94 (by decide) ?_
      refine ih h2 J2 _ _ hi2 (fun r hr a b ha hb => ?_) hf2
      rcases Nat.lt_or_ge r (2 ^ i) with q | q
      · exact hj2 r q a b ha hb
      · have := hk2 (r - 2 ^ i) (by omega) a b ha hb
        rwa [show 2 ^ i + (r - 2 ^ i) = r by omega] at this
  · have v1 := hv.fr hf1 hd
    have m0 := v1.o
    refine x_iload_n dX1_joinAll_33 rfl ?_
    refine x_aload_n dX1_joinAll_34 rfl ?_
    refine x_get fX1_21 m0 rfl dX1_joinAll_35 ?_
    refine x_icmp_ge_t 97 dX1_joinAll_38 (by decide) (ge_t rfl (by omega)) ?_
    refine x_vret rfl dX1_joinAll_97 ⟨by decide, by decide⟩ ?_
    exact ⟨rfl, J1, hi1, hj1, hf1⟩
  · intro r hr a b ha hb
    have hr : r < 1 := hr
    rw [show r = 0 by omega, rea_0 okw ha]
    simp only [va_up, if_true]
    exact apart_bm a ha b hb
theorem stays_le {V : VS} (hv : okV V) {p : Nat} (hp : p < V.1 0) : stays V p ≤ 8 := by
  have := hv.2.2.2.1 p hp
  unfold stays
  repeat' split
  all_goals omega
theorem comes_le {V : VS} (hv : okV V) {p : Nat} (hp : p < V.1 0) : comes V p ≤ 8 := by
  have := hv.2.2.2.1 p hp
  unfold comes
  repeat' split
  all_goals omega
theorem chn_le {V : VS} (hv : okV V) {p : Nat} (hp : p < V.1 0) (b : Bool) : chn V p b ≤ 8 := by
  unfold chn
  split
  · exact Nat.le_refl _
  · split
    · exact stays_le hv hp
    · exact comes_le hv hp
/-- how likely, of 8 to the number of paths, it is s that is there behind the next night; c: of each path -/
def cwt (c : Nat → Nat) (s : Nat) : Nat → Nat
  | 0 => 1
  | p + 1 => cwt c s p * (if s.testBit p then c p else 8 - c p)
def chv (V : VS) (p : Nat) : Nat := chn V p ((V.1 3).testBit p)
theorem cwt_c {c : Nat → Nat} {s t : Nat} : ∀ n, (∀ p, p < n → s.testBit p = t.testBit p) → cwt c s n = cwt c t n
  | 0, _ => rfl
  | n + 1, h => by rw [cwt, cwt, cwt_c n (fun p hp => h p (by omega)), h n (by omega)]
theorem mulL {a b : Nat} (h : b < 2 ^ 31) : lN a * (nI b).toInt64 = lN (a * b) := by rw [nI_l h, lN_mul]
theorem sub8 {x : Nat} (h : x ≤ 8) : (8 : Int32) - nI x = nI (8 - x) := pk_sub (a := 8) h
def okK (c : Nat → Nat) (K : Nat → Int64) (n : Nat) : Prop := ∀ s, s < 2 ^ n → K s = lN (cwt c s n)
set_option maxRecDepth 10000 in
set_option maxHeartbeats 2000000 in
theorem c_X1_lookAhead {g : gG} {h : gH} {c : Nat} {J K X : Nat → Int64} {s0 : Int32} {wh : Int64} {w : Nat} {V : VS} (hv : isV h w V) (hi0 : isC h c J K X s0 wh) (hd : w + 12 ≤ c ∨ c + 4 ≤ w) : Ct g mX1_lookAhead [.ref c, .ref w] h none (fun h' => ∃ J' K', isC h' c J' K' X (nI (2 ^ V.1 0)) (lN (2 ^ (3 * V.1 0))) ∧ okJ V J' (2 ^ V.1 0) ∧ okK (chv V) K' (V.1 0) ∧ Fr c 4 h h') := by
  obtain ⟨okw, a, hww, rpw⟩ := id hv
  have kwp : V.1 0 ≤ 8 := okw.1.1
  have kww : V.1 1 ≤ 4 := okw.1.2.1
  have kwr : V.1 2 ≤ 4 := okw.1.2.2
  have w0 : h.1 w = some (.inr (10, wF w (wS V))) := hww.1
  have w1 : h.1 (w + 1) = some (.inl (0, 8, .inl (a 0))) := hww.2 0 (by decide)
  have w2 : h.1 (w + 2) = some (.inl (0, 8, .inl (a 1))) := hww.2 1 (by decide)
  have w3 : h.1 (w + 3) = some (.inl (0, 8, .inl (a 2))) := hww.2 2 (by decide)
  have w4 : h.1 (w + 4) = some (.inl (0, 8, .inl (a 3))) := hww.2 3 (by decide)
  have w5 : h.1 (w + 5) = some (.inl (0, 8, .inl (a 4))) := hww.2 4 (by decide)
  have w6 : h.1 (w + 6) = some (.inl (0, 4, .inl (a 5))) := hww.2 5 (by decide)
  have w7 : h.1 (w + 7) = some (.inl (0, 4, .inl (a 6))) := hww.2 6 (by decide)
  have w8 : h.1 (w + 8) = some (.inl (0, 4, .inl (a 7))) := hww.2 7 (by decide)
  have w9 : h.1 (w + 9) = some (.inl (0, 8, .inl (a 8))) := hww.2 8 (by decide)
  have w10 : h.1 (w + 10) = some (.inl (0, 4, .inl (a 9))) := hww.2 9 (by decide)
  have w11 : h.1 (w + 11) = some (.inl (0, 4, .inl (a 10))) := hww.2 10 (by decide)
  have c0 := hi0.1
  have c1 := hi0.2.1
  have c2 := hi0.2.2.1
  have c3 := hi0.2.2.2
  refine Cn.of (L := [some (.ref c), some (.ref w), none, none, none, none]) (by decide) (Nat.le_of_ble_eq_true rfl) rfl ?_
  refine x_aload_n dX1_lookAhead_0 rfl ?_
  refine x_aload_n dX1_lookAhead_1 rfl ?_
  refine x_cnV (c_X1_joinAll hv hi0 hd) (by assumption) lkX1_joinAll sX1_49 dX1_lookAhead_2 rfl rfl (Nat.le_of_ble_eq_true rfl) (by decide) ⟨rfl, rfl, by decide, by decide⟩ ?_
  rintro hA ⟨J1, I1, hJ1, F1⟩
  refine x_aload_n dX1_lookAhead_5 rfl ?_
  refine x_get fX1_15 I1.1 rfl dX1_lookAhead_6 ?_
  refine x_iconst (v := 0) dX1_lookAhead_9 (by decide) ?_
  refine x_lconst (v := 1) dX1_lookAhead_10 (by decide) ?_
  refine x_last 0 I1.2.2.1 rfl (by decide) (by decide) dX1_lookAhead_11 ?_
  have I3 := isC.rK (J' := va_up K 0 1) I1
  have FR3 := F1.tr (Fr.set (a := c + 2) (e := .inl (1, 256, .inr (.inl (va_up K 0 1)))) (by omega) (by omega))
  refine x_iconst (v := 0) dX1_lookAhead_12 (by decide) ?_
  refine x_ist_2 dX1_lookAhead_13 (by decide) rfl ?_
  refine lp_up (P := fun i => ∀ h1 K1 u v z, isC h1 c J1 K1 X (nI (2 ^ V.1 0)) (lN (2 ^ (3 * V.1 0))) → okK (chv V) K1 i → Fr c 4 h h1 → Ex g mX1_lookAhead _ 14 [some (.ref c), some (.ref w), some (.int (nI i)), u, v, z] [] h1 0 0) (V.1 0) (fun i hi ih h1 K1 u v z hi1 hj1 hf1 => ?_) (fun h1 K1 u v z hi1 hj1 hf1 => ?_) 0 (Nat.zero_le _) _ _ none none none I3 ?_ FR3
  · have v1 := hv.fr hf1 hd
    obtain ⟨ok1, a1, hw1, rp1⟩ := id v1
    have m0 := hw1.1
    have p8 := p256 (show i + 1 ≤ 8 by omega)
    have p9 : 2 ^ (i + 1) = 2 ^ i + 2 ^ i := by rw [Nat.pow_succ]; omega
    have l8 : chv V i ≤ 8 := chn_le okw hi _
    refine x_iload_n dX1_lookAhead_14 rfl ?_
    refine x_aload_n dX1_lookAhead_15 rfl ?_
    refine x_get fX1_21 m0 rfl dX1_lookAhead_16 ?_
    refine x_icmp_ge_f 95 dX1_lookAhead_19 (by decide) (ge_f rfl hi (by omega)) ?_
    refine x_iconst (v := 1) dX1_lookAhead_22 (by decide) ?_
    refine x_iload_n dX1_lookAhead_23 rfl ?_
    refine x_ishl dX1_lookAhead_24 ?_
    refine sw_top (sh1 _ (by omega)) ?_
    refine x_ist_3 dX1_lookAhead_25 (by decide) rfl ?_
    refine x_aload_n dX1_lookAhead_26 rfl ?_
    refine x_iload_n dX1_lookAhead_27 rfl ?_
    refine x_aload_n dX1_lookAhead_28 rfl ?_
    refine x_iload_n dX1_lookAhead_29 rfl ?_
    refine x_rdV (c_X10_isThere v1 (by omega)) m0 lkX10_isThere sX1_53 dX1_lookAhead_30 rfl rfl (Nat.le_of_ble_eq_true rfl) (by decide) ⟨rfl, rfl, by decide, by decide⟩ ?_
    refine x_rdV (c_X10_chanceOf v1 hi) m0 lkX10_chanceOf sX1_57 dX1_lookAhead_33 rfl rfl (Nat.le_of_ble_eq_true rfl) (by decide) ⟨rfl, rfl, by decide, by decide⟩ ?_
    refine x_ist_4 dX1_lookAhead_36 (by decide) rfl ?_
    refine x_iconst (v := 0) dX1_lookAhead_38 (by decide) ?_
    refine x_ist_5 dX1_lookAhead_39 (by decide) rfl ?_
    refine lp_up (P := fun s => ∀ h2 K2, isC h2 c J1 K2 X (nI (2 ^ V.1 0)) (lN (2 ^ (3 * V.1 0))) → (∀ r, r < s → K2 r = lN (cwt (chv V) r (i + 1)) ∧ K2 (2 ^ i + r) = lN (cwt (chv V) (2 ^ i + r) (i + 1))) → (∀ r, s ≤ r → r < 2 ^ i → K2 r = lN (cwt (chv V) r i)) → Fr c 4 h h2 → Ex g mX1_lookAhead _ 41 [some (.ref c), some (.ref w), some (.int (nI i)), some (.int (nI (2 ^ i))), some (.int (nI (chv V i))), some (.int (nI s))] [] h2 0 0) (2 ^ i) (fun s hs ihs h2 K2 hi2 hj2 hk2 hf2 => ?_) (fun h2 K2 hi2 hj2 hk2 hf2 => ?_) 0 (Nat.zero_le _) h1 K1 hi1 (fun r q => absurd q (Nat.not_lt_zero r)) (fun r _ q => hj1 r q) hf1
    · have low : ∀ r, r < 2 ^ i → cwt (chv V) r (i + 1) = cwt (chv V) r i * (8 - chv V i) := fun r hr => by rw [cwt, tb_big hr (Nat.le_refl _)]; rfl
      have high : ∀ r, r < 2 ^ i → cwt (chv V) (2 ^ i + r) (i + 1) = cwt (chv V) r i * chv V i := fun r hr => by
        rw [cwt, tb_add hr, decide_eq_true rfl, Bool.or_true, if_pos rfl, cwt_c (t := r) i (fun p hp => by rw [tb_add hr, decide_eq_false (by omega), Bool.or_false])]
      refine x_iload dX1_lookAhead_41 rfl ?_
      refine x_iload_n dX1_lookAhead_43 rfl ?_
      refine x_icmp_ge_f 89 dX1_lookAhead_44 (by decide) (ge_f rfl hs (by omega)) ?_
      refine x_aload_n dX1_lookAhead_47 rfl ?_
      refine x_get fX1_15 hi2.1 rfl dX1_lookAhead_48 ?_
      refine x_iload dX1_lookAhead_51 rfl ?_
      refine x_iload_n dX1_lookAhead_53 rfl ?_
      refine x_ior dX1_lookAhead_54 ?_
      refine sw_top (show nI s ||| nI (2 ^ i) = nI (2 ^ i + s) by rw [fa_or, or_add hs]) ?_
      refine x_aload_n dX1_lookAhead_55 rfl ?_
      refine x_get fX1_15 hi2.1 rfl dX1_lookAhead_56 ?_
      refine x_iload dX1_lookAhead_59 rfl ?_
      refine x_lald s hi2.2.2.1 rfl (by omega) (by decide) dX1_lookAhead_61 ?_
      refine sw_topl (hk2 s (Nat.le_refl _) hs) ?_
      refine x_iload dX1_lookAhead_62 rfl ?_
      refine x_i2l dX1_lookAhead_64 ?_
      refine x_lmul dX1_lookAhead_65 ?_
      refine sw_topl (show _ = lN (cwt (chv V) s i * chv V i) from mulL (by omega)) ?_
      refine x_last (2 ^ i + s) hi2.2.2.1 rfl (by omega) (by decide) dX1_lookAhead_66 ?_
      have q2 := isC.rK (J' := va_up K2 (2 ^ i + s) (lN (cwt (chv V) s i * chv V i))) hi2
      refine x_aload_n dX1_lookAhead_67 rfl ?_
      refine x_get fX1_15 q2.1 rfl dX1_lookAhead_68 ?_
      refine x_iload dX1_lookAhead_71 rfl ?_
      refine x_dup2 dX1_lookAhead_73 rfl rfl ?_
      refine x_lald s q2.2.2.1 rfl (by omega) (by decide) dX1_lookAhead_74 ?_
      refine sw_topl (show va_up K2 (2 ^ i + s) (lN (cwt (chv V) s i * chv V i)) s = lN (cwt (chv V) s i) by simp only [va_up, if_neg (show ¬ s = 2 ^ i + s by have := Nat.pos_of_ne_zero (show 2 ^ i ≠ 0 by simp); omega)]; exact hk2 s (Nat.le_refl _) hs) ?_
      refine x_bipush (v := 8) dX1_lookAhead_75 (by decide) ?_
      refine x_iload dX1_lookAhead_77 rfl ?_
      refine x_isub dX1_lookAhead_79 ?_
      refine sw_top (sub8 l8) ?_
      refine x_i2l dX1_lookAhead_80 ?_
      refine x_lmul dX1_lookAhead_81 ?_
      refine sw_topl (show _ = lN (cwt (chv V) s i * (8 - chv V i)) from mulL (by omega)) ?_
      refine x_last s q2.2.2.1 rfl (by omega) (by decide) dX1_lookAhead_82 ?_
      refine x_inc_5  dX1_lookAhead_83 (by decide) (nI_inc _) rfl ?_
      refine x_goto 41 dX1_lookAhead_86 (by decide) ?_
      have h0 : 0 < 2 ^ i := Nat.pos_of_ne_zero (by simp)
      refine ihs _ _ (isC.rK q2) (fun r hr => ?_) (fun r hr hr2 => ?_) ((hf2.tr (Fr.set (by omega) (by omega))).tr (Fr.set (by omega) (by omega)))
      · by_cases e : r = s
        · subst e
          refine ⟨?_, ?_⟩
          · rw [low r hs]; simp only [va_up, if_true]
          · rw [high r hs]; simp only [va_up, if_neg (show ¬ 2 ^ i + r = r by omega), if_true]
        · have := hj2 r (by omega)
          refine ⟨?_, ?_⟩
          · simp only [va_up, if_neg e, if_neg (show ¬ r = 2 ^ i + s by omega)]; exact this.1
          · simp only [va_up, if_neg (show ¬ 2 ^ i + r = s by omega), if_neg (show ¬ 2 ^ i + r = 2 ^ i + s by omega)]; exact this.2
      · simp only [va_up, if_neg (show ¬ r = s by omega), if_neg (show ¬ r = 2 ^ i + s by omega)]; exact hk2 r (by omega) hr2
    · refine x_iload dX1_lookAhead_41 rfl ?_
      refine x_iload_n dX1_lookAhead_43 rfl ?_
      refine x_icmp_ge_t 89 dX1_lookAhead_44 (by decide) (ge_t rfl (by omega)) ?_
      refine x_inc_2  dX1_lookAhead_89 (by decide) (nI_inc _) rfl ?_
      refine x_goto 14 dX1_lookAhead_92 (by decide) ?_
      refine ih h2 K2 _ _ _ hi2 (fun r hr => ?_) hf2
      rcases Nat.lt_or_ge r (2 ^ i) with q | q
      · exact (hj2 r q).1
      · have := (hj2 (r - 2 ^ i) (by omega)).2
        rwa [show 2 ^ i + (r - 2 ^ i) = r by omega] at this
  · have v1 := hv.fr hf1 hd
    have m0 := v1.o
    refine x_iload_n dX1_lookAhead_14 rfl ?_
    refine x_aload_n dX1_lookAhead_15 rfl ?_
    refine x_get fX1_21 m0 rfl dX1_lookAhead_16 ?_
    refine x_icmp_ge_t 95 dX1_lookAhead_19 (by decide) (ge_t rfl (by omega)) ?_
    refine x_vret rfl dX1_lookAhead_95 ⟨by decide, by decide⟩ ?_
    exact ⟨rfl, J1, K1, hi1, hJ1, hj1, hf1⟩
  · intro r hr
    have hr : r < 1 := hr
    rw [show r = 0 by omega]
    rfl
