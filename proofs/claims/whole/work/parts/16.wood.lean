theorem dist_le (V : VS) (t a b : Nat) : dist V t a b ≤ 8 := fa_first_le _ _
theorem dI_eq {x y : Nat} (hy : y < 8) : dI x = nI y ↔ x = y := by
  unfold dI
  split
  · exact nI_eq (by omega) (by omega)
  · constructor
    · intro h
      have key : ∀ y, y < 8 → ¬ (-3 : Int32) = nI y := by decide +kernel
      exact absurd h (key y hy)
    · intro h; omega
theorem dI_pos {x : Nat} (hx : x ≤ 8) : dI x ≤ 0 ↔ ¬ (0 < x ∧ x < 8) := by
  have key : ∀ x, x < 9 → (dI x ≤ 0 ↔ ¬ (0 < x ∧ x < 8)) := by decide +kernel
  exact key x (by omega)
set_option maxRecDepth 10000 in
set_option maxHeartbeats 2000000 in
theorem c_X10_distance {g : gG} {h : gH} {w : Nat} {V : VS} {c b : Nat} (hv : isV h w V) (hc : c < 8) (hb : b < 8) : Rd g mX10_distance [.ref w, .int (nI c), .int (nI b)] h (.int (dI (dist V (V.1 3) c b))) := by
  obtain ⟨okw, a, hww, rpw⟩ := id hv
  have kwp : V.1 0 ≤ 8 := okw.1.1
  have kww : V.1 1 ≤ 4 := okw.1.2.1
  have kwr : V.1 2 ≤ 4 := okw.1.2.2
  have w0 : h.1 w = some (.inr (10, wF w (wS V))) := hww.1
  have w1 : h.1 (w + 1) = some (.inl (0, 8, .inl (a 0))) := hww.2 0 (by decide)
  have w2 : h.1 (w + 2) = some (.inl (0, 8, .inl (a 1))) := hww.2 1 (by decide)
  have w3 : h.1 (w + 3) = some (.inl (0, 8, .inl (a 2))) := hww.2 2 (by decide)
  have w4 : h.1 (w + 4) = some (.inl (0, 8, .inl (a 3))) := hww.2 3 (by decide)
  have w5 : h.1 (w + 5) = some (.inl (0, 8, .inl (a 4))) := hww.2 4 (by decide)
  have w6 : h.1 (w + 6) = some (.inl (0, 4, .inl (a 5))) := hww.2 5 (by decide)
  have w7 : h.1 (w + 7) = some (.inl (0, 4, .inl (a 6))) := hww.2 6 (by decide)
  have w8 : h.1 (w + 8) = some (.inl (0, 4, .inl (a 7))) := hww.2 7 (by decide)
  have w9 : h.1 (w + 9) = some (.inl (0, 8, .inl (a 8))) := hww.2 8 (by decide)
  have w10 : h.1 (w + 10) = some (.inl (0, 4, .inl (a 9))) := hww.2 9 (by decide)
  have w11 : h.1 (w + 11) = some (.inl (0, 4, .inl (a 10))) := hww.2 10 (by decide)
  refine Cn.of (L := [some (.ref w), some (.int (nI c)), some (.int (nI b)), none, none]) (by decide) (Nat.le_of_ble_eq_true rfl) rfl ?_
  refine x_iconst (v := 1) dX10_distance_0 (by decide) ?_
  refine x_iload_n dX10_distance_1 rfl ?_
  refine x_ishl dX10_distance_2 ?_
  rw [sh1 _ (by omega)]
  refine x_ist_3 dX10_distance_3 (by decide) rfl ?_
  refine x_iconst (v := 0) dX10_distance_4 (by decide) ?_
  refine x_ist_4 dX10_distance_5 (by decide) rfl ?_
  refine lp_up (P := fun i => (∀ j, j < i → (rea V (V.1 3) c j).testBit b = false) → Ex g mX10_distance _ 7 [some (.ref w), some (.int (nI c)), some (.int (nI b)), some (.int (nI (rea V (V.1 3) c i))), some (.int (nI i))] [] h 0 0) 8 (fun i hi ih hj => ?_) (fun hj => ?_) 0 (by decide) (fun j q => absurd q (Nat.not_lt_zero j))
  · have hS := inS_iff (x := rea V (V.1 3) c i) (k := b) (Nat.lt_trans (rea_lt okw _ hc _) (by decide)) (by omega)
    refine x_iload dX10_distance_7 rfl ?_
    refine x_bipush (v := 8) dX10_distance_9 (by decide) ?_
    refine x_icmp_ge_f 37 dX10_distance_11 (by decide) (c8 hi) ?_
    refine x_iload_n dX10_distance_14 rfl ?_
    refine x_iload_n dX10_distance_15 rfl ?_
    refine x_rdSN c_X11_isInSet lkX11_isInSet sNX10_92 dX10_distance_16 rfl rfl (Nat.le_of_ble_eq_true rfl) (by decide) ⟨rfl, rfl, by decide, by decide⟩ ?_
    refine x_if_eqB 25 dX10_distance_19 (by decide) (fun c19 => ?_) (fun c19 => ?_)
    · refine x_aload_n dX10_distance_25 rfl ?_
      refine x_iload_n dX10_distance_26 rfl ?_
      refine x_rdV (c_X10_grown hv (rea_lt okw _ hc _)) (by assumption) lkX10_grown sX10_135 dX10_distance_27 rfl rfl (Nat.le_of_ble_eq_true rfl) (by decide) ⟨rfl, rfl, by decide, by decide⟩ ?_
      refine x_ist_3 dX10_distance_30 (by decide) rfl ?_
      refine x_inc_4  dX10_distance_31 (by decide) (nI_inc _) rfl ?_
      refine x_goto 7 dX10_distance_34 (by decide) ?_
      rw [hS] at c19
      exact ih (fun j q => (Nat.lt_or_ge j i).elim (hj j) (fun z => by rw [show j = i by omega]; simpa using c19))
    · refine x_iload dX10_distance_22 rfl ?_
      refine x_iret rfl dX10_distance_24 ⟨by decide, by decide⟩ ?_
      rw [hS] at c19
      exact ⟨by rw [show dist V (V.1 3) c b = i from first_is hi c19 hj]; simp [dI, hi], rfl⟩
  · refine x_iload dX10_distance_7 rfl ?_
    refine x_bipush (v := 8) dX10_distance_9 (by decide) ?_
    refine x_icmp_ge_t 37 dX10_distance_11 (by decide) (by decide) ?_
    refine x_bipush (v := -3) dX10_distance_37 (by decide) ?_
    refine x_iret rfl dX10_distance_39 ⟨by decide, by decide⟩ ?_
    exact ⟨by rw [show dist V (V.1 3) c b = 8 from first_no hj]; rfl, rfl⟩
theorem oth_lt {V : VS} (hv : okV V) {p : Nat} (hp : p < V.1 0) (c : Nat) : oth V p c < 8 := by
  have h1 := hv.2.2.2.1 p hp
  unfold oth; split
  · exact h1.2.2.1
  · exact h1.2.1
theorem oth_I {V : VS} (hv : okV V) {p c : Nat} (hp : p < V.1 0) (hc : c < 8) : (if nI (V.2.2 1 p) = nI c then V.2.2 2 p else V.2.2 1 p) = oth V p c := by
  have h1 := hv.2.2.2.1 p hp
  unfold oth
  by_cases e : V.2.2 1 p = c
  · rw [if_pos e, if_pos (by rw [e])]
  · rw [if_neg e, if_neg (fun q => e (nI_eqn (by omega) (by omega) q))]
theorem le_I {x : Nat} (h : x < 2 ^ 31) : nI x ≤ 0 ↔ x = 0 := by
  constructor
  · intro q
    rcases Nat.eq_zero_or_pos x with h0 | h0
    · exact h0
    · exact absurd q (nI_nle h0 h)
  · intro q; subst q; decide
set_option maxRecDepth 10000 in
set_option maxHeartbeats 2000000 in
theorem c_X10_firstStep {g : gG} {h : gH} {w : Nat} {V : VS} {c b : Nat} (hv : isV h w V) (hc : c < 8) (hb : b < 8) : Rd g mX10_firstStep [.ref w, .int (nI c), .int (nI b)] h (.int (fI (V.1 0) (fst V c b))) := by
  obtain ⟨okw, a, hww, rpw⟩ := id hv
  have kwp : V.1 0 ≤ 8 := okw.1.1
  have kww : V.1 1 ≤ 4 := okw.1.2.1
  have kwr : V.1 2 ≤ 4 := okw.1.2.2
  have w0 : h.1 w = some (.inr (10, wF w (wS V))) := hww.1
  have w1 : h.1 (w + 1) = some (.inl (0, 8, .inl (a 0))) := hww.2 0 (by decide)
  have w2 : h.1 (w + 2) = some (.inl (0, 8, .inl (a 1))) := hww.2 1 (by decide)
  have w3 : h.1 (w + 3) = some (.inl (0, 8, .inl (a 2))) := hww.2 2 (by decide)
  have w4 : h.1 (w + 4) = some (.inl (0, 8, .inl (a 3))) := hww.2 3 (by decide)
  have w5 : h.1 (w + 5) = some (.inl (0, 8, .inl (a 4))) := hww.2 4 (by decide)
  have w6 : h.1 (w + 6) = some (.inl (0, 4, .inl (a 5))) := hww.2 5 (by decide)
  have w7 : h.1 (w + 7) = some (.inl (0, 4, .inl (a 6))) := hww.2 6 (by decide)
  have w8 : h.1 (w + 8) = some (.inl (0, 4, .inl (a 7))) := hww.2 7 (by decide)
  have w9 : h.1 (w + 9) = some (.inl (0, 8, .inl (a 8))) := hww.2 8 (by decide)
  have w10 : h.1 (w + 10) = some (.inl (0, 4, .inl (a 9))) := hww.2 9 (by decide)
  have w11 : h.1 (w + 11) = some (.inl (0, 4, .inl (a 10))) := hww.2 10 (by decide)
  have hD := dI_pos (dist_le V (V.1 3) c b)
  refine Cn.of (L := [some (.ref w), some (.int (nI c)), some (.int (nI b)), none, none]) (by decide) (Nat.le_of_ble_eq_true rfl) rfl ?_
  refine x_aload_n dX10_firstStep_0 rfl ?_
  refine x_iload_n dX10_firstStep_1 rfl ?_
  refine x_iload_n dX10_firstStep_2 rfl ?_
  refine x_rdV (c_X10_distance hv hc hb) (by assumption) lkX10_distance sX10_146 dX10_firstStep_3 rfl rfl (Nat.le_of_ble_eq_true rfl) (by decide) ⟨rfl, rfl, by decide, by decide⟩ ?_
  refine x_ist_3 dX10_firstStep_6 (by decide) rfl ?_
  refine x_iconst (v := 0) dX10_firstStep_7 (by decide) ?_
  refine x_ist_4 dX10_firstStep_8 (by decide) rfl ?_
  refine lp_up (P := fun i => (0 < dist V (V.1 3) c b ∧ dist V (V.1 3) c b < 8 → ∀ j, j < i → ((V.1 3).testBit j && decide (V.2.2 1 j = c ∨ V.2.2 2 j = c) && decide (dist V (V.1 3) (oth V j c) b + 1 = dist V (V.1 3) c b)) = false) → Ex g mX10_firstStep _ 10 [some (.ref w), some (.int (nI c)), some (.int (nI b)), some (.int (dI (dist V (V.1 3) c b))), some (.int (nI i))] [] h 0 0) (V.1 0) (fun i hi ih hj => ?_) (fun hj => ?_) 0 (Nat.zero_le _) (fun _ j q => absurd q (Nat.not_lt_zero j))
  · have ok2 := okw.2.2.2.1 i hi
    have i8 : i < 8 := by omega
    have ee : (nI (V.2.2 1 i) = nI c ∨ nI (V.2.2 2 i) = nI c) ↔ (V.2.2 1 i = c ∨ V.2.2 2 i = c) := by rw [nI_eq (by omega) (by omega), nI_eq (by omega) (by omega)]
    have go : ((V.1 3).testBit i && decide (V.2.2 1 i = c ∨ V.2.2 2 i = c) && decide (dist V (V.1 3) (oth V i c) b + 1 = dist V (V.1 3) c b)) = false → ∀ q : (0 < dist V (V.1 3) c b ∧ dist V (V.1 3) c b < 8), ∀ j, j < i + 1 → ((V.1 3).testBit j && decide (V.2.2 1 j = c ∨ V.2.2 2 j = c) && decide (dist V (V.1 3) (oth V j c) b + 1 = dist V (V.1 3) c b)) = false := fun z q j hz => (Nat.lt_or_ge j i).elim (hj q j) (fun y => by rw [show j = i by omega]; exact z)
    refine x_iload dX10_firstStep_10 rfl ?_
    refine x_aload_n dX10_firstStep_12 rfl ?_
    refine x_get fX10_61 (by assumption) rfl dX10_firstStep_13 ?_
    refine x_icmp_ge_f 69 dX10_firstStep_16 (by decide) (ge_f rfl hi (by omega)) ?_
    refine x_iload_n dX10_firstStep_19 rfl ?_
    refine x_if_le 69 dX10_firstStep_20 (by decide) (fun c20 => ?_) (fun c20 => ?_)
    · refine x_bipush (v := -9) dX10_firstStep_69 (by decide) ?_
      refine x_iret rfl dX10_firstStep_71 ⟨by decide, by decide⟩ ?_
      exact ⟨by rw [fst, if_neg (hD.mp c20)]; simp [fI], rfl⟩
    · refine x_aload_n dX10_firstStep_23 rfl ?_
      refine x_iload dX10_firstStep_24 rfl ?_
      refine x_rdV (c_X10_isThere hv (by omega)) (by assumption) lkX10_isThere sX10_99 dX10_firstStep_26 rfl rfl (Nat.le_of_ble_eq_true rfl) (by decide) ⟨rfl, rfl, by decide, by decide⟩ ?_
      refine x_if_eqB 63 dX10_firstStep_29 (by decide) (fun c29 => ?_) (fun c29 => ?_)
      · refine x_inc_4  dX10_firstStep_63 (by decide) (nI_inc _) rfl ?_
        refine x_goto 10 dX10_firstStep_66 (by decide) ?_
        exact ih (go (by simp only [Bool.not_eq_true] at c29; simp [c29]))
      · refine x_aload_n dX10_firstStep_32 rfl ?_
        refine x_iload dX10_firstStep_33 rfl ?_
        refine x_iload_n dX10_firstStep_35 rfl ?_
        refine x_rdV (c_X10_endsAt hv hi) (by assumption) lkX10_endsAt sX10_102 dX10_firstStep_36 rfl rfl (Nat.le_of_ble_eq_true rfl) (by decide) ⟨rfl, rfl, by decide, by decide⟩ ?_
        refine x_if_eqB 63 dX10_firstStep_39 (by decide) (fun c39 => ?_) (fun c39 => ?_)
        · refine x_inc_4  dX10_firstStep_63 (by decide) (nI_inc _) rfl ?_
          refine x_goto 10 dX10_firstStep_66 (by decide) ?_
          exact ih (go (by rw [ee] at c39; simp [c39]))
        · refine x_aload_n dX10_firstStep_42 rfl ?_
          refine x_aload_n dX10_firstStep_43 rfl ?_
          refine x_iload dX10_firstStep_44 rfl ?_
          refine x_iload_n dX10_firstStep_46 rfl ?_
          refine x_rdV (c_X10_otherEnd hv hi) (by assumption) lkX10_otherEnd sX10_105 dX10_firstStep_47 rfl rfl (Nat.le_of_ble_eq_true rfl) (by decide) ⟨rfl, rfl, by decide, by decide⟩ ?_
          rw [oth_I okw hi hc]
          refine x_iload_n dX10_firstStep_50 rfl ?_
          refine x_rdV (c_X10_distance hv (oth_lt okw hi c) hb) (by assumption) lkX10_distance sX10_146 dX10_firstStep_51 rfl rfl (Nat.le_of_ble_eq_true rfl) (by decide) ⟨rfl, rfl, by decide, by decide⟩ ?_
          refine x_iload_n dX10_firstStep_54 rfl ?_
          refine x_iconst (v := 1) dX10_firstStep_55 (by decide) ?_
          refine x_isub dX10_firstStep_56 ?_
          have q := Decidable.not_not.mp (fun z => c20 (hD.mpr z))
          rw [show dI (dist V (V.1 3) c b) = nI (dist V (V.1 3) c b - 1 + 1) by rw [show dist V (V.1 3) c b - 1 + 1 = dist V (V.1 3) c b by omega]; simp [dI, q.2], show nI (dist V (V.1 3) c b - 1 + 1) - 1 = nI (dist V (V.1 3) c b - 1) from nI_pred _]
          refine x_icmp_ne 63 dX10_firstStep_57 (by decide) (fun c57 => ?_) (fun c57 => ?_)
          · refine x_inc_4  dX10_firstStep_63 (by decide) (nI_inc _) rfl ?_
            refine x_goto 10 dX10_firstStep_66 (by decide) ?_
            have n57 : ¬ dist V (V.1 3) (oth V i c) b = dist V (V.1 3) c b - 1 := fun z => c57 ((dI_eq (by omega)).mpr z)
            rw [show nI (dist V (V.1 3) c b - 1 + 1) = dI (dist V (V.1 3) c b) by rw [show dist V (V.1 3) c b - 1 + 1 = dist V (V.1 3) c b by omega]; simp [dI, q.2]]
            exact ih (go (by simp only [Bool.and_eq_false_iff, decide_eq_false_iff_not]; exact Or.inr (by omega)))
          · refine x_iload dX10_firstStep_60 rfl ?_
            refine x_iret rfl dX10_firstStep_62 ⟨by decide, by decide⟩ ?_
            have c57 := (dI_eq (by omega)).mp c57
            exact ⟨by rw [fst, if_pos q, first_is hi (by simp only [c29, Bool.true_and, Bool.and_eq_true, decide_eq_true_eq]; exact ⟨ee.mp c39, by omega⟩) (hj q)]; simp [fI, hi], rfl⟩
  · refine x_iload dX10_firstStep_10 rfl ?_
    refine x_aload_n dX10_firstStep_12 rfl ?_
    refine x_get fX10_61 (by assumption) rfl dX10_firstStep_13 ?_
    refine x_icmp_ge_t 69 dX10_firstStep_16 (by decide) (ge_t rfl (by omega)) ?_
    refine x_bipush (v := -9) dX10_firstStep_69 (by decide) ?_
    refine x_iret rfl dX10_firstStep_71 ⟨by decide, by decide⟩ ?_
    refine ⟨?_, rfl⟩
    by_cases q : 0 < dist V (V.1 3) c b ∧ dist V (V.1 3) c b < 8
    · rw [fst, if_pos q, first_no (hj q)]; simp [fI]
    · rw [fst, if_neg q]; simp [fI]
