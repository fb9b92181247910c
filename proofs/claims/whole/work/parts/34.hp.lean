theorem isX.V {h : gH} {x : Nat} {D : Nat → Prop} {S : AS} (hx : isX h x D S) : isV h (x + 1) S.1 := hx.2.2.1
set_option maxRecDepth 10000 in
set_option maxHeartbeats 2000000 in
theorem c_X11_prove {g : gG} {h : gH} {x : Nat} {D : Nat → Prop} {S : AS} (hx : isX h x D S) {n : Int32} : Ct g mX11_prove [.ref x, .int n] h (some (.int (oProve S n).1)) (Px x D (oProve S n).2 h) := by
  have ho := hx.2.1
  have hv := hx.2.2.1
  have n0 := hv.o
  have okw := hv.1
  obtain ⟨rn12, ra, rb, e43, e44, rab⟩ := hx.2.2.2.2.2.2.2.1

  refine Cn.of (L := [some (.ref x), some (.int n), none]) (by decide) (Nat.le_of_ble_eq_true rfl) rfl ?_
  refine x_iload_n dX11_prove_0 rfl ?_
  refine x_iconst (v := 1) dX11_prove_1 (by decide) ?_
  refine x_icmp_lt 11 dX11_prove_2 (by decide) (fun c2 => ?_) (fun c2 => ?_)
  · refine x_iconst (v := -1) dX11_prove_11 (by decide) ?_
    refine x_iret rfl dX11_prove_12 ⟨by decide, by decide⟩ ?_
    exact finA hx.rf (by rw [oProve, if_neg (fun q => q.1 c2)])
  · refine x_iload_n dX11_prove_5 rfl ?_
    refine x_bipush (v := 12) dX11_prove_6 (by decide) ?_
    refine x_icmp_le 13 dX11_prove_8 (by decide) (fun c8 => ?_) (fun c8 => ?_)
    · have c8x := c8
      obtain ⟨n1, hn, rfl⟩ := ut_E (b := 12) (v := n) (ut_p.mpr ⟨Int32.le_of_lt (Int32.lt_of_lt_of_le (by decide : (0 : Int32) < 1) (Int32.not_lt.mp c2)), c8x⟩) (by decide)
      obtain ⟨vs, hvs⟩ := hx.2.2.2.2.1
      have q0 := hvs.o
      refine x_aload_n dX11_prove_13 rfl ?_
      refine x_get fX11_19 ho rfl dX11_prove_14 ?_
      refine x_aload_n dX11_prove_17 rfl ?_
      refine x_get fX11_12 ho rfl dX11_prove_18 ?_
      refine x_cnV (c_X10_copyFrom hvs hv (by omega)) q0 lkX10_copyFrom sX11_72 dX11_prove_21 rfl rfl (Nat.le_of_ble_eq_true rfl) (by decide) ⟨rfl, rfl, by decide, by decide⟩ ?_
      rintro hA ⟨vA, FA⟩
      refine x_iconst (v := 0) dX11_prove_24 (by decide) ?_
      refine x_ist_2 dX11_prove_25 (by decide) rfl ?_
      refine lp_up (P := fun i => ∀ h1 a b, isX h1 x D (rwS S S.2.2.2.1.1 a b) → isV h1 (x + 25) (pnN S.1 i) → h1.1 (x + 43) = some (.inl (0, 12, .inl a)) → h1.1 (x + 44) = some (.inl (0, 12, .inl b)) → (∀ j, j < i → a j = nrP S.1 (j + 1) ∧ b j = nrC S.1 (j + 1)) → Fr x 50 h h1 → Ex g mX11_prove _ 26 [some (.ref x), some (.int (nI n1)), some (.int (nI i))] [] h1 0 0) n1 (fun i hi ih h1 a b x1 v1 e1 e2 hj F1 => ?_) (fun h1 a b x1 v1 e1 e2 hj F1 => ?_) 0 (Nat.zero_le _) hA ra rb ((hx.rw (a := ra) (b := rb) ⟨rn12, ra, rb, e43, e44, fun _ _ => ⟨rfl, rfl⟩⟩ Fr.rf).1.sp vA FA).1 vA ((FA.2 _ (by omega)).trans e43) ((FA.2 _ (by omega)).trans e44) (fun j q => absurd q (Nat.not_lt_zero j)) (FA.wid (by omega) (by omega))
      · have o1 : h1.1 x = _ := x1.2.1
        have s1 := v1.o
        refine x_iload_n dX11_prove_26 rfl ?_
        refine x_iload_n dX11_prove_27 rfl ?_
        refine x_icmp_ge_f 70 dX11_prove_28 (by decide) (ge_f rfl hi (by omega)) ?_
        refine x_aload_n dX11_prove_31 rfl ?_
        refine x_get fX11_19 o1 rfl dX11_prove_32 ?_
        refine x_cnV (c_X10_passNight v1) s1 lkX10_passNight sX11_187 dX11_prove_35 rfl rfl (Nat.le_of_ble_eq_true rfl) (by decide) ⟨rfl, rfl, by decide, by decide⟩ ?_
        rintro h2 ⟨v2, F2⟩
        obtain ⟨x2, G2⟩ := x1.sp v2 F2
        have o2 : h2.1 x = _ := x2.2.1
        have s2 := v2.o
        have e1' : h2.1 (x + 43) = _ := (F2.2 _ (by omega)).trans e1
        have e2' : h2.1 (x + 44) = _ := (F2.2 _ (by omega)).trans e2
        refine x_aload_n dX11_prove_38 rfl ?_
        refine x_get fX11_36 o2 rfl dX11_prove_39 ?_
        refine x_iload_n dX11_prove_42 rfl ?_
        refine x_aload_n dX11_prove_43 rfl ?_
        refine x_get fX11_19 o2 rfl dX11_prove_44 ?_
        refine x_get fX11_190 s2 rfl dX11_prove_47 ?_
        refine x_iast i e1' rfl (by omega) (by decide) dX11_prove_50 ?_
        obtain ⟨x3, G3⟩ := x2.rw (h' := hset h2 (x + 43) (.inl (0, 12, .inl (va_up a i (wS (pn (pnN S.1 i)) 1))))) (a := va_up a i (wS (pn (pnN S.1 i)) 1)) (b := b) ⟨rn12, _, _, hset_s, (hset_n (by omega)).trans e2', fun _ _ => ⟨rfl, rfl⟩⟩ (Fr.set (by omega) (by omega))
        have o3 : (hset h2 (x + 43) (.inl (0, 12, .inl (va_up a i (wS (pn (pnN S.1 i)) 1))))).1 x = _ := x3.2.1
        have v3 : isV (hset h2 (x + 43) (.inl (0, 12, .inl (va_up a i (wS (pn (pnN S.1 i)) 1))))) (x + 25) (pn (pnN S.1 i)) := v2.fr (Fr.set (w := x + 43) (n := 1) (by omega) (by omega)) (by omega)
        have s3 := v3.o
        have e3 : (hset h2 (x + 43) (.inl (0, 12, .inl (va_up a i (wS (pn (pnN S.1 i)) 1))))).1 (x + 44) = _ := (hset_n (by omega)).trans e2'
        refine x_aload_n dX11_prove_51 rfl ?_
        refine x_get fX11_40 o3 rfl dX11_prove_52 ?_
        refine x_iload_n dX11_prove_55 rfl ?_
        refine x_aload_n dX11_prove_56 rfl ?_
        refine x_get fX11_19 o3 rfl dX11_prove_57 ?_
        refine x_rdV (c_X10_nearFirstClearing v3) s3 lkX10_nearFirstClearing sX11_270 dX11_prove_60 rfl rfl (Nat.le_of_ble_eq_true rfl) (by decide) ⟨rfl, rfl, by decide, by decide⟩ ?_
        refine x_iast i e3 rfl (by omega) (by decide) dX11_prove_63 ?_
        refine x_inc_2  dX11_prove_64 (by decide) (nI_inc _) rfl ?_
        refine x_goto 26 dX11_prove_67 (by decide) ?_
        have FF : Fr (x + 44) 1 (hset h2 (x + 43) (.inl (0, 12, .inl (va_up a i (wS (pn (pnN S.1 i)) 1))))) _ := Fr.set (e := .inl (0, 12, .inl (va_up b i (nrC S.1 (i + 1))))) (a := x + 44) (by omega) (by omega)
        obtain ⟨x4, G4⟩ := x3.rw (a := va_up a i (wS (pn (pnN S.1 i)) 1)) (b := va_up b i (nrC S.1 (i + 1))) ⟨rn12, _, _, (FF.2 _ (by omega)).trans hset_s, hset_s, fun _ _ => ⟨rfl, rfl⟩⟩ (FF.wid (by omega) (by omega))
        refine ih _ _ _ x4 (v3.fr FF (by omega)) ((FF.2 _ (by omega)).trans hset_s) hset_s (fun j hj1 => ?_) (((F1.tr G2).tr G3).tr G4)
        by_cases e : j = i
        · subst e; exact ⟨if_pos rfl, if_pos rfl⟩
        · simp only [va_up, if_neg e]; exact hj j (by omega)
      · have o1 : h1.1 x = _ := x1.2.1
        have s1 := v1.o
        refine x_iload_n dX11_prove_26 rfl ?_
        refine x_iload_n dX11_prove_27 rfl ?_
        refine x_icmp_ge_t 70 dX11_prove_28 (by decide) (ge_t rfl (by omega)) ?_
        refine x_aload_n dX11_prove_70 rfl ?_
        refine x_iload_n dX11_prove_71 rfl ?_
        refine x_put (fs' := xF x S.2.1.1 n1) fX11_83 o1 (Nat.le_of_ble_eq_true rfl) rfl rfl rfl dX11_prove_72 ?_
        refine x_iload_n dX11_prove_75 rfl ?_
        refine x_iret rfl dX11_prove_76 ⟨by decide, by decide⟩ ?_
        obtain ⟨x5, G5⟩ := x1.ob (K := S.2.1) (n := n1) (a := fun i => nrP S.1 (i + 1)) (b := fun i => nrC S.1 (i + 1)) x1.2.2.2.1 ⟨by show n1 ≤ 12; omega, a, b, e1, e2, fun j hj1 => hj j hj1⟩
        refine finA (S' := rwS S n1 (fun i => nrP S.1 (i + 1)) (fun i => nrC S.1 (i + 1))) ⟨x5, F1.tr G5⟩ ?_
        rw [oProve, if_pos ⟨c2, c8x⟩, iN_nI (by omega)]
    · refine x_iconst (v := -1) dX11_prove_11 (by decide) ?_
      refine x_iret rfl dX11_prove_12 ⟨by decide, by decide⟩ ?_
      exact finA hx.rf (by rw [oProve, if_neg (fun q => c8 q.2)])
theorem jg_y {S : AS} {i : Nat} (hi : i < S.2.2.2.1.1) (h : ¬ (S.2.2.2.1.2.1 i = nrP S.1 (i + 1) ∧ S.2.2.2.1.2.2 i = nrC S.1 (i + 1))) (hb : ∀ j, j < i → S.2.2.2.1.2.1 j = nrP S.1 (j + 1) ∧ S.2.2.2.1.2.2 j = nrC S.1 (j + 1)) : qJudge S = nI (i + 1) := by
  have e : jgF S = i := first_is hi (decide_eq_true h) (fun j hj => decide_eq_false (fun q => q (hb j hj)))
  rw [qJudge, e, if_pos hi]
theorem jg_n {S : AS} (hb : ∀ j, j < S.2.2.2.1.1 → S.2.2.2.1.2.1 j = nrP S.1 (j + 1) ∧ S.2.2.2.1.2.2 j = nrC S.1 (j + 1)) : qJudge S = 0 := by
  have e : jgF S = S.2.2.2.1.1 := first_no (fun j hj => decide_eq_false (fun q => q (hb j hj)))
  rw [qJudge, e, if_neg (Nat.lt_irrefl _)]
set_option maxRecDepth 10000 in
set_option maxHeartbeats 2000000 in
theorem c_X11_judge {g : gG} {h : gH} {x : Nat} {D : Nat → Prop} {S : AS} (hx : isX h x D S) : Ct g mX11_judge [.ref x] h (some (.int (qJudge S))) (Px x D S h) := by
  have ho := hx.2.1
  have hv := hx.2.2.1
  have n0 := hv.o
  have okw := hv.1
  obtain ⟨rn12, ra, rb, e43, e44, rab⟩ := hx.2.2.2.2.2.2.2.1

  obtain ⟨vs, hvs⟩ := hx.2.2.2.2.1
  have q0 := hvs.o
  refine Cn.of (L := [some (.ref x), none]) (by decide) (Nat.le_of_ble_eq_true rfl) rfl ?_
  refine x_aload_n dX11_judge_0 rfl ?_
  refine x_get fX11_19 ho rfl dX11_judge_1 ?_
  refine x_aload_n dX11_judge_4 rfl ?_
  refine x_get fX11_12 ho rfl dX11_judge_5 ?_
  refine x_cnV (c_X10_copyFrom hvs hv (by omega)) q0 lkX10_copyFrom sX11_72 dX11_judge_8 rfl rfl (Nat.le_of_ble_eq_true rfl) (by decide) ⟨rfl, rfl, by decide, by decide⟩ ?_
  rintro hA ⟨vA, FA⟩
  refine x_iconst (v := 0) dX11_judge_11 (by decide) ?_
  refine x_ist_1 dX11_judge_12 (by decide) rfl ?_
  refine lp_up (P := fun i => ∀ h1, isX h1 x D S → isV h1 (x + 25) (pnN S.1 i) → h1.1 (x + 43) = some (.inl (0, 12, .inl ra)) → h1.1 (x + 44) = some (.inl (0, 12, .inl rb)) → (∀ j, j < i → S.2.2.2.1.2.1 j = nrP S.1 (j + 1) ∧ S.2.2.2.1.2.2 j = nrC S.1 (j + 1)) → Fr x 50 h h1 → Ex g mX11_judge _ 13 [some (.ref x), some (.int (nI i))] [] h1 0 0) S.2.2.2.1.1 (fun i hi ih h1 x1 v1 e1 e2 hj F1 => ?_) (fun h1 x1 v1 e1 e2 hj F1 => ?_) 0 (Nat.zero_le _) hA (hx.sp vA FA).1 vA ((FA.2 _ (by omega)).trans e43) ((FA.2 _ (by omega)).trans e44) (fun j q => absurd q (Nat.not_lt_zero j)) (FA.wid (by omega) (by omega))
  · have o1 : h1.1 x = _ := x1.2.1
    have s1 := v1.o
    refine x_iload_n dX11_judge_13 rfl ?_
    refine x_aload_n dX11_judge_14 rfl ?_
    refine x_get fX11_83 o1 rfl dX11_judge_15 ?_
    refine x_icmp_ge_f 70 dX11_judge_18 (by decide) (ge_f rfl hi (by omega)) ?_
    refine x_aload_n dX11_judge_21 rfl ?_
    refine x_get fX11_19 o1 rfl dX11_judge_22 ?_
    refine x_cnV (c_X10_passNight v1) s1 lkX10_passNight sX11_187 dX11_judge_25 rfl rfl (Nat.le_of_ble_eq_true rfl) (by decide) ⟨rfl, rfl, by decide, by decide⟩ ?_
    rintro h2 ⟨v2, F2⟩
    obtain ⟨x2, G2⟩ := x1.sp v2 F2
    have o2 : h2.1 x = _ := x2.2.1
    have s2 := v2.o
    have e1' : h2.1 (x + 43) = _ := (F2.2 _ (by omega)).trans e1
    have e2' : h2.1 (x + 44) = _ := (F2.2 _ (by omega)).trans e2
    refine x_aload_n dX11_judge_28 rfl ?_
    refine x_get fX11_36 o2 rfl dX11_judge_29 ?_
    refine x_iload_n dX11_judge_32 rfl ?_
    refine x_iald i e1' rfl (by omega) (by decide) dX11_judge_33 ?_
    refine x_aload_n dX11_judge_34 rfl ?_
    refine x_get fX11_19 o2 rfl dX11_judge_35 ?_
    refine x_get fX11_190 s2 rfl dX11_judge_38 ?_
    refine x_icmp_ne 60 dX11_judge_41 (by decide) (fun c41 => ?_) (fun c41 => ?_)
    · refine x_iload_n dX11_judge_60 rfl ?_
      refine x_iconst (v := 1) dX11_judge_61 (by decide) ?_
      refine x_iadd dX11_judge_62 ?_
      refine x_iret rfl dX11_judge_63 ⟨by decide, by decide⟩ ?_
      exact ⟨by rw [jg_y hi (fun q => c41 ((rab i hi).1.trans q.1)) hj, nI_1], x2, F1.tr G2⟩
    · refine x_aload_n dX11_judge_44 rfl ?_
      refine x_get fX11_40 o2 rfl dX11_judge_45 ?_
      refine x_iload_n dX11_judge_48 rfl ?_
      refine x_iald i e2' rfl (by omega) (by decide) dX11_judge_49 ?_
      refine x_aload_n dX11_judge_50 rfl ?_
      refine x_get fX11_19 o2 rfl dX11_judge_51 ?_
      refine x_rdV (c_X10_nearFirstClearing v2) s2 lkX10_nearFirstClearing sX11_270 dX11_judge_54 rfl rfl (Nat.le_of_ble_eq_true rfl) (by decide) ⟨rfl, rfl, by decide, by decide⟩ ?_
      refine x_icmp_eq 64 dX11_judge_57 (by decide) (fun c57 => ?_) (fun c57 => ?_)
      · refine x_inc_1  dX11_judge_64 (by decide) (nI_inc _) rfl ?_
        refine x_goto 13 dX11_judge_67 (by decide) ?_
        refine ih h2 x2 v2 e1' e2' (fun j hj1 => ?_) (F1.tr G2)
        by_cases e : j = i
        · subst e; exact ⟨(rab j hi).1.symm.trans c41, (rab j hi).2.symm.trans c57⟩
        · exact hj j (by omega)
      · refine x_iload_n dX11_judge_60 rfl ?_
        refine x_iconst (v := 1) dX11_judge_61 (by decide) ?_
        refine x_iadd dX11_judge_62 ?_
        refine x_iret rfl dX11_judge_63 ⟨by decide, by decide⟩ ?_
        exact ⟨by rw [jg_y hi (fun q => c57 ((rab i hi).2.trans q.2)) hj, nI_1], x2, F1.tr G2⟩
  · have o1 : h1.1 x = _ := x1.2.1
    have s1 := v1.o
    refine x_iload_n dX11_judge_13 rfl ?_
    refine x_aload_n dX11_judge_14 rfl ?_
    refine x_get fX11_83 o1 rfl dX11_judge_15 ?_
    refine x_icmp_ge_t 70 dX11_judge_18 (by decide) (ge_t rfl (by omega)) ?_
    refine x_iconst (v := 0) dX11_judge_70 (by decide) ?_
    refine x_iret rfl dX11_judge_71 ⟨by decide, by decide⟩ ?_
    exact ⟨by rw [jg_n hj], x1, F1⟩
