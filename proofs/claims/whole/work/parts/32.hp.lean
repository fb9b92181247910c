/-- whom the rule back sends where: (the clearing or 99, one more than how far) -/
def fsf (V : VS) (f a : Nat) : Nat → Nat × Nat
  | 0 => (99, 0)
  | c + 1 => if ((rea V (V.1 3) f 7).testBit c = true ∧ (rea V (V.1 3) a 7).testBit c = true) ∧ 4 * 8 ^ V.1 0 ≤ odN V c a * 8 ∧ (fsf V f a c).2 < dist V (V.1 3) c a + 1 then (c, dist V (V.1 3) c a + 1) else fsf V f a c
theorem dist_con {V : VS} (hv : okV V) {t a c : Nat} (ha : a < 8) (hc : c < 8) (h : (rea V t a 7).testBit c = true) : dist V t c a < 8 := by
  have h7 : (rea V t c 7).testBit a = true := (con_7 hv t hc).mp ((con_7 hv t ha).mpr h).sy
  rcases Nat.lt_or_ge (dist V t c a) 8 with q | q
  · exact q
  · have := fa_first_no (fun d => (rea V t c d).testBit a) 8 7 (by unfold dist at q; omega)
    simp only [h7] at this
    exact absurd this (by decide)
theorem fsf_2 {V : VS} (f a : Nat) : ∀ n, (fsf V f a n).2 ≤ 9
  | 0 => show (0 : Nat) ≤ 9 by decide
  | n + 1 => by
    have := dist_le V (V.1 3) n a
    unfold fsf; split
    · show dist V (V.1 3) n a + 1 ≤ 9; omega
    · exact fsf_2 f a n
theorem fsf_1 {V : VS} (f a : Nat) : ∀ n, (fsf V f a n).1 = 99 ∨ (fsf V f a n).1 < n
  | 0 => .inl rfl
  | n + 1 => by
    unfold fsf; split
    · exact .inr (Nat.lt_succ_self n)
    · rcases fsf_1 (V := V) f a n with q | q
      · exact .inl q
      · exact .inr (by omega)
theorem nI_m1 : ∀ k, k < 20 → ∀ d, d < 20 → (nI d ≤ nI k - 1 ↔ ¬ k < d + 1) := by decide +kernel
set_option maxRecDepth 10000 in
set_option maxHeartbeats 2000000 in
theorem c_X11_farthestSafe {g : gG} {h : gH} {x : Nat} {D : Nat → Prop} {S : AS} (hx : isX h x D S) {f1 a1 : Nat} (hf : f1 < 8) (ha : a1 < 8) : Ct g mX11_farthestSafe [.ref x, .int (nI f1), .int (nI a1)] h (some (.int (bI (-9) (fsf S.1 f1 a1 8).1))) (Px x D S h) := by
  have ho := hx.2.1
  have hv := hx.2.2.1
  have n0 := hv.o
  have okw := hv.1
  obtain ⟨J, K, X, s0, wh, hc⟩ := hx.2.2.2.2.2.2.1
  have c0 := hc.1
  have hd0 : x + 1 + 12 ≤ x + 39 ∨ x + 39 + 4 ≤ x + 1 := by omega

  refine Cn.of (L := [some (.ref x), some (.int (nI f1)), some (.int (nI a1)), none, none, none, none, none]) (by decide) (Nat.le_of_ble_eq_true rfl) rfl ?_
  refine x_aload_n dX11_farthestSafe_0 rfl ?_
  refine x_get fX11_32 (by assumption) rfl dX11_farthestSafe_1 ?_
  refine x_aload_n dX11_farthestSafe_4 rfl ?_
  refine x_get fX11_12 ho rfl dX11_farthestSafe_5 ?_
  refine x_cnV (c_X1_lookAhead hv hc hd0) c0 lkX1_lookAhead sX11_218 dX11_farthestSafe_8 rfl rfl (Nat.le_of_ble_eq_true rfl) (by decide) ⟨rfl, rfl, by decide, by decide⟩ ?_
  rintro h1 ⟨J1, K1, I1, hJ1, hK1, F1⟩
  have v1 := hv.fr F1 hd0
  have o1 : h1.1 x = some (.inr (11, xF x S.2.1.1 S.2.2.2.1.1)) := by rw [F1.2 x (by omega)]; exact ho
  have nn := v1.o
  have d1 := I1.1
  refine x_aload_n dX11_farthestSafe_11 rfl ?_
  refine x_get fX11_12 o1 rfl dX11_farthestSafe_12 ?_
  refine x_iload_n dX11_farthestSafe_15 rfl ?_
  refine x_rdV (c_X10_reachFrom v1 hf) nn lkX10_reachFrom sX11_210 dX11_farthestSafe_16 rfl rfl (Nat.le_of_ble_eq_true rfl) (by decide) ⟨rfl, rfl, by decide, by decide⟩ ?_
  refine x_aload_n dX11_farthestSafe_19 rfl ?_
  refine x_get fX11_12 o1 rfl dX11_farthestSafe_20 ?_
  refine x_iload_n dX11_farthestSafe_23 rfl ?_
  refine x_rdV (c_X10_reachFrom v1 ha) nn lkX10_reachFrom sX11_210 dX11_farthestSafe_24 rfl rfl (Nat.le_of_ble_eq_true rfl) (by decide) ⟨rfl, rfl, by decide, by decide⟩ ?_
  refine x_iand dX11_farthestSafe_27 ?_
  rw [fa_and]
  refine x_ist_3 dX11_farthestSafe_28 (by decide) rfl ?_
  refine x_bipush (v := -9) dX11_farthestSafe_29 (by decide) ?_
  refine x_ist_4 dX11_farthestSafe_31 (by decide) rfl ?_
  refine x_iconst (v := -1) dX11_farthestSafe_33 (by decide) ?_
  refine x_ist_5 dX11_farthestSafe_34 (by decide) rfl ?_
  refine x_iconst (v := 0) dX11_farthestSafe_36 (by decide) ?_
  refine x_ist_6 dX11_farthestSafe_37 (by decide) rfl ?_
  refine lp_up (P := fun i => ∀ r, Ex g mX11_farthestSafe _ 39 [some (.ref x), some (.int (nI f1)), some (.int (nI a1)), some (.int (nI (rea S.1 (S.1.1 3) f1 7 &&& rea S.1 (S.1.1 3) a1 7))), some (.int (bI (-9) (fsf S.1 f1 a1 i).1)), some (.int (nI (fsf S.1 f1 a1 i).2 - 1)), some (.int (nI i)), r] [] h1 0 0) 8 (fun i hi ih r => ?_) (fun r => ?_) 0 (Nat.zero_le _) _
  · have l1 := rea_lt okw (S.1.1 3) hf 7
    have l2 := rea_lt okw (S.1.1 3) ha 7
    have l3 : rea S.1 (S.1.1 3) f1 7 &&& rea S.1 (S.1.1 3) a1 7 < 65536 := Nat.lt_of_le_of_lt Nat.and_le_left (by omega)
    have iI := inS_iff (k := i) l3 (by omega)
    rw [Nat.testBit_and, Bool.and_eq_true] at iI
    refine x_iload dX11_farthestSafe_39 rfl ?_
    refine x_bipush (v := 8) dX11_farthestSafe_41 (by decide) ?_
    refine x_icmp_ge_f 102 dX11_farthestSafe_43 (by decide) (c8 hi) ?_
    refine x_iload dX11_farthestSafe_46 rfl ?_
    refine x_iload_n dX11_farthestSafe_48 rfl ?_
    refine x_rdS c_X11_isInSet lkX11_isInSet sX11_249 dX11_farthestSafe_49 rfl rfl (Nat.le_of_ble_eq_true rfl) (by decide) ⟨rfl, rfl, by decide, by decide⟩ ?_
    refine x_if_eqB 96 dX11_farthestSafe_52 (by decide) (fun c52 => ?_) (fun c52 => ?_)
    · refine x_inc_6  dX11_farthestSafe_96 (by decide) (nI_inc _) rfl ?_
      refine x_goto 39 dX11_farthestSafe_99 (by decide) ?_
      rw [show fsf S.1 f1 a1 (i + 1) = fsf S.1 f1 a1 i from if_neg (fun q => c52 (iI.mpr q.1))] at ih; exact ih _
    · refine x_aload_n dX11_farthestSafe_55 rfl ?_
      refine x_get fX11_32 o1 rfl dX11_farthestSafe_56 ?_
      refine x_iload dX11_farthestSafe_59 rfl ?_
      refine x_iload_n dX11_farthestSafe_61 rfl ?_
      refine x_iconst (v := 4) dX11_farthestSafe_62 (by decide) ?_
      refine x_rdV (c_X1_oddsReach (e := 4) okw I1 hJ1 hK1 hi ha (by decide)) d1 lkX1_oddsReach sX11_241 dX11_farthestSafe_63 rfl rfl (Nat.le_of_ble_eq_true rfl) (by decide) ⟨rfl, rfl, by decide, by decide⟩ ?_
      refine x_if_eqB 96 dX11_farthestSafe_66 (by decide) (fun c66 => ?_) (fun c66 => ?_)
      · refine x_inc_6  dX11_farthestSafe_96 (by decide) (nI_inc _) rfl ?_
        refine x_goto 39 dX11_farthestSafe_99 (by decide) ?_
        rw [show fsf S.1 f1 a1 (i + 1) = fsf S.1 f1 a1 i from if_neg (fun q => c66 q.2.1)] at ih; exact ih _
      · have c52 := iI.mp c52
        have dl := dist_con okw ha hi c52.2
        have f2 := fsf_2 (V := S.1) f1 a1 i
        have gm := nI_m1 (fsf S.1 f1 a1 i).2 (by omega) (dist S.1 (S.1.1 3) i a1) (by omega)
        refine x_aload_n dX11_farthestSafe_69 rfl ?_
        refine x_get fX11_12 o1 rfl dX11_farthestSafe_70 ?_
        refine x_iload dX11_farthestSafe_73 rfl ?_
        refine x_iload_n dX11_farthestSafe_75 rfl ?_
        refine x_rdV (c_X10_distance v1 hi ha) nn lkX10_distance sX11_207 dX11_farthestSafe_76 rfl rfl (Nat.le_of_ble_eq_true rfl) (by decide) ⟨rfl, rfl, by decide, by decide⟩ ?_
        rw [show dI (dist S.1 (S.1.1 3) i a1) = nI (dist S.1 (S.1.1 3) i a1) from if_pos dl]
        refine x_ist_7 dX11_farthestSafe_79 (by decide) rfl ?_
        refine x_iload dX11_farthestSafe_81 rfl ?_
        refine x_iload dX11_farthestSafe_83 rfl ?_
        refine x_icmp_le 96 dX11_farthestSafe_85 (by decide) (fun c85 => ?_) (fun c85 => ?_)
        · refine x_inc_6  dX11_farthestSafe_96 (by decide) (nI_inc _) rfl ?_
          refine x_goto 39 dX11_farthestSafe_99 (by decide) ?_
          rw [show fsf S.1 f1 a1 (i + 1) = fsf S.1 f1 a1 i from if_neg (fun q => gm.mp c85 q.2.2)] at ih; exact ih _
        · refine x_iload dX11_farthestSafe_88 rfl ?_
          refine x_ist_5 dX11_farthestSafe_90 (by decide) rfl ?_
          refine x_iload dX11_farthestSafe_92 rfl ?_
          refine x_ist_4 dX11_farthestSafe_94 (by decide) rfl ?_
          refine x_inc_6  dX11_farthestSafe_96 (by decide) (nI_inc _) rfl ?_
          refine x_goto 39 dX11_farthestSafe_99 (by decide) ?_
          have q := Classical.not_not.mp (fun z => c85 (gm.mpr z))
          have e : fsf S.1 f1 a1 (i + 1) = (i, dist S.1 (S.1.1 3) i a1 + 1) := if_pos ⟨c52, c66, q⟩
          have ih := ih (some (.int (nI (dist S.1 (S.1.1 3) i a1))))
          rw [e, show bI (-9) (i, dist S.1 (S.1.1 3) i a1 + 1).1 = nI i from if_neg (by show ¬ i = 99; omega)] at ih
          rw [show nI (i, dist S.1 (S.1.1 3) i a1 + 1).2 - 1 = nI (dist S.1 (S.1.1 3) i a1) from nI_pred _] at ih
          exact ih
  · refine x_iload dX11_farthestSafe_39 rfl ?_
    refine x_bipush (v := 8) dX11_farthestSafe_41 (by decide) ?_
    refine x_icmp_ge_t 102 dX11_farthestSafe_43 (by decide) (by decide) ?_
    refine x_iload dX11_farthestSafe_102 rfl ?_
    refine x_iret rfl dX11_farthestSafe_104 ⟨by decide, by decide⟩ ?_
    exact ⟨rfl, hx.ch I1 F1⟩
def tgt (V : VS) (r u : Nat) : Nat := if V.2.2 8 r = 2 then (fsf V (V.2.2 5 u) (V.2.2 9 r) 8).1 else V.2.2 9 r
def stB (V : VS) (r u : Nat) : Nat := if V.2.2 5 u < 8 ∧ ¬ (V.2.2 8 r = 3 ∧ ¬ dist V (V.1 3) (V.2.2 5 u) (V.2.2 9 r) = 1) ∧ tgt V r u < 8 then fst V (V.2.2 5 u) (tgt V r u) else 99
theorem plI_bl (q : Nat) : bl (plI q) 8 = true ↔ q < 8 := by
  unfold plI
  by_cases h : q < 8
  · rw [if_pos h]; exact ⟨fun _ => h, fun _ => bl_I (b := 8) h (by decide)⟩
  · rw [if_neg h]; exact ⟨fun z => absurd (bl_p.mp z).1 (by decide), fun z => absurd z h⟩
theorem bI_bl {q : Nat} (h : q = 99 ∨ q < 8) : bl (bI (-9) q) 8 = true ↔ q < 8 := by
  unfold bI
  by_cases z : q = 99
  · rw [if_pos z]; exact ⟨fun z => absurd (bl_p.mp z).1 (by decide), fun y => absurd y (by omega)⟩
  · rw [if_neg z]; exact bl_iff (b := 8) (by omega) (by decide)
theorem dI_1 {d : Nat} (h : d ≤ 8) : dI d = 1 ↔ d = 1 := (by decide +kernel : ∀ d, d ≤ 8 → (dI d = 1 ↔ d = 1)) d h
theorem stB_n {V : VS} {r u : Nat} (hv : okV V) (h : ¬ (V.2.2 5 u < 8 ∧ ¬ (V.2.2 8 r = 3 ∧ ¬ dist V (V.1 3) (V.2.2 5 u) (V.2.2 9 r) = 1) ∧ tgt V r u < 8)) : fI (V.1 0) (stB V r u) = -9 := by
  have := hv.1
  rw [stB, if_neg h, fI, if_neg (by omega)]
set_option maxRecDepth 10000 in
set_option maxHeartbeats 2000000 in
theorem c_X11_stepBy {g : gG} {h : gH} {x : Nat} {D : Nat → Prop} {S : AS} (hx : isX h x D S) {r1 u1 : Nat} (hr : r1 < S.1.1 2) (hu : u1 < S.1.1 1) : Ct g mX11_stepBy [.ref x, .int (nI r1), .int (nI u1)] h (some (.int (fI (S.1.1 0) (stB S.1 r1 u1)))) (Px x D S h) := by
  have ho := hx.2.1
  have hv := hx.2.2.1
  have n0 := hv.o
  have okw := hv.1
  obtain ⟨ok0, ar, hw, rp⟩ := id hv
  have w0 : h.1 (x + 1) = some (.inr (10, wF (x + 1) (wS S.1))) := hw.1
  have w1 : h.1 ((x + 1) + 1) = some (.inl (0, 8, .inl (ar 0))) := hw.2 0 (by decide)
  have w2 : h.1 ((x + 1) + 2) = some (.inl (0, 8, .inl (ar 1))) := hw.2 1 (by decide)
  have w3 : h.1 ((x + 1) + 3) = some (.inl (0, 8, .inl (ar 2))) := hw.2 2 (by decide)
  have w4 : h.1 ((x + 1) + 4) = some (.inl (0, 8, .inl (ar 3))) := hw.2 3 (by decide)
  have w5 : h.1 ((x + 1) + 5) = some (.inl (0, 8, .inl (ar 4))) := hw.2 4 (by decide)
  have w6 : h.1 ((x + 1) + 6) = some (.inl (0, 4, .inl (ar 5))) := hw.2 5 (by decide)
  have w7 : h.1 ((x + 1) + 7) = some (.inl (0, 4, .inl (ar 6))) := hw.2 6 (by decide)
  have w8 : h.1 ((x + 1) + 8) = some (.inl (0, 4, .inl (ar 7))) := hw.2 7 (by decide)
  have w9 : h.1 ((x + 1) + 9) = some (.inl (0, 8, .inl (ar 8))) := hw.2 8 (by decide)
  have w10 : h.1 ((x + 1) + 10) = some (.inl (0, 4, .inl (ar 9))) := hw.2 9 (by decide)
  have w11 : h.1 ((x + 1) + 11) = some (.inl (0, 4, .inl (ar 10))) := hw.2 10 (by decide)
  have hu4 : u1 < 4 := by have := okw.1; omega
  have hr4 : r1 < 4 := by have := okw.1; omega
  have hrk := okw.2.2.2.2.2.2 r1 hr
  have k3 : nI (S.1.2.2 8 r1) = 3 ↔ S.1.2.2 8 r1 = 3 := nI_eq (b := 3) (by omega) (by decide)
  have k2 : nI (S.1.2.2 8 r1) = 2 ↔ S.1.2.2 8 r1 = 2 := nI_eq (b := 2) (by omega) (by decide)
  refine Cn.of (L := [some (.ref x), some (.int (nI r1)), some (.int (nI u1)), none, none, none, none]) (by decide) (Nat.le_of_ble_eq_true rfl) rfl ?_
  refine x_aload_n dX11_stepBy_0 rfl ?_
  refine x_get fX11_12 (by assumption) rfl dX11_stepBy_1 ?_
  refine x_getR fX11_157 (by assumption) rfl dX11_stepBy_4 ?_
  refine x_iload_n dX11_stepBy_7 rfl ?_
  refine x_iald u1 w6 rfl hu4 (by decide) dX11_stepBy_8 ?_
  rw [(rp.2.1 u1 hu).1]
  refine x_ist_3 dX11_stepBy_9 (by decide) rfl ?_
  refine x_iload_n dX11_stepBy_10 rfl ?_
  refine x_rdS c_cl lkX11_isClearing sX11_90 dX11_stepBy_11 rfl rfl (Nat.le_of_ble_eq_true rfl) (by decide) ⟨rfl, rfl, by decide, by decide⟩ ?_
  refine x_if_neB 20 dX11_stepBy_14 (by decide) (fun c14 => ?_) (fun c14 => ?_)
  · have q8 := (plI_bl _).mp c14
    have pe : plI (S.1.2.2 5 u1) = nI (S.1.2.2 5 u1) := if_pos q8
    rw [pe]
    refine x_aload_n dX11_stepBy_20 rfl ?_
    refine x_get fX11_12 (by assumption) rfl dX11_stepBy_21 ?_
    refine x_getR fX11_261 (by assumption) rfl dX11_stepBy_24 ?_
    refine x_iload_n dX11_stepBy_27 rfl ?_
    refine x_iald r1 w10 rfl hr4 (by decide) dX11_stepBy_28 ?_
    rw [(rp.2.2.2 r1 hr).1]
    refine x_ist_4 dX11_stepBy_29 (by decide) rfl ?_
    refine x_aload_n dX11_stepBy_31 rfl ?_
    refine x_get fX11_12 (by assumption) rfl dX11_stepBy_32 ?_
    refine x_getR fX11_264 (by assumption) rfl dX11_stepBy_35 ?_
    refine x_iload_n dX11_stepBy_38 rfl ?_
    refine x_iald r1 w11 rfl hr4 (by decide) dX11_stepBy_39 ?_
    rw [(rp.2.2.2 r1 hr).2]
    refine x_ist_5 dX11_stepBy_40 (by decide) rfl ?_
    refine x_iload dX11_stepBy_42 rfl ?_
    refine x_iconst (v := 3) dX11_stepBy_44 (by decide) ?_
    refine x_icmp_ne 65 dX11_stepBy_45 (by decide) (fun c45 => ?_) (fun c45 => ?_)
    · refine x_iload dX11_stepBy_65 rfl ?_
      refine x_iconst (v := 2) dX11_stepBy_67 (by decide) ?_
      refine x_icmp_ne 81 dX11_stepBy_68 (by decide) (fun c68 => ?_) (fun c68 => ?_)
      · refine x_iload dX11_stepBy_81 rfl ?_
        refine x_ist_6 dX11_stepBy_83 (by decide) rfl ?_
        have e2 : ¬ S.1.2.2 8 r1 = 2 := fun q => c68 (k2.mpr q)
        have tg : tgt S.1 r1 u1 = S.1.2.2 9 r1 := if_neg e2
        have t8 : tgt S.1 r1 u1 < 8 := by rw [tg]; exact hrk.2
        rw [← tg]
        have tb : bl (nI (tgt S.1 r1 u1)) 8 = true ↔ tgt S.1 r1 u1 < 8 := bl_iff (b := 8) (by omega) (by decide)
        refine x_iload dX11_stepBy_85 rfl ?_
        refine x_rdS c_cl lkX11_isClearing sX11_90 dX11_stepBy_87 rfl rfl (Nat.le_of_ble_eq_true rfl) (by decide) ⟨rfl, rfl, by decide, by decide⟩ ?_
        refine x_if_eqB 106 dX11_stepBy_90 (by decide) (fun c90 => ?_) (fun c90 => ?_)
        · refine x_bipush (v := -9) dX11_stepBy_106 (by decide) ?_
          refine x_iret rfl dX11_stepBy_108 ⟨by decide, by decide⟩ ?_
          exact ⟨by rw [stB_n okw (fun q => c90 (tb.mpr q.2.2))], hx.rf⟩
        · have t90 := tb.mp c90
          
          refine x_aload_n dX11_stepBy_93 rfl ?_
          refine x_get fX11_12 ho rfl dX11_stepBy_94 ?_
          refine x_iload_n dX11_stepBy_97 rfl ?_
          refine x_iload dX11_stepBy_98 rfl ?_
          refine x_rdV (c_X10_firstStep hv q8 t90) n0 lkX10_firstStep sX11_337 dX11_stepBy_100 rfl rfl (Nat.le_of_ble_eq_true rfl) (by decide) ⟨rfl, rfl, by decide, by decide⟩ ?_
          refine x_goto 108 dX11_stepBy_103 (by decide) ?_
          refine x_iret rfl dX11_stepBy_108 ⟨by decide, by decide⟩ ?_
          exact ⟨by rw [stB, if_pos ⟨q8, fun z => c45 (k3.mpr z.1), t90⟩], hx.rf⟩
      · refine x_aload_n dX11_stepBy_71 rfl ?_
        refine x_iload_n dX11_stepBy_72 rfl ?_
        refine x_iload dX11_stepBy_73 rfl ?_
        refine x_cvV (c_X11_farthestSafe hx q8 hrk.2) (by assumption) lkX11_farthestSafe sX11_334 dX11_stepBy_75 rfl rfl (Nat.le_of_ble_eq_true rfl) (by decide) ⟨rfl, rfl, by decide, by decide⟩ ?_
        rintro h1 ⟨x1, F1⟩
        have o1 : h1.1 x = _ := x1.2.1
        have v1 : isV h1 (x + 1) S.1 := x1.2.2.1
        have nn := v1.o
        refine x_goto 83 dX11_stepBy_78 (by decide) ?_
        refine x_ist_6 dX11_stepBy_83 (by decide) rfl ?_
        have e2 : S.1.2.2 8 r1 = 2 := k2.mp c68
        have tg : tgt S.1 r1 u1 = (fsf S.1 (S.1.2.2 5 u1) (S.1.2.2 9 r1) 8).1 := if_pos e2
        have t9 := fsf_1 (V := S.1) (S.1.2.2 5 u1) (S.1.2.2 9 r1) 8
        rw [← tg] at t9
        rw [← tg]
        have tb := bI_bl t9
        refine x_iload dX11_stepBy_85 rfl ?_
        refine x_rdS c_cl lkX11_isClearing sX11_90 dX11_stepBy_87 rfl rfl (Nat.le_of_ble_eq_true rfl) (by decide) ⟨rfl, rfl, by decide, by decide⟩ ?_
        refine x_if_eqB 106 dX11_stepBy_90 (by decide) (fun c90 => ?_) (fun c90 => ?_)
        · refine x_bipush (v := -9) dX11_stepBy_106 (by decide) ?_
          refine x_iret rfl dX11_stepBy_108 ⟨by decide, by decide⟩ ?_
          exact ⟨by rw [stB_n okw (fun q => c90 (tb.mpr q.2.2))], ⟨x1, F1⟩⟩
        · have t90 := tb.mp c90
          rw [show bI (-9) (tgt S.1 r1 u1) = nI (tgt S.1 r1 u1) from if_neg (by omega)]
          
          refine x_aload_n dX11_stepBy_93 rfl ?_
          refine x_get fX11_12 o1 rfl dX11_stepBy_94 ?_
          refine x_iload_n dX11_stepBy_97 rfl ?_
          refine x_iload dX11_stepBy_98 rfl ?_
          refine x_rdV (c_X10_firstStep v1 q8 t90) nn lkX10_firstStep sX11_337 dX11_stepBy_100 rfl rfl (Nat.le_of_ble_eq_true rfl) (by decide) ⟨rfl, rfl, by decide, by decide⟩ ?_
          refine x_goto 108 dX11_stepBy_103 (by decide) ?_
          refine x_iret rfl dX11_stepBy_108 ⟨by decide, by decide⟩ ?_
          exact ⟨by rw [stB, if_pos ⟨q8, fun z => c45 (k3.mpr z.1), t90⟩], ⟨x1, F1⟩⟩
    · refine x_aload_n dX11_stepBy_48 rfl ?_
      refine x_get fX11_12 (by assumption) rfl dX11_stepBy_49 ?_
      refine x_iload_n dX11_stepBy_52 rfl ?_
      refine x_iload dX11_stepBy_53 rfl ?_
      refine x_rdV (c_X10_distance hv q8 hrk.2) (by assumption) lkX10_distance sX11_207 dX11_stepBy_55 rfl rfl (Nat.le_of_ble_eq_true rfl) (by decide) ⟨rfl, rfl, by decide, by decide⟩ ?_
      refine x_iconst (v := 1) dX11_stepBy_58 (by decide) ?_
      refine x_icmp_eq 65 dX11_stepBy_59 (by decide) (fun c59 => ?_) (fun c59 => ?_)
      · refine x_iload dX11_stepBy_65 rfl ?_
        refine x_iconst (v := 2) dX11_stepBy_67 (by decide) ?_
        refine x_icmp_ne 81 dX11_stepBy_68 (by decide) (fun c68 => ?_) (fun c68 => ?_)
        · refine x_iload dX11_stepBy_81 rfl ?_
          refine x_ist_6 dX11_stepBy_83 (by decide) rfl ?_
          have e2 : ¬ S.1.2.2 8 r1 = 2 := fun q => c68 (k2.mpr q)
          have tg : tgt S.1 r1 u1 = S.1.2.2 9 r1 := if_neg e2
          have t8 : tgt S.1 r1 u1 < 8 := by rw [tg]; exact hrk.2
          rw [← tg]
          have tb : bl (nI (tgt S.1 r1 u1)) 8 = true ↔ tgt S.1 r1 u1 < 8 := bl_iff (b := 8) (by omega) (by decide)
          refine x_iload dX11_stepBy_85 rfl ?_
          refine x_rdS c_cl lkX11_isClearing sX11_90 dX11_stepBy_87 rfl rfl (Nat.le_of_ble_eq_true rfl) (by decide) ⟨rfl, rfl, by decide, by decide⟩ ?_
          refine x_if_eqB 106 dX11_stepBy_90 (by decide) (fun c90 => ?_) (fun c90 => ?_)
          · refine x_bipush (v := -9) dX11_stepBy_106 (by decide) ?_
            refine x_iret rfl dX11_stepBy_108 ⟨by decide, by decide⟩ ?_
            exact ⟨by rw [stB_n okw (fun q => c90 (tb.mpr q.2.2))], hx.rf⟩
          · have t90 := tb.mp c90
            
            refine x_aload_n dX11_stepBy_93 rfl ?_
            refine x_get fX11_12 ho rfl dX11_stepBy_94 ?_
            refine x_iload_n dX11_stepBy_97 rfl ?_
            refine x_iload dX11_stepBy_98 rfl ?_
            refine x_rdV (c_X10_firstStep hv q8 t90) n0 lkX10_firstStep sX11_337 dX11_stepBy_100 rfl rfl (Nat.le_of_ble_eq_true rfl) (by decide) ⟨rfl, rfl, by decide, by decide⟩ ?_
            refine x_goto 108 dX11_stepBy_103 (by decide) ?_
            refine x_iret rfl dX11_stepBy_108 ⟨by decide, by decide⟩ ?_
            exact ⟨by rw [stB, if_pos ⟨q8, fun z => z.2 ((dI_1 (dist_le _ _ _ _)).mp c59), t90⟩], hx.rf⟩
        · refine x_aload_n dX11_stepBy_71 rfl ?_
          refine x_iload_n dX11_stepBy_72 rfl ?_
          refine x_iload dX11_stepBy_73 rfl ?_
          refine x_cvV (c_X11_farthestSafe hx q8 hrk.2) (by assumption) lkX11_farthestSafe sX11_334 dX11_stepBy_75 rfl rfl (Nat.le_of_ble_eq_true rfl) (by decide) ⟨rfl, rfl, by decide, by decide⟩ ?_
          rintro h1 ⟨x1, F1⟩
          have o1 : h1.1 x = _ := x1.2.1
          have v1 : isV h1 (x + 1) S.1 := x1.2.2.1
          have nn := v1.o
          refine x_goto 83 dX11_stepBy_78 (by decide) ?_
          refine x_ist_6 dX11_stepBy_83 (by decide) rfl ?_
          have e2 : S.1.2.2 8 r1 = 2 := k2.mp c68
          have tg : tgt S.1 r1 u1 = (fsf S.1 (S.1.2.2 5 u1) (S.1.2.2 9 r1) 8).1 := if_pos e2
          have t9 := fsf_1 (V := S.1) (S.1.2.2 5 u1) (S.1.2.2 9 r1) 8
          rw [← tg] at t9
          rw [← tg]
          have tb := bI_bl t9
          refine x_iload dX11_stepBy_85 rfl ?_
          refine x_rdS c_cl lkX11_isClearing sX11_90 dX11_stepBy_87 rfl rfl (Nat.le_of_ble_eq_true rfl) (by decide) ⟨rfl, rfl, by decide, by decide⟩ ?_
          refine x_if_eqB 106 dX11_stepBy_90 (by decide) (fun c90 => ?_) (fun c90 => ?_)
          · refine x_bipush (v := -9) dX11_stepBy_106 (by decide) ?_
            refine x_iret rfl dX11_stepBy_108 ⟨by decide, by decide⟩ ?_
            exact ⟨by rw [stB_n okw (fun q => c90 (tb.mpr q.2.2))], ⟨x1, F1⟩⟩
          · have t90 := tb.mp c90
            rw [show bI (-9) (tgt S.1 r1 u1) = nI (tgt S.1 r1 u1) from if_neg (by omega)]
            
            refine x_aload_n dX11_stepBy_93 rfl ?_
            refine x_get fX11_12 o1 rfl dX11_stepBy_94 ?_
            refine x_iload_n dX11_stepBy_97 rfl ?_
            refine x_iload dX11_stepBy_98 rfl ?_
            refine x_rdV (c_X10_firstStep v1 q8 t90) nn lkX10_firstStep sX11_337 dX11_stepBy_100 rfl rfl (Nat.le_of_ble_eq_true rfl) (by decide) ⟨rfl, rfl, by decide, by decide⟩ ?_
            refine x_goto 108 dX11_stepBy_103 (by decide) ?_
            refine x_iret rfl dX11_stepBy_108 ⟨by decide, by decide⟩ ?_
            exact ⟨by rw [stB, if_pos ⟨q8, fun z => z.2 ((dI_1 (dist_le _ _ _ _)).mp c59), t90⟩], ⟨x1, F1⟩⟩
      · refine x_bipush (v := -9) dX11_stepBy_62 (by decide) ?_
        refine x_iret rfl dX11_stepBy_64 ⟨by decide, by decide⟩ ?_
        have c45 : S.1.2.2 8 r1 = 3 := k3.mp c45
        exact ⟨by rw [stB_n okw (fun q => q.2.1 ⟨c45, fun z => c59 ((dI_1 (dist_le _ _ _ _)).mpr z)⟩)], hx.rf⟩
  · refine x_bipush (v := -9) dX11_stepBy_17 (by decide) ?_
    refine x_iret rfl dX11_stepBy_19 ⟨by decide, by decide⟩ ?_
    exact ⟨by rw [stB_n okw (fun q => c14 ((plI_bl _).mpr q.1))], hx.rf⟩
def qGoes (V : VS) (r u : Int32) : Int32 := if bl r (nI (V.1 2)) = true ∧ bl u (nI (V.1 1)) = true then fI (V.1 0) (stB V (iN r) (iN u)) else -1
def stG (V : VS) (r u : Nat) : VS := mv V u (if V.2.2 8 r = 1 then 8 + stB V r u else oth V (stB V r u) (V.2.2 5 u))
def oDoes (V : VS) (r u : Int32) : Int32 × VS := if bl r (nI (V.1 2)) = true ∧ bl u (nI (V.1 1)) = true then if stB V (iN r) (iN u) < V.1 0 then (1, stG V (iN r) (iN u)) else (0, V) else (-1, V)
theorem fI_bl {n x : Nat} (hn : n ≤ 8) : bl (fI n x) (nI n) = true ↔ x < n := by
  unfold fI
  by_cases h : x < n
  · rw [if_pos h]; exact ⟨fun _ => h, fun _ => bl_I h (by omega)⟩
  · rw [if_neg h]; exact ⟨fun z => absurd (bl_p.mp z).1 (by decide), fun z => absurd z h⟩
theorem stB_t {V : VS} (hv : okV V) {r u : Nat} (h : stB V r u < V.1 0) : (V.1 3).testBit (stB V r u) = true ∧ V.2.2 5 u < 8 := by
  have h8 := hv.1.1
  unfold stB at h ⊢
  split at h
  · rename_i q
    rw [if_pos q]
    refine ⟨?_, q.1⟩
    unfold fst at h ⊢
    split at h
    · rename_i z
      rw [if_pos z]
      have := fa_first_yes _ _ h
      simp only [Bool.and_eq_true] at this
      exact this.1.1
    · exact absurd h (by omega)
  · exact absurd h (by omega)
set_option maxRecDepth 10000 in
set_option maxHeartbeats 2000000 in
theorem c_X11_goes {g : gG} {h : gH} {x : Nat} {D : Nat → Prop} {S : AS} (hx : isX h x D S) {r u : Int32} : Ct g mX11_goes [.ref x, .int r, .int u] h (some (.int (qGoes S.1 r u))) (Px x D S h) := by
  have ho := hx.2.1
  have hv := hx.2.2.1
  have n0 := hv.o
  have okw := hv.1

  have n31 : S.1.1 0 < 2 ^ 31 ∧ S.1.1 1 < 2 ^ 31 ∧ S.1.1 2 < 2 ^ 31 := by have := okw.1; omega
  refine Cn.of (L := [some (.ref x), some (.int r), some (.int u)]) (by decide) (Nat.le_of_ble_eq_true rfl) rfl ?_
  refine x_aload_n dX11_goes_0 rfl ?_
  refine x_get fX11_12 (by assumption) rfl dX11_goes_1 ?_
  refine x_iload_n dX11_goes_4 rfl ?_
  refine x_rdV (c_hr hv) (by assumption) lkX10_hasRule sX11_258 dX11_goes_5 rfl rfl (Nat.le_of_ble_eq_true rfl) (by decide) ⟨rfl, rfl, by decide, by decide⟩ ?_
  refine x_if_eqB 22 dX11_goes_8 (by decide) (fun c8 => ?_) (fun c8 => ?_)
  · refine x_iconst (v := -1) dX11_goes_22 (by decide) ?_
    refine x_iret rfl dX11_goes_23 ⟨by decide, by decide⟩ ?_
    exact ⟨by simp only [qGoes, c8, eq_self, Bool.false_eq_true, reduceCtorEq, and_true, true_and, and_false, false_and, not_true_eq_false, not_false_eq_true, if_true, if_false, ne_eq, or_true, true_or, or_false, false_or], hx.rf⟩
  · refine x_aload_n dX11_goes_11 rfl ?_
    refine x_get fX11_12 (by assumption) rfl dX11_goes_12 ?_
    refine x_iload_n dX11_goes_15 rfl ?_
    refine x_rdV (c_hw hv) (by assumption) lkX10_hasWalker sX11_154 dX11_goes_16 rfl rfl (Nat.le_of_ble_eq_true rfl) (by decide) ⟨rfl, rfl, by decide, by decide⟩ ?_
    refine x_if_neB 24 dX11_goes_19 (by decide) (fun c19 => ?_) (fun c19 => ?_)
    · obtain ⟨r1, hr, rfl⟩ := bl_E c8 n31.2.2
      obtain ⟨u1, hu, rfl⟩ := bl_E c19 n31.2.1
      have hu4 : u1 < 4 := by have := okw.1; omega
      have hr4 : r1 < 4 := by have := okw.1; omega
      refine x_aload_n dX11_goes_24 rfl ?_
      refine x_iload_n dX11_goes_25 rfl ?_
      refine x_iload_n dX11_goes_26 rfl ?_
      refine x_cvV (c_X11_stepBy hx hr hu) (by assumption) lkX11_stepBy sX11_267 dX11_goes_27 rfl rfl (Nat.le_of_ble_eq_true rfl) (by decide) ⟨rfl, rfl, by decide, by decide⟩ ?_
      rintro h1 ⟨x1, F1⟩
      refine x_iret rfl dX11_goes_30 ⟨by decide, by decide⟩ ?_
      exact ⟨by simp only [qGoes, c8, c19, eq_self, Bool.false_eq_true, reduceCtorEq, and_true, true_and, and_false, false_and, not_true_eq_false, not_false_eq_true, if_true, if_false, ne_eq, or_true, true_or, or_false, false_or, iN_nI (show r1 < 2 ^ 31 by omega), iN_nI (show u1 < 2 ^ 31 by omega)], x1, F1⟩
    · refine x_iconst (v := -1) dX11_goes_22 (by decide) ?_
      refine x_iret rfl dX11_goes_23 ⟨by decide, by decide⟩ ?_
      exact ⟨by simp only [qGoes, c8, c19, eq_self, Bool.false_eq_true, reduceCtorEq, and_true, true_and, and_false, false_and, not_true_eq_false, not_false_eq_true, if_true, if_false, ne_eq, or_true, true_or, or_false, false_or], hx.rf⟩
set_option maxRecDepth 10000 in
set_option maxHeartbeats 2000000 in
theorem c_X11_does {g : gG} {h : gH} {x : Nat} {D : Nat → Prop} {S : AS} (hx : isX h x D S) {r u : Int32} : Ct g mX11_does [.ref x, .int r, .int u] h (some (.int (oDoes S.1 r u).1)) (Px x D ((oDoes S.1 r u).2, S.2) h) := by
  have ho := hx.2.1
  have hv := hx.2.2.1
  have n0 := hv.o
  have okw := hv.1

  have n31 : S.1.1 0 < 2 ^ 31 ∧ S.1.1 1 < 2 ^ 31 ∧ S.1.1 2 < 2 ^ 31 := by have := okw.1; omega
  refine Cn.of (L := [some (.ref x), some (.int r), some (.int u), none]) (by decide) (Nat.le_of_ble_eq_true rfl) rfl ?_
  refine x_aload_n dX11_does_0 rfl ?_
  refine x_get fX11_12 (by assumption) rfl dX11_does_1 ?_
  refine x_iload_n dX11_does_4 rfl ?_
  refine x_rdV (c_hr hv) (by assumption) lkX10_hasRule sX11_258 dX11_does_5 rfl rfl (Nat.le_of_ble_eq_true rfl) (by decide) ⟨rfl, rfl, by decide, by decide⟩ ?_
  refine x_if_eqB 22 dX11_does_8 (by decide) (fun c8 => ?_) (fun c8 => ?_)
  · refine x_iconst (v := -1) dX11_does_22 (by decide) ?_
    refine x_iret rfl dX11_does_23 ⟨by decide, by decide⟩ ?_
    exact fin hx (by simp only [oDoes, c8, eq_self, Bool.false_eq_true, reduceCtorEq, and_true, true_and, and_false, false_and, not_true_eq_false, not_false_eq_true, if_true, if_false, ne_eq, or_true, true_or, or_false, false_or])
  · refine x_aload_n dX11_does_11 rfl ?_
    refine x_get fX11_12 (by assumption) rfl dX11_does_12 ?_
    refine x_iload_n dX11_does_15 rfl ?_
    refine x_rdV (c_hw hv) (by assumption) lkX10_hasWalker sX11_154 dX11_does_16 rfl rfl (Nat.le_of_ble_eq_true rfl) (by decide) ⟨rfl, rfl, by decide, by decide⟩ ?_
    refine x_if_neB 24 dX11_does_19 (by decide) (fun c19 => ?_) (fun c19 => ?_)
    · obtain ⟨r1, hr, rfl⟩ := bl_E c8 n31.2.2
      obtain ⟨u1, hu, rfl⟩ := bl_E c19 n31.2.1
      have hu4 : u1 < 4 := by have := okw.1; omega
      have hr4 : r1 < 4 := by have := okw.1; omega
      refine x_aload_n dX11_does_24 rfl ?_
      refine x_iload_n dX11_does_25 rfl ?_
      refine x_iload_n dX11_does_26 rfl ?_
      refine x_cvV (c_X11_stepBy hx hr hu) (by assumption) lkX11_stepBy sX11_267 dX11_does_27 rfl rfl (Nat.le_of_ble_eq_true rfl) (by decide) ⟨rfl, rfl, by decide, by decide⟩ ?_
      rintro h1 ⟨x1, F1⟩
      have o1 : h1.1 x = _ := x1.2.1
      have v1 : isV h1 (x + 1) S.1 := x1.2.2.1
      have nn := v1.o
      obtain ⟨ok1, ar1, hw1, rp1⟩ := id v1
      have z10 : h1.1 ((x + 1) + 10) = some (.inl (0, 4, .inl (ar1 9))) := hw1.2 9 (by decide)
      have hrk := okw.2.2.2.2.2.2 r1 hr
      have k1 : nI (S.1.2.2 8 r1) = 1 ↔ S.1.2.2 8 r1 = 1 := nI_eq (b := 1) (by omega) (by decide)
      refine x_ist_3 dX11_does_30 (by decide) rfl ?_
      refine x_aload_n dX11_does_31 rfl ?_
      refine x_get fX11_12 o1 rfl dX11_does_32 ?_
      refine x_iload_n dX11_does_35 rfl ?_
      refine x_rdV (c_hp v1) nn lkX10_hasPath sX11_105 dX11_does_36 rfl rfl (Nat.le_of_ble_eq_true rfl) (by decide) ⟨rfl, rfl, by decide, by decide⟩ ?_
      refine x_if_neB 44 dX11_does_39 (by decide) (fun c39 => ?_) (fun c39 => ?_)
      · have l39 := (fI_bl okw.1.1).mp c39
        have st := stB_t okw l39
        rw [show fI (S.1.1 0) (stB S.1 r1 u1) = nI (stB S.1 r1 u1) from if_pos l39]
        refine x_aload_n dX11_does_44 rfl ?_
        refine x_get fX11_12 o1 rfl dX11_does_45 ?_
        refine x_getR fX11_261 nn rfl dX11_does_48 ?_
        refine x_iload_n dX11_does_51 rfl ?_
        refine x_iald r1 z10 rfl hr4 (by decide) dX11_does_52 ?_
        rw [(rp1.2.2.2 r1 hr).1]
        refine x_iconst (v := 1) dX11_does_53 (by decide) ?_
        refine x_icmp_ne 69 dX11_does_54 (by decide) (fun c54 => ?_) (fun c54 => ?_)
        · refine x_aload_n dX11_does_69 rfl ?_
          refine x_get fX11_12 o1 rfl dX11_does_70 ?_
          refine x_iload_n dX11_does_73 rfl ?_
          refine x_iload_n dX11_does_74 rfl ?_
          refine x_cnV (c_X10_goAlong v1 hu st.2 l39) nn lkX10_goAlong sX11_169 dX11_does_75 rfl rfl (Nat.le_of_ble_eq_true rfl) (by decide) ⟨rfl, rfl, by decide, by decide⟩ ?_
          rintro h2 ⟨v2, F2⟩
          refine x_iconst (v := 1) dX11_does_78 (by decide) ?_
          refine x_iret rfl dX11_does_79 ⟨by decide, by decide⟩ ?_
          have X2 := x1.now v2 F2
          have E : oDoes S.1 (nI r1) (nI u1) = (1, stG S.1 r1 u1) := by simp only [oDoes, c8, c19, l39, eq_self, Bool.false_eq_true, reduceCtorEq, and_true, true_and, and_false, false_and, not_true_eq_false, not_false_eq_true, if_true, if_false, ne_eq, or_true, true_or, or_false, false_or, iN_nI (show r1 < 2 ^ 31 by omega), iN_nI (show u1 < 2 ^ 31 by omega)]
          rw [E]
          rw [show stG S.1 r1 u1 = _ from congrArg (mv S.1 u1) (if_neg (fun q => c54 (k1.mpr q)))]
          exact ⟨rfl, X2.1, F1.tr X2.2⟩
        · refine x_aload_n dX11_does_57 rfl ?_
          refine x_get fX11_12 o1 rfl dX11_does_58 ?_
          refine x_iload_n dX11_does_61 rfl ?_
          refine x_iload_n dX11_does_62 rfl ?_
          refine x_cnV (c_X10_comeOn v1 hu4 l39 st.1) nn lkX10_comeOn sX11_173 dX11_does_63 rfl rfl (Nat.le_of_ble_eq_true rfl) (by decide) ⟨rfl, rfl, by decide, by decide⟩ ?_
          rintro h2 ⟨v2, F2⟩
          refine x_goto 78 dX11_does_66 (by decide) ?_
          refine x_iconst (v := 1) dX11_does_78 (by decide) ?_
          refine x_iret rfl dX11_does_79 ⟨by decide, by decide⟩ ?_
          have X2 := x1.now v2 F2
          have E : oDoes S.1 (nI r1) (nI u1) = (1, stG S.1 r1 u1) := by simp only [oDoes, c8, c19, l39, eq_self, Bool.false_eq_true, reduceCtorEq, and_true, true_and, and_false, false_and, not_true_eq_false, not_false_eq_true, if_true, if_false, ne_eq, or_true, true_or, or_false, false_or, iN_nI (show r1 < 2 ^ 31 by omega), iN_nI (show u1 < 2 ^ 31 by omega)]
          rw [E]
          rw [show stG S.1 r1 u1 = _ from congrArg (mv S.1 u1) (if_pos (k1.mp c54))]
          exact ⟨rfl, X2.1, F1.tr X2.2⟩
      · refine x_iconst (v := 0) dX11_does_42 (by decide) ?_
        refine x_iret rfl dX11_does_43 ⟨by decide, by decide⟩ ?_
        have c39 : ¬ stB S.1 r1 u1 < S.1.1 0 := fun q => c39 ((fI_bl okw.1.1).mpr q)
        have E : oDoes S.1 (nI r1) (nI u1) = (0, S.1) := by simp only [oDoes, c8, c19, c39, eq_self, Bool.false_eq_true, reduceCtorEq, and_true, true_and, and_false, false_and, not_true_eq_false, not_false_eq_true, if_true, if_false, ne_eq, or_true, true_or, or_false, false_or, iN_nI (show r1 < 2 ^ 31 by omega), iN_nI (show u1 < 2 ^ 31 by omega)]
        rw [E]
        exact ⟨rfl, x1, F1⟩
    · refine x_iconst (v := -1) dX11_does_22 (by decide) ?_
      refine x_iret rfl dX11_does_23 ⟨by decide, by decide⟩ ?_
      exact fin hx (by simp only [oDoes, c8, c19, eq_self, Bool.false_eq_true, reduceCtorEq, and_true, true_and, and_false, false_and, not_true_eq_false, not_false_eq_true, if_true, if_false, ne_eq, or_true, true_or, or_false, false_or])
