abbrev rwS (S : AS) (n : Nat) (a b : Nat → Int32) : AS := (S.1, S.2.1, S.2.2.1, (n, a, b), S.2.2.2.2)
section upd2
variable {h h' : gH} {x : Nat} {D : Nat → Prop} {S : AS}
theorem finA {r : Int32 × AS} {v : Int32} {S' : AS} (hp : Px x D S' h h') (E : r = (v, S')) : some (Value.int v) = some (.int r.1) ∧ Px x D r.2 h h' := by rw [E]; exact ⟨rfl, hp⟩
theorem isX.ob (hx : isX h x D S) {K : Nat × VS} {n : Nat} {a b : Nat → Int32} (hk : xK h x K) (hp : xP h x (n, a, b)) : Px x D (S.1, K, S.2.2.1, (n, a, b), S.2.2.2.2) h (hset h x (.inr (11, xF x K.1 n))) := by
  have hf : Fr x 1 h (hset h x (.inr (11, xF x K.1 n))) := Fr.set (by omega) (by omega)
  obtain ⟨a1, a2, a3, a4, a5, a6, a7, a8, a9, pt, a10⟩ := id hx
  exact ⟨⟨hx.sz hf, hset_s, a3.ag (hf.agr (by omega)), hk.ag (hf.agr (by omega)), a5.ag (hf.agr (by omega)), a6.ag (hf.agr (by omega)), a7.ag (hf.agr (by omega)), hp.ag (hf.agr (by omega)), ⟨a9.1.ag (hf.2 _ (by omega)) (hx.dd hf (by omega)), a9.2.ag (hf.agr (by omega)) (hx.dd hf (by omega))⟩, pt, a10.ag (hf.agr (by omega))⟩, hf.wid (by omega) (by omega)⟩
theorem isX.rw (hx : isX h x D S) {a b : Nat → Int32} (hp : xP h' x (S.2.2.2.1.1, a, b)) (hf : Fr (x + 43) 2 h h') : Px x D (rwS S S.2.2.2.1.1 a b) h h' := by
  obtain ⟨a1, a2, a3, a4, a5, a6, a7, a8, a9, pt, a10⟩ := id hx
  exact ⟨⟨hx.sz hf, by rw [hf.2 _ (by omega)]; exact a2, a3.ag (hf.agr (by omega)), a4.ag (hf.agr (by omega)), a5.ag (hf.agr (by omega)), a6.ag (hf.agr (by omega)), a7.ag (hf.agr (by omega)), hp, ⟨a9.1.ag (hf.2 _ (by omega)) (hx.dd hf (by omega)), a9.2.ag (hf.agr (by omega)) (hx.dd hf (by omega))⟩, pt, a10.ag (hf.agr (by omega))⟩, hf.wid (by omega) (by omega)⟩
theorem isX.kp (hx : isX h x D S) {v : VS} (hk : xK h' x (S.2.1.1, v)) (hf : Fr (x + 13) 12 h h') : Px x D (S.1, (S.2.1.1, v), S.2.2) h h' := by
  obtain ⟨a1, a2, a3, a4, a5, a6, a7, a8, a9, pt, a10⟩ := id hx
  exact ⟨⟨hx.sz hf, by rw [hf.2 _ (by omega)]; exact a2, a3.ag (hf.agr (by omega)), hk, a5.ag (hf.agr (by omega)), a6.ag (hf.agr (by omega)), a7.ag (hf.agr (by omega)), a8.ag (hf.agr (by omega)), ⟨a9.1.ag (hf.2 _ (by omega)) (hx.dd hf (by omega)), a9.2.ag (hf.agr (by omega)) (hx.dd hf (by omega))⟩, pt, a10.ag (hf.agr (by omega))⟩, hf.wid (by omega) (by omega)⟩
end upd2
def oKeep (S : AS) : Int32 × AS := (1, (S.1, (1, S.1), S.2.2))
def oAgain (S : AS) : Int32 × AS := if S.2.1.1 = 1 then (nI (S.2.1.2.1 0), (S.2.1.2, S.2)) else (-3, S)
def qMany (S : AS) (w : Int32) : Int32 := if w = 0 then nI (S.1.1 0) else if w = 1 then nI (S.1.1 1) else if w = 2 then nI (S.1.1 2) else if w = 3 then nI S.2.2.2.1.1 else if w = 4 then nI S.2.2.1.1 else if w = 5 then nI S.2.2.2.2.2.2.1 else -1
def qTrace (S : AS) (i : Int32) : Int32 := if bl i (nI S.2.2.2.2.2.2.1) = true then S.2.2.2.2.2.2.2 (iN i) else -3
def nrC (V : VS) (i : Nat) : Int32 := nI (bc8 (rea (pnN V i) ((pnN V i).1 3) 0 7))
def nrP (V : VS) (i : Nat) : Int32 := nI ((pnN V i).1 3)
def oProve (S : AS) (n : Int32) : Int32 × AS := if ¬ n < 1 ∧ n ≤ 12 then (n, rwS S (iN n) (fun i => nrP S.1 (i + 1)) (fun i => nrC S.1 (i + 1))) else (-1, S)
def qRow (S : AS) (i w : Int32) : Int32 := if bl i (nI S.2.2.2.1.1) = true ∧ ut w 1 = true then if w = 0 then S.2.2.2.1.2.1 (iN i) else S.2.2.2.1.2.2 (iN i) else -9
def oAlter (S : AS) (i w v : Int32) : Int32 × AS := if bl i (nI S.2.2.2.1.1) = true ∧ ut w 1 = true then if w = 0 then (S.2.2.2.1.2.1 (iN i), rwS S S.2.2.2.1.1 (va_up S.2.2.2.1.2.1 (iN i) v) S.2.2.2.1.2.2) else (S.2.2.2.1.2.2 (iN i), rwS S S.2.2.2.1.1 S.2.2.2.1.2.1 (va_up S.2.2.2.1.2.2 (iN i) v)) else (-9, S)
def jgF (S : AS) : Nat := fa_first (fun i => decide (¬ (S.2.2.2.1.2.1 i = nrP S.1 (i + 1) ∧ S.2.2.2.1.2.2 i = nrC S.1 (i + 1)))) S.2.2.2.1.1
def qJudge (S : AS) : Int32 := if jgF S < S.2.2.2.1.1 then nI (jgF S + 1) else 0
set_option maxRecDepth 10000 in
set_option maxHeartbeats 2000000 in
theorem c_X11_keep {g : gG} {h : gH} {x : Nat} {D : Nat → Prop} {S : AS} (hx : isX h x D S) : Ct g mX11_keep [.ref x] h (some (.int (oKeep S).1)) (Px x D (oKeep S).2 h) := by
  have ho := hx.2.1
  have hv := hx.2.2.1
  have n0 := hv.o
  have okw := hv.1

  obtain ⟨k1, vk, hvk, ek⟩ := hx.2.2.2.1
  have q0 := hvk.o
  refine Cn.of (L := [some (.ref x)]) (by decide) (Nat.le_of_ble_eq_true rfl) rfl ?_
  refine x_aload_n dX11_keep_0 rfl ?_
  refine x_get fX11_16 ho rfl dX11_keep_1 ?_
  refine x_aload_n dX11_keep_4 rfl ?_
  refine x_get fX11_12 (by assumption) rfl dX11_keep_5 ?_
  refine x_cnV (c_X10_copyFrom hvk hv (by omega)) q0 lkX10_copyFrom sX11_72 dX11_keep_8 rfl rfl (Nat.le_of_ble_eq_true rfl) (by decide) ⟨rfl, rfl, by decide, by decide⟩ ?_
  rintro h1 ⟨v1, F1⟩
  obtain ⟨x1, G1⟩ := hx.kp (v := S.1) ⟨k1, S.1, v1, fun _ => rfl⟩ F1
  have o1 : h1.1 x = _ := x1.2.1
  obtain ⟨x2, G2⟩ := x1.ob (K := (1, S.1)) ⟨Nat.le_refl 1, S.1, v1, fun _ => rfl⟩ x1.2.2.2.2.2.2.2.1
  refine x_aload_n dX11_keep_11 rfl ?_
  refine x_iconst (v := 1) dX11_keep_12 (by decide) ?_
  refine x_put (fs' := xF x 1 S.2.2.2.1.1) fX11_331 o1 (Nat.le_of_ble_eq_true rfl) rfl rfl rfl dX11_keep_13 ?_
  refine x_iconst (v := 1) dX11_keep_16 (by decide) ?_
  refine x_iret rfl dX11_keep_17 ⟨by decide, by decide⟩ ?_
  exact ⟨rfl, x2, G1.tr G2⟩
set_option maxRecDepth 10000 in
set_option maxHeartbeats 2000000 in
theorem c_X11_again {g : gG} {h : gH} {x : Nat} {D : Nat → Prop} {S : AS} (hx : isX h x D S) : Ct g mX11_again [.ref x] h (some (.int (oAgain S).1)) (Px x D (oAgain S).2 h) := by
  have ho := hx.2.1
  have hv := hx.2.2.1
  have n0 := hv.o
  have okw := hv.1

  obtain ⟨k1, vk, hvk, ek⟩ := hx.2.2.2.1
  have kz : nI S.2.1.1 = 0 ↔ S.2.1.1 = 0 := nI_z (by omega)
  refine Cn.of (L := [some (.ref x)]) (by decide) (Nat.le_of_ble_eq_true rfl) rfl ?_
  refine x_aload_n dX11_again_0 rfl ?_
  refine x_get fX11_331 (by assumption) rfl dX11_again_1 ?_
  refine x_if_ne 10 dX11_again_4 (by decide) (fun c4 => ?_) (fun c4 => ?_)
  · have k2 : S.2.1.1 = 1 := by have : ¬ S.2.1.1 = 0 := fun q => c4 (kz.mpr q); omega
    have e := ek k2
    subst e
    refine x_aload_n dX11_again_10 rfl ?_
    refine x_get fX11_12 ho rfl dX11_again_11 ?_
    refine x_aload_n dX11_again_14 rfl ?_
    refine x_get fX11_16 ho rfl dX11_again_15 ?_
    refine x_cnV (c_X10_copyFrom hv hvk (by omega)) n0 lkX10_copyFrom sX11_72 dX11_again_18 rfl rfl (Nat.le_of_ble_eq_true rfl) (by decide) ⟨rfl, rfl, by decide, by decide⟩ ?_
    rintro h1 ⟨v1, F1⟩
    obtain ⟨x1, G1⟩ := hx.now v1 F1
    have o1 : h1.1 x = _ := x1.2.1
    have nn := v1.o
    refine x_aload_n dX11_again_21 rfl ?_
    refine x_get fX11_12 o1 rfl dX11_again_22 ?_
    refine x_get fX11_87 nn rfl dX11_again_25 ?_
    refine x_iret rfl dX11_again_28 ⟨by decide, by decide⟩ ?_
    exact finA ⟨x1, G1⟩ (by rw [oAgain, if_pos k2]; rfl)
  · refine x_bipush (v := -3) dX11_again_7 (by decide) ?_
    refine x_iret rfl dX11_again_9 ⟨by decide, by decide⟩ ?_
    exact finA hx.rf (by rw [oAgain, if_neg (by have := kz.mp c4; omega)])
set_option maxRecDepth 10000 in
set_option maxHeartbeats 2000000 in
theorem c_X11_many {g : gG} {h : gH} {x : Nat} {D : Nat → Prop} {S : AS} (hx : isX h x D S) {w : Int32} : Rd g mX11_many [.ref x, .int w] h (.int (qMany S w)) := by
  have ho := hx.2.1
  have hv := hx.2.2.1
  have n0 := hv.o
  have okw := hv.1

  obtain ⟨tl, ⟨s0, s1, s2, s3, s4, t0⟩, tb⟩ := hx.2.2.2.2.2.1
  obtain ⟨pt, r30, r0, rb⟩ := hx.2.2.2.2.2.2.2.2.2
  refine Cn.of (L := [some (.ref x), some (.int w)]) (by decide) (Nat.le_of_ble_eq_true rfl) rfl ?_
  refine x_iload_n dX11_many_0 rfl ?_
  refine swX11_many_1 (fun c1 => ?_) (fun c1 => ?_) (fun c1 => ?_) (fun c1 => ?_) (fun c1 => ?_) (fun c1 => ?_) (fun c1_0 c1_1 c1_2 c1_3 c1_4 c1_5 => ?_)
  · refine x_aload_n dX11_many_40 rfl ?_
    refine x_get fX11_12 (by assumption) rfl dX11_many_41 ?_
    refine x_get fX11_87 (by assumption) rfl dX11_many_44 ?_
    refine x_iret rfl dX11_many_47 ⟨by decide, by decide⟩ ?_
    exact ⟨by simp only [qMany, c1, eq_self, Bool.false_eq_true, reduceCtorEq, and_true, true_and, and_false, false_and, not_true_eq_false, not_false_eq_true, if_true, if_false, ne_eq, or_true, true_or, or_false, false_or, ne_1_0, ne_2_0, ne_2_1, ne_3_0, ne_3_1, ne_3_2, ne_4_0, ne_4_1, ne_4_2, ne_4_3, ne_5_0, ne_5_1, ne_5_2, ne_5_3, ne_5_4, ne_6_0, ne_6_1, ne_6_2, ne_6_3, ne_6_4, ne_6_5, ne_7_0, ne_7_1, ne_7_2, ne_7_3, ne_7_4, ne_7_5, ne_7_6, ne_8_0, ne_8_1, ne_8_2, ne_8_3, ne_8_4, ne_8_5, ne_8_6, ne_8_7]; rfl, rfl⟩
  · refine x_aload_n dX11_many_48 rfl ?_
    refine x_get fX11_12 (by assumption) rfl dX11_many_49 ?_
    refine x_get fX11_147 (by assumption) rfl dX11_many_52 ?_
    refine x_iret rfl dX11_many_55 ⟨by decide, by decide⟩ ?_
    exact ⟨by simp only [qMany, c1, eq_self, Bool.false_eq_true, reduceCtorEq, and_true, true_and, and_false, false_and, not_true_eq_false, not_false_eq_true, if_true, if_false, ne_eq, or_true, true_or, or_false, false_or, ne_1_0, ne_2_0, ne_2_1, ne_3_0, ne_3_1, ne_3_2, ne_4_0, ne_4_1, ne_4_2, ne_4_3, ne_5_0, ne_5_1, ne_5_2, ne_5_3, ne_5_4, ne_6_0, ne_6_1, ne_6_2, ne_6_3, ne_6_4, ne_6_5, ne_7_0, ne_7_1, ne_7_2, ne_7_3, ne_7_4, ne_7_5, ne_7_6, ne_8_0, ne_8_1, ne_8_2, ne_8_3, ne_8_4, ne_8_5, ne_8_6, ne_8_7]; rfl, rfl⟩
  · refine x_aload_n dX11_many_56 rfl ?_
    refine x_get fX11_12 (by assumption) rfl dX11_many_57 ?_
    refine x_get fX11_252 (by assumption) rfl dX11_many_60 ?_
    refine x_iret rfl dX11_many_63 ⟨by decide, by decide⟩ ?_
    exact ⟨by simp only [qMany, c1, eq_self, Bool.false_eq_true, reduceCtorEq, and_true, true_and, and_false, false_and, not_true_eq_false, not_false_eq_true, if_true, if_false, ne_eq, or_true, true_or, or_false, false_or, ne_1_0, ne_2_0, ne_2_1, ne_3_0, ne_3_1, ne_3_2, ne_4_0, ne_4_1, ne_4_2, ne_4_3, ne_5_0, ne_5_1, ne_5_2, ne_5_3, ne_5_4, ne_6_0, ne_6_1, ne_6_2, ne_6_3, ne_6_4, ne_6_5, ne_7_0, ne_7_1, ne_7_2, ne_7_3, ne_7_4, ne_7_5, ne_7_6, ne_8_0, ne_8_1, ne_8_2, ne_8_3, ne_8_4, ne_8_5, ne_8_6, ne_8_7]; rfl, rfl⟩
  · refine x_aload_n dX11_many_64 rfl ?_
    refine x_get fX11_83 ho rfl dX11_many_65 ?_
    refine x_iret rfl dX11_many_68 ⟨by decide, by decide⟩ ?_
    exact ⟨by simp only [qMany, c1, eq_self, Bool.false_eq_true, reduceCtorEq, and_true, true_and, and_false, false_and, not_true_eq_false, not_false_eq_true, if_true, if_false, ne_eq, or_true, true_or, or_false, false_or, ne_1_0, ne_2_0, ne_2_1, ne_3_0, ne_3_1, ne_3_2, ne_4_0, ne_4_1, ne_4_2, ne_4_3, ne_5_0, ne_5_1, ne_5_2, ne_5_3, ne_5_4, ne_6_0, ne_6_1, ne_6_2, ne_6_3, ne_6_4, ne_6_5, ne_7_0, ne_7_1, ne_7_2, ne_7_3, ne_7_4, ne_7_5, ne_7_6, ne_8_0, ne_8_1, ne_8_2, ne_8_3, ne_8_4, ne_8_5, ne_8_6, ne_8_7], rfl⟩
  · refine x_aload_n dX11_many_69 rfl ?_
    refine x_get fX11_25 ho rfl dX11_many_70 ?_
    refine x_get fX11_330 t0 rfl dX11_many_73 ?_
    refine x_iret rfl dX11_many_76 ⟨by decide, by decide⟩ ?_
    exact ⟨by simp only [qMany, c1, eq_self, Bool.false_eq_true, reduceCtorEq, and_true, true_and, and_false, false_and, not_true_eq_false, not_false_eq_true, if_true, if_false, ne_eq, or_true, true_or, or_false, false_or, ne_1_0, ne_2_0, ne_2_1, ne_3_0, ne_3_1, ne_3_2, ne_4_0, ne_4_1, ne_4_2, ne_4_3, ne_5_0, ne_5_1, ne_5_2, ne_5_3, ne_5_4, ne_6_0, ne_6_1, ne_6_2, ne_6_3, ne_6_4, ne_6_5, ne_7_0, ne_7_1, ne_7_2, ne_7_3, ne_7_4, ne_7_5, ne_7_6, ne_8_0, ne_8_1, ne_8_2, ne_8_3, ne_8_4, ne_8_5, ne_8_6, ne_8_7], rfl⟩
  · refine x_aload_n dX11_many_77 rfl ?_
    refine x_get fX11_58 ho rfl dX11_many_78 ?_
    refine x_get fX11_324 r0 rfl dX11_many_81 ?_
    refine x_iret rfl dX11_many_84 ⟨by decide, by decide⟩ ?_
    exact ⟨by simp only [qMany, c1, eq_self, Bool.false_eq_true, reduceCtorEq, and_true, true_and, and_false, false_and, not_true_eq_false, not_false_eq_true, if_true, if_false, ne_eq, or_true, true_or, or_false, false_or, ne_1_0, ne_2_0, ne_2_1, ne_3_0, ne_3_1, ne_3_2, ne_4_0, ne_4_1, ne_4_2, ne_4_3, ne_5_0, ne_5_1, ne_5_2, ne_5_3, ne_5_4, ne_6_0, ne_6_1, ne_6_2, ne_6_3, ne_6_4, ne_6_5, ne_7_0, ne_7_1, ne_7_2, ne_7_3, ne_7_4, ne_7_5, ne_7_6, ne_8_0, ne_8_1, ne_8_2, ne_8_3, ne_8_4, ne_8_5, ne_8_6, ne_8_7], rfl⟩
  · refine x_iconst (v := -1) dX11_many_85 (by decide) ?_
    refine x_iret rfl dX11_many_86 ⟨by decide, by decide⟩ ?_
    exact ⟨by simp only [qMany, c1_0, c1_1, c1_2, c1_3, c1_4, c1_5, eq_self, Bool.false_eq_true, reduceCtorEq, and_true, true_and, and_false, false_and, not_true_eq_false, not_false_eq_true, if_true, if_false, ne_eq, or_true, true_or, or_false, false_or, ne_1_0, ne_2_0, ne_2_1, ne_3_0, ne_3_1, ne_3_2, ne_4_0, ne_4_1, ne_4_2, ne_4_3, ne_5_0, ne_5_1, ne_5_2, ne_5_3, ne_5_4, ne_6_0, ne_6_1, ne_6_2, ne_6_3, ne_6_4, ne_6_5, ne_7_0, ne_7_1, ne_7_2, ne_7_3, ne_7_4, ne_7_5, ne_7_6, ne_8_0, ne_8_1, ne_8_2, ne_8_3, ne_8_4, ne_8_5, ne_8_6, ne_8_7], rfl⟩
set_option maxRecDepth 10000 in
set_option maxHeartbeats 2000000 in
theorem c_X11_trace {g : gG} {h : gH} {x : Nat} {D : Nat → Prop} {S : AS} (hx : isX h x D S) {i : Int32} : Rd g mX11_trace [.ref x, .int i] h (.int (qTrace S i)) := by
  have ho := hx.2.1
  have hv := hx.2.2.1
  have n0 := hv.o
  have okw := hv.1

  obtain ⟨pt, r30, r0, rb, r1, re⟩ := hx.2.2.2.2.2.2.2.2.2
  refine Cn.of (L := [some (.ref x), some (.int i)]) (by decide) (Nat.le_of_ble_eq_true rfl) rfl ?_
  refine x_iload_n dX11_trace_0 rfl ?_
  refine x_aload_n dX11_trace_1 rfl ?_
  refine x_get fX11_58 ho rfl dX11_trace_2 ?_
  refine x_get fX11_324 r0 rfl dX11_trace_5 ?_
  refine x_rdS c_bl lkX11_isBelow sX11_94 dX11_trace_8 rfl rfl (Nat.le_of_ble_eq_true rfl) (by decide) ⟨rfl, rfl, by decide, by decide⟩ ?_
  refine x_if_eqB 26 dX11_trace_11 (by decide) (fun c11 => ?_) (fun c11 => ?_)
  · refine x_bipush (v := -3) dX11_trace_26 (by decide) ?_
    refine x_iret rfl dX11_trace_28 ⟨by decide, by decide⟩ ?_
    exact ⟨by simp only [qTrace, c11, eq_self, Bool.false_eq_true, reduceCtorEq, and_true, true_and, and_false, false_and, not_true_eq_false, not_false_eq_true, if_true, if_false, ne_eq, or_true, true_or, or_false, false_or], rfl⟩
  · obtain ⟨i1, hi, rfl⟩ := bl_E c11 (by omega)
    refine x_aload_n dX11_trace_14 rfl ?_
    refine x_get fX11_58 ho rfl dX11_trace_15 ?_
    refine x_getR fX11_327 r0 rfl dX11_trace_18 ?_
    refine x_iload_n dX11_trace_21 rfl ?_
    refine x_iald i1 r1 rfl (by omega) (by decide) dX11_trace_22 ?_
    refine x_goto 28 dX11_trace_23 (by decide) ?_
    refine x_iret rfl dX11_trace_28 ⟨by decide, by decide⟩ ?_
    exact ⟨by rw [re i1 hi]; simp only [qTrace, c11, eq_self, Bool.false_eq_true, reduceCtorEq, and_true, true_and, and_false, false_and, not_true_eq_false, not_false_eq_true, if_true, if_false, ne_eq, or_true, true_or, or_false, false_or, iN_nI (show i1 < 2 ^ 31 by omega)], rfl⟩
set_option maxRecDepth 10000 in
set_option maxHeartbeats 2000000 in
theorem c_X11_row {g : gG} {h : gH} {x : Nat} {D : Nat → Prop} {S : AS} (hx : isX h x D S) {i w : Int32} : Rd g mX11_row [.ref x, .int i, .int w] h (.int (qRow S i w)) := by
  have ho := hx.2.1
  have hv := hx.2.2.1
  have n0 := hv.o
  have okw := hv.1
  obtain ⟨rn12, ra, rb, e43, e44, rab⟩ := hx.2.2.2.2.2.2.2.1

  refine Cn.of (L := [some (.ref x), some (.int i), some (.int w)]) (by decide) (Nat.le_of_ble_eq_true rfl) rfl ?_
  refine x_iload_n dX11_row_0 rfl ?_
  refine x_aload_n dX11_row_1 rfl ?_
  refine x_get fX11_83 ho rfl dX11_row_2 ?_
  refine x_rdS c_bl lkX11_isBelow sX11_94 dX11_row_5 rfl rfl (Nat.le_of_ble_eq_true rfl) (by decide) ⟨rfl, rfl, by decide, by decide⟩ ?_
  refine x_if_eqB 19 dX11_row_8 (by decide) (fun c8 => ?_) (fun c8 => ?_)
  · refine x_bipush (v := -9) dX11_row_19 (by decide) ?_
    refine x_iret rfl dX11_row_21 ⟨by decide, by decide⟩ ?_
    exact ⟨by simp only [qRow, c8, eq_self, Bool.false_eq_true, reduceCtorEq, and_true, true_and, and_false, false_and, not_true_eq_false, not_false_eq_true, if_true, if_false, ne_eq, or_true, true_or, or_false, false_or], rfl⟩
  · refine x_iload_n dX11_row_11 rfl ?_
    refine x_iconst (v := 1) dX11_row_12 (by decide) ?_
    refine x_rdS c_ut lkX11_isUpTo sX11_98 dX11_row_13 rfl rfl (Nat.le_of_ble_eq_true rfl) (by decide) ⟨rfl, rfl, by decide, by decide⟩ ?_
    refine x_if_neB 22 dX11_row_16 (by decide) (fun c16 => ?_) (fun c16 => ?_)
    · obtain ⟨i1, hi, rfl⟩ := bl_E c8 (by omega)
      refine x_iload_n dX11_row_22 rfl ?_
      refine x_if_ne 35 dX11_row_23 (by decide) (fun c23 => ?_) (fun c23 => ?_)
      · refine x_aload_n dX11_row_35 rfl ?_
        refine x_get fX11_40 ho rfl dX11_row_36 ?_
        refine x_iload_n dX11_row_39 rfl ?_
        refine x_iald i1 e44 rfl (by omega) (by decide) dX11_row_40 ?_
        refine x_iret rfl dX11_row_41 ⟨by decide, by decide⟩ ?_
        exact ⟨by rw [(rab i1 hi).2]; simp only [qRow, c8, c16, c23, eq_self, Bool.false_eq_true, reduceCtorEq, and_true, true_and, and_false, false_and, not_true_eq_false, not_false_eq_true, if_true, if_false, ne_eq, or_true, true_or, or_false, false_or, iN_nI (show i1 < 2 ^ 31 by omega)], rfl⟩
      · refine x_aload_n dX11_row_26 rfl ?_
        refine x_get fX11_36 ho rfl dX11_row_27 ?_
        refine x_iload_n dX11_row_30 rfl ?_
        refine x_iald i1 e43 rfl (by omega) (by decide) dX11_row_31 ?_
        refine x_goto 41 dX11_row_32 (by decide) ?_
        refine x_iret rfl dX11_row_41 ⟨by decide, by decide⟩ ?_
        obtain rfl := c23
        exact ⟨by rw [(rab i1 hi).1]; simp only [qRow, c8, c16, eq_self, Bool.false_eq_true, reduceCtorEq, and_true, true_and, and_false, false_and, not_true_eq_false, not_false_eq_true, if_true, if_false, ne_eq, or_true, true_or, or_false, false_or, iN_nI (show i1 < 2 ^ 31 by omega)], rfl⟩
    · refine x_bipush (v := -9) dX11_row_19 (by decide) ?_
      refine x_iret rfl dX11_row_21 ⟨by decide, by decide⟩ ?_
      exact ⟨by simp only [qRow, c8, c16, eq_self, Bool.false_eq_true, reduceCtorEq, and_true, true_and, and_false, false_and, not_true_eq_false, not_false_eq_true, if_true, if_false, ne_eq, or_true, true_or, or_false, false_or], rfl⟩
theorem vu_c {a b : Nat → Int32} {i j : Nat} {v : Int32} (h : a j = b j) : va_up a i v j = va_up b i v j := by
  simp only [va_up]; split
  · rfl
  · exact h
set_option maxRecDepth 10000 in
set_option maxHeartbeats 2000000 in
theorem c_X11_alterRow {g : gG} {h : gH} {x : Nat} {D : Nat → Prop} {S : AS} (hx : isX h x D S) {i w v : Int32} : Ct g mX11_alterRow [.ref x, .int i, .int w, .int v] h (some (.int (oAlter S i w v).1)) (Px x D (oAlter S i w v).2 h) := by
  have ho := hx.2.1
  have hv := hx.2.2.1
  have n0 := hv.o
  have okw := hv.1
  obtain ⟨rn12, ra, rb, e43, e44, rab⟩ := hx.2.2.2.2.2.2.2.1

  refine Cn.of (L := [some (.ref x), some (.int i), some (.int w), some (.int v), none, none]) (by decide) (Nat.le_of_ble_eq_true rfl) rfl ?_
  refine x_iload_n dX11_alterRow_0 rfl ?_
  refine x_aload_n dX11_alterRow_1 rfl ?_
  refine x_get fX11_83 ho rfl dX11_alterRow_2 ?_
  refine x_rdS c_bl lkX11_isBelow sX11_94 dX11_alterRow_5 rfl rfl (Nat.le_of_ble_eq_true rfl) (by decide) ⟨rfl, rfl, by decide, by decide⟩ ?_
  refine x_if_eqB 19 dX11_alterRow_8 (by decide) (fun c8 => ?_) (fun c8 => ?_)
  · refine x_bipush (v := -9) dX11_alterRow_19 (by decide) ?_
    refine x_iret rfl dX11_alterRow_21 ⟨by decide, by decide⟩ ?_
    exact finA hx.rf (by simp only [oAlter, c8, eq_self, Bool.false_eq_true, reduceCtorEq, and_true, true_and, and_false, false_and, not_true_eq_false, not_false_eq_true, if_true, if_false, ne_eq, or_true, true_or, or_false, false_or])
  · refine x_iload_n dX11_alterRow_11 rfl ?_
    refine x_iconst (v := 1) dX11_alterRow_12 (by decide) ?_
    refine x_rdS c_ut lkX11_isUpTo sX11_98 dX11_alterRow_13 rfl rfl (Nat.le_of_ble_eq_true rfl) (by decide) ⟨rfl, rfl, by decide, by decide⟩ ?_
    refine x_if_neB 22 dX11_alterRow_16 (by decide) (fun c16 => ?_) (fun c16 => ?_)
    · obtain ⟨i1, hi, rfl⟩ := bl_E c8 (by omega)
      refine x_iload_n dX11_alterRow_22 rfl ?_
      refine x_if_ne 33 dX11_alterRow_23 (by decide) (fun c23 => ?_) (fun c23 => ?_)
      · refine x_aload_n dX11_alterRow_33 rfl ?_
        refine x_get fX11_40 ho rfl dX11_alterRow_34 ?_
        refine x_ast_4 dX11_alterRow_37 (by decide) rfl ?_
        refine x_aload dX11_alterRow_39 rfl ?_
        refine x_iload_n dX11_alterRow_41 rfl ?_
        refine x_iald i1 (by assumption) rfl (by omega) (by decide) dX11_alterRow_42 ?_
        refine x_ist_5 dX11_alterRow_43 (by decide) rfl ?_
        refine x_aload dX11_alterRow_45 rfl ?_
        refine x_iload_n dX11_alterRow_47 rfl ?_
        refine x_iload_n dX11_alterRow_48 rfl ?_
        refine x_iast i1 (by assumption) rfl (by omega) (by decide) dX11_alterRow_49 ?_
        refine x_iload dX11_alterRow_50 rfl ?_
        refine x_iret rfl dX11_alterRow_52 ⟨by decide, by decide⟩ ?_
        obtain ⟨x1, G1⟩ := hx.rw (h' := hset h (x + 44) (.inl (0, 12, .inl (va_up rb i1 v)))) (a := S.2.2.2.1.2.1) (b := va_up S.2.2.2.1.2.2 i1 v) ⟨rn12, ra, va_up rb i1 v, (hset_n (by omega)).trans e43, hset_s, fun j hj => ⟨(rab j hj).1, vu_c (rab j hj).2⟩⟩ (Fr.set (by omega) (by omega))
        refine finA ⟨x1, G1⟩ ?_
        rw [(rab i1 hi).2]; simp only [oAlter, c8, c16, c23, eq_self, Bool.false_eq_true, reduceCtorEq, and_true, true_and, and_false, false_and, not_true_eq_false, not_false_eq_true, if_true, if_false, ne_eq, or_true, true_or, or_false, false_or, iN_nI (show i1 < 2 ^ 31 by omega)]
      · refine x_aload_n dX11_alterRow_26 rfl ?_
        refine x_get fX11_36 ho rfl dX11_alterRow_27 ?_
        refine x_goto 37 dX11_alterRow_30 (by decide) ?_
        refine x_ast_4 dX11_alterRow_37 (by decide) rfl ?_
        refine x_aload dX11_alterRow_39 rfl ?_
        refine x_iload_n dX11_alterRow_41 rfl ?_
        refine x_iald i1 (by assumption) rfl (by omega) (by decide) dX11_alterRow_42 ?_
        refine x_ist_5 dX11_alterRow_43 (by decide) rfl ?_
        refine x_aload dX11_alterRow_45 rfl ?_
        refine x_iload_n dX11_alterRow_47 rfl ?_
        refine x_iload_n dX11_alterRow_48 rfl ?_
        refine x_iast i1 (by assumption) rfl (by omega) (by decide) dX11_alterRow_49 ?_
        refine x_iload dX11_alterRow_50 rfl ?_
        refine x_iret rfl dX11_alterRow_52 ⟨by decide, by decide⟩ ?_
        obtain ⟨x1, G1⟩ := hx.rw (h' := hset h (x + 43) (.inl (0, 12, .inl (va_up ra i1 v)))) (a := va_up S.2.2.2.1.2.1 i1 v) (b := S.2.2.2.1.2.2) ⟨rn12, va_up ra i1 v, rb, hset_s, (hset_n (by omega)).trans e44, fun j hj => ⟨vu_c (rab j hj).1, (rab j hj).2⟩⟩ (Fr.set (by omega) (by omega))
        obtain rfl := c23
        refine finA ⟨x1, G1⟩ ?_
        rw [(rab i1 hi).1]; simp only [oAlter, c8, c16, eq_self, Bool.false_eq_true, reduceCtorEq, and_true, true_and, and_false, false_and, not_true_eq_false, not_false_eq_true, if_true, if_false, ne_eq, or_true, true_or, or_false, false_or, iN_nI (show i1 < 2 ^ 31 by omega)]
    · refine x_bipush (v := -9) dX11_alterRow_19 (by decide) ?_
      refine x_iret rfl dX11_alterRow_21 ⟨by decide, by decide⟩ ?_
      exact finA hx.rf (by simp only [oAlter, c8, c16, eq_self, Bool.false_eq_true, reduceCtorEq, and_true, true_and, and_false, false_and, not_true_eq_false, not_false_eq_true, if_true, if_false, ne_eq, or_true, true_or, or_false, false_or])
