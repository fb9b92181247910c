theorem ne_1_0 : (((1 : Int32) = 0) = False) := eq_false (by decide)
theorem ne_2_0 : (((2 : Int32) = 0) = False) := eq_false (by decide)
theorem ne_2_1 : (((2 : Int32) = 1) = False) := eq_false (by decide)
theorem ne_3_0 : (((3 : Int32) = 0) = False) := eq_false (by decide)
theorem ne_3_1 : (((3 : Int32) = 1) = False) := eq_false (by decide)
theorem ne_3_2 : (((3 : Int32) = 2) = False) := eq_false (by decide)
theorem ne_4_0 : (((4 : Int32) = 0) = False) := eq_false (by decide)
theorem ne_4_1 : (((4 : Int32) = 1) = False) := eq_false (by decide)
theorem ne_4_2 : (((4 : Int32) = 2) = False) := eq_false (by decide)
theorem ne_4_3 : (((4 : Int32) = 3) = False) := eq_false (by decide)
theorem ne_5_0 : (((5 : Int32) = 0) = False) := eq_false (by decide)
theorem ne_5_1 : (((5 : Int32) = 1) = False) := eq_false (by decide)
theorem ne_5_2 : (((5 : Int32) = 2) = False) := eq_false (by decide)
theorem ne_5_3 : (((5 : Int32) = 3) = False) := eq_false (by decide)
theorem ne_5_4 : (((5 : Int32) = 4) = False) := eq_false (by decide)
theorem ne_6_0 : (((6 : Int32) = 0) = False) := eq_false (by decide)
theorem ne_6_1 : (((6 : Int32) = 1) = False) := eq_false (by decide)
theorem ne_6_2 : (((6 : Int32) = 2) = False) := eq_false (by decide)
theorem ne_6_3 : (((6 : Int32) = 3) = False) := eq_false (by decide)
theorem ne_6_4 : (((6 : Int32) = 4) = False) := eq_false (by decide)
theorem ne_6_5 : (((6 : Int32) = 5) = False) := eq_false (by decide)
theorem ne_7_0 : (((7 : Int32) = 0) = False) := eq_false (by decide)
theorem ne_7_1 : (((7 : Int32) = 1) = False) := eq_false (by decide)
theorem ne_7_2 : (((7 : Int32) = 2) = False) := eq_false (by decide)
theorem ne_7_3 : (((7 : Int32) = 3) = False) := eq_false (by decide)
theorem ne_7_4 : (((7 : Int32) = 4) = False) := eq_false (by decide)
theorem ne_7_5 : (((7 : Int32) = 5) = False) := eq_false (by decide)
theorem ne_7_6 : (((7 : Int32) = 6) = False) := eq_false (by decide)
theorem ne_8_0 : (((8 : Int32) = 0) = False) := eq_false (by decide)
theorem ne_8_1 : (((8 : Int32) = 1) = False) := eq_false (by decide)
theorem ne_8_2 : (((8 : Int32) = 2) = False) := eq_false (by decide)
theorem ne_8_3 : (((8 : Int32) = 3) = False) := eq_false (by decide)
theorem ne_8_4 : (((8 : Int32) = 4) = False) := eq_false (by decide)
theorem ne_8_5 : (((8 : Int32) = 5) = False) := eq_false (by decide)
theorem ne_8_6 : (((8 : Int32) = 6) = False) := eq_false (by decide)
theorem ne_8_7 : (((8 : Int32) = 7) = False) := eq_false (by decide)
def qPathOf (V : VS) (p w : Int32) : Int32 := if bl p (nI (V.1 0)) = true then if w = 0 then nI (V.2.2 0 (iN p)) else if w = 1 then nI (V.2.2 1 (iN p)) else if w = 2 then nI (V.2.2 2 (iN p)) else if w = 3 then nI (V.2.2 3 (iN p)) else if w = 4 then nI (V.2.2 4 (iN p)) else if w = 5 then b2i ((V.1 3).testBit (iN p) = true) else if w = 6 then nI (stays V (iN p)) else if w = 7 then nI (comes V (iN p)) else if w = 8 then nI (onS V (iN p) (V.1 1)) else -1 else -1
def qWalkerOf (V : VS) (u w : Int32) : Int32 := if bl u (nI (V.1 1)) = true then if w = 0 then plI (V.2.2 5 (iN u)) else if w = 1 then onI (V.2.2 5 (iN u)) else if w = 2 then nI (V.2.2 6 (iN u)) else -1 else -1
def qRuleOf (V : VS) (r w : Int32) : Int32 := if bl r (nI (V.1 2)) = true then if w = 0 then nI (V.2.2 8 (iN r)) else if w = 1 then nI (V.2.2 9 (iN r)) else -1 else -1
def qCount (V : VS) (w : Int32) : Int32 := if w = 0 then nI (V.1 5) else if w = 1 then nI (V.1 3) else if w = 2 then nI (heldS V (V.1 1)) else if w = 3 then nI (payS V false (V.1 1)) else if w = 4 then nI (payS V true (V.1 1)) else -1
def qWay (V : VS) (a b : Int32) : Int32 := if bl a 8 = true ∧ bl b 8 = true then dI (dist V (V.1 3) (iN a) (iN b)) else -1
def qReach (V : VS) (a : Int32) : Int32 := if bl a 8 = true then nI (rea V (V.1 3) (iN a) 7) else -1
set_option maxRecDepth 10000 in
set_option maxHeartbeats 2000000 in
theorem c_X11_pathOf {g : gG} {h : gH} {x : Nat} {D : Nat → Prop} {S : AS} (hx : isX h x D S) {p w : Int32} : Rd g mX11_pathOf [.ref x, .int p, .int w] h (.int (qPathOf S.1 p w)) := by
  have ho := hx.2.1
  have hv := hx.2.2.1
  have n0 := hv.o
  have okw := hv.1
  obtain ⟨ok0, ar, hw, rp⟩ := id hv
  have w0 : h.1 (x + 1) = some (.inr (10, wF (x + 1) (wS S.1))) := hw.1
  have w1 : h.1 ((x + 1) + 1) = some (.inl (0, 8, .inl (ar 0))) := hw.2 0 (by decide)
  have w2 : h.1 ((x + 1) + 2) = some (.inl (0, 8, .inl (ar 1))) := hw.2 1 (by decide)
  have w3 : h.1 ((x + 1) + 3) = some (.inl (0, 8, .inl (ar 2))) := hw.2 2 (by decide)
  have w4 : h.1 ((x + 1) + 4) = some (.inl (0, 8, .inl (ar 3))) := hw.2 3 (by decide)
  have w5 : h.1 ((x + 1) + 5) = some (.inl (0, 8, .inl (ar 4))) := hw.2 4 (by decide)
  have w6 : h.1 ((x + 1) + 6) = some (.inl (0, 4, .inl (ar 5))) := hw.2 5 (by decide)
  have w7 : h.1 ((x + 1) + 7) = some (.inl (0, 4, .inl (ar 6))) := hw.2 6 (by decide)
  have w8 : h.1 ((x + 1) + 8) = some (.inl (0, 4, .inl (ar 7))) := hw.2 7 (by decide)
  have w9 : h.1 ((x + 1) + 9) = some (.inl (0, 8, .inl (ar 8))) := hw.2 8 (by decide)
  have w10 : h.1 ((x + 1) + 10) = some (.inl (0, 4, .inl (ar 9))) := hw.2 9 (by decide)
  have w11 : h.1 ((x + 1) + 11) = some (.inl (0, 4, .inl (ar 10))) := hw.2 10 (by decide)
  have n31 : S.1.1 0 < 2 ^ 31 ∧ S.1.1 1 < 2 ^ 31 ∧ S.1.1 2 < 2 ^ 31 := by have := okw.1; omega
  refine Cn.of (L := [some (.ref x), some (.int p), some (.int w)]) (by decide) (Nat.le_of_ble_eq_true rfl) rfl ?_
  refine x_aload_n dX11_pathOf_0 rfl ?_
  refine x_get fX11_12 (by assumption) rfl dX11_pathOf_1 ?_
  refine x_iload_n dX11_pathOf_4 rfl ?_
  refine x_rdV (c_hp hv) (by assumption) lkX10_hasPath sX11_105 dX11_pathOf_5 rfl rfl (Nat.le_of_ble_eq_true rfl) (by decide) ⟨rfl, rfl, by decide, by decide⟩ ?_
  refine x_if_neB 13 dX11_pathOf_8 (by decide) (fun c8 => ?_) (fun c8 => ?_)
  · obtain ⟨p1, hp, rfl⟩ := bl_E c8 n31.1
    have hp8 : p1 < 8 := by have := okw.1.1; omega
    refine x_iload_n dX11_pathOf_13 rfl ?_
    refine swX11_pathOf_14 (fun c14 => ?_) (fun c14 => ?_) (fun c14 => ?_) (fun c14 => ?_) (fun c14 => ?_) (fun c14 => ?_) (fun c14 => ?_) (fun c14 => ?_) (fun c14 => ?_) (fun c14_0 c14_1 c14_2 c14_3 c14_4 c14_5 c14_6 c14_7 c14_8 => ?_)
    · refine x_aload_n dX11_pathOf_64 rfl ?_
      refine x_get fX11_12 (by assumption) rfl dX11_pathOf_65 ?_
      refine x_getR fX11_108 (by assumption) rfl dX11_pathOf_68 ?_
      refine x_iload_n dX11_pathOf_71 rfl ?_
      refine x_iald p1 w1 rfl hp8 (by decide) dX11_pathOf_72 ?_
      refine x_iret rfl dX11_pathOf_73 ⟨by decide, by decide⟩ ?_
      exact ⟨by rw [rp.1 0 p1 (by decide) hp]; simp only [qPathOf, c8, c14, eq_self, Bool.false_eq_true, reduceCtorEq, and_true, true_and, and_false, false_and, not_true_eq_false, not_false_eq_true, if_true, if_false, ne_eq, or_true, true_or, or_false, false_or, ne_1_0, ne_2_0, ne_2_1, ne_3_0, ne_3_1, ne_3_2, ne_4_0, ne_4_1, ne_4_2, ne_4_3, ne_5_0, ne_5_1, ne_5_2, ne_5_3, ne_5_4, ne_6_0, ne_6_1, ne_6_2, ne_6_3, ne_6_4, ne_6_5, ne_7_0, ne_7_1, ne_7_2, ne_7_3, ne_7_4, ne_7_5, ne_7_6, ne_8_0, ne_8_1, ne_8_2, ne_8_3, ne_8_4, ne_8_5, ne_8_6, ne_8_7, iN_nI (show p1 < 2 ^ 31 by omega)], rfl⟩
    · refine x_aload_n dX11_pathOf_74 rfl ?_
      refine x_get fX11_12 (by assumption) rfl dX11_pathOf_75 ?_
      refine x_getR fX11_111 (by assumption) rfl dX11_pathOf_78 ?_
      refine x_iload_n dX11_pathOf_81 rfl ?_
      refine x_iald p1 w2 rfl hp8 (by decide) dX11_pathOf_82 ?_
      refine x_iret rfl dX11_pathOf_83 ⟨by decide, by decide⟩ ?_
      exact ⟨by rw [rp.1 1 p1 (by decide) hp]; simp only [qPathOf, c8, c14, eq_self, Bool.false_eq_true, reduceCtorEq, and_true, true_and, and_false, false_and, not_true_eq_false, not_false_eq_true, if_true, if_false, ne_eq, or_true, true_or, or_false, false_or, ne_1_0, ne_2_0, ne_2_1, ne_3_0, ne_3_1, ne_3_2, ne_4_0, ne_4_1, ne_4_2, ne_4_3, ne_5_0, ne_5_1, ne_5_2, ne_5_3, ne_5_4, ne_6_0, ne_6_1, ne_6_2, ne_6_3, ne_6_4, ne_6_5, ne_7_0, ne_7_1, ne_7_2, ne_7_3, ne_7_4, ne_7_5, ne_7_6, ne_8_0, ne_8_1, ne_8_2, ne_8_3, ne_8_4, ne_8_5, ne_8_6, ne_8_7, iN_nI (show p1 < 2 ^ 31 by omega)], rfl⟩
    · refine x_aload_n dX11_pathOf_84 rfl ?_
      refine x_get fX11_12 (by assumption) rfl dX11_pathOf_85 ?_
      refine x_getR fX11_114 (by assumption) rfl dX11_pathOf_88 ?_
      refine x_iload_n dX11_pathOf_91 rfl ?_
      refine x_iald p1 w3 rfl hp8 (by decide) dX11_pathOf_92 ?_
      refine x_iret rfl dX11_pathOf_93 ⟨by decide, by decide⟩ ?_
      exact ⟨by rw [rp.1 2 p1 (by decide) hp]; simp only [qPathOf, c8, c14, eq_self, Bool.false_eq_true, reduceCtorEq, and_true, true_and, and_false, false_and, not_true_eq_false, not_false_eq_true, if_true, if_false, ne_eq, or_true, true_or, or_false, false_or, ne_1_0, ne_2_0, ne_2_1, ne_3_0, ne_3_1, ne_3_2, ne_4_0, ne_4_1, ne_4_2, ne_4_3, ne_5_0, ne_5_1, ne_5_2, ne_5_3, ne_5_4, ne_6_0, ne_6_1, ne_6_2, ne_6_3, ne_6_4, ne_6_5, ne_7_0, ne_7_1, ne_7_2, ne_7_3, ne_7_4, ne_7_5, ne_7_6, ne_8_0, ne_8_1, ne_8_2, ne_8_3, ne_8_4, ne_8_5, ne_8_6, ne_8_7, iN_nI (show p1 < 2 ^ 31 by omega)], rfl⟩
    · refine x_aload_n dX11_pathOf_94 rfl ?_
      refine x_get fX11_12 (by assumption) rfl dX11_pathOf_95 ?_
      refine x_getR fX11_117 (by assumption) rfl dX11_pathOf_98 ?_
      refine x_iload_n dX11_pathOf_101 rfl ?_
      refine x_iald p1 w4 rfl hp8 (by decide) dX11_pathOf_102 ?_
      refine x_iret rfl dX11_pathOf_103 ⟨by decide, by decide⟩ ?_
      exact ⟨by rw [rp.1 3 p1 (by decide) hp]; simp only [qPathOf, c8, c14, eq_self, Bool.false_eq_true, reduceCtorEq, and_true, true_and, and_false, false_and, not_true_eq_false, not_false_eq_true, if_true, if_false, ne_eq, or_true, true_or, or_false, false_or, ne_1_0, ne_2_0, ne_2_1, ne_3_0, ne_3_1, ne_3_2, ne_4_0, ne_4_1, ne_4_2, ne_4_3, ne_5_0, ne_5_1, ne_5_2, ne_5_3, ne_5_4, ne_6_0, ne_6_1, ne_6_2, ne_6_3, ne_6_4, ne_6_5, ne_7_0, ne_7_1, ne_7_2, ne_7_3, ne_7_4, ne_7_5, ne_7_6, ne_8_0, ne_8_1, ne_8_2, ne_8_3, ne_8_4, ne_8_5, ne_8_6, ne_8_7, iN_nI (show p1 < 2 ^ 31 by omega)], rfl⟩
    · refine x_aload_n dX11_pathOf_104 rfl ?_
      refine x_get fX11_12 (by assumption) rfl dX11_pathOf_105 ?_
      refine x_getR fX11_120 (by assumption) rfl dX11_pathOf_108 ?_
      refine x_iload_n dX11_pathOf_111 rfl ?_
      refine x_iald p1 w5 rfl hp8 (by decide) dX11_pathOf_112 ?_
      refine x_iret rfl dX11_pathOf_113 ⟨by decide, by decide⟩ ?_
      exact ⟨by rw [rp.1 4 p1 (by decide) hp]; simp only [qPathOf, c8, c14, eq_self, Bool.false_eq_true, reduceCtorEq, and_true, true_and, and_false, false_and, not_true_eq_false, not_false_eq_true, if_true, if_false, ne_eq, or_true, true_or, or_false, false_or, ne_1_0, ne_2_0, ne_2_1, ne_3_0, ne_3_1, ne_3_2, ne_4_0, ne_4_1, ne_4_2, ne_4_3, ne_5_0, ne_5_1, ne_5_2, ne_5_3, ne_5_4, ne_6_0, ne_6_1, ne_6_2, ne_6_3, ne_6_4, ne_6_5, ne_7_0, ne_7_1, ne_7_2, ne_7_3, ne_7_4, ne_7_5, ne_7_6, ne_8_0, ne_8_1, ne_8_2, ne_8_3, ne_8_4, ne_8_5, ne_8_6, ne_8_7, iN_nI (show p1 < 2 ^ 31 by omega)], rfl⟩
    · refine x_aload_n dX11_pathOf_114 rfl ?_
      refine x_get fX11_12 (by assumption) rfl dX11_pathOf_115 ?_
      refine x_iload_n dX11_pathOf_118 rfl ?_
      refine x_rdV (c_X10_isThere hv hp8) (by assumption) lkX10_isThere sX11_123 dX11_pathOf_119 rfl rfl (Nat.le_of_ble_eq_true rfl) (by decide) ⟨rfl, rfl, by decide, by decide⟩ ?_
      refine x_if_eqB 129 dX11_pathOf_122 (by decide) (fun c122 => ?_) (fun c122 => ?_)
      · refine x_iconst (v := 0) dX11_pathOf_129 (by decide) ?_
        refine x_iret rfl dX11_pathOf_130 ⟨by decide, by decide⟩ ?_
        exact ⟨by rw [← b2i_f c122]; simp only [qPathOf, c8, c14, eq_self, Bool.false_eq_true, reduceCtorEq, and_true, true_and, and_false, false_and, not_true_eq_false, not_false_eq_true, if_true, if_false, ne_eq, or_true, true_or, or_false, false_or, ne_1_0, ne_2_0, ne_2_1, ne_3_0, ne_3_1, ne_3_2, ne_4_0, ne_4_1, ne_4_2, ne_4_3, ne_5_0, ne_5_1, ne_5_2, ne_5_3, ne_5_4, ne_6_0, ne_6_1, ne_6_2, ne_6_3, ne_6_4, ne_6_5, ne_7_0, ne_7_1, ne_7_2, ne_7_3, ne_7_4, ne_7_5, ne_7_6, ne_8_0, ne_8_1, ne_8_2, ne_8_3, ne_8_4, ne_8_5, ne_8_6, ne_8_7, iN_nI (show p1 < 2 ^ 31 by omega)], rfl⟩
      · refine x_iconst (v := 1) dX11_pathOf_125 (by decide) ?_
        refine x_goto 130 dX11_pathOf_126 (by decide) ?_
        refine x_iret rfl dX11_pathOf_130 ⟨by decide, by decide⟩ ?_
        exact ⟨by rw [← b2i_t c122]; simp only [qPathOf, c8, c14, eq_self, Bool.false_eq_true, reduceCtorEq, and_true, true_and, and_false, false_and, not_true_eq_false, not_false_eq_true, if_true, if_false, ne_eq, or_true, true_or, or_false, false_or, ne_1_0, ne_2_0, ne_2_1, ne_3_0, ne_3_1, ne_3_2, ne_4_0, ne_4_1, ne_4_2, ne_4_3, ne_5_0, ne_5_1, ne_5_2, ne_5_3, ne_5_4, ne_6_0, ne_6_1, ne_6_2, ne_6_3, ne_6_4, ne_6_5, ne_7_0, ne_7_1, ne_7_2, ne_7_3, ne_7_4, ne_7_5, ne_7_6, ne_8_0, ne_8_1, ne_8_2, ne_8_3, ne_8_4, ne_8_5, ne_8_6, ne_8_7, iN_nI (show p1 < 2 ^ 31 by omega)], rfl⟩
    · refine x_aload_n dX11_pathOf_131 rfl ?_
      refine x_get fX11_12 (by assumption) rfl dX11_pathOf_132 ?_
      refine x_iload_n dX11_pathOf_135 rfl ?_
      refine x_rdV (c_X10_staysOf hv hp) (by assumption) lkX10_staysOf sX11_126 dX11_pathOf_136 rfl rfl (Nat.le_of_ble_eq_true rfl) (by decide) ⟨rfl, rfl, by decide, by decide⟩ ?_
      refine x_iret rfl dX11_pathOf_139 ⟨by decide, by decide⟩ ?_
      exact ⟨by simp only [qPathOf, c8, c14, eq_self, Bool.false_eq_true, reduceCtorEq, and_true, true_and, and_false, false_and, not_true_eq_false, not_false_eq_true, if_true, if_false, ne_eq, or_true, true_or, or_false, false_or, ne_1_0, ne_2_0, ne_2_1, ne_3_0, ne_3_1, ne_3_2, ne_4_0, ne_4_1, ne_4_2, ne_4_3, ne_5_0, ne_5_1, ne_5_2, ne_5_3, ne_5_4, ne_6_0, ne_6_1, ne_6_2, ne_6_3, ne_6_4, ne_6_5, ne_7_0, ne_7_1, ne_7_2, ne_7_3, ne_7_4, ne_7_5, ne_7_6, ne_8_0, ne_8_1, ne_8_2, ne_8_3, ne_8_4, ne_8_5, ne_8_6, ne_8_7, iN_nI (show p1 < 2 ^ 31 by omega)], rfl⟩
    · refine x_aload_n dX11_pathOf_140 rfl ?_
      refine x_get fX11_12 (by assumption) rfl dX11_pathOf_141 ?_
      refine x_iload_n dX11_pathOf_144 rfl ?_
      refine x_rdV (c_X10_comesOf hv hp) (by assumption) lkX10_comesOf sX11_130 dX11_pathOf_145 rfl rfl (Nat.le_of_ble_eq_true rfl) (by decide) ⟨rfl, rfl, by decide, by decide⟩ ?_
      refine x_iret rfl dX11_pathOf_148 ⟨by decide, by decide⟩ ?_
      exact ⟨by simp only [qPathOf, c8, c14, eq_self, Bool.false_eq_true, reduceCtorEq, and_true, true_and, and_false, false_and, not_true_eq_false, not_false_eq_true, if_true, if_false, ne_eq, or_true, true_or, or_false, false_or, ne_1_0, ne_2_0, ne_2_1, ne_3_0, ne_3_1, ne_3_2, ne_4_0, ne_4_1, ne_4_2, ne_4_3, ne_5_0, ne_5_1, ne_5_2, ne_5_3, ne_5_4, ne_6_0, ne_6_1, ne_6_2, ne_6_3, ne_6_4, ne_6_5, ne_7_0, ne_7_1, ne_7_2, ne_7_3, ne_7_4, ne_7_5, ne_7_6, ne_8_0, ne_8_1, ne_8_2, ne_8_3, ne_8_4, ne_8_5, ne_8_6, ne_8_7, iN_nI (show p1 < 2 ^ 31 by omega)], rfl⟩
    · refine x_aload_n dX11_pathOf_149 rfl ?_
      refine x_get fX11_12 (by assumption) rfl dX11_pathOf_150 ?_
      refine x_iload_n dX11_pathOf_153 rfl ?_
      refine x_rdV (c_X10_walkersOn hv hp8) (by assumption) lkX10_walkersOn sX11_133 dX11_pathOf_154 rfl rfl (Nat.le_of_ble_eq_true rfl) (by decide) ⟨rfl, rfl, by decide, by decide⟩ ?_
      refine x_iret rfl dX11_pathOf_157 ⟨by decide, by decide⟩ ?_
      exact ⟨by simp only [qPathOf, c8, c14, eq_self, Bool.false_eq_true, reduceCtorEq, and_true, true_and, and_false, false_and, not_true_eq_false, not_false_eq_true, if_true, if_false, ne_eq, or_true, true_or, or_false, false_or, ne_1_0, ne_2_0, ne_2_1, ne_3_0, ne_3_1, ne_3_2, ne_4_0, ne_4_1, ne_4_2, ne_4_3, ne_5_0, ne_5_1, ne_5_2, ne_5_3, ne_5_4, ne_6_0, ne_6_1, ne_6_2, ne_6_3, ne_6_4, ne_6_5, ne_7_0, ne_7_1, ne_7_2, ne_7_3, ne_7_4, ne_7_5, ne_7_6, ne_8_0, ne_8_1, ne_8_2, ne_8_3, ne_8_4, ne_8_5, ne_8_6, ne_8_7, iN_nI (show p1 < 2 ^ 31 by omega)], rfl⟩
    · refine x_iconst (v := -1) dX11_pathOf_158 (by decide) ?_
      refine x_iret rfl dX11_pathOf_159 ⟨by decide, by decide⟩ ?_
      exact ⟨by simp only [qPathOf, c8, c14_0, c14_1, c14_2, c14_3, c14_4, c14_5, c14_6, c14_7, c14_8, eq_self, Bool.false_eq_true, reduceCtorEq, and_true, true_and, and_false, false_and, not_true_eq_false, not_false_eq_true, if_true, if_false, ne_eq, or_true, true_or, or_false, false_or, ne_1_0, ne_2_0, ne_2_1, ne_3_0, ne_3_1, ne_3_2, ne_4_0, ne_4_1, ne_4_2, ne_4_3, ne_5_0, ne_5_1, ne_5_2, ne_5_3, ne_5_4, ne_6_0, ne_6_1, ne_6_2, ne_6_3, ne_6_4, ne_6_5, ne_7_0, ne_7_1, ne_7_2, ne_7_3, ne_7_4, ne_7_5, ne_7_6, ne_8_0, ne_8_1, ne_8_2, ne_8_3, ne_8_4, ne_8_5, ne_8_6, ne_8_7], rfl⟩
  · refine x_iconst (v := -1) dX11_pathOf_11 (by decide) ?_
    refine x_iret rfl dX11_pathOf_12 ⟨by decide, by decide⟩ ?_
    exact ⟨by simp only [qPathOf, c8, eq_self, Bool.false_eq_true, reduceCtorEq, and_true, true_and, and_false, false_and, not_true_eq_false, not_false_eq_true, if_true, if_false, ne_eq, or_true, true_or, or_false, false_or, ne_1_0, ne_2_0, ne_2_1, ne_3_0, ne_3_1, ne_3_2, ne_4_0, ne_4_1, ne_4_2, ne_4_3, ne_5_0, ne_5_1, ne_5_2, ne_5_3, ne_5_4, ne_6_0, ne_6_1, ne_6_2, ne_6_3, ne_6_4, ne_6_5, ne_7_0, ne_7_1, ne_7_2, ne_7_3, ne_7_4, ne_7_5, ne_7_6, ne_8_0, ne_8_1, ne_8_2, ne_8_3, ne_8_4, ne_8_5, ne_8_6, ne_8_7], rfl⟩
set_option maxRecDepth 10000 in
set_option maxHeartbeats 2000000 in
theorem c_X11_walkerOf {g : gG} {h : gH} {x : Nat} {D : Nat → Prop} {S : AS} (hx : isX h x D S) {u w : Int32} : Rd g mX11_walkerOf [.ref x, .int u, .int w] h (.int (qWalkerOf S.1 u w)) := by
  have ho := hx.2.1
  have hv := hx.2.2.1
  have n0 := hv.o
  have okw := hv.1
  obtain ⟨ok0, ar, hw, rp⟩ := id hv
  have w0 : h.1 (x + 1) = some (.inr (10, wF (x + 1) (wS S.1))) := hw.1
  have w1 : h.1 ((x + 1) + 1) = some (.inl (0, 8, .inl (ar 0))) := hw.2 0 (by decide)
  have w2 : h.1 ((x + 1) + 2) = some (.inl (0, 8, .inl (ar 1))) := hw.2 1 (by decide)
  have w3 : h.1 ((x + 1) + 3) = some (.inl (0, 8, .inl (ar 2))) := hw.2 2 (by decide)
  have w4 : h.1 ((x + 1) + 4) = some (.inl (0, 8, .inl (ar 3))) := hw.2 3 (by decide)
  have w5 : h.1 ((x + 1) + 5) = some (.inl (0, 8, .inl (ar 4))) := hw.2 4 (by decide)
  have w6 : h.1 ((x + 1) + 6) = some (.inl (0, 4, .inl (ar 5))) := hw.2 5 (by decide)
  have w7 : h.1 ((x + 1) + 7) = some (.inl (0, 4, .inl (ar 6))) := hw.2 6 (by decide)
  have w8 : h.1 ((x + 1) + 8) = some (.inl (0, 4, .inl (ar 7))) := hw.2 7 (by decide)
  have w9 : h.1 ((x + 1) + 9) = some (.inl (0, 8, .inl (ar 8))) := hw.2 8 (by decide)
  have w10 : h.1 ((x + 1) + 10) = some (.inl (0, 4, .inl (ar 9))) := hw.2 9 (by decide)
  have w11 : h.1 ((x + 1) + 11) = some (.inl (0, 4, .inl (ar 10))) := hw.2 10 (by decide)
  have n31 : S.1.1 0 < 2 ^ 31 ∧ S.1.1 1 < 2 ^ 31 ∧ S.1.1 2 < 2 ^ 31 := by have := okw.1; omega
  refine Cn.of (L := [some (.ref x), some (.int u), some (.int w)]) (by decide) (Nat.le_of_ble_eq_true rfl) rfl ?_
  refine x_aload_n dX11_walkerOf_0 rfl ?_
  refine x_get fX11_12 (by assumption) rfl dX11_walkerOf_1 ?_
  refine x_iload_n dX11_walkerOf_4 rfl ?_
  refine x_rdV (c_hw hv) (by assumption) lkX10_hasWalker sX11_154 dX11_walkerOf_5 rfl rfl (Nat.le_of_ble_eq_true rfl) (by decide) ⟨rfl, rfl, by decide, by decide⟩ ?_
  refine x_if_neB 13 dX11_walkerOf_8 (by decide) (fun c8 => ?_) (fun c8 => ?_)
  · obtain ⟨p1, hp, rfl⟩ := bl_E c8 n31.2.1
    have hp8 : p1 < 4 := by have := okw.1.2.1; omega
    refine x_iload_n dX11_walkerOf_13 rfl ?_
    refine swX11_walkerOf_14 (fun c14 => ?_) (fun c14 => ?_) (fun c14 => ?_) (fun c14_0 c14_1 c14_2 => ?_)
    · refine x_aload_n dX11_walkerOf_40 rfl ?_
      refine x_get fX11_12 (by assumption) rfl dX11_walkerOf_41 ?_
      refine x_getR fX11_157 (by assumption) rfl dX11_walkerOf_44 ?_
      refine x_iload_n dX11_walkerOf_47 rfl ?_
      refine x_iald p1 w6 rfl hp8 (by decide) dX11_walkerOf_48 ?_
      refine x_iret rfl dX11_walkerOf_49 ⟨by decide, by decide⟩ ?_
      exact ⟨by rw [(rp.2.1 p1 hp).1]; simp only [qWalkerOf, c8, c14, eq_self, Bool.false_eq_true, reduceCtorEq, and_true, true_and, and_false, false_and, not_true_eq_false, not_false_eq_true, if_true, if_false, ne_eq, or_true, true_or, or_false, false_or, ne_1_0, ne_2_0, ne_2_1, ne_3_0, ne_3_1, ne_3_2, ne_4_0, ne_4_1, ne_4_2, ne_4_3, ne_5_0, ne_5_1, ne_5_2, ne_5_3, ne_5_4, ne_6_0, ne_6_1, ne_6_2, ne_6_3, ne_6_4, ne_6_5, ne_7_0, ne_7_1, ne_7_2, ne_7_3, ne_7_4, ne_7_5, ne_7_6, ne_8_0, ne_8_1, ne_8_2, ne_8_3, ne_8_4, ne_8_5, ne_8_6, ne_8_7, iN_nI (show p1 < 2 ^ 31 by omega)], rfl⟩
    · refine x_aload_n dX11_walkerOf_50 rfl ?_
      refine x_get fX11_12 (by assumption) rfl dX11_walkerOf_51 ?_
      refine x_getR fX11_160 (by assumption) rfl dX11_walkerOf_54 ?_
      refine x_iload_n dX11_walkerOf_57 rfl ?_
      refine x_iald p1 w7 rfl hp8 (by decide) dX11_walkerOf_58 ?_
      refine x_iret rfl dX11_walkerOf_59 ⟨by decide, by decide⟩ ?_
      exact ⟨by rw [(rp.2.1 p1 hp).2.1]; simp only [qWalkerOf, c8, c14, eq_self, Bool.false_eq_true, reduceCtorEq, and_true, true_and, and_false, false_and, not_true_eq_false, not_false_eq_true, if_true, if_false, ne_eq, or_true, true_or, or_false, false_or, ne_1_0, ne_2_0, ne_2_1, ne_3_0, ne_3_1, ne_3_2, ne_4_0, ne_4_1, ne_4_2, ne_4_3, ne_5_0, ne_5_1, ne_5_2, ne_5_3, ne_5_4, ne_6_0, ne_6_1, ne_6_2, ne_6_3, ne_6_4, ne_6_5, ne_7_0, ne_7_1, ne_7_2, ne_7_3, ne_7_4, ne_7_5, ne_7_6, ne_8_0, ne_8_1, ne_8_2, ne_8_3, ne_8_4, ne_8_5, ne_8_6, ne_8_7, iN_nI (show p1 < 2 ^ 31 by omega)], rfl⟩
    · refine x_aload_n dX11_walkerOf_60 rfl ?_
      refine x_get fX11_12 (by assumption) rfl dX11_walkerOf_61 ?_
      refine x_getR fX11_163 (by assumption) rfl dX11_walkerOf_64 ?_
      refine x_iload_n dX11_walkerOf_67 rfl ?_
      refine x_iald p1 w8 rfl hp8 (by decide) dX11_walkerOf_68 ?_
      refine x_iret rfl dX11_walkerOf_69 ⟨by decide, by decide⟩ ?_
      exact ⟨by rw [(rp.2.1 p1 hp).2.2]; simp only [qWalkerOf, c8, c14, eq_self, Bool.false_eq_true, reduceCtorEq, and_true, true_and, and_false, false_and, not_true_eq_false, not_false_eq_true, if_true, if_false, ne_eq, or_true, true_or, or_false, false_or, ne_1_0, ne_2_0, ne_2_1, ne_3_0, ne_3_1, ne_3_2, ne_4_0, ne_4_1, ne_4_2, ne_4_3, ne_5_0, ne_5_1, ne_5_2, ne_5_3, ne_5_4, ne_6_0, ne_6_1, ne_6_2, ne_6_3, ne_6_4, ne_6_5, ne_7_0, ne_7_1, ne_7_2, ne_7_3, ne_7_4, ne_7_5, ne_7_6, ne_8_0, ne_8_1, ne_8_2, ne_8_3, ne_8_4, ne_8_5, ne_8_6, ne_8_7, iN_nI (show p1 < 2 ^ 31 by omega)], rfl⟩
    · refine x_iconst (v := -1) dX11_walkerOf_70 (by decide) ?_
      refine x_iret rfl dX11_walkerOf_71 ⟨by decide, by decide⟩ ?_
      exact ⟨by simp only [qWalkerOf, c8, c14_0, c14_1, c14_2, eq_self, Bool.false_eq_true, reduceCtorEq, and_true, true_and, and_false, false_and, not_true_eq_false, not_false_eq_true, if_true, if_false, ne_eq, or_true, true_or, or_false, false_or, ne_1_0, ne_2_0, ne_2_1, ne_3_0, ne_3_1, ne_3_2, ne_4_0, ne_4_1, ne_4_2, ne_4_3, ne_5_0, ne_5_1, ne_5_2, ne_5_3, ne_5_4, ne_6_0, ne_6_1, ne_6_2, ne_6_3, ne_6_4, ne_6_5, ne_7_0, ne_7_1, ne_7_2, ne_7_3, ne_7_4, ne_7_5, ne_7_6, ne_8_0, ne_8_1, ne_8_2, ne_8_3, ne_8_4, ne_8_5, ne_8_6, ne_8_7], rfl⟩
  · refine x_iconst (v := -1) dX11_walkerOf_11 (by decide) ?_
    refine x_iret rfl dX11_walkerOf_12 ⟨by decide, by decide⟩ ?_
    exact ⟨by simp only [qWalkerOf, c8, eq_self, Bool.false_eq_true, reduceCtorEq, and_true, true_and, and_false, false_and, not_true_eq_false, not_false_eq_true, if_true, if_false, ne_eq, or_true, true_or, or_false, false_or, ne_1_0, ne_2_0, ne_2_1, ne_3_0, ne_3_1, ne_3_2, ne_4_0, ne_4_1, ne_4_2, ne_4_3, ne_5_0, ne_5_1, ne_5_2, ne_5_3, ne_5_4, ne_6_0, ne_6_1, ne_6_2, ne_6_3, ne_6_4, ne_6_5, ne_7_0, ne_7_1, ne_7_2, ne_7_3, ne_7_4, ne_7_5, ne_7_6, ne_8_0, ne_8_1, ne_8_2, ne_8_3, ne_8_4, ne_8_5, ne_8_6, ne_8_7], rfl⟩
set_option maxRecDepth 10000 in
set_option maxHeartbeats 2000000 in
theorem c_X11_ruleOf {g : gG} {h : gH} {x : Nat} {D : Nat → Prop} {S : AS} (hx : isX h x D S) {u w : Int32} : Rd g mX11_ruleOf [.ref x, .int u, .int w] h (.int (qRuleOf S.1 u w)) := by
  have ho := hx.2.1
  have hv := hx.2.2.1
  have n0 := hv.o
  have okw := hv.1
  obtain ⟨ok0, ar, hw, rp⟩ := id hv
  have w0 : h.1 (x + 1) = some (.inr (10, wF (x + 1) (wS S.1))) := hw.1
  have w1 : h.1 ((x + 1) + 1) = some (.inl (0, 8, .inl (ar 0))) := hw.2 0 (by decide)
  have w2 : h.1 ((x + 1) + 2) = some (.inl (0, 8, .inl (ar 1))) := hw.2 1 (by decide)
  have w3 : h.1 ((x + 1) + 3) = some (.inl (0, 8, .inl (ar 2))) := hw.2 2 (by decide)
  have w4 : h.1 ((x + 1) + 4) = some (.inl (0, 8, .inl (ar 3))) := hw.2 3 (by decide)
  have w5 : h.1 ((x + 1) + 5) = some (.inl (0, 8, .inl (ar 4))) := hw.2 4 (by decide)
  have w6 : h.1 ((x + 1) + 6) = some (.inl (0, 4, .inl (ar 5))) := hw.2 5 (by decide)
  have w7 : h.1 ((x + 1) + 7) = some (.inl (0, 4, .inl (ar 6))) := hw.2 6 (by decide)
  have w8 : h.1 ((x + 1) + 8) = some (.inl (0, 4, .inl (ar 7))) := hw.2 7 (by decide)
  have w9 : h.1 ((x + 1) + 9) = some (.inl (0, 8, .inl (ar 8))) := hw.2 8 (by decide)
  have w10 : h.1 ((x + 1) + 10) = some (.inl (0, 4, .inl (ar 9))) := hw.2 9 (by decide)
  have w11 : h.1 ((x + 1) + 11) = some (.inl (0, 4, .inl (ar 10))) := hw.2 10 (by decide)
  have n31 : S.1.1 0 < 2 ^ 31 ∧ S.1.1 1 < 2 ^ 31 ∧ S.1.1 2 < 2 ^ 31 := by have := okw.1; omega
  refine Cn.of (L := [some (.ref x), some (.int u), some (.int w)]) (by decide) (Nat.le_of_ble_eq_true rfl) rfl ?_
  refine x_aload_n dX11_ruleOf_0 rfl ?_
  refine x_get fX11_12 (by assumption) rfl dX11_ruleOf_1 ?_
  refine x_iload_n dX11_ruleOf_4 rfl ?_
  refine x_rdV (c_hr hv) (by assumption) lkX10_hasRule sX11_258 dX11_ruleOf_5 rfl rfl (Nat.le_of_ble_eq_true rfl) (by decide) ⟨rfl, rfl, by decide, by decide⟩ ?_
  refine x_if_neB 13 dX11_ruleOf_8 (by decide) (fun c8 => ?_) (fun c8 => ?_)
  · obtain ⟨p1, hp, rfl⟩ := bl_E c8 n31.2.2
    have hp8 : p1 < 4 := by have := okw.1.2.2; omega
    refine x_iload_n dX11_ruleOf_13 rfl ?_
    refine swX11_ruleOf_14 (fun c14 => ?_) (fun c14 => ?_) (fun c14_0 c14_1 => ?_)
    · refine x_aload_n dX11_ruleOf_40 rfl ?_
      refine x_get fX11_12 (by assumption) rfl dX11_ruleOf_41 ?_
      refine x_getR fX11_261 (by assumption) rfl dX11_ruleOf_44 ?_
      refine x_iload_n dX11_ruleOf_47 rfl ?_
      refine x_iald p1 w10 rfl hp8 (by decide) dX11_ruleOf_48 ?_
      refine x_iret rfl dX11_ruleOf_49 ⟨by decide, by decide⟩ ?_
      exact ⟨by rw [(rp.2.2.2 p1 hp).1]; simp only [qRuleOf, c8, c14, eq_self, Bool.false_eq_true, reduceCtorEq, and_true, true_and, and_false, false_and, not_true_eq_false, not_false_eq_true, if_true, if_false, ne_eq, or_true, true_or, or_false, false_or, ne_1_0, ne_2_0, ne_2_1, ne_3_0, ne_3_1, ne_3_2, ne_4_0, ne_4_1, ne_4_2, ne_4_3, ne_5_0, ne_5_1, ne_5_2, ne_5_3, ne_5_4, ne_6_0, ne_6_1, ne_6_2, ne_6_3, ne_6_4, ne_6_5, ne_7_0, ne_7_1, ne_7_2, ne_7_3, ne_7_4, ne_7_5, ne_7_6, ne_8_0, ne_8_1, ne_8_2, ne_8_3, ne_8_4, ne_8_5, ne_8_6, ne_8_7, iN_nI (show p1 < 2 ^ 31 by omega)], rfl⟩
    · refine x_aload_n dX11_ruleOf_50 rfl ?_
      refine x_get fX11_12 (by assumption) rfl dX11_ruleOf_51 ?_
      refine x_getR fX11_264 (by assumption) rfl dX11_ruleOf_54 ?_
      refine x_iload_n dX11_ruleOf_57 rfl ?_
      refine x_iald p1 w11 rfl hp8 (by decide) dX11_ruleOf_58 ?_
      refine x_iret rfl dX11_ruleOf_59 ⟨by decide, by decide⟩ ?_
      exact ⟨by rw [(rp.2.2.2 p1 hp).2]; simp only [qRuleOf, c8, c14, eq_self, Bool.false_eq_true, reduceCtorEq, and_true, true_and, and_false, false_and, not_true_eq_false, not_false_eq_true, if_true, if_false, ne_eq, or_true, true_or, or_false, false_or, ne_1_0, ne_2_0, ne_2_1, ne_3_0, ne_3_1, ne_3_2, ne_4_0, ne_4_1, ne_4_2, ne_4_3, ne_5_0, ne_5_1, ne_5_2, ne_5_3, ne_5_4, ne_6_0, ne_6_1, ne_6_2, ne_6_3, ne_6_4, ne_6_5, ne_7_0, ne_7_1, ne_7_2, ne_7_3, ne_7_4, ne_7_5, ne_7_6, ne_8_0, ne_8_1, ne_8_2, ne_8_3, ne_8_4, ne_8_5, ne_8_6, ne_8_7, iN_nI (show p1 < 2 ^ 31 by omega)], rfl⟩
    · refine x_iconst (v := -1) dX11_ruleOf_60 (by decide) ?_
      refine x_iret rfl dX11_ruleOf_61 ⟨by decide, by decide⟩ ?_
      exact ⟨by simp only [qRuleOf, c8, c14_0, c14_1, eq_self, Bool.false_eq_true, reduceCtorEq, and_true, true_and, and_false, false_and, not_true_eq_false, not_false_eq_true, if_true, if_false, ne_eq, or_true, true_or, or_false, false_or, ne_1_0, ne_2_0, ne_2_1, ne_3_0, ne_3_1, ne_3_2, ne_4_0, ne_4_1, ne_4_2, ne_4_3, ne_5_0, ne_5_1, ne_5_2, ne_5_3, ne_5_4, ne_6_0, ne_6_1, ne_6_2, ne_6_3, ne_6_4, ne_6_5, ne_7_0, ne_7_1, ne_7_2, ne_7_3, ne_7_4, ne_7_5, ne_7_6, ne_8_0, ne_8_1, ne_8_2, ne_8_3, ne_8_4, ne_8_5, ne_8_6, ne_8_7], rfl⟩
  · refine x_iconst (v := -1) dX11_ruleOf_11 (by decide) ?_
    refine x_iret rfl dX11_ruleOf_12 ⟨by decide, by decide⟩ ?_
    exact ⟨by simp only [qRuleOf, c8, eq_self, Bool.false_eq_true, reduceCtorEq, and_true, true_and, and_false, false_and, not_true_eq_false, not_false_eq_true, if_true, if_false, ne_eq, or_true, true_or, or_false, false_or, ne_1_0, ne_2_0, ne_2_1, ne_3_0, ne_3_1, ne_3_2, ne_4_0, ne_4_1, ne_4_2, ne_4_3, ne_5_0, ne_5_1, ne_5_2, ne_5_3, ne_5_4, ne_6_0, ne_6_1, ne_6_2, ne_6_3, ne_6_4, ne_6_5, ne_7_0, ne_7_1, ne_7_2, ne_7_3, ne_7_4, ne_7_5, ne_7_6, ne_8_0, ne_8_1, ne_8_2, ne_8_3, ne_8_4, ne_8_5, ne_8_6, ne_8_7], rfl⟩
set_option maxRecDepth 10000 in
set_option maxHeartbeats 2000000 in
theorem c_X11_count {g : gG} {h : gH} {x : Nat} {D : Nat → Prop} {S : AS} (hx : isX h x D S) {w : Int32} : Rd g mX11_count [.ref x, .int w] h (.int (qCount S.1 w)) := by
  have ho := hx.2.1
  have hv := hx.2.2.1
  have n0 := hv.o
  have okw := hv.1

  refine Cn.of (L := [some (.ref x), some (.int w)]) (by decide) (Nat.le_of_ble_eq_true rfl) rfl ?_
  refine x_iload_n dX11_count_0 rfl ?_
  refine swX11_count_1 (fun c1 => ?_) (fun c1 => ?_) (fun c1 => ?_) (fun c1 => ?_) (fun c1 => ?_) (fun c1_0 c1_1 c1_2 c1_3 c1_4 => ?_)
  · refine x_aload_n dX11_count_36 rfl ?_
    refine x_get fX11_12 (by assumption) rfl dX11_count_37 ?_
    refine x_get fX11_193 (by assumption) rfl dX11_count_40 ?_
    refine x_iret rfl dX11_count_43 ⟨by decide, by decide⟩ ?_
    exact ⟨by simp only [qCount, c1, eq_self, Bool.false_eq_true, reduceCtorEq, and_true, true_and, and_false, false_and, not_true_eq_false, not_false_eq_true, if_true, if_false, ne_eq, or_true, true_or, or_false, false_or, ne_1_0, ne_2_0, ne_2_1, ne_3_0, ne_3_1, ne_3_2, ne_4_0, ne_4_1, ne_4_2, ne_4_3, ne_5_0, ne_5_1, ne_5_2, ne_5_3, ne_5_4, ne_6_0, ne_6_1, ne_6_2, ne_6_3, ne_6_4, ne_6_5, ne_7_0, ne_7_1, ne_7_2, ne_7_3, ne_7_4, ne_7_5, ne_7_6, ne_8_0, ne_8_1, ne_8_2, ne_8_3, ne_8_4, ne_8_5, ne_8_6, ne_8_7]; rfl, rfl⟩
  · refine x_aload_n dX11_count_44 rfl ?_
    refine x_get fX11_12 (by assumption) rfl dX11_count_45 ?_
    refine x_get fX11_190 (by assumption) rfl dX11_count_48 ?_
    refine x_iret rfl dX11_count_51 ⟨by decide, by decide⟩ ?_
    exact ⟨by simp only [qCount, c1, eq_self, Bool.false_eq_true, reduceCtorEq, and_true, true_and, and_false, false_and, not_true_eq_false, not_false_eq_true, if_true, if_false, ne_eq, or_true, true_or, or_false, false_or, ne_1_0, ne_2_0, ne_2_1, ne_3_0, ne_3_1, ne_3_2, ne_4_0, ne_4_1, ne_4_2, ne_4_3, ne_5_0, ne_5_1, ne_5_2, ne_5_3, ne_5_4, ne_6_0, ne_6_1, ne_6_2, ne_6_3, ne_6_4, ne_6_5, ne_7_0, ne_7_1, ne_7_2, ne_7_3, ne_7_4, ne_7_5, ne_7_6, ne_8_0, ne_8_1, ne_8_2, ne_8_3, ne_8_4, ne_8_5, ne_8_6, ne_8_7]; rfl, rfl⟩
  · refine x_aload_n dX11_count_52 rfl ?_
    refine x_get fX11_12 (by assumption) rfl dX11_count_53 ?_
    refine x_rdV (c_X10_pathsWalked hv) (by assumption) lkX10_pathsWalked sX11_196 dX11_count_56 rfl rfl (Nat.le_of_ble_eq_true rfl) (by decide) ⟨rfl, rfl, by decide, by decide⟩ ?_
    refine x_iret rfl dX11_count_59 ⟨by decide, by decide⟩ ?_
    exact ⟨by simp only [qCount, c1, eq_self, Bool.false_eq_true, reduceCtorEq, and_true, true_and, and_false, false_and, not_true_eq_false, not_false_eq_true, if_true, if_false, ne_eq, or_true, true_or, or_false, false_or, ne_1_0, ne_2_0, ne_2_1, ne_3_0, ne_3_1, ne_3_2, ne_4_0, ne_4_1, ne_4_2, ne_4_3, ne_5_0, ne_5_1, ne_5_2, ne_5_3, ne_5_4, ne_6_0, ne_6_1, ne_6_2, ne_6_3, ne_6_4, ne_6_5, ne_7_0, ne_7_1, ne_7_2, ne_7_3, ne_7_4, ne_7_5, ne_7_6, ne_8_0, ne_8_1, ne_8_2, ne_8_3, ne_8_4, ne_8_5, ne_8_6, ne_8_7], rfl⟩
  · refine x_aload_n dX11_count_60 rfl ?_
    refine x_get fX11_12 (by assumption) rfl dX11_count_61 ?_
    refine x_iconst (v := 0) dX11_count_64 (by decide) ?_
    refine x_rdV (c_X10_payOf (b := false) hv) (by assumption) lkX10_payOf sX11_200 dX11_count_65 rfl rfl (Nat.le_of_ble_eq_true rfl) (by decide) ⟨rfl, rfl, by decide, by decide⟩ ?_
    refine x_iret rfl dX11_count_68 ⟨by decide, by decide⟩ ?_
    exact ⟨by simp only [qCount, c1, eq_self, Bool.false_eq_true, reduceCtorEq, and_true, true_and, and_false, false_and, not_true_eq_false, not_false_eq_true, if_true, if_false, ne_eq, or_true, true_or, or_false, false_or, ne_1_0, ne_2_0, ne_2_1, ne_3_0, ne_3_1, ne_3_2, ne_4_0, ne_4_1, ne_4_2, ne_4_3, ne_5_0, ne_5_1, ne_5_2, ne_5_3, ne_5_4, ne_6_0, ne_6_1, ne_6_2, ne_6_3, ne_6_4, ne_6_5, ne_7_0, ne_7_1, ne_7_2, ne_7_3, ne_7_4, ne_7_5, ne_7_6, ne_8_0, ne_8_1, ne_8_2, ne_8_3, ne_8_4, ne_8_5, ne_8_6, ne_8_7], rfl⟩
  · refine x_aload_n dX11_count_69 rfl ?_
    refine x_get fX11_12 (by assumption) rfl dX11_count_70 ?_
    refine x_iconst (v := 1) dX11_count_73 (by decide) ?_
    refine x_rdV (c_X10_payOf (b := true) hv) (by assumption) lkX10_payOf sX11_200 dX11_count_74 rfl rfl (Nat.le_of_ble_eq_true rfl) (by decide) ⟨rfl, rfl, by decide, by decide⟩ ?_
    refine x_iret rfl dX11_count_77 ⟨by decide, by decide⟩ ?_
    exact ⟨by simp only [qCount, c1, eq_self, Bool.false_eq_true, reduceCtorEq, and_true, true_and, and_false, false_and, not_true_eq_false, not_false_eq_true, if_true, if_false, ne_eq, or_true, true_or, or_false, false_or, ne_1_0, ne_2_0, ne_2_1, ne_3_0, ne_3_1, ne_3_2, ne_4_0, ne_4_1, ne_4_2, ne_4_3, ne_5_0, ne_5_1, ne_5_2, ne_5_3, ne_5_4, ne_6_0, ne_6_1, ne_6_2, ne_6_3, ne_6_4, ne_6_5, ne_7_0, ne_7_1, ne_7_2, ne_7_3, ne_7_4, ne_7_5, ne_7_6, ne_8_0, ne_8_1, ne_8_2, ne_8_3, ne_8_4, ne_8_5, ne_8_6, ne_8_7], rfl⟩
  · refine x_iconst (v := -1) dX11_count_78 (by decide) ?_
    refine x_iret rfl dX11_count_79 ⟨by decide, by decide⟩ ?_
    exact ⟨by simp only [qCount, c1_0, c1_1, c1_2, c1_3, c1_4, eq_self, Bool.false_eq_true, reduceCtorEq, and_true, true_and, and_false, false_and, not_true_eq_false, not_false_eq_true, if_true, if_false, ne_eq, or_true, true_or, or_false, false_or, ne_1_0, ne_2_0, ne_2_1, ne_3_0, ne_3_1, ne_3_2, ne_4_0, ne_4_1, ne_4_2, ne_4_3, ne_5_0, ne_5_1, ne_5_2, ne_5_3, ne_5_4, ne_6_0, ne_6_1, ne_6_2, ne_6_3, ne_6_4, ne_6_5, ne_7_0, ne_7_1, ne_7_2, ne_7_3, ne_7_4, ne_7_5, ne_7_6, ne_8_0, ne_8_1, ne_8_2, ne_8_3, ne_8_4, ne_8_5, ne_8_6, ne_8_7], rfl⟩
set_option maxRecDepth 10000 in
set_option maxHeartbeats 2000000 in
theorem c_X11_way {g : gG} {h : gH} {x : Nat} {D : Nat → Prop} {S : AS} (hx : isX h x D S) {a b : Int32} : Rd g mX11_way [.ref x, .int a, .int b] h (.int (qWay S.1 a b)) := by
  have ho := hx.2.1
  have hv := hx.2.2.1
  have n0 := hv.o
  have okw := hv.1

  refine Cn.of (L := [some (.ref x), some (.int a), some (.int b)]) (by decide) (Nat.le_of_ble_eq_true rfl) rfl ?_
  refine x_iload_n dX11_way_0 rfl ?_
  refine x_rdS c_cl lkX11_isClearing sX11_90 dX11_way_1 rfl rfl (Nat.le_of_ble_eq_true rfl) (by decide) ⟨rfl, rfl, by decide, by decide⟩ ?_
  refine x_if_eqB 14 dX11_way_4 (by decide) (fun c4 => ?_) (fun c4 => ?_)
  · refine x_iconst (v := -1) dX11_way_14 (by decide) ?_
    refine x_iret rfl dX11_way_15 ⟨by decide, by decide⟩ ?_
    exact ⟨by simp only [qWay, c4, eq_self, Bool.false_eq_true, reduceCtorEq, and_true, true_and, and_false, false_and, not_true_eq_false, not_false_eq_true, if_true, if_false, ne_eq, or_true, true_or, or_false, false_or, ne_1_0, ne_2_0, ne_2_1, ne_3_0, ne_3_1, ne_3_2, ne_4_0, ne_4_1, ne_4_2, ne_4_3, ne_5_0, ne_5_1, ne_5_2, ne_5_3, ne_5_4, ne_6_0, ne_6_1, ne_6_2, ne_6_3, ne_6_4, ne_6_5, ne_7_0, ne_7_1, ne_7_2, ne_7_3, ne_7_4, ne_7_5, ne_7_6, ne_8_0, ne_8_1, ne_8_2, ne_8_3, ne_8_4, ne_8_5, ne_8_6, ne_8_7], rfl⟩
  · refine x_iload_n dX11_way_7 rfl ?_
    refine x_rdS c_cl lkX11_isClearing sX11_90 dX11_way_8 rfl rfl (Nat.le_of_ble_eq_true rfl) (by decide) ⟨rfl, rfl, by decide, by decide⟩ ?_
    refine x_if_neB 16 dX11_way_11 (by decide) (fun c11 => ?_) (fun c11 => ?_)
    · obtain ⟨a1, ha, rfl⟩ := bl_E (b := 8) c4 (by decide)
      obtain ⟨b1, hb, rfl⟩ := bl_E (b := 8) c11 (by decide)
      refine x_aload_n dX11_way_16 rfl ?_
      refine x_get fX11_12 (by assumption) rfl dX11_way_17 ?_
      refine x_iload_n dX11_way_20 rfl ?_
      refine x_iload_n dX11_way_21 rfl ?_
      refine x_rdV (c_X10_distance hv ha hb) (by assumption) lkX10_distance sX11_207 dX11_way_22 rfl rfl (Nat.le_of_ble_eq_true rfl) (by decide) ⟨rfl, rfl, by decide, by decide⟩ ?_
      refine x_iret rfl dX11_way_25 ⟨by decide, by decide⟩ ?_
      exact ⟨by simp only [qWay, c4, c11, eq_self, Bool.false_eq_true, reduceCtorEq, and_true, true_and, and_false, false_and, not_true_eq_false, not_false_eq_true, if_true, if_false, ne_eq, or_true, true_or, or_false, false_or, ne_1_0, ne_2_0, ne_2_1, ne_3_0, ne_3_1, ne_3_2, ne_4_0, ne_4_1, ne_4_2, ne_4_3, ne_5_0, ne_5_1, ne_5_2, ne_5_3, ne_5_4, ne_6_0, ne_6_1, ne_6_2, ne_6_3, ne_6_4, ne_6_5, ne_7_0, ne_7_1, ne_7_2, ne_7_3, ne_7_4, ne_7_5, ne_7_6, ne_8_0, ne_8_1, ne_8_2, ne_8_3, ne_8_4, ne_8_5, ne_8_6, ne_8_7, iN_nI (show a1 < 2 ^ 31 by omega), iN_nI (show b1 < 2 ^ 31 by omega)], rfl⟩
    · refine x_iconst (v := -1) dX11_way_14 (by decide) ?_
      refine x_iret rfl dX11_way_15 ⟨by decide, by decide⟩ ?_
      exact ⟨by simp only [qWay, c4, c11, eq_self, Bool.false_eq_true, reduceCtorEq, and_true, true_and, and_false, false_and, not_true_eq_false, not_false_eq_true, if_true, if_false, ne_eq, or_true, true_or, or_false, false_or, ne_1_0, ne_2_0, ne_2_1, ne_3_0, ne_3_1, ne_3_2, ne_4_0, ne_4_1, ne_4_2, ne_4_3, ne_5_0, ne_5_1, ne_5_2, ne_5_3, ne_5_4, ne_6_0, ne_6_1, ne_6_2, ne_6_3, ne_6_4, ne_6_5, ne_7_0, ne_7_1, ne_7_2, ne_7_3, ne_7_4, ne_7_5, ne_7_6, ne_8_0, ne_8_1, ne_8_2, ne_8_3, ne_8_4, ne_8_5, ne_8_6, ne_8_7], rfl⟩
set_option maxRecDepth 10000 in
set_option maxHeartbeats 2000000 in
theorem c_X11_reach {g : gG} {h : gH} {x : Nat} {D : Nat → Prop} {S : AS} (hx : isX h x D S) {a : Int32} : Rd g mX11_reach [.ref x, .int a] h (.int (qReach S.1 a)) := by
  have ho := hx.2.1
  have hv := hx.2.2.1
  have n0 := hv.o
  have okw := hv.1

  refine Cn.of (L := [some (.ref x), some (.int a)]) (by decide) (Nat.le_of_ble_eq_true rfl) rfl ?_
  refine x_iload_n dX11_reach_0 rfl ?_
  refine x_rdS c_cl lkX11_isClearing sX11_90 dX11_reach_1 rfl rfl (Nat.le_of_ble_eq_true rfl) (by decide) ⟨rfl, rfl, by decide, by decide⟩ ?_
  refine x_if_neB 9 dX11_reach_4 (by decide) (fun c4 => ?_) (fun c4 => ?_)
  · obtain ⟨a1, ha, rfl⟩ := bl_E (b := 8) c4 (by decide)
    refine x_aload_n dX11_reach_9 rfl ?_
    refine x_get fX11_12 (by assumption) rfl dX11_reach_10 ?_
    refine x_iload_n dX11_reach_13 rfl ?_
    refine x_rdV (c_X10_reachFrom hv ha) (by assumption) lkX10_reachFrom sX11_210 dX11_reach_14 rfl rfl (Nat.le_of_ble_eq_true rfl) (by decide) ⟨rfl, rfl, by decide, by decide⟩ ?_
    refine x_iret rfl dX11_reach_17 ⟨by decide, by decide⟩ ?_
    exact ⟨by simp only [qReach, c4, eq_self, Bool.false_eq_true, reduceCtorEq, and_true, true_and, and_false, false_and, not_true_eq_false, not_false_eq_true, if_true, if_false, ne_eq, or_true, true_or, or_false, false_or, ne_1_0, ne_2_0, ne_2_1, ne_3_0, ne_3_1, ne_3_2, ne_4_0, ne_4_1, ne_4_2, ne_4_3, ne_5_0, ne_5_1, ne_5_2, ne_5_3, ne_5_4, ne_6_0, ne_6_1, ne_6_2, ne_6_3, ne_6_4, ne_6_5, ne_7_0, ne_7_1, ne_7_2, ne_7_3, ne_7_4, ne_7_5, ne_7_6, ne_8_0, ne_8_1, ne_8_2, ne_8_3, ne_8_4, ne_8_5, ne_8_6, ne_8_7, iN_nI (show a1 < 2 ^ 31 by omega)], rfl⟩
  · refine x_iconst (v := -1) dX11_reach_7 (by decide) ?_
    refine x_iret rfl dX11_reach_8 ⟨by decide, by decide⟩ ?_
    exact ⟨by simp only [qReach, c4, eq_self, Bool.false_eq_true, reduceCtorEq, and_true, true_and, and_false, false_and, not_true_eq_false, not_false_eq_true, if_true, if_false, ne_eq, or_true, true_or, or_false, false_or, ne_1_0, ne_2_0, ne_2_1, ne_3_0, ne_3_1, ne_3_2, ne_4_0, ne_4_1, ne_4_2, ne_4_3, ne_5_0, ne_5_1, ne_5_2, ne_5_3, ne_5_4, ne_6_0, ne_6_1, ne_6_2, ne_6_3, ne_6_4, ne_6_5, ne_7_0, ne_7_1, ne_7_2, ne_7_3, ne_7_4, ne_7_5, ne_7_6, ne_8_0, ne_8_1, ne_8_2, ne_8_3, ne_8_4, ne_8_5, ne_8_6, ne_8_7], rfl⟩
def oWalker (V : VS) (c y : Int32) : Int32 × VS := if bl c 8 = true ∧ ut y 99 = true then if V.1 1 < 4 then (nI (V.1 1), adW V (iN c) (iN y)) else (-2, V) else (-1, V)
def oRule (V : VS) (k a : Int32) : Int32 × VS := if bl k 4 = true ∧ bl a 8 = true then if V.1 2 < 4 then (nI (V.1 2), adR V (iN k) (iN a)) else (-2, V) else (-1, V)
set_option maxRecDepth 10000 in
set_option maxHeartbeats 2000000 in
theorem c_X11_walker {g : gG} {h : gH} {x : Nat} {D : Nat → Prop} {S : AS} (hx : isX h x D S) {c y : Int32} : Ct g mX11_walker [.ref x, .int c, .int y] h (some (.int (oWalker S.1 c y).1)) (Px x D ((oWalker S.1 c y).2, S.2) h) := by
  have ho := hx.2.1
  have hv := hx.2.2.1
  have n0 := hv.o
  have okw := hv.1

  refine Cn.of (L := [some (.ref x), some (.int c), some (.int y)]) (by decide) (Nat.le_of_ble_eq_true rfl) rfl ?_
  refine x_iload_n dX11_walker_0 rfl ?_
  refine x_rdS c_cl lkX11_isClearing sX11_90 dX11_walker_1 rfl rfl (Nat.le_of_ble_eq_true rfl) (by decide) ⟨rfl, rfl, by decide, by decide⟩ ?_
  refine x_if_eqB 16 dX11_walker_4 (by decide) (fun c4 => ?_) (fun c4 => ?_)
  · refine x_iconst (v := -1) dX11_walker_16 (by decide) ?_
    refine x_iret rfl dX11_walker_17 ⟨by decide, by decide⟩ ?_
    exact fin hx (by simp only [oWalker, c4, eq_self, Bool.false_eq_true, reduceCtorEq, and_true, true_and, and_false, false_and, not_true_eq_false, not_false_eq_true, if_true, if_false, ne_eq, or_true, true_or, or_false, false_or])
  · refine x_iload_n dX11_walker_7 rfl ?_
    refine x_bipush (v := 99) dX11_walker_8 (by decide) ?_
    refine x_rdS c_ut lkX11_isUpTo sX11_98 dX11_walker_10 rfl rfl (Nat.le_of_ble_eq_true rfl) (by decide) ⟨rfl, rfl, by decide, by decide⟩ ?_
    refine x_if_neB 18 dX11_walker_13 (by decide) (fun c13 => ?_) (fun c13 => ?_)
    · obtain ⟨a1, ha, rfl⟩ := bl_E (b := 8) c4 (by decide)
      obtain ⟨b1, hb, rfl⟩ := ut_E (b := 99) c13 (by decide)
      have lt4 : nI (S.1.1 1) < 4 ↔ S.1.1 1 < 4 := nI_ltI (a := S.1.1 1) (b := 4) (by have := okw.1; omega) (by decide)
      refine x_aload_n dX11_walker_18 rfl ?_
      refine x_get fX11_12 (by assumption) rfl dX11_walker_19 ?_
      refine x_get fX11_147 (by assumption) rfl dX11_walker_22 ?_
      refine x_iconst (v := 4) dX11_walker_25 (by decide) ?_
      refine x_icmp_lt 32 dX11_walker_26 (by decide) (fun c26 => ?_) (fun c26 => ?_)
      · refine x_aload_n dX11_walker_32 rfl ?_
        refine x_get fX11_12 (by assumption) rfl dX11_walker_33 ?_
        refine x_iload_n dX11_walker_36 rfl ?_
        refine x_iload_n dX11_walker_37 rfl ?_
        refine x_cvV (c_X10_addWalker hv (lt4.mp c26) ha hb) (by assumption) lkX10_addWalker sX11_150 dX11_walker_38 rfl rfl (Nat.le_of_ble_eq_true rfl) (by decide) ⟨rfl, rfl, by decide, by decide⟩ ?_
        rintro h1 ⟨v1, F1⟩
        refine x_iret rfl dX11_walker_41 ⟨by decide, by decide⟩ ?_
        refine finV hx v1 F1 ?_
        have c26 := lt4.mp c26
        simp only [oWalker, c4, c13, c26, eq_self, Bool.false_eq_true, reduceCtorEq, and_true, true_and, and_false, false_and, not_true_eq_false, not_false_eq_true, if_true, if_false, ne_eq, or_true, true_or, or_false, false_or, iN_nI (show a1 < 2 ^ 31 by omega), iN_nI (show b1 < 2 ^ 31 by omega)]
      · refine x_bipush (v := -2) dX11_walker_29 (by decide) ?_
        refine x_iret rfl dX11_walker_31 ⟨by decide, by decide⟩ ?_
        have c26 : ¬ S.1.1 1 < 4 := fun q => c26 (lt4.mpr q)
        exact fin hx (by simp only [oWalker, c4, c13, c26, eq_self, Bool.false_eq_true, reduceCtorEq, and_true, true_and, and_false, false_and, not_true_eq_false, not_false_eq_true, if_true, if_false, ne_eq, or_true, true_or, or_false, false_or])
    · refine x_iconst (v := -1) dX11_walker_16 (by decide) ?_
      refine x_iret rfl dX11_walker_17 ⟨by decide, by decide⟩ ?_
      exact fin hx (by simp only [oWalker, c4, c13, eq_self, Bool.false_eq_true, reduceCtorEq, and_true, true_and, and_false, false_and, not_true_eq_false, not_false_eq_true, if_true, if_false, ne_eq, or_true, true_or, or_false, false_or])
set_option maxRecDepth 10000 in
set_option maxHeartbeats 2000000 in
theorem c_X11_rule {g : gG} {h : gH} {x : Nat} {D : Nat → Prop} {S : AS} (hx : isX h x D S) {k a : Int32} : Ct g mX11_rule [.ref x, .int k, .int a] h (some (.int (oRule S.1 k a).1)) (Px x D ((oRule S.1 k a).2, S.2) h) := by
  have ho := hx.2.1
  have hv := hx.2.2.1
  have n0 := hv.o
  have okw := hv.1

  refine Cn.of (L := [some (.ref x), some (.int k), some (.int a)]) (by decide) (Nat.le_of_ble_eq_true rfl) rfl ?_
  refine x_iload_n dX11_rule_0 rfl ?_
  refine x_iconst (v := 4) dX11_rule_1 (by decide) ?_
  refine x_rdS c_bl lkX11_isBelow sX11_94 dX11_rule_2 rfl rfl (Nat.le_of_ble_eq_true rfl) (by decide) ⟨rfl, rfl, by decide, by decide⟩ ?_
  refine x_if_eqB 15 dX11_rule_5 (by decide) (fun c5 => ?_) (fun c5 => ?_)
  · refine x_iconst (v := -1) dX11_rule_15 (by decide) ?_
    refine x_iret rfl dX11_rule_16 ⟨by decide, by decide⟩ ?_
    exact fin hx (by simp only [oRule, c5, eq_self, Bool.false_eq_true, reduceCtorEq, and_true, true_and, and_false, false_and, not_true_eq_false, not_false_eq_true, if_true, if_false, ne_eq, or_true, true_or, or_false, false_or])
  · refine x_iload_n dX11_rule_8 rfl ?_
    refine x_rdS c_cl lkX11_isClearing sX11_90 dX11_rule_9 rfl rfl (Nat.le_of_ble_eq_true rfl) (by decide) ⟨rfl, rfl, by decide, by decide⟩ ?_
    refine x_if_neB 17 dX11_rule_12 (by decide) (fun c12 => ?_) (fun c12 => ?_)
    · obtain ⟨a1, ha, rfl⟩ := bl_E (b := 4) c5 (by decide)
      obtain ⟨b1, hb, rfl⟩ := bl_E (b := 8) c12 (by decide)
      have lt4 : nI (S.1.1 2) < 4 ↔ S.1.1 2 < 4 := nI_ltI (a := S.1.1 2) (b := 4) (by have := okw.1; omega) (by decide)
      refine x_aload_n dX11_rule_17 rfl ?_
      refine x_get fX11_12 (by assumption) rfl dX11_rule_18 ?_
      refine x_get fX11_252 (by assumption) rfl dX11_rule_21 ?_
      refine x_iconst (v := 4) dX11_rule_24 (by decide) ?_
      refine x_icmp_lt 31 dX11_rule_25 (by decide) (fun c25 => ?_) (fun c25 => ?_)
      · refine x_aload_n dX11_rule_31 rfl ?_
        refine x_get fX11_12 (by assumption) rfl dX11_rule_32 ?_
        refine x_iload_n dX11_rule_35 rfl ?_
        refine x_iload_n dX11_rule_36 rfl ?_
        refine x_cvV (c_X10_addRule hv (lt4.mp c25) ha hb) (by assumption) lkX10_addRule sX11_255 dX11_rule_37 rfl rfl (Nat.le_of_ble_eq_true rfl) (by decide) ⟨rfl, rfl, by decide, by decide⟩ ?_
        rintro h1 ⟨v1, F1⟩
        refine x_iret rfl dX11_rule_40 ⟨by decide, by decide⟩ ?_
        refine finV hx v1 F1 ?_
        have c25 := lt4.mp c25
        simp only [oRule, c5, c12, c25, eq_self, Bool.false_eq_true, reduceCtorEq, and_true, true_and, and_false, false_and, not_true_eq_false, not_false_eq_true, if_true, if_false, ne_eq, or_true, true_or, or_false, false_or, iN_nI (show a1 < 2 ^ 31 by omega), iN_nI (show b1 < 2 ^ 31 by omega)]
      · refine x_bipush (v := -2) dX11_rule_28 (by decide) ?_
        refine x_iret rfl dX11_rule_30 ⟨by decide, by decide⟩ ?_
        have c25 : ¬ S.1.1 2 < 4 := fun q => c25 (lt4.mpr q)
        exact fin hx (by simp only [oRule, c5, c12, c25, eq_self, Bool.false_eq_true, reduceCtorEq, and_true, true_and, and_false, false_and, not_true_eq_false, not_false_eq_true, if_true, if_false, ne_eq, or_true, true_or, or_false, false_or])
    · refine x_iconst (v := -1) dX11_rule_15 (by decide) ?_
      refine x_iret rfl dX11_rule_16 ⟨by decide, by decide⟩ ?_
      exact fin hx (by simp only [oRule, c5, c12, eq_self, Bool.false_eq_true, reduceCtorEq, and_true, true_and, and_false, false_and, not_true_eq_false, not_false_eq_true, if_true, if_false, ne_eq, or_true, true_or, or_false, false_or])
def oSeed (V : VS) (v : Int32) : Int32 × VS := (V.2.1, (V.1, v, V.2.2))
def bN (b : Bool) : Nat := if b then 1 else 0
theorem b2i_N (b : Bool) : b2i (b = true) = nI (bN b) := by cases b <;> rfl
theorem bN_1 (b : Bool) : bN b ≤ 1 := by cases b <;> decide
def oRain (V : VS) (b : Bool) : Int32 × VS := (b2i (¬ V.1 4 = bN b), (va_up V.1 4 (bN b), V.2))
set_option maxRecDepth 10000 in
set_option maxHeartbeats 2000000 in
theorem c_X11_seed {g : gG} {h : gH} {x : Nat} {D : Nat → Prop} {S : AS} (hx : isX h x D S) {v : Int32} : Ct g mX11_seed [.ref x, .int v] h (some (.int (oSeed S.1 v).1)) (Px x D ((oSeed S.1 v).2, S.2) h) := by
  have ho := hx.2.1
  have hv := hx.2.2.1
  have n0 := hv.o
  have okw := hv.1
  obtain ⟨ok0, ar, hw, rp⟩ := id hv
  have w0 : h.1 (x + 1) = some (.inr (10, wF (x + 1) (wS S.1))) := hw.1
  have w1 : h.1 ((x + 1) + 1) = some (.inl (0, 8, .inl (ar 0))) := hw.2 0 (by decide)
  have w2 : h.1 ((x + 1) + 2) = some (.inl (0, 8, .inl (ar 1))) := hw.2 1 (by decide)
  have w3 : h.1 ((x + 1) + 3) = some (.inl (0, 8, .inl (ar 2))) := hw.2 2 (by decide)
  have w4 : h.1 ((x + 1) + 4) = some (.inl (0, 8, .inl (ar 3))) := hw.2 3 (by decide)
  have w5 : h.1 ((x + 1) + 5) = some (.inl (0, 8, .inl (ar 4))) := hw.2 4 (by decide)
  have w6 : h.1 ((x + 1) + 6) = some (.inl (0, 4, .inl (ar 5))) := hw.2 5 (by decide)
  have w7 : h.1 ((x + 1) + 7) = some (.inl (0, 4, .inl (ar 6))) := hw.2 6 (by decide)
  have w8 : h.1 ((x + 1) + 8) = some (.inl (0, 4, .inl (ar 7))) := hw.2 7 (by decide)
  have w9 : h.1 ((x + 1) + 9) = some (.inl (0, 8, .inl (ar 8))) := hw.2 8 (by decide)
  have w10 : h.1 ((x + 1) + 10) = some (.inl (0, 4, .inl (ar 9))) := hw.2 9 (by decide)
  have w11 : h.1 ((x + 1) + 11) = some (.inl (0, 4, .inl (ar 10))) := hw.2 10 (by decide)
  have D1 := isW.num (s' := wS (oSeed S.1 v).2) hw
  refine Cn.of (L := [some (.ref x), some (.int v), none]) (by decide) (Nat.le_of_ble_eq_true rfl) rfl ?_
  refine x_aload_n dX11_seed_0 rfl ?_
  refine x_get fX11_12 (by assumption) rfl dX11_seed_1 ?_
  refine x_get fX11_204 (by assumption) rfl dX11_seed_4 ?_
  refine x_ist_2 dX11_seed_7 (by decide) rfl ?_
  refine x_aload_n dX11_seed_8 rfl ?_
  refine x_get fX11_12 (by assumption) rfl dX11_seed_9 ?_
  refine x_iload_n dX11_seed_12 rfl ?_
  refine x_put (fs' := wF (x + 1) (wS (oSeed S.1 v).2)) fX11_204 (by assumption) (Nat.le_of_ble_eq_true rfl) rfl rfl rfl dX11_seed_13 ?_
  refine x_iload_n dX11_seed_16 rfl ?_
  refine x_iret rfl dX11_seed_17 ⟨by decide, by decide⟩ ?_
  exact finV (V' := (oSeed S.1 v).2) hx ⟨ok0, ar, D1, rp⟩ (Fr.set (by omega) (by omega)) rfl
set_option maxRecDepth 10000 in
set_option maxHeartbeats 2000000 in
theorem c_X11_rain {g : gG} {h : gH} {x : Nat} {D : Nat → Prop} {S : AS} (hx : isX h x D S) {b : Bool} : Ct g mX11_rain [.ref x, .int (b2i (b = true))] h (some (.int (oRain S.1 b).1)) (Px x D ((oRain S.1 b).2, S.2) h) := by
  have ho := hx.2.1
  have hv := hx.2.2.1
  have n0 := hv.o
  have okw := hv.1
  obtain ⟨ok0, ar, hw, rp⟩ := id hv
  have w0 : h.1 (x + 1) = some (.inr (10, wF (x + 1) (wS S.1))) := hw.1
  have w1 : h.1 ((x + 1) + 1) = some (.inl (0, 8, .inl (ar 0))) := hw.2 0 (by decide)
  have w2 : h.1 ((x + 1) + 2) = some (.inl (0, 8, .inl (ar 1))) := hw.2 1 (by decide)
  have w3 : h.1 ((x + 1) + 3) = some (.inl (0, 8, .inl (ar 2))) := hw.2 2 (by decide)
  have w4 : h.1 ((x + 1) + 4) = some (.inl (0, 8, .inl (ar 3))) := hw.2 3 (by decide)
  have w5 : h.1 ((x + 1) + 5) = some (.inl (0, 8, .inl (ar 4))) := hw.2 4 (by decide)
  have w6 : h.1 ((x + 1) + 6) = some (.inl (0, 4, .inl (ar 5))) := hw.2 5 (by decide)
  have w7 : h.1 ((x + 1) + 7) = some (.inl (0, 4, .inl (ar 6))) := hw.2 6 (by decide)
  have w8 : h.1 ((x + 1) + 8) = some (.inl (0, 4, .inl (ar 7))) := hw.2 7 (by decide)
  have w9 : h.1 ((x + 1) + 9) = some (.inl (0, 8, .inl (ar 8))) := hw.2 8 (by decide)
  have w10 : h.1 ((x + 1) + 10) = some (.inl (0, 4, .inl (ar 9))) := hw.2 9 (by decide)
  have w11 : h.1 ((x + 1) + 11) = some (.inl (0, 4, .inl (ar 10))) := hw.2 10 (by decide)
  have D1 := isW.num (s' := wS (oRain S.1 b).2) hw
  have okr : okV (oRain S.1 b).2 := ⟨okw.1, okw.2.1, bN_1 b, okw.2.2.2⟩
  rw [b2i_N]
  refine Cn.of (L := [some (.ref x), some (.int (nI (bN b))), none]) (by decide) (Nat.le_of_ble_eq_true rfl) rfl ?_
  refine x_aload_n dX11_rain_0 rfl ?_
  refine x_get fX11_12 (by assumption) rfl dX11_rain_1 ?_
  refine x_get fX11_140 (by assumption) rfl dX11_rain_4 ?_
  refine x_iload_n dX11_rain_7 rfl ?_
  refine x_icmp_eq 15 dX11_rain_8 (by decide) (fun c8 => ?_) (fun c8 => ?_)
  · refine x_iconst (v := 0) dX11_rain_15 (by decide) ?_
    refine x_ist_2 dX11_rain_16 (by decide) rfl ?_
    refine x_aload_n dX11_rain_17 rfl ?_
    refine x_get fX11_12 (by assumption) rfl dX11_rain_18 ?_
    refine x_iload_n dX11_rain_21 rfl ?_
    refine x_put (fs' := wF (x + 1) (wS (oRain S.1 b).2)) fX11_140 (by assumption) (Nat.le_of_ble_eq_true rfl) (nar_b (bN_1 b)) (fit_b (bN_1 b)) rfl dX11_rain_22 ?_
    refine x_iload_n dX11_rain_25 rfl ?_
    refine x_if_eq_t 33 dX11_rain_26 (by decide) rfl ?_
    refine x_iconst (v := 0) dX11_rain_33 (by decide) ?_
    refine x_iret rfl dX11_rain_34 ⟨by decide, by decide⟩ ?_
    refine finV hx ⟨okr, ar, D1, rp⟩ (Fr.set (by omega) (by omega)) ?_
    have c8 : ¬ ¬ S.1.1 4 = bN b := fun q => q ((nI_eq (by have := okw.2.2.1; omega) (by have := bN_1 b; omega)).mp c8)
    rw [oRain, b2i_f c8]
  · refine x_iconst (v := 1) dX11_rain_11 (by decide) ?_
    refine x_goto 16 dX11_rain_12 (by decide) ?_
    refine x_ist_2 dX11_rain_16 (by decide) rfl ?_
    refine x_aload_n dX11_rain_17 rfl ?_
    refine x_get fX11_12 (by assumption) rfl dX11_rain_18 ?_
    refine x_iload_n dX11_rain_21 rfl ?_
    refine x_put (fs' := wF (x + 1) (wS (oRain S.1 b).2)) fX11_140 (by assumption) (Nat.le_of_ble_eq_true rfl) (nar_b (bN_1 b)) (fit_b (bN_1 b)) rfl dX11_rain_22 ?_
    refine x_iload_n dX11_rain_25 rfl ?_
    refine x_if_eq_f 33 dX11_rain_26 (by decide) (by decide) ?_
    refine x_iconst (v := 1) dX11_rain_29 (by decide) ?_
    refine x_goto 34 dX11_rain_30 (by decide) ?_
    refine x_iret rfl dX11_rain_34 ⟨by decide, by decide⟩ ?_
    refine finV hx ⟨okr, ar, D1, rp⟩ (Fr.set (by omega) (by omega)) ?_
    have c8 : ¬ S.1.1 4 = bN b := fun q => c8 ((nI_eq (by have := okw.2.2.1; omega) (by have := bN_1 b; omega)).mpr q)
    rw [oRain, b2i_t c8]
def wgV (V : VS) (c v : Nat) : VS := (V.1, V.2.1, va_up V.2.2 7 (va_up (V.2.2 7) c v))
def oWeigh (V : VS) (c v : Int32) : Int32 × VS := if bl c 8 = true ∧ ut v 9 = true then (nI (V.2.2 7 (iN c)), wgV V (iN c) (iN v)) else (-1, V)
theorem wgV_ok {V : VS} {c v : Nat} (ok : okV V) (hv : v ≤ 9) : okV (wgV V c v) := by
  obtain ⟨h1, h2, h3, h4, h5, h6, h7⟩ := ok
  refine ⟨h1, h2, h3, fun p hp => ?_, fun u hu => ?_, fun j hj => ?_, fun r hr => ?_⟩
  · have := h4 p hp; simpa [wgV, va_up] using this
  · have := h5 u hu; simpa [wgV, va_up] using this
  · show va_up V.2.2 7 (va_up (V.2.2 7) c v) 7 j ≤ 9
    simp only [va_up, if_true]
    split
    · exact hv
    · exact h6 j hj
  · have := h7 r hr; simpa [wgV, va_up] using this
theorem wgV_rp {V : VS} {a : Nat → Nat → Int32} {c v : Nat} (rp : rpA V a) : rpA (wgV V c v) (va_up a 8 (va_up (a 8) c (nI v))) := by
  refine ⟨fun f p hf hp => ?_, fun u hu => ?_, fun j hj => ?_, fun r hr => ?_⟩
  · have := rp.1 f p hf hp
    simp only [wgV, va_up, if_neg (show ¬ f = 8 by omega), if_neg (show ¬ f = 7 by omega)]; exact this
  · have := rp.2.1 u hu; simpa [wgV, va_up] using this
  · have := rp.2.2.1 j hj
    simp only [wgV, va_up, if_true]
    split
    · rfl
    · exact this
  · have := rp.2.2.2 r hr; simpa [wgV, va_up] using this
set_option maxRecDepth 10000 in
set_option maxHeartbeats 2000000 in
theorem c_X11_weigh {g : gG} {h : gH} {x : Nat} {D : Nat → Prop} {S : AS} (hx : isX h x D S) {c v : Int32} : Ct g mX11_weigh [.ref x, .int c, .int v] h (some (.int (oWeigh S.1 c v).1)) (Px x D ((oWeigh S.1 c v).2, S.2) h) := by
  have ho := hx.2.1
  have hv := hx.2.2.1
  have n0 := hv.o
  have okw := hv.1
  obtain ⟨ok0, ar, hw, rp⟩ := id hv
  have w0 : h.1 (x + 1) = some (.inr (10, wF (x + 1) (wS S.1))) := hw.1
  have w1 : h.1 ((x + 1) + 1) = some (.inl (0, 8, .inl (ar 0))) := hw.2 0 (by decide)
  have w2 : h.1 ((x + 1) + 2) = some (.inl (0, 8, .inl (ar 1))) := hw.2 1 (by decide)
  have w3 : h.1 ((x + 1) + 3) = some (.inl (0, 8, .inl (ar 2))) := hw.2 2 (by decide)
  have w4 : h.1 ((x + 1) + 4) = some (.inl (0, 8, .inl (ar 3))) := hw.2 3 (by decide)
  have w5 : h.1 ((x + 1) + 5) = some (.inl (0, 8, .inl (ar 4))) := hw.2 4 (by decide)
  have w6 : h.1 ((x + 1) + 6) = some (.inl (0, 4, .inl (ar 5))) := hw.2 5 (by decide)
  have w7 : h.1 ((x + 1) + 7) = some (.inl (0, 4, .inl (ar 6))) := hw.2 6 (by decide)
  have w8 : h.1 ((x + 1) + 8) = some (.inl (0, 4, .inl (ar 7))) := hw.2 7 (by decide)
  have w9 : h.1 ((x + 1) + 9) = some (.inl (0, 8, .inl (ar 8))) := hw.2 8 (by decide)
  have w10 : h.1 ((x + 1) + 10) = some (.inl (0, 4, .inl (ar 9))) := hw.2 9 (by decide)
  have w11 : h.1 ((x + 1) + 11) = some (.inl (0, 4, .inl (ar 10))) := hw.2 10 (by decide)
  refine Cn.of (L := [some (.ref x), some (.int c), some (.int v), none]) (by decide) (Nat.le_of_ble_eq_true rfl) rfl ?_
  refine x_iload_n dX11_weigh_0 rfl ?_
  refine x_rdS c_cl lkX11_isClearing sX11_90 dX11_weigh_1 rfl rfl (Nat.le_of_ble_eq_true rfl) (by decide) ⟨rfl, rfl, by decide, by decide⟩ ?_
  refine x_if_eqB 16 dX11_weigh_4 (by decide) (fun c4 => ?_) (fun c4 => ?_)
  · refine x_iconst (v := -1) dX11_weigh_16 (by decide) ?_
    refine x_iret rfl dX11_weigh_17 ⟨by decide, by decide⟩ ?_
    exact fin hx (by simp only [oWeigh, c4, eq_self, Bool.false_eq_true, reduceCtorEq, and_true, true_and, and_false, false_and, not_true_eq_false, not_false_eq_true, if_true, if_false, ne_eq, or_true, true_or, or_false, false_or])
  · refine x_iload_n dX11_weigh_7 rfl ?_
    refine x_bipush (v := 9) dX11_weigh_8 (by decide) ?_
    refine x_rdS c_ut lkX11_isUpTo sX11_98 dX11_weigh_10 rfl rfl (Nat.le_of_ble_eq_true rfl) (by decide) ⟨rfl, rfl, by decide, by decide⟩ ?_
    refine x_if_neB 18 dX11_weigh_13 (by decide) (fun c13 => ?_) (fun c13 => ?_)
    · obtain ⟨a1, ha, rfl⟩ := bl_E (b := 8) c4 (by decide)
      obtain ⟨b1, hb, rfl⟩ := ut_E (b := 9) c13 (by decide)
      have D1 := isW.row (i := 8) (f := va_up (ar 8) a1 (nI b1)) hw (by decide)
      refine x_aload_n dX11_weigh_18 rfl ?_
      refine x_get fX11_12 (by assumption) rfl dX11_weigh_19 ?_
      refine x_getR fX11_144 (by assumption) rfl dX11_weigh_22 ?_
      refine x_iload_n dX11_weigh_25 rfl ?_
      refine x_iald a1 w9 rfl ha (by decide) dX11_weigh_26 ?_
      refine x_ist_3 dX11_weigh_27 (by decide) rfl ?_
      refine x_aload_n dX11_weigh_28 rfl ?_
      refine x_get fX11_12 (by assumption) rfl dX11_weigh_29 ?_
      refine x_getR fX11_144 (by assumption) rfl dX11_weigh_32 ?_
      refine x_iload_n dX11_weigh_35 rfl ?_
      refine x_iload_n dX11_weigh_36 rfl ?_
      refine x_iast a1 w9 rfl ha (by decide) dX11_weigh_37 ?_
      refine x_iload_n dX11_weigh_38 rfl ?_
      refine x_iret rfl dX11_weigh_39 ⟨by decide, by decide⟩ ?_
      refine finV hx ⟨wgV_ok okw hb, _, D1, wgV_rp rp⟩ (Fr.set (by omega) (by omega)) ?_
      simp only [oWeigh, c4, c13, eq_self, Bool.false_eq_true, reduceCtorEq, and_true, true_and, and_false, false_and, not_true_eq_false, not_false_eq_true, if_true, if_false, ne_eq, or_true, true_or, or_false, false_or, iN_nI (show a1 < 2 ^ 31 by omega), iN_nI (show b1 < 2 ^ 31 by omega), rp.2.2.1 a1 ha]
    · refine x_iconst (v := -1) dX11_weigh_16 (by decide) ?_
      refine x_iret rfl dX11_weigh_17 ⟨by decide, by decide⟩ ?_
      exact fin hx (by simp only [oWeigh, c4, c13, eq_self, Bool.false_eq_true, reduceCtorEq, and_true, true_and, and_false, false_and, not_true_eq_false, not_false_eq_true, if_true, if_false, ne_eq, or_true, true_or, or_false, false_or])
