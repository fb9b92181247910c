def oOpen (V : VS) (p : Int32) (b : Bool) : Int32 × VS := if bl p (nI (V.1 0)) = true then if onS V (iN p) (V.1 1) = 0 then (b2i (¬ (V.1 3).testBit (iN p) = b), stT V (iN p) b) else (-4, V) else (-1, V)
abbrev mst (V : VS) (u p : Nat) : Prop := (V.1 3).testBit p = true ∧ (V.2.2 5 u = V.2.2 1 p ∨ V.2.2 5 u = V.2.2 2 p)
def oWalk (V : VS) (u p : Int32) : Int32 × VS := if bl u (nI (V.1 1)) = true ∧ bl p (nI (V.1 0)) = true then if mst V (iN u) (iN p) then (nI (oth V (iN p) (V.2.2 5 (iN u))), mv V (iN u) (oth V (iN p) (V.2.2 5 (iN u)))) else (-4, V) else (-1, V)
def oOn (V : VS) (u p : Int32) : Int32 × VS := if bl u (nI (V.1 1)) = true ∧ bl p (nI (V.1 0)) = true then if mst V (iN u) (iN p) then (nI (bc8 (onS (mv V (iN u) (8 + iN p)) (iN p) (V.1 1))), mv V (iN u) (8 + iN p)) else (-4, V) else (-1, V)
def oOff (V : VS) (u c : Int32) : Int32 × VS := if bl u (nI (V.1 1)) = true ∧ bl c 8 = true then if 8 ≤ V.2.2 5 (iN u) ∧ (V.2.2 1 (V.2.2 5 (iN u) - 8) = iN c ∨ V.2.2 2 (V.2.2 5 (iN u) - 8) = iN c) then (1, mv V (iN u) (iN c)) else (-4, V) else (-1, V)
def oPut (V : VS) (u c : Int32) : Int32 × VS := if bl u (nI (V.1 1)) = true ∧ bl c 8 = true then (plI (V.2.2 5 (iN u)), mv V (iN u) (iN c)) else (-1, V)
def pnN (V : VS) : Nat → VS
  | 0 => V
  | n + 1 => pn (pnN V n)
def oNight (V : VS) (n : Int32) : Int32 × VS := if ut n 20 = true then (nI ((pnN V (iN n)).1 3), pnN V (iN n)) else (-1, V)
theorem mv_5 {V : VS} {u q : Nat} : (mv V u q).2.2 5 u = q := by simp [mv, va_up]
theorem oth_8 {V : VS} (hv : okV V) {p c : Nat} (hp : p < V.1 0) : oth V p c < 8 := by
  have := hv.2.2.2.1 p hp
  unfold oth; split
  · exact this.2.2.1
  · exact this.2.1
theorem mst_8 {V : VS} (hv : okV V) {u p : Nat} (hp : p < V.1 0) (h : mst V u p) : V.2.2 5 u < 8 := by
  have := hv.2.2.2.1 p hp
  rcases h.2 with e | e <;> omega
theorem onI_bl {V : VS} (hv : okV V) {u : Nat} (hu : u < V.1 1) : bl (onI (V.2.2 5 u)) (nI (V.1 0)) = true ↔ 8 ≤ V.2.2 5 u := by
  have h5 := hv.2.2.2.2.1 u hu
  have h1 := hv.1
  unfold onI
  split
  · rename_i q
    refine ⟨fun z => ?_, fun z => absurd z (by omega)⟩
    have := (bl_p.mp z).1
    exact absurd this (by decide)
  · rw [bl_iff (by omega) (by omega)]; omega
theorem b2i_eqb {a b : Bool} : b2i (a = true) = b2i (b = true) ↔ a = b := by cases a <;> cases b <;> decide
set_option maxRecDepth 10000 in
set_option maxHeartbeats 2000000 in
theorem c_X11_open {g : gG} {h : gH} {x : Nat} {D : Nat → Prop} {S : AS} (hx : isX h x D S) {p : Int32} {b : Bool} : Ct g mX11_open [.ref x, .int p, .int (b2i (b = true))] h (some (.int (oOpen S.1 p b).1)) (Px x D ((oOpen S.1 p b).2, S.2) h) := by
  have ho := hx.2.1
  have hv := hx.2.2.1
  have n0 := hv.o
  have okw := hv.1

  have n31 : S.1.1 0 < 2 ^ 31 ∧ S.1.1 1 < 2 ^ 31 ∧ S.1.1 2 < 2 ^ 31 := by have := okw.1; omega
  refine Cn.of (L := [some (.ref x), some (.int p), some (.int (b2i (b = true))), none]) (by decide) (Nat.le_of_ble_eq_true rfl) rfl ?_
  refine x_aload_n dX11_open_0 rfl ?_
  refine x_get fX11_12 (by assumption) rfl dX11_open_1 ?_
  refine x_iload_n dX11_open_4 rfl ?_
  refine x_rdV (c_hp hv) (by assumption) lkX10_hasPath sX11_105 dX11_open_5 rfl rfl (Nat.le_of_ble_eq_true rfl) (by decide) ⟨rfl, rfl, by decide, by decide⟩ ?_
  refine x_if_neB 13 dX11_open_8 (by decide) (fun c8 => ?_) (fun c8 => ?_)
  · obtain ⟨p1, hp, rfl⟩ := bl_E c8 n31.1
    have hp8 : p1 < 8 := by have := okw.1.1; omega
    refine x_aload_n dX11_open_13 rfl ?_
    refine x_get fX11_12 (by assumption) rfl dX11_open_14 ?_
    refine x_iload_n dX11_open_17 rfl ?_
    refine x_rdV (c_X10_walkersOn hv hp8) (by assumption) lkX10_walkersOn sX11_133 dX11_open_18 rfl rfl (Nat.le_of_ble_eq_true rfl) (by decide) ⟨rfl, rfl, by decide, by decide⟩ ?_
    refine x_if_eq 27 dX11_open_21 (by decide) (fun c21 => ?_) (fun c21 => ?_)
    · refine x_aload_n dX11_open_27 rfl ?_
      refine x_get fX11_12 (by assumption) rfl dX11_open_28 ?_
      refine x_iload_n dX11_open_31 rfl ?_
      refine x_rdV (c_X10_isThere hv hp8) (by assumption) lkX10_isThere sX11_123 dX11_open_32 rfl rfl (Nat.le_of_ble_eq_true rfl) (by decide) ⟨rfl, rfl, by decide, by decide⟩ ?_
      refine x_iload_n dX11_open_35 rfl ?_
      refine x_icmp_eq 43 dX11_open_36 (by decide) (fun c36 => ?_) (fun c36 => ?_)
      · refine x_iconst (v := 0) dX11_open_43 (by decide) ?_
        refine x_ist_3 dX11_open_44 (by decide) rfl ?_
        refine x_aload_n dX11_open_45 rfl ?_
        refine x_get fX11_12 (by assumption) rfl dX11_open_46 ?_
        refine x_iload_n dX11_open_49 rfl ?_
        refine x_iload_n dX11_open_50 rfl ?_
        refine x_cnV (c_X10_setThere hv hp (fun _ => (nI_z (by have := on16 okw p1; omega)).mp c21)) (by assumption) lkX10_setThere sX11_136 dX11_open_51 rfl rfl (Nat.le_of_ble_eq_true rfl) (by decide) ⟨rfl, rfl, by decide, by decide⟩ ?_
        rintro h1 ⟨v1, F1⟩
        refine x_iload_n dX11_open_54 rfl ?_
        refine x_if_eq_t 62 dX11_open_55 (by decide) rfl ?_
        refine x_iconst (v := 0) dX11_open_62 (by decide) ?_
        refine x_iret rfl dX11_open_63 ⟨by decide, by decide⟩ ?_
        refine finV hx v1 F1 ?_
        have c21 := (nI_z (by have := on16 okw p1; omega)).mp c21
        have c36 : ¬ ¬ (S.1.1 3).testBit p1 = b := fun q => q (b2i_eqb.mp c36)
        rw [oOpen, if_pos c8, iN_nI (show p1 < 2 ^ 31 by omega), if_pos c21, b2i_f c36]
      · refine x_iconst (v := 1) dX11_open_39 (by decide) ?_
        refine x_goto 44 dX11_open_40 (by decide) ?_
        refine x_ist_3 dX11_open_44 (by decide) rfl ?_
        refine x_aload_n dX11_open_45 rfl ?_
        refine x_get fX11_12 (by assumption) rfl dX11_open_46 ?_
        refine x_iload_n dX11_open_49 rfl ?_
        refine x_iload_n dX11_open_50 rfl ?_
        refine x_cnV (c_X10_setThere hv hp (fun _ => (nI_z (by have := on16 okw p1; omega)).mp c21)) (by assumption) lkX10_setThere sX11_136 dX11_open_51 rfl rfl (Nat.le_of_ble_eq_true rfl) (by decide) ⟨rfl, rfl, by decide, by decide⟩ ?_
        rintro h1 ⟨v1, F1⟩
        refine x_iload_n dX11_open_54 rfl ?_
        refine x_if_eq_f 62 dX11_open_55 (by decide) (by decide) ?_
        refine x_iconst (v := 1) dX11_open_58 (by decide) ?_
        refine x_goto 63 dX11_open_59 (by decide) ?_
        refine x_iret rfl dX11_open_63 ⟨by decide, by decide⟩ ?_
        refine finV hx v1 F1 ?_
        have c21 := (nI_z (by have := on16 okw p1; omega)).mp c21
        have c36 : ¬ (S.1.1 3).testBit p1 = b := fun q => c36 (b2i_eqb.mpr q)
        rw [oOpen, if_pos c8, iN_nI (show p1 < 2 ^ 31 by omega), if_pos c21, b2i_t c36]
    · refine x_bipush (v := -4) dX11_open_24 (by decide) ?_
      refine x_iret rfl dX11_open_26 ⟨by decide, by decide⟩ ?_
      exact fin hx (by rw [nI_z (by have := on16 okw p1; omega)] at c21; simp only [oOpen, c8, c21, eq_self, Bool.false_eq_true, reduceCtorEq, and_true, true_and, and_false, false_and, not_true_eq_false, not_false_eq_true, if_true, if_false, ne_eq, or_true, true_or, or_false, false_or, iN_nI (show p1 < 2 ^ 31 by omega)])
  · refine x_iconst (v := -1) dX11_open_11 (by decide) ?_
    refine x_iret rfl dX11_open_12 ⟨by decide, by decide⟩ ?_
    exact fin hx (by simp only [oOpen, c8, eq_self, Bool.false_eq_true, reduceCtorEq, and_true, true_and, and_false, false_and, not_true_eq_false, not_false_eq_true, if_true, if_false, ne_eq, or_true, true_or, or_false, false_or])
set_option maxRecDepth 10000 in
set_option maxHeartbeats 2000000 in
theorem c_X11_walk {g : gG} {h : gH} {x : Nat} {D : Nat → Prop} {S : AS} (hx : isX h x D S) {u p : Int32} : Ct g mX11_walk [.ref x, .int u, .int p] h (some (.int (oWalk S.1 u p).1)) (Px x D ((oWalk S.1 u p).2, S.2) h) := by
  have ho := hx.2.1
  have hv := hx.2.2.1
  have n0 := hv.o
  have okw := hv.1

  have n31 : S.1.1 0 < 2 ^ 31 ∧ S.1.1 1 < 2 ^ 31 ∧ S.1.1 2 < 2 ^ 31 := by have := okw.1; omega
  refine Cn.of (L := [some (.ref x), some (.int u), some (.int p)]) (by decide) (Nat.le_of_ble_eq_true rfl) rfl ?_
  refine x_aload_n dX11_walk_0 rfl ?_
  refine x_get fX11_12 (by assumption) rfl dX11_walk_1 ?_
  refine x_iload_n dX11_walk_4 rfl ?_
  refine x_rdV (c_hw hv) (by assumption) lkX10_hasWalker sX11_154 dX11_walk_5 rfl rfl (Nat.le_of_ble_eq_true rfl) (by decide) ⟨rfl, rfl, by decide, by decide⟩ ?_
  refine x_if_eqB 22 dX11_walk_8 (by decide) (fun c8 => ?_) (fun c8 => ?_)
  · refine x_iconst (v := -1) dX11_walk_22 (by decide) ?_
    refine x_iret rfl dX11_walk_23 ⟨by decide, by decide⟩ ?_
    exact fin hx (by simp only [oWalk, c8, eq_self, Bool.false_eq_true, reduceCtorEq, and_true, true_and, and_false, false_and, not_true_eq_false, not_false_eq_true, if_true, if_false, ne_eq, or_true, true_or, or_false, false_or])
  · refine x_aload_n dX11_walk_11 rfl ?_
    refine x_get fX11_12 (by assumption) rfl dX11_walk_12 ?_
    refine x_iload_n dX11_walk_15 rfl ?_
    refine x_rdV (c_hp hv) (by assumption) lkX10_hasPath sX11_105 dX11_walk_16 rfl rfl (Nat.le_of_ble_eq_true rfl) (by decide) ⟨rfl, rfl, by decide, by decide⟩ ?_
    refine x_if_neB 24 dX11_walk_19 (by decide) (fun c19 => ?_) (fun c19 => ?_)
    · obtain ⟨u1, hu, rfl⟩ := bl_E c8 n31.2.1
      have hu4 : u1 < 4 := by have := okw.1.2.1; omega
      obtain ⟨p1, hp, rfl⟩ := bl_E c19 n31.1
      have hp8 : p1 < 8 := by have := okw.1.1; omega
      refine x_aload_n dX11_walk_24 rfl ?_
      refine x_get fX11_12 (by assumption) rfl dX11_walk_25 ?_
      refine x_iload_n dX11_walk_28 rfl ?_
      refine x_iload_n dX11_walk_29 rfl ?_
      refine x_rdV (c_X10_mayStep hv hu hp) (by assumption) lkX10_mayStep sX11_166 dX11_walk_30 rfl rfl (Nat.le_of_ble_eq_true rfl) (by decide) ⟨rfl, rfl, by decide, by decide⟩ ?_
      refine x_if_neB 39 dX11_walk_33 (by decide) (fun c33 => ?_) (fun c33 => ?_)
      · refine x_aload_n dX11_walk_39 rfl ?_
        refine x_get fX11_12 (by assumption) rfl dX11_walk_40 ?_
        refine x_iload_n dX11_walk_43 rfl ?_
        refine x_iload_n dX11_walk_44 rfl ?_
        refine x_cnV (c_X10_goAlong hv hu (mst_8 okw hp c33) hp) (by assumption) lkX10_goAlong sX11_169 dX11_walk_45 rfl rfl (Nat.le_of_ble_eq_true rfl) (by decide) ⟨rfl, rfl, by decide, by decide⟩ ?_
        rintro h1 ⟨v1, F1⟩
        have o1 : h1.1 x = some (.inr (11, xF x S.2.1.1 S.2.2.2.1.1)) := by rw [F1.2 x (by omega)]; exact ho
        obtain ⟨ok1, ar1, hw1, rp1⟩ := id v1
        have n1 := hw1.1
        have z6 : h1.1 ((x + 1) + 6) = some (.inl (0, 4, .inl (ar1 5))) := hw1.2 5 (by decide)
        have e5 := (rp1.2.1 u1 hu).1
        rw [mv_5] at e5
        refine x_aload_n dX11_walk_48 rfl ?_
        refine x_get fX11_12 o1 rfl dX11_walk_49 ?_
        refine x_getR fX11_157 n1 rfl dX11_walk_52 ?_
        refine x_iload_n dX11_walk_55 rfl ?_
        refine x_iald u1 z6 rfl hu4 (by decide) dX11_walk_56 ?_
        refine x_iret rfl dX11_walk_57 ⟨by decide, by decide⟩ ?_
        refine finV hx v1 F1 ?_
        rw [e5]
        simp only [oWalk, c8, c19, if_pos (show mst S.1 u1 p1 from c33), eq_self, Bool.false_eq_true, reduceCtorEq, and_true, true_and, and_false, false_and, not_true_eq_false, not_false_eq_true, if_true, if_false, ne_eq, or_true, true_or, or_false, false_or, iN_nI (show u1 < 2 ^ 31 by omega), iN_nI (show p1 < 2 ^ 31 by omega), plI, if_pos (oth_8 okw hp)]
      · refine x_bipush (v := -4) dX11_walk_36 (by decide) ?_
        refine x_iret rfl dX11_walk_38 ⟨by decide, by decide⟩ ?_
        exact fin hx (by simp only [oWalk, c8, c19, c33, eq_self, Bool.false_eq_true, reduceCtorEq, and_true, true_and, and_false, false_and, not_true_eq_false, not_false_eq_true, if_true, if_false, ne_eq, or_true, true_or, or_false, false_or, iN_nI (show u1 < 2 ^ 31 by omega), iN_nI (show p1 < 2 ^ 31 by omega)])
    · refine x_iconst (v := -1) dX11_walk_22 (by decide) ?_
      refine x_iret rfl dX11_walk_23 ⟨by decide, by decide⟩ ?_
      exact fin hx (by simp only [oWalk, c8, c19, eq_self, Bool.false_eq_true, reduceCtorEq, and_true, true_and, and_false, false_and, not_true_eq_false, not_false_eq_true, if_true, if_false, ne_eq, or_true, true_or, or_false, false_or])
set_option maxRecDepth 10000 in
set_option maxHeartbeats 2000000 in
theorem c_X11_on {g : gG} {h : gH} {x : Nat} {D : Nat → Prop} {S : AS} (hx : isX h x D S) {u p : Int32} : Ct g mX11_on [.ref x, .int u, .int p] h (some (.int (oOn S.1 u p).1)) (Px x D ((oOn S.1 u p).2, S.2) h) := by
  have ho := hx.2.1
  have hv := hx.2.2.1
  have n0 := hv.o
  have okw := hv.1

  have n31 : S.1.1 0 < 2 ^ 31 ∧ S.1.1 1 < 2 ^ 31 ∧ S.1.1 2 < 2 ^ 31 := by have := okw.1; omega
  refine Cn.of (L := [some (.ref x), some (.int u), some (.int p)]) (by decide) (Nat.le_of_ble_eq_true rfl) rfl ?_
  refine x_aload_n dX11_on_0 rfl ?_
  refine x_get fX11_12 (by assumption) rfl dX11_on_1 ?_
  refine x_iload_n dX11_on_4 rfl ?_
  refine x_rdV (c_hw hv) (by assumption) lkX10_hasWalker sX11_154 dX11_on_5 rfl rfl (Nat.le_of_ble_eq_true rfl) (by decide) ⟨rfl, rfl, by decide, by decide⟩ ?_
  refine x_if_eqB 22 dX11_on_8 (by decide) (fun c8 => ?_) (fun c8 => ?_)
  · refine x_iconst (v := -1) dX11_on_22 (by decide) ?_
    refine x_iret rfl dX11_on_23 ⟨by decide, by decide⟩ ?_
    exact fin hx (by simp only [oOn, c8, eq_self, Bool.false_eq_true, reduceCtorEq, and_true, true_and, and_false, false_and, not_true_eq_false, not_false_eq_true, if_true, if_false, ne_eq, or_true, true_or, or_false, false_or])
  · refine x_aload_n dX11_on_11 rfl ?_
    refine x_get fX11_12 (by assumption) rfl dX11_on_12 ?_
    refine x_iload_n dX11_on_15 rfl ?_
    refine x_rdV (c_hp hv) (by assumption) lkX10_hasPath sX11_105 dX11_on_16 rfl rfl (Nat.le_of_ble_eq_true rfl) (by decide) ⟨rfl, rfl, by decide, by decide⟩ ?_
    refine x_if_neB 24 dX11_on_19 (by decide) (fun c19 => ?_) (fun c19 => ?_)
    · obtain ⟨u1, hu, rfl⟩ := bl_E c8 n31.2.1
      have hu4 : u1 < 4 := by have := okw.1.2.1; omega
      obtain ⟨p1, hp, rfl⟩ := bl_E c19 n31.1
      have hp8 : p1 < 8 := by have := okw.1.1; omega
      refine x_aload_n dX11_on_24 rfl ?_
      refine x_get fX11_12 (by assumption) rfl dX11_on_25 ?_
      refine x_iload_n dX11_on_28 rfl ?_
      refine x_iload_n dX11_on_29 rfl ?_
      refine x_rdV (c_X10_mayStep hv hu hp) (by assumption) lkX10_mayStep sX11_166 dX11_on_30 rfl rfl (Nat.le_of_ble_eq_true rfl) (by decide) ⟨rfl, rfl, by decide, by decide⟩ ?_
      refine x_if_neB 39 dX11_on_33 (by decide) (fun c33 => ?_) (fun c33 => ?_)
      · refine x_aload_n dX11_on_39 rfl ?_
        refine x_get fX11_12 (by assumption) rfl dX11_on_40 ?_
        refine x_iload_n dX11_on_43 rfl ?_
        refine x_iload_n dX11_on_44 rfl ?_
        refine x_cnV (c_X10_comeOn hv hu4 hp c33.1) (by assumption) lkX10_comeOn sX11_173 dX11_on_45 rfl rfl (Nat.le_of_ble_eq_true rfl) (by decide) ⟨rfl, rfl, by decide, by decide⟩ ?_
        rintro h1 ⟨v1, F1⟩
        have o1 : h1.1 x = some (.inr (11, xF x S.2.1.1 S.2.2.2.1.1)) := by rw [F1.2 x (by omega)]; exact ho
        have n1 := v1.o
        have b16 : onS (mv S.1 u1 (8 + p1)) p1 (S.1.1 1) < 16 := on16 v1.1 p1
        refine x_aload_n dX11_on_48 rfl ?_
        refine x_get fX11_12 o1 rfl dX11_on_49 ?_
        refine x_iload_n dX11_on_52 rfl ?_
        refine x_rdV (c_X10_walkersOn v1 hp8) n1 lkX10_walkersOn sX11_133 dX11_on_53 rfl rfl (Nat.le_of_ble_eq_true rfl) (by decide) ⟨rfl, rfl, by decide, by decide⟩ ?_
        refine x_rdS (c_J6_bitCount_0f7a4 (x := onS (mv S.1 u1 (8 + p1)) p1 (S.1.1 1)) (by omega)) lkJ6_bitCount_0f7a4 sX11_176 dX11_on_56 rfl rfl (Nat.le_of_ble_eq_true rfl) (by decide) ⟨rfl, rfl, by decide, by decide⟩ ?_
        refine x_iret rfl dX11_on_59 ⟨by decide, by decide⟩ ?_
        refine finV hx v1 F1 ?_
        simp only [oOn, c8, c19, if_pos (show mst S.1 u1 p1 from c33), eq_self, Bool.false_eq_true, reduceCtorEq, and_true, true_and, and_false, false_and, not_true_eq_false, not_false_eq_true, if_true, if_false, ne_eq, or_true, true_or, or_false, false_or, iN_nI (show u1 < 2 ^ 31 by omega), iN_nI (show p1 < 2 ^ 31 by omega)]
      · refine x_bipush (v := -4) dX11_on_36 (by decide) ?_
        refine x_iret rfl dX11_on_38 ⟨by decide, by decide⟩ ?_
        exact fin hx (by simp only [oOn, c8, c19, c33, eq_self, Bool.false_eq_true, reduceCtorEq, and_true, true_and, and_false, false_and, not_true_eq_false, not_false_eq_true, if_true, if_false, ne_eq, or_true, true_or, or_false, false_or, iN_nI (show u1 < 2 ^ 31 by omega), iN_nI (show p1 < 2 ^ 31 by omega)])
    · refine x_iconst (v := -1) dX11_on_22 (by decide) ?_
      refine x_iret rfl dX11_on_23 ⟨by decide, by decide⟩ ?_
      exact fin hx (by simp only [oOn, c8, c19, eq_self, Bool.false_eq_true, reduceCtorEq, and_true, true_and, and_false, false_and, not_true_eq_false, not_false_eq_true, if_true, if_false, ne_eq, or_true, true_or, or_false, false_or])
set_option maxRecDepth 10000 in
set_option maxHeartbeats 2000000 in
theorem c_X11_put {g : gG} {h : gH} {x : Nat} {D : Nat → Prop} {S : AS} (hx : isX h x D S) {u c : Int32} : Ct g mX11_put [.ref x, .int u, .int c] h (some (.int (oPut S.1 u c).1)) (Px x D ((oPut S.1 u c).2, S.2) h) := by
  have ho := hx.2.1
  have hv := hx.2.2.1
  have n0 := hv.o
  have okw := hv.1
  obtain ⟨ok0, ar, hw, rp⟩ := id hv
  have w0 : h.1 (x + 1) = some (.inr (10, wF (x + 1) (wS S.1))) := hw.1
  have w1 : h.1 ((x + 1) + 1) = some (.inl (0, 8, .inl (ar 0))) := hw.2 0 (by decide)
  have w2 : h.1 ((x + 1) + 2) = some (.inl (0, 8, .inl (ar 1))) := hw.2 1 (by decide)
  have w3 : h.1 ((x + 1) + 3) = some (.inl (0, 8, .inl (ar 2))) := hw.2 2 (by decide)
  have w4 : h.1 ((x + 1) + 4) = some (.inl (0, 8, .inl (ar 3))) := hw.2 3 (by decide)
  have w5 : h.1 ((x + 1) + 5) = some (.inl (0, 8, .inl (ar 4))) := hw.2 4 (by decide)
  have w6 : h.1 ((x + 1) + 6) = some (.inl (0, 4, .inl (ar 5))) := hw.2 5 (by decide)
  have w7 : h.1 ((x + 1) + 7) = some (.inl (0, 4, .inl (ar 6))) := hw.2 6 (by decide)
  have w8 : h.1 ((x + 1) + 8) = some (.inl (0, 4, .inl (ar 7))) := hw.2 7 (by decide)
  have w9 : h.1 ((x + 1) + 9) = some (.inl (0, 8, .inl (ar 8))) := hw.2 8 (by decide)
  have w10 : h.1 ((x + 1) + 10) = some (.inl (0, 4, .inl (ar 9))) := hw.2 9 (by decide)
  have w11 : h.1 ((x + 1) + 11) = some (.inl (0, 4, .inl (ar 10))) := hw.2 10 (by decide)
  have n31 : S.1.1 0 < 2 ^ 31 ∧ S.1.1 1 < 2 ^ 31 ∧ S.1.1 2 < 2 ^ 31 := by have := okw.1; omega
  refine Cn.of (L := [some (.ref x), some (.int u), some (.int c), none]) (by decide) (Nat.le_of_ble_eq_true rfl) rfl ?_
  refine x_aload_n dX11_put_0 rfl ?_
  refine x_get fX11_12 (by assumption) rfl dX11_put_1 ?_
  refine x_iload_n dX11_put_4 rfl ?_
  refine x_rdV (c_hw hv) (by assumption) lkX10_hasWalker sX11_154 dX11_put_5 rfl rfl (Nat.le_of_ble_eq_true rfl) (by decide) ⟨rfl, rfl, by decide, by decide⟩ ?_
  refine x_if_eqB 18 dX11_put_8 (by decide) (fun c8 => ?_) (fun c8 => ?_)
  · refine x_iconst (v := -1) dX11_put_18 (by decide) ?_
    refine x_iret rfl dX11_put_19 ⟨by decide, by decide⟩ ?_
    exact fin hx (by simp only [oPut, c8, eq_self, Bool.false_eq_true, reduceCtorEq, and_true, true_and, and_false, false_and, not_true_eq_false, not_false_eq_true, if_true, if_false, ne_eq, or_true, true_or, or_false, false_or])
  · refine x_iload_n dX11_put_11 rfl ?_
    refine x_rdS c_cl lkX11_isClearing sX11_90 dX11_put_12 rfl rfl (Nat.le_of_ble_eq_true rfl) (by decide) ⟨rfl, rfl, by decide, by decide⟩ ?_
    refine x_if_neB 20 dX11_put_15 (by decide) (fun c15 => ?_) (fun c15 => ?_)
    · obtain ⟨u1, hu, rfl⟩ := bl_E c8 n31.2.1
      have hu4 : u1 < 4 := by have := okw.1.2.1; omega
      obtain ⟨d1, hd, rfl⟩ := bl_E (b := 8) c15 (by decide)
      refine x_aload_n dX11_put_20 rfl ?_
      refine x_get fX11_12 (by assumption) rfl dX11_put_21 ?_
      refine x_getR fX11_157 (by assumption) rfl dX11_put_24 ?_
      refine x_iload_n dX11_put_27 rfl ?_
      refine x_iald u1 w6 rfl hu4 (by decide) dX11_put_28 ?_
      refine x_ist_3 dX11_put_29 (by decide) rfl ?_
      refine x_aload_n dX11_put_30 rfl ?_
      refine x_get fX11_12 (by assumption) rfl dX11_put_31 ?_
      refine x_iload_n dX11_put_34 rfl ?_
      refine x_iload_n dX11_put_35 rfl ?_
      refine x_cnV (c_X10_setDown hv hu4 hd) (by assumption) lkX10_setDown sX11_184 dX11_put_36 rfl rfl (Nat.le_of_ble_eq_true rfl) (by decide) ⟨rfl, rfl, by decide, by decide⟩ ?_
      rintro h1 ⟨v1, F1⟩
      refine x_iload_n dX11_put_39 rfl ?_
      refine x_iret rfl dX11_put_40 ⟨by decide, by decide⟩ ?_
      refine finV hx v1 F1 ?_
      rw [(rp.2.1 u1 hu).1]
      simp only [oPut, c8, c15, eq_self, Bool.false_eq_true, reduceCtorEq, and_true, true_and, and_false, false_and, not_true_eq_false, not_false_eq_true, if_true, if_false, ne_eq, or_true, true_or, or_false, false_or, iN_nI (show u1 < 2 ^ 31 by omega), iN_nI (show d1 < 2 ^ 31 by omega)]
    · refine x_iconst (v := -1) dX11_put_18 (by decide) ?_
      refine x_iret rfl dX11_put_19 ⟨by decide, by decide⟩ ?_
      exact fin hx (by simp only [oPut, c8, c15, eq_self, Bool.false_eq_true, reduceCtorEq, and_true, true_and, and_false, false_and, not_true_eq_false, not_false_eq_true, if_true, if_false, ne_eq, or_true, true_or, or_false, false_or])
set_option maxRecDepth 10000 in
set_option maxHeartbeats 2000000 in
theorem c_X11_off {g : gG} {h : gH} {x : Nat} {D : Nat → Prop} {S : AS} (hx : isX h x D S) {u c : Int32} : Ct g mX11_off [.ref x, .int u, .int c] h (some (.int (oOff S.1 u c).1)) (Px x D ((oOff S.1 u c).2, S.2) h) := by
  have ho := hx.2.1
  have hv := hx.2.2.1
  have n0 := hv.o
  have okw := hv.1
  obtain ⟨ok0, ar, hw, rp⟩ := id hv
  have w0 : h.1 (x + 1) = some (.inr (10, wF (x + 1) (wS S.1))) := hw.1
  have w1 : h.1 ((x + 1) + 1) = some (.inl (0, 8, .inl (ar 0))) := hw.2 0 (by decide)
  have w2 : h.1 ((x + 1) + 2) = some (.inl (0, 8, .inl (ar 1))) := hw.2 1 (by decide)
  have w3 : h.1 ((x + 1) + 3) = some (.inl (0, 8, .inl (ar 2))) := hw.2 2 (by decide)
  have w4 : h.1 ((x + 1) + 4) = some (.inl (0, 8, .inl (ar 3))) := hw.2 3 (by decide)
  have w5 : h.1 ((x + 1) + 5) = some (.inl (0, 8, .inl (ar 4))) := hw.2 4 (by decide)
  have w6 : h.1 ((x + 1) + 6) = some (.inl (0, 4, .inl (ar 5))) := hw.2 5 (by decide)
  have w7 : h.1 ((x + 1) + 7) = some (.inl (0, 4, .inl (ar 6))) := hw.2 6 (by decide)
  have w8 : h.1 ((x + 1) + 8) = some (.inl (0, 4, .inl (ar 7))) := hw.2 7 (by decide)
  have w9 : h.1 ((x + 1) + 9) = some (.inl (0, 8, .inl (ar 8))) := hw.2 8 (by decide)
  have w10 : h.1 ((x + 1) + 10) = some (.inl (0, 4, .inl (ar 9))) := hw.2 9 (by decide)
  have w11 : h.1 ((x + 1) + 11) = some (.inl (0, 4, .inl (ar 10))) := hw.2 10 (by decide)
  have n31 : S.1.1 0 < 2 ^ 31 ∧ S.1.1 1 < 2 ^ 31 ∧ S.1.1 2 < 2 ^ 31 := by have := okw.1; omega
  refine Cn.of (L := [some (.ref x), some (.int u), some (.int c), none]) (by decide) (Nat.le_of_ble_eq_true rfl) rfl ?_
  refine x_aload_n dX11_off_0 rfl ?_
  refine x_get fX11_12 (by assumption) rfl dX11_off_1 ?_
  refine x_iload_n dX11_off_4 rfl ?_
  refine x_rdV (c_hw hv) (by assumption) lkX10_hasWalker sX11_154 dX11_off_5 rfl rfl (Nat.le_of_ble_eq_true rfl) (by decide) ⟨rfl, rfl, by decide, by decide⟩ ?_
  refine x_if_eqB 18 dX11_off_8 (by decide) (fun c8 => ?_) (fun c8 => ?_)
  · refine x_iconst (v := -1) dX11_off_18 (by decide) ?_
    refine x_iret rfl dX11_off_19 ⟨by decide, by decide⟩ ?_
    exact fin hx (by simp only [oOff, c8, eq_self, Bool.false_eq_true, reduceCtorEq, and_true, true_and, and_false, false_and, not_true_eq_false, not_false_eq_true, if_true, if_false, ne_eq, or_true, true_or, or_false, false_or])
  · refine x_iload_n dX11_off_11 rfl ?_
    refine x_rdS c_cl lkX11_isClearing sX11_90 dX11_off_12 rfl rfl (Nat.le_of_ble_eq_true rfl) (by decide) ⟨rfl, rfl, by decide, by decide⟩ ?_
    refine x_if_neB 20 dX11_off_15 (by decide) (fun c15 => ?_) (fun c15 => ?_)
    · obtain ⟨u1, hu, rfl⟩ := bl_E c8 n31.2.1
      have hu4 : u1 < 4 := by have := okw.1.2.1; omega
      obtain ⟨d1, hd, rfl⟩ := bl_E (b := 8) c15 (by decide)
      refine x_aload_n dX11_off_20 rfl ?_
      refine x_get fX11_12 (by assumption) rfl dX11_off_21 ?_
      refine x_getR fX11_160 (by assumption) rfl dX11_off_24 ?_
      refine x_iload_n dX11_off_27 rfl ?_
      refine x_iald u1 w7 rfl hu4 (by decide) dX11_off_28 ?_
      rw [(rp.2.1 u1 hu).2.1]
      have hb := onI_bl okw hu
      have h5 := okw.2.2.2.2.1 u1 hu
      refine x_ist_3 dX11_off_29 (by decide) rfl ?_
      refine x_aload_n dX11_off_30 rfl ?_
      refine x_get fX11_12 (by assumption) rfl dX11_off_31 ?_
      refine x_iload_n dX11_off_34 rfl ?_
      refine x_rdV (c_hp hv) (by assumption) lkX10_hasPath sX11_105 dX11_off_35 rfl rfl (Nat.le_of_ble_eq_true rfl) (by decide) ⟨rfl, rfl, by decide, by decide⟩ ?_
      refine x_if_eqB 53 dX11_off_38 (by decide) (fun c38 => ?_) (fun c38 => ?_)
      · refine x_bipush (v := -4) dX11_off_53 (by decide) ?_
        refine x_iret rfl dX11_off_55 ⟨by decide, by decide⟩ ?_
        have c38 : ¬ 8 ≤ S.1.2.2 5 u1 := fun q => c38 (hb.mpr q)
        exact fin hx (by simp only [oOff, c8, c15, c38, eq_self, Bool.false_eq_true, reduceCtorEq, and_true, true_and, and_false, false_and, not_true_eq_false, not_false_eq_true, if_true, if_false, ne_eq, or_true, true_or, or_false, false_or, iN_nI (show u1 < 2 ^ 31 by omega), iN_nI (show d1 < 2 ^ 31 by omega)])
      · have c38 := hb.mp c38
        have eq : onI (S.1.2.2 5 u1) = nI (S.1.2.2 5 u1 - 8) := if_neg (by omega)
        rw [eq]
        have hq : S.1.2.2 5 u1 - 8 < S.1.1 0 := by omega
        have hk := okw.2.2.2.1 _ hq
        have i1 : nI (S.1.2.2 1 (S.1.2.2 5 u1 - 8)) = nI d1 ↔ S.1.2.2 1 (S.1.2.2 5 u1 - 8) = d1 := nI_eq (by omega) (by omega)
        have i2 : nI (S.1.2.2 2 (S.1.2.2 5 u1 - 8)) = nI d1 ↔ S.1.2.2 2 (S.1.2.2 5 u1 - 8) = d1 := nI_eq (by omega) (by omega)
        refine x_aload_n dX11_off_41 rfl ?_
        refine x_get fX11_12 (by assumption) rfl dX11_off_42 ?_
        refine x_iload_n dX11_off_45 rfl ?_
        refine x_iload_n dX11_off_46 rfl ?_
        refine x_rdV (c_X10_endsAt hv hq) (by assumption) lkX10_endsAt sX11_181 dX11_off_47 rfl rfl (Nat.le_of_ble_eq_true rfl) (by decide) ⟨rfl, rfl, by decide, by decide⟩ ?_
        refine x_if_neB 56 dX11_off_50 (by decide) (fun c50 => ?_) (fun c50 => ?_)
        · refine x_aload_n dX11_off_56 rfl ?_
          refine x_get fX11_12 (by assumption) rfl dX11_off_57 ?_
          refine x_iload_n dX11_off_60 rfl ?_
          refine x_iload_n dX11_off_61 rfl ?_
          refine x_cnV (c_X10_setDown hv hu4 hd) (by assumption) lkX10_setDown sX11_184 dX11_off_62 rfl rfl (Nat.le_of_ble_eq_true rfl) (by decide) ⟨rfl, rfl, by decide, by decide⟩ ?_
          rintro h1 ⟨v1, F1⟩
          refine x_iconst (v := 1) dX11_off_65 (by decide) ?_
          refine x_iret rfl dX11_off_66 ⟨by decide, by decide⟩ ?_
          rw [i1, i2] at c50
          refine finV hx v1 F1 ?_
          simp only [oOff, c8, c15, c38, c50, eq_self, Bool.false_eq_true, reduceCtorEq, and_true, true_and, and_false, false_and, not_true_eq_false, not_false_eq_true, if_true, if_false, ne_eq, or_true, true_or, or_false, false_or, iN_nI (show u1 < 2 ^ 31 by omega), iN_nI (show d1 < 2 ^ 31 by omega)]
        · refine x_bipush (v := -4) dX11_off_53 (by decide) ?_
          refine x_iret rfl dX11_off_55 ⟨by decide, by decide⟩ ?_
          rw [i1, i2] at c50
          exact fin hx (by simp only [oOff, c8, c15, c38, c50, eq_self, Bool.false_eq_true, reduceCtorEq, and_true, true_and, and_false, false_and, not_true_eq_false, not_false_eq_true, if_true, if_false, ne_eq, or_true, true_or, or_false, false_or, iN_nI (show u1 < 2 ^ 31 by omega), iN_nI (show d1 < 2 ^ 31 by omega)])
    · refine x_iconst (v := -1) dX11_off_18 (by decide) ?_
      refine x_iret rfl dX11_off_19 ⟨by decide, by decide⟩ ?_
      exact fin hx (by simp only [oOff, c8, c15, eq_self, Bool.false_eq_true, reduceCtorEq, and_true, true_and, and_false, false_and, not_true_eq_false, not_false_eq_true, if_true, if_false, ne_eq, or_true, true_or, or_false, false_or])
set_option maxRecDepth 10000 in
set_option maxHeartbeats 2000000 in
theorem c_X11_night {g : gG} {h : gH} {x : Nat} {D : Nat → Prop} {S : AS} (hx : isX h x D S) {n : Int32} : Ct g mX11_night [.ref x, .int n] h (some (.int (oNight S.1 n).1)) (Px x D ((oNight S.1 n).2, S.2) h) := by
  have ho := hx.2.1
  have hv := hx.2.2.1
  have n0 := hv.o
  have okw := hv.1

  refine Cn.of (L := [some (.ref x), some (.int n), none]) (by decide) (Nat.le_of_ble_eq_true rfl) rfl ?_
  refine x_iload_n dX11_night_0 rfl ?_
  refine x_bipush (v := 20) dX11_night_1 (by decide) ?_
  refine x_rdS c_ut lkX11_isUpTo sX11_98 dX11_night_3 rfl rfl (Nat.le_of_ble_eq_true rfl) (by decide) ⟨rfl, rfl, by decide, by decide⟩ ?_
  refine x_if_neB 11 dX11_night_6 (by decide) (fun c6 => ?_) (fun c6 => ?_)
  · obtain ⟨n1, hn, rfl⟩ := ut_E (b := 20) c6 (by decide)
    refine x_iconst (v := 0) dX11_night_11 (by decide) ?_
    refine x_ist_2 dX11_night_12 (by decide) rfl ?_
    refine lp_up (P := fun i => ∀ h1, isV h1 (x + 1) (pnN S.1 i) → Fr (x + 1) 12 h h1 → Ex g mX11_night _ 13 [some (.ref x), some (.int (nI n1)), some (.int (nI i))] [] h1 0 0) n1 (fun i hi ih h1 v1 F1 => ?_) (fun h1 v1 F1 => ?_) 0 (Nat.zero_le _) h hv Fr.rf
    · have o1 : h1.1 x = some (.inr (11, xF x S.2.1.1 S.2.2.2.1.1)) := by rw [F1.2 x (by omega)]; exact ho
      have n1o := v1.o
      refine x_iload_n dX11_night_13 rfl ?_
      refine x_iload_n dX11_night_14 rfl ?_
      refine x_icmp_ge_f 31 dX11_night_15 (by decide) (ge_f rfl hi (by omega)) ?_
      refine x_aload_n dX11_night_18 rfl ?_
      refine x_get fX11_12 o1 rfl dX11_night_19 ?_
      refine x_cnV (c_X10_passNight v1) n1o lkX10_passNight sX11_187 dX11_night_22 rfl rfl (Nat.le_of_ble_eq_true rfl) (by decide) ⟨rfl, rfl, by decide, by decide⟩ ?_
      rintro h2 ⟨v2, F2⟩
      refine x_inc_2  dX11_night_25 (by decide) (nI_inc _) rfl ?_
      refine x_goto 13 dX11_night_28 (by decide) ?_
      exact ih h2 v2 (F1.tr F2)
    · have o1 : h1.1 x = some (.inr (11, xF x S.2.1.1 S.2.2.2.1.1)) := by rw [F1.2 x (by omega)]; exact ho
      have n1o := v1.o
      refine x_iload_n dX11_night_13 rfl ?_
      refine x_iload_n dX11_night_14 rfl ?_
      refine x_icmp_ge_t 31 dX11_night_15 (by decide) (ge_t rfl (by omega)) ?_
      refine x_aload_n dX11_night_31 rfl ?_
      refine x_get fX11_12 o1 rfl dX11_night_32 ?_
      refine x_get fX11_190 n1o rfl dX11_night_35 ?_
      refine x_iret rfl dX11_night_38 ⟨by decide, by decide⟩ ?_
      refine finV hx v1 F1 ?_
      simp only [oNight, c6, eq_self, Bool.false_eq_true, reduceCtorEq, and_true, true_and, and_false, false_and, not_true_eq_false, not_false_eq_true, if_true, if_false, ne_eq, or_true, true_or, or_false, false_or, iN_nI (show n1 < 2 ^ 31 by omega)]
      rfl
  · refine x_iconst (v := -1) dX11_night_9 (by decide) ?_
    refine x_iret rfl dX11_night_10 ⟨by decide, by decide⟩ ?_
    exact fin hx (by simp only [oNight, c6, eq_self, Bool.false_eq_true, reduceCtorEq, and_true, true_and, and_false, false_and, not_true_eq_false, not_false_eq_true, if_true, if_false, ne_eq, or_true, true_or, or_false, false_or])
