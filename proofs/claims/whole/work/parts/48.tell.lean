/-! TELLING: the tape (at w + 12) tells a wood (at w) -/
theorem isY.fr {h h' : gH} {w : Nat} {T : TT} {s : TS} (hy : isY h (w + 12) T s) (hf : Fr w 12 h h') : isY h' (w + 12) T s := by
  obtain ⟨⟨h0, b, h1, h2⟩, bd, nu, ho, hn⟩ := hy
  exact ⟨⟨h0, b, (hf.2 _ (by omega)).trans h1, h2⟩, bd, nu, (hf.2 _ (by omega)).trans ho, hn⟩
def PT (w : Nat) (T : TT) (r : TS × VS) (h h' : gH) : Prop := isY h' (w + 12) T r.1 ∧ isV h' w r.2 ∧ Fr w 14 h h'
theorem Fr.ta {w : Nat} {h h' : gH} (hf : Fr (w + 12) 2 h h') : Fr w 14 h h' := hf.wid (by omega) (by omega)
theorem Fr.wo {w : Nat} {h h' : gH} (hf : Fr w 12 h h') : Fr w 14 h h' := hf.wid (by omega) (by omega)
def tp1 (T : TT) (s : TS) : TS := tkN T s 7 (-9)
def tp2 (T : TT) (s : TS) : TS := tkN T (tp1 T s) 7 (nI (vlN T s 7 (-9)))
def tp3 (T : TT) (s : TS) : TS := tkW T (tp2 T s) 6
def tp4 (T : TT) (s : TS) : TS := tkN T (tp3 T s) 8 (-9)
def tp5 (T : TT) (s : TS) : TS := tkW T (tp4 T s) 7
def tp6 (T : TT) (s : TS) : TS := tkN T (tp5 T s) 8 (-9)
def tpf (T : TT) (s : TS) (k : Nat) : Nat → Nat := f5 k (vlN T s 7 (-9)) (vlN T (tp1 T s) 7 (nI (vlN T s 7 (-9)))) (vlN T (tp3 T s) 8 (-9)) (vlN T (tp5 T s) 8 (-9))
def tlP (T : TT) (s : TS) (V : VS) (k : Nat) : TS × VS := if (tp6 T s).2 = true then (tkI T (tp6 T s) 8, stT (stT (adP V (tpf T s k)) (V.1 0) true) (V.1 0) (decide (¬ iw T (tp6 T s).1 8))) else (tp6 T s, V)
theorem tp_ok {T : TT} {s : TS} (k : Nat) (h : (tp6 T s).2 = true) : tpf T s k 1 < 8 ∧ tpf T s k 2 < 8 ∧ tpf T s k 1 ≠ tpf T s k 2 ∧ tpf T s k 3 ≤ 8 ∧ tpf T s k 4 ≤ 8 := by
  obtain ⟨a6, b6, -⟩ := tkN_t h
  obtain ⟨a4, b4, -⟩ := tkN_t (tkW_t a6)
  obtain ⟨a2, b2, c2⟩ := tkN_t (tkW_t a4)
  obtain ⟨a1, b1, -⟩ := tkN_t a2
  exact ⟨Nat.lt_succ_of_le b1, Nat.lt_succ_of_le b2, fun q => c2 (congrArg nI q.symm), b4, b6⟩
def tw1 (T : TT) (s : TS) : TS := tkN T s 7 (-9)
abbrev twp (T : TT) (s : TS) : Prop := (tw1 T s).2 = true ∧ iw T (tw1 T s).1 10
def tw2 (T : TT) (s : TS) : TS := tkI T (tw1 T s) 10
def tw3 (T : TT) (s : TS) : TS := if twp T s then tkN T (tw2 T s) 99 (-9) else tw2 T s
def twy (T : TT) (s : TS) : Nat := if twp T s then vlN T (tw2 T s) 99 (-9) else 0
def tlW (T : TT) (s : TS) (V : VS) : TS × VS := (tw3 T s, if (tw3 T s).2 = true then adW V (vlN T s 7 (-9)) (twy T s) else V)
def tg1 (T : TT) (s : TS) : TS := tkN T s 7 (-9)
def tg2 (T : TT) (s : TS) : TS := tkN T (tg1 T s) 9 (-9)
def tlG (T : TT) (s : TS) (V : VS) : TS × VS := (tg2 T s, if (tg2 T s).2 = true then wgV V (vlN T s 7 (-9)) (vlN T (tg1 T s) 9 (-9)) else V)
def rnV (V : VS) : VS := (va_up V.1 4 1, V.2)
def tlQ (T : TT) (K : KS) (V : VS) : TS × VS := if kdN T K < 6 ∧ V.1 0 < 8 then tlP T (nx T K.2.2, true) V (kdN T K) else if iw T K 9 ∧ V.1 1 < 4 then tlW T (nx T K.2.2, true) V else if iw T K 11 then ((nx T K.2.2, true), rnV V) else if iw T K 12 then tlG T (nx T K.2.2, true) V else ((K, false), V)
def tlT (T : TT) (K : KS) (V : VS) : TS × VS := (tkE T (tlQ T K V).1, (tlQ T K V).2)
def tlL (T : TT) : Nat → TS × VS → TS × VS
  | 0, r => r
  | n + 1, r => if r.1.2 = true ∧ ¬ r.1.1.1 = 0 then tlL T n (tlT T r.1.1 r.2) else r
set_option maxRecDepth 10000 in
set_option maxHeartbeats 2000000 in
theorem c_X6_tellPath {g : gG} {h : gH} {w k : Nat} {T : TT} {s : TS} {V : VS} (hy : isY h (w + 12) T s) (hv : isV h w V) (hn : V.1 0 < 8) (hk : k < 6) : Ct g mX6_tellPath [.ref (w + 12), .ref w, .int (nI k)] h none (PT w T (tlP T s V k) h) := by
  obtain ⟨nu0, o0, _⟩ := id hy.2.2
  have o0 : h.1 (w + 12) = _ := o0
  refine Cn.of (L := [some (.ref (w + 12)), some (.ref w), some (.int (nI k)), none, none, none, none, none]) (by decide) (Nat.le_of_ble_eq_true rfl) rfl ?_
  refine x_aload_n dX6_tellPath_0 rfl ?_
  refine x_bipush (v := 7) dX6_tellPath_1 (by decide) ?_
  refine x_bipush (v := -9) dX6_tellPath_3 (by decide) ?_
  refine x_cvV (c_X6_takesNumber (m := 7) (u := -9) hy (by decide)) o0 lkX6_takesNumber sX6_92 dX6_tellPath_5 rfl rfl (Nat.le_of_ble_eq_true rfl) (by decide) ⟨rfl, rfl, by decide, by decide⟩ ?_
  rintro h1 ⟨y1, F1⟩
  have y1 : isY h1 (w + 12) T (tp1 T s) := y1
  obtain ⟨nu1, o1, _⟩ := id y1.2.2
  have o1 : h1.1 (w + 12) = _ := o1
  refine x_ist_3 dX6_tellPath_8 (by decide) rfl ?_
  refine x_aload_n dX6_tellPath_9 rfl ?_
  refine x_bipush (v := 7) dX6_tellPath_10 (by decide) ?_
  refine x_iload_n dX6_tellPath_12 rfl ?_
  refine x_cvV (c_X6_takesNumber (m := 7) (u := nI (vlN T s 7 (-9))) y1 (by decide)) o1 lkX6_takesNumber sX6_92 dX6_tellPath_13 rfl rfl (Nat.le_of_ble_eq_true rfl) (by decide) ⟨rfl, rfl, by decide, by decide⟩ ?_
  rintro h2 ⟨y2, F2⟩
  have y2 : isY h2 (w + 12) T (tp2 T s) := y2
  obtain ⟨nu2, o2, _⟩ := id y2.2.2
  have o2 : h2.1 (w + 12) = _ := o2
  refine x_ist_4 dX6_tellPath_16 (by decide) rfl ?_
  refine x_aload_n dX6_tellPath_18 rfl ?_
  refine x_ldcS 6 (by decide) rfl rfl dX6_tellPath_19 ?_
  refine x_cnV (c_X6_takesWord (j := 6) y2 (by decide)) o2 lkX6_takesWord sX6_98 dX6_tellPath_21 rfl rfl (Nat.le_of_ble_eq_true rfl) (by decide) ⟨rfl, rfl, by decide, by decide⟩ ?_
  rintro h3 ⟨y3, F3⟩
  have y3 : isY h3 (w + 12) T (tp3 T s) := y3
  obtain ⟨nu3, o3, _⟩ := id y3.2.2
  have o3 : h3.1 (w + 12) = _ := o3
  refine x_aload_n dX6_tellPath_24 rfl ?_
  refine x_bipush (v := 8) dX6_tellPath_25 (by decide) ?_
  refine x_bipush (v := -9) dX6_tellPath_27 (by decide) ?_
  refine x_cvV (c_X6_takesNumber (m := 8) (u := -9) y3 (by decide)) o3 lkX6_takesNumber sX6_92 dX6_tellPath_29 rfl rfl (Nat.le_of_ble_eq_true rfl) (by decide) ⟨rfl, rfl, by decide, by decide⟩ ?_
  rintro h4 ⟨y4, F4⟩
  have y4 : isY h4 (w + 12) T (tp4 T s) := y4
  obtain ⟨nu4, o4, _⟩ := id y4.2.2
  have o4 : h4.1 (w + 12) = _ := o4
  refine x_ist_5 dX6_tellPath_32 (by decide) rfl ?_
  refine x_aload_n dX6_tellPath_34 rfl ?_
  refine x_ldcS 7 (by decide) rfl rfl dX6_tellPath_35 ?_
  refine x_cnV (c_X6_takesWord (j := 7) y4 (by decide)) o4 lkX6_takesWord sX6_98 dX6_tellPath_37 rfl rfl (Nat.le_of_ble_eq_true rfl) (by decide) ⟨rfl, rfl, by decide, by decide⟩ ?_
  rintro h5 ⟨y5, F5⟩
  have y5 : isY h5 (w + 12) T (tp5 T s) := y5
  obtain ⟨nu5, o5, _⟩ := id y5.2.2
  have o5 : h5.1 (w + 12) = _ := o5
  refine x_aload_n dX6_tellPath_40 rfl ?_
  refine x_bipush (v := 8) dX6_tellPath_41 (by decide) ?_
  refine x_bipush (v := -9) dX6_tellPath_43 (by decide) ?_
  refine x_cvV (c_X6_takesNumber (m := 8) (u := -9) y5 (by decide)) o5 lkX6_takesNumber sX6_92 dX6_tellPath_45 rfl rfl (Nat.le_of_ble_eq_true rfl) (by decide) ⟨rfl, rfl, by decide, by decide⟩ ?_
  rintro h6 ⟨y6, F6⟩
  have y6 : isY h6 (w + 12) T (tp6 T s) := y6
  obtain ⟨nu6, o6, _⟩ := id y6.2.2
  have o6 : h6.1 (w + 12) = _ := o6
  refine x_ist_6 dX6_tellPath_48 (by decide) rfl ?_
  have FA : Fr (w + 12) 2 h h6 := (((((F1.tr F2).tr F3).tr F4).tr F5).tr F6)
  refine x_aload_n dX6_tellPath_50 rfl ?_
  refine x_get fX6_22 o6 rfl dX6_tellPath_51 ?_
  refine x_if_ge 91 dX6_tellPath_54 (by decide) (fun c54 => ?_) (fun c54 => ?_)
  · refine x_vret rfl dX6_tellPath_91 ⟨by decide, by decide⟩ ?_
    have g6 : ¬ (tp6 T s).2 = true := fun z => absurd ((flI_lt (by have := y6.1.1; have := y6.2.1; omega)).mpr z) (Int32.not_lt.mpr c54)
    rw [tlP, if_neg g6]
    exact ⟨rfl, y6, hv.fr FA (by omega), FA.ta⟩
  · have g6 : (tp6 T s).2 = true := (flI_lt (by have := y6.1.1; have := y6.2.1; omega)).mp (Int32.not_le.mp c54)
    obtain ⟨q1, q2, q3, q4, q5⟩ := tp_ok k g6
    have v6 : isV h6 w V := hv.fr FA (by omega)
    refine x_aload_n dX6_tellPath_57 rfl ?_
    refine x_iload_n dX6_tellPath_58 rfl ?_
    refine x_iload_n dX6_tellPath_59 rfl ?_
    refine x_iload dX6_tellPath_60 rfl ?_
    refine x_iload dX6_tellPath_62 rfl ?_
    refine x_iload dX6_tellPath_64 rfl ?_
    refine x_cvV (c_X10_addPath (tpf T s k) v6 hn hk q1 q2 q3 q4 q5) v6.o lkX10_addPath sX6_104 dX6_tellPath_66 rfl rfl (Nat.le_of_ble_eq_true rfl) (by decide) ⟨rfl, rfl, by decide, by decide⟩ ?_
    rintro h7 ⟨v7, F7⟩
    have y7 : isY h7 (w + 12) T (tp6 T s) := y6.fr F7
    obtain ⟨nu7, o7, _⟩ := id y7.2.2
    have o7 : h7.1 (w + 12) = _ := o7
    refine x_ist_7 dX6_tellPath_69 (by decide) rfl ?_
    refine x_aload_n dX6_tellPath_71 rfl ?_
    refine x_iload dX6_tellPath_72 rfl ?_
    refine x_aload_n dX6_tellPath_74 rfl ?_
    refine x_ldcS 8 (by decide) rfl rfl dX6_tellPath_75 ?_
    refine x_cvV (c_X6_takesWordIfThere (j := 8) y7 (by decide)) o7 lkX6_takesWordIfThere sX6_62 dX6_tellPath_77 rfl rfl (Nat.le_of_ble_eq_true rfl) (by decide) ⟨rfl, rfl, by decide, by decide⟩ ?_
    rintro h8 ⟨y8, F8⟩
    have v8 := v7.fr F8 (by omega)
    have o8 := v8.o
    refine x_if_neB 87 dX6_tellPath_80 (by decide) (fun c80 => ?_) (fun c80 => ?_)
    · refine x_iconst (v := 0) dX6_tellPath_87 (by decide) ?_
      refine x_cnV (c_X10_setThere (k := V.1 0) (b := false) v8 (by show V.1 0 < V.1 0 + 1; omega) (fun _ => (onS_0 _).mpr (fun u a => by have := (hv.1.2.2.2.2.1 u a).1; show V.2.2 5 u ≠ _; omega))) o8 lkX10_setThere sX6_110 dX6_tellPath_88 rfl rfl (Nat.le_of_ble_eq_true rfl) (by decide) ⟨rfl, rfl, by decide, by decide⟩ ?_
      rintro h9 ⟨v9, F9⟩
      refine x_vret rfl dX6_tellPath_91 ⟨by decide, by decide⟩ ?_
      rw [tlP, if_pos g6, show decide (¬ iw T (tp6 T s).1 8) = false from decide_eq_false (fun z => z c80.2)]
      exact ⟨rfl, y8.fr F9, v9, ((FA.ta.tr F7.wo).tr F8.ta).tr F9.wo⟩
    · refine x_iconst (v := 1) dX6_tellPath_83 (by decide) ?_
      refine x_goto 88 dX6_tellPath_84 (by decide) ?_
      refine x_cnV (c_X10_setThere (k := V.1 0) (b := true) v8 (by show V.1 0 < V.1 0 + 1; omega) (fun _ => (onS_0 _).mpr (fun u a => by have := (hv.1.2.2.2.2.1 u a).1; show V.2.2 5 u ≠ _; omega))) o8 lkX10_setThere sX6_110 dX6_tellPath_88 rfl rfl (Nat.le_of_ble_eq_true rfl) (by decide) ⟨rfl, rfl, by decide, by decide⟩ ?_
      rintro h9 ⟨v9, F9⟩
      refine x_vret rfl dX6_tellPath_91 ⟨by decide, by decide⟩ ?_
      rw [tlP, if_pos g6, show decide (¬ iw T (tp6 T s).1 8) = true from decide_eq_true (fun z => c80 ⟨g6, z⟩)]
      exact ⟨rfl, y8.fr F9, v9, ((FA.ta.tr F7.wo).tr F8.ta).tr F9.wo⟩
set_option maxRecDepth 10000 in
set_option maxHeartbeats 2000000 in
theorem c_X6_tellWalker {g : gG} {h : gH} {w : Nat} {T : TT} {s : TS} {V : VS} (hy : isY h (w + 12) T s) (hv : isV h w V) (hn : V.1 1 < 4) : Ct g mX6_tellWalker [.ref (w + 12), .ref w] h none (PT w T (tlW T s V) h) := by
  obtain ⟨nu0, o0, _⟩ := id hy.2.2
  have o0 : h.1 (w + 12) = _ := o0
  refine Cn.of (L := [some (.ref (w + 12)), some (.ref w), none, none]) (by decide) (Nat.le_of_ble_eq_true rfl) rfl ?_
  refine x_aload_n dX6_tellWalker_0 rfl ?_
  refine x_bipush (v := 7) dX6_tellWalker_1 (by decide) ?_
  refine x_bipush (v := -9) dX6_tellWalker_3 (by decide) ?_
  refine x_cvV (c_X6_takesNumber (m := 7) (u := -9) hy (by decide)) o0 lkX6_takesNumber sX6_92 dX6_tellWalker_5 rfl rfl (Nat.le_of_ble_eq_true rfl) (by decide) ⟨rfl, rfl, by decide, by decide⟩ ?_
  rintro h1 ⟨y1, F1⟩
  have y1 : isY h1 (w + 12) T (tw1 T s) := y1
  obtain ⟨nu1, o1, _⟩ := id y1.2.2
  have o1 : h1.1 (w + 12) = _ := o1
  refine x_ist_2 dX6_tellWalker_8 (by decide) rfl ?_
  refine x_aload_n dX6_tellWalker_9 rfl ?_
  refine x_ldcS 10 (by decide) rfl rfl dX6_tellWalker_10 ?_
  refine x_cvV (c_X6_takesWordIfThere (j := 10) y1 (by decide)) o1 lkX6_takesWordIfThere sX6_62 dX6_tellWalker_12 rfl rfl (Nat.le_of_ble_eq_true rfl) (by decide) ⟨rfl, rfl, by decide, by decide⟩ ?_
  rintro h2 ⟨y2, F2⟩
  have y2 : isY h2 (w + 12) T (tw2 T s) := y2
  obtain ⟨nu2, o2, _⟩ := id y2.2.2
  have o2 : h2.1 (w + 12) = _ := o2
  refine x_if_eqB 29 dX6_tellWalker_15 (by decide) (fun c15 => ?_) (fun c15 => ?_)
  · have T3 : tw3 T s = tw2 T s := if_neg c15
    have Ey : twy T s = 0 := if_neg c15
    have FA : Fr (w + 12) 2 h h2 := F1.tr F2
    refine x_iconst (v := 0) dX6_tellWalker_29 (by decide) ?_
    refine x_ist_3 dX6_tellWalker_30 (by decide) rfl ?_
    refine x_aload_n dX6_tellWalker_31 rfl ?_
    refine x_get fX6_22 o2 rfl dX6_tellWalker_32 ?_
    refine x_if_ge 45 dX6_tellWalker_35 (by decide) (fun c35 => ?_) (fun c35 => ?_)
    · refine x_vret rfl dX6_tellWalker_45 ⟨by decide, by decide⟩ ?_
      have g3 : ¬ (tw3 T s).2 = true := by rw [T3]; exact fun z => absurd ((flI_lt (by have := y2.1.1; have := y2.2.1; omega)).mpr z) (Int32.not_lt.mpr c35)
      refine ⟨rfl, ?_, ?_, FA.ta⟩
      · show isY _ _ _ (tw3 T s); rw [T3]; exact y2
      · rw [tlW, if_neg g3]; exact hv.fr FA (by omega)
    · have g3 : (tw3 T s).2 = true := by rw [T3]; exact (flI_lt (by have := y2.1.1; have := y2.2.1; omega)).mp (Int32.not_le.mp c35)
      have v6 : isV h2 w V := hv.fr FA (by omega)
      have c8 : vlN T s 7 (-9) < 8 ∧ 0 ≤ 99 := by
        rw [T3] at g3
        have : (tw1 T s).2 = true := by
          unfold tw2 tkI at g3
          rw [if_neg c15] at g3
          exact g3
        exact ⟨Nat.lt_succ_of_le (tkN_t (s := s) this).2.1, Nat.zero_le _⟩
      refine x_aload_n dX6_tellWalker_38 rfl ?_
      refine x_iload_n dX6_tellWalker_39 rfl ?_
      refine x_iload_n dX6_tellWalker_40 rfl ?_
      refine x_cvV (c_X10_addWalker (y := 0) v6 hn c8.1 c8.2) v6.o lkX10_addWalker sX6_116 dX6_tellWalker_41 rfl rfl (Nat.le_of_ble_eq_true rfl) (by decide) ⟨rfl, rfl, by decide, by decide⟩ ?_
      rintro h9 ⟨v9, F9⟩
      refine x_pop dX6_tellWalker_44 rfl ?_
      refine x_vret rfl dX6_tellWalker_45 ⟨by decide, by decide⟩ ?_
      refine ⟨rfl, ?_, ?_, FA.ta.tr F9.wo⟩
      · show isY _ _ _ (tw3 T s); rw [T3]; exact y2.fr F9
      · rw [tlW, if_pos g3, Ey]; exact v9
  · refine x_aload_n dX6_tellWalker_18 rfl ?_
    refine x_bipush (v := 99) dX6_tellWalker_19 (by decide) ?_
    refine x_bipush (v := -9) dX6_tellWalker_21 (by decide) ?_
    refine x_cvV (c_X6_takesNumber (m := 99) (u := -9) y2 (by decide)) o2 lkX6_takesNumber sX6_92 dX6_tellWalker_23 rfl rfl (Nat.le_of_ble_eq_true rfl) (by decide) ⟨rfl, rfl, by decide, by decide⟩ ?_
    rintro h3 ⟨y3, F3⟩
    have y3 : isY h3 (w + 12) T (tkN T (tw2 T s) 99 (-9)) := y3
    obtain ⟨nu3, o3, _⟩ := id y3.2.2
    have o3 : h3.1 (w + 12) = _ := o3
    have T3 : tw3 T s = tkN T (tw2 T s) 99 (-9) := if_pos c15
    have Ey : twy T s = vlN T (tw2 T s) 99 (-9) := if_pos c15
    have FA : Fr (w + 12) 2 h h3 := (F1.tr F2).tr F3
    refine x_goto 30 dX6_tellWalker_26 (by decide) ?_
    refine x_ist_3 dX6_tellWalker_30 (by decide) rfl ?_
    refine x_aload_n dX6_tellWalker_31 rfl ?_
    refine x_get fX6_22 o3 rfl dX6_tellWalker_32 ?_
    refine x_if_ge 45 dX6_tellWalker_35 (by decide) (fun c35 => ?_) (fun c35 => ?_)
    · refine x_vret rfl dX6_tellWalker_45 ⟨by decide, by decide⟩ ?_
      have g3 : ¬ (tw3 T s).2 = true := by rw [T3]; exact fun z => absurd ((flI_lt (by have := y3.1.1; have := y3.2.1; omega)).mpr z) (Int32.not_lt.mpr c35)
      refine ⟨rfl, ?_, ?_, FA.ta⟩
      · show isY _ _ _ (tw3 T s); rw [T3]; exact y3
      · rw [tlW, if_neg g3]; exact hv.fr FA (by omega)
    · have g3 : (tw3 T s).2 = true := by rw [T3]; exact (flI_lt (by have := y3.1.1; have := y3.2.1; omega)).mp (Int32.not_le.mp c35)
      have v6 : isV h3 w V := hv.fr FA (by omega)
      have c8 : vlN T s 7 (-9) < 8 ∧ vlN T (tw2 T s) 99 (-9) ≤ 99 := by
        rw [T3] at g3
        exact ⟨Nat.lt_succ_of_le (tkN_t (s := s) c15.1).2.1, (tkN_t g3).2.1⟩
      refine x_aload_n dX6_tellWalker_38 rfl ?_
      refine x_iload_n dX6_tellWalker_39 rfl ?_
      refine x_iload_n dX6_tellWalker_40 rfl ?_
      refine x_cvV (c_X10_addWalker v6 hn c8.1 c8.2) v6.o lkX10_addWalker sX6_116 dX6_tellWalker_41 rfl rfl (Nat.le_of_ble_eq_true rfl) (by decide) ⟨rfl, rfl, by decide, by decide⟩ ?_
      rintro h9 ⟨v9, F9⟩
      refine x_pop dX6_tellWalker_44 rfl ?_
      refine x_vret rfl dX6_tellWalker_45 ⟨by decide, by decide⟩ ?_
      refine ⟨rfl, ?_, ?_, FA.ta.tr F9.wo⟩
      · show isY _ _ _ (tw3 T s); rw [T3]; exact y3.fr F9
      · rw [tlW, if_pos g3, Ey]; exact v9
set_option maxRecDepth 10000 in
set_option maxHeartbeats 2000000 in
theorem c_X6_tellWeight {g : gG} {h : gH} {w : Nat} {T : TT} {s : TS} {V : VS} (hy : isY h (w + 12) T s) (hv : isV h w V) : Ct g mX6_tellWeight [.ref (w + 12), .ref w] h none (PT w T (tlG T s V) h) := by
  obtain ⟨nu0, o0, _⟩ := id hy.2.2
  have o0 : h.1 (w + 12) = _ := o0
  refine Cn.of (L := [some (.ref (w + 12)), some (.ref w), none, none]) (by decide) (Nat.le_of_ble_eq_true rfl) rfl ?_
  refine x_aload_n dX6_tellWeight_0 rfl ?_
  refine x_bipush (v := 7) dX6_tellWeight_1 (by decide) ?_
  refine x_bipush (v := -9) dX6_tellWeight_3 (by decide) ?_
  refine x_cvV (c_X6_takesNumber (m := 7) (u := -9) hy (by decide)) o0 lkX6_takesNumber sX6_92 dX6_tellWeight_5 rfl rfl (Nat.le_of_ble_eq_true rfl) (by decide) ⟨rfl, rfl, by decide, by decide⟩ ?_
  rintro h1 ⟨y1, F1⟩
  have y1 : isY h1 (w + 12) T (tg1 T s) := y1
  obtain ⟨nu1, o1, _⟩ := id y1.2.2
  have o1 : h1.1 (w + 12) = _ := o1
  refine x_ist_2 dX6_tellWeight_8 (by decide) rfl ?_
  refine x_aload_n dX6_tellWeight_9 rfl ?_
  refine x_bipush (v := 9) dX6_tellWeight_10 (by decide) ?_
  refine x_bipush (v := -9) dX6_tellWeight_12 (by decide) ?_
  refine x_cvV (c_X6_takesNumber (m := 9) (u := -9) y1 (by decide)) o1 lkX6_takesNumber sX6_92 dX6_tellWeight_14 rfl rfl (Nat.le_of_ble_eq_true rfl) (by decide) ⟨rfl, rfl, by decide, by decide⟩ ?_
  rintro h2 ⟨y2, F2⟩
  have y2 : isY h2 (w + 12) T (tg2 T s) := y2
  obtain ⟨nu2, o2, _⟩ := id y2.2.2
  have o2 : h2.1 (w + 12) = _ := o2
  refine x_ist_3 dX6_tellWeight_17 (by decide) rfl ?_
  have FA : Fr (w + 12) 2 h h2 := F1.tr F2
  refine x_aload_n dX6_tellWeight_18 rfl ?_
  refine x_get fX6_22 o2 rfl dX6_tellWeight_19 ?_
  refine x_if_ge 32 dX6_tellWeight_22 (by decide) (fun c22 => ?_) (fun c22 => ?_)
  · refine x_vret rfl dX6_tellWeight_32 ⟨by decide, by decide⟩ ?_
    have g3 : ¬ (tg2 T s).2 = true := fun z => absurd ((flI_lt (by have := y2.1.1; have := y2.2.1; omega)).mpr z) (Int32.not_lt.mpr c22)
    refine ⟨rfl, y2, ?_, FA.ta⟩
    rw [tlG, if_neg g3]; exact hv.fr FA (by omega)
  · have g3 : (tg2 T s).2 = true := (flI_lt (by have := y2.1.1; have := y2.2.1; omega)).mp (Int32.not_le.mp c22)
    have v6 : isV h2 w V := hv.fr FA (by omega)
    obtain ⟨a2, b2, -⟩ := tkN_t g3
    obtain ⟨a1, b1, -⟩ := tkN_t a2
    obtain ⟨ok6, ar, hw6, rp6⟩ := id v6
    have w9 : h2.1 (w + 9) = some (.inl (0, 8, .inl (ar 8))) := hw6.2 8 (by decide)
    refine x_aload_n dX6_tellWeight_25 rfl ?_
    refine x_getR fX6_119 v6.o rfl dX6_tellWeight_26 ?_
    refine x_iload_n dX6_tellWeight_29 rfl ?_
    refine x_iload_n dX6_tellWeight_30 rfl ?_
    refine x_iast (vlN T s 7 (-9)) w9 rfl (Nat.lt_succ_of_le b1) (by decide) dX6_tellWeight_31 ?_
    refine x_vret rfl dX6_tellWeight_32 ⟨by decide, by decide⟩ ?_
    refine ⟨rfl, y2.fr (Fr.set (by omega) (by omega)), ?_, FA.ta.tr (Fr.set (by omega) (by omega))⟩
    rw [tlG, if_pos g3]
    exact ⟨wgV_ok ok6 b2, _, hw6.row (i := 8) (by decide), wgV_rp rp6⟩
