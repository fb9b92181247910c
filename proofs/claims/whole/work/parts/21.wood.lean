set_option maxRecDepth 10000 in
set_option maxHeartbeats 2000000 in
theorem c_X10_setDownR {g : gG} {h : gH} {w u : Nat} {s : Nat → Int32} {a : Nat → Nat → Int32} {c : Int32} (hww : isW h w (s, a)) (hu : u < 4) : Ct g mX10_setDown [.ref w, .int (nI u), .int c] h none (fun h' => isW h' w (s, va_up (va_up a 5 (va_up (a 5) u c)) 6 (va_up (a 6) u (-9))) ∧ Fr w 12 h h') := by
  have w0 : h.1 w = some (.inr (10, wF w s)) := hww.1
  have w1 : h.1 (w + 1) = some (.inl (0, 8, .inl (a 0))) := hww.2 0 (by decide)
  have w2 : h.1 (w + 2) = some (.inl (0, 8, .inl (a 1))) := hww.2 1 (by decide)
  have w3 : h.1 (w + 3) = some (.inl (0, 8, .inl (a 2))) := hww.2 2 (by decide)
  have w4 : h.1 (w + 4) = some (.inl (0, 8, .inl (a 3))) := hww.2 3 (by decide)
  have w5 : h.1 (w + 5) = some (.inl (0, 8, .inl (a 4))) := hww.2 4 (by decide)
  have w6 : h.1 (w + 6) = some (.inl (0, 4, .inl (a 5))) := hww.2 5 (by decide)
  have w7 : h.1 (w + 7) = some (.inl (0, 4, .inl (a 6))) := hww.2 6 (by decide)
  have w8 : h.1 (w + 8) = some (.inl (0, 4, .inl (a 7))) := hww.2 7 (by decide)
  have w9 : h.1 (w + 9) = some (.inl (0, 8, .inl (a 8))) := hww.2 8 (by decide)
  have w10 : h.1 (w + 10) = some (.inl (0, 4, .inl (a 9))) := hww.2 9 (by decide)
  have w11 : h.1 (w + 11) = some (.inl (0, 4, .inl (a 10))) := hww.2 10 (by decide)
  refine Cn.of (L := [some (.ref w), some (.int (nI u)), some (.int c)]) (by decide) (Nat.le_of_ble_eq_true rfl) rfl ?_
  refine x_aload_n dX10_setDown_0 rfl ?_
  refine x_get fX10_27 (by assumption) rfl dX10_setDown_1 ?_
  refine x_iload_n dX10_setDown_4 rfl ?_
  refine x_iload_n dX10_setDown_5 rfl ?_
  refine x_iast u w6 rfl hu (by decide) dX10_setDown_6 ?_
  have hw2 := isW.row (i := 5) (f := va_up (a 5) u c) hww (by decide)
  have m0 := hw2.1
  have m7 := hw2.2 6 (by decide)
  refine x_aload_n dX10_setDown_7 rfl ?_
  refine x_get fX10_30 m0 rfl dX10_setDown_8 ?_
  refine x_iload_n dX10_setDown_11 rfl ?_
  refine x_bipush (v := -9) dX10_setDown_12 (by decide) ?_
  refine x_iast u m7 rfl hu (by decide) dX10_setDown_14 ?_
  refine x_vret rfl dX10_setDown_15 ⟨by decide, by decide⟩ ?_
  exact ⟨rfl, hw2.row (i := 6) (by decide), (Fr.set (by omega) (by omega)).tr (Fr.set (by omega) (by omega))⟩
theorem adW_v {h : gH} {w c y : Nat} {V : VS} {a : Nat → Nat → Int32} (hv : okV V) (hn : V.1 1 < 4) (h0 : c < 8) (h1 : y ≤ 99) (hr : rpA V a) (hw : isW h w (wS (adW V c y), va_up (va_up (va_up a 7 (va_up (a 7) (V.1 1) (nI y))) 5 (va_up ((va_up a 7 (va_up (a 7) (V.1 1) (nI y))) 5) (V.1 1) (nI c))) 6 (va_up ((va_up a 7 (va_up (a 7) (V.1 1) (nI y))) 6) (V.1 1) (-9)))) : isV h w (adW V c y) := by
  obtain ⟨g1, g2, g3, g4⟩ := hr
  refine ⟨adW_ok hv hn h0 h1, _, hw, fun i p hf hp => ?_, fun r hr => ?_, fun c hc => ?_, fun r hr => ?_⟩
  · simp only [va_up, adW, if_neg (show ¬ i = 7 by omega), if_neg (show ¬ i = 6 by omega), if_neg (show ¬ i = 5 by omega)]; exact g1 i p hf hp
  · have hr : r < V.1 1 + 1 := hr
    by_cases e : r = V.1 1
    · have e5 : (adW V c y).2.2 5 r = c := by simp [adW, va_up, e]
      have e6 : (adW V c y).2.2 6 r = y := by simp [adW, va_up, e]
      rw [e5, e6]
      simp [va_up, e, plI, onI, h0]
    · have e5 : (adW V c y).2.2 5 r = V.2.2 5 r := by simp [adW, va_up, e]
      have e6 : (adW V c y).2.2 6 r = V.2.2 6 r := by simp [adW, va_up, e]
      rw [e5, e6]
      have := g2 r (by omega)
      simp [va_up, e]; exact this
  · have := g3 c hc
    simp [va_up, adW]; exact this
  · have := g4 r hr
    simp [va_up, adW]; exact this
set_option maxRecDepth 10000 in
set_option maxHeartbeats 2000000 in
theorem c_X10_addWalker {g : gG} {h : gH} {w : Nat} {V : VS} {c y : Nat} (hv : isV h w V) (hn : V.1 1 < 4) (h0 : c < 8) (h1 : y ≤ 99) : Ct g mX10_addWalker [.ref w, .int (nI c), .int (nI y)] h (some (.int (nI (V.1 1)))) (Mt w (adW V c y) h) := by
  obtain ⟨okw, a, hww, rpw⟩ := id hv
  have kwp : V.1 0 ≤ 8 := okw.1.1
  have kww : V.1 1 ≤ 4 := okw.1.2.1
  have kwr : V.1 2 ≤ 4 := okw.1.2.2
  have w0 : h.1 w = some (.inr (10, wF w (wS V))) := hww.1
  have w1 : h.1 (w + 1) = some (.inl (0, 8, .inl (a 0))) := hww.2 0 (by decide)
  have w2 : h.1 (w + 2) = some (.inl (0, 8, .inl (a 1))) := hww.2 1 (by decide)
  have w3 : h.1 (w + 3) = some (.inl (0, 8, .inl (a 2))) := hww.2 2 (by decide)
  have w4 : h.1 (w + 4) = some (.inl (0, 8, .inl (a 3))) := hww.2 3 (by decide)
  have w5 : h.1 (w + 5) = some (.inl (0, 8, .inl (a 4))) := hww.2 4 (by decide)
  have w6 : h.1 (w + 6) = some (.inl (0, 4, .inl (a 5))) := hww.2 5 (by decide)
  have w7 : h.1 (w + 7) = some (.inl (0, 4, .inl (a 6))) := hww.2 6 (by decide)
  have w8 : h.1 (w + 8) = some (.inl (0, 4, .inl (a 7))) := hww.2 7 (by decide)
  have w9 : h.1 (w + 9) = some (.inl (0, 8, .inl (a 8))) := hww.2 8 (by decide)
  have w10 : h.1 (w + 10) = some (.inl (0, 4, .inl (a 9))) := hww.2 9 (by decide)
  have w11 : h.1 (w + 11) = some (.inl (0, 4, .inl (a 10))) := hww.2 10 (by decide)
  refine Cn.of (L := [some (.ref w), some (.int (nI c)), some (.int (nI y)), none]) (by decide) (Nat.le_of_ble_eq_true rfl) rfl ?_
  refine x_aload_n dX10_addWalker_0 rfl ?_
  refine x_get fX10_67 (by assumption) rfl dX10_addWalker_1 ?_
  refine x_ist_3 dX10_addWalker_4 (by decide) rfl ?_
  refine x_aload_n dX10_addWalker_5 rfl ?_
  refine x_get fX10_33 (by assumption) rfl dX10_addWalker_6 ?_
  refine x_iload_n dX10_addWalker_9 rfl ?_
  refine x_iload_n dX10_addWalker_10 rfl ?_
  refine x_iast (V.1 1) w8 rfl hn (by decide) dX10_addWalker_11 ?_
  have D1 := isW.row (i := 7) (f := va_up (a 7) (V.1 1) (nI y)) hww (by decide)
  refine x_aload_n dX10_addWalker_12 rfl ?_
  refine x_iload_n dX10_addWalker_13 rfl ?_
  refine x_iload_n dX10_addWalker_14 rfl ?_
  refine x_cnV (c_X10_setDownR D1 hn) D1.1 lkX10_setDown sX10_88 dX10_addWalker_15 rfl rfl (Nat.le_of_ble_eq_true rfl) (by decide) ⟨rfl, rfl, by decide, by decide⟩ ?_
  rintro h2 ⟨D2, hf2⟩
  refine x_aload_n dX10_addWalker_18 rfl ?_
  refine x_dup dX10_addWalker_19 rfl ?_
  refine x_get fX10_67 D2.1 rfl dX10_addWalker_20 ?_
  refine x_iconst (v := 1) dX10_addWalker_23 (by decide) ?_
  refine x_iadd dX10_addWalker_24 ?_
  refine sw_top (show wS V 2 + 1 = wS (adW V c y) 2 from nI_1 _) ?_
  refine x_put (fs' := wF w (wS (adW V c y))) fX10_67 D2.1 (Nat.le_of_ble_eq_true rfl) rfl rfl rfl dX10_addWalker_25 ?_
  refine x_iload_n dX10_addWalker_28 rfl ?_
  refine x_iret rfl dX10_addWalker_29 ⟨by decide, by decide⟩ ?_
  exact ⟨rfl, adW_v okw hn h0 h1 rpw (isW.num (s' := wS (adW V c y)) D2), ((Fr.set (by omega) (by omega)).tr hf2).tr (Fr.set (by omega) (by omega))⟩
/-- an empty wood with the rules and z of another -/
def clW (V : VS) : VS := (fun k => if k = 2 then V.1 2 else 0, V.2.1, va_up V.2.2 7 (fun _ => 1))
theorem clW_v {h : gH} {w : Nat} {V : VS} {a : Nat → Nat → Int32} (hv : okV V) (hr : rpA V a) (hw : isW h w (wS (clW V), va_up a 8 (fa_fill (fun _ => 1) (a 8) 8))) : isV h w (clW V) := by
  obtain ⟨k1, k2, k3, k4, k5, k6, k7⟩ := hv
  obtain ⟨g1, g2, g3, g4⟩ := hr
  refine ⟨⟨⟨Nat.zero_le _, Nat.zero_le _, k1.2.2⟩, by show 0 < 2 ^ 0; decide, Nat.zero_le _, fun p hp => absurd hp (Nat.not_lt_zero p), fun p hp => absurd hp (Nat.not_lt_zero p), fun c _ => ?_, fun r q => ?_⟩, _, hw, fun i p hf hp => absurd hp (Nat.not_lt_zero p), fun p hp => absurd hp (Nat.not_lt_zero p), fun c hc => ?_, fun r q => ?_⟩
  · simp [clW, va_up]
  · have := k7 r q
    simp [clW, va_up]; exact this
  · simp [clW, va_up, fa_fill_in hc]; rfl
  · have := g4 r q
    simp [clW, va_up]; exact this
set_option maxRecDepth 10000 in
set_option maxHeartbeats 2000000 in
theorem c_X10_clear {g : gG} {h : gH} {w : Nat} {V : VS} (hv : isV h w V) : Ct g mX10_clear [.ref w] h none (Mt w (clW V) h) := by
  obtain ⟨okw, a, hww, rpw⟩ := id hv
  have kwp : V.1 0 ≤ 8 := okw.1.1
  have kww : V.1 1 ≤ 4 := okw.1.2.1
  have kwr : V.1 2 ≤ 4 := okw.1.2.2
  have w0 : h.1 w = some (.inr (10, wF w (wS V))) := hww.1
  have w1 : h.1 (w + 1) = some (.inl (0, 8, .inl (a 0))) := hww.2 0 (by decide)
  have w2 : h.1 (w + 2) = some (.inl (0, 8, .inl (a 1))) := hww.2 1 (by decide)
  have w3 : h.1 (w + 3) = some (.inl (0, 8, .inl (a 2))) := hww.2 2 (by decide)
  have w4 : h.1 (w + 4) = some (.inl (0, 8, .inl (a 3))) := hww.2 3 (by decide)
  have w5 : h.1 (w + 5) = some (.inl (0, 8, .inl (a 4))) := hww.2 4 (by decide)
  have w6 : h.1 (w + 6) = some (.inl (0, 4, .inl (a 5))) := hww.2 5 (by decide)
  have w7 : h.1 (w + 7) = some (.inl (0, 4, .inl (a 6))) := hww.2 6 (by decide)
  have w8 : h.1 (w + 8) = some (.inl (0, 4, .inl (a 7))) := hww.2 7 (by decide)
  have w9 : h.1 (w + 9) = some (.inl (0, 8, .inl (a 8))) := hww.2 8 (by decide)
  have w10 : h.1 (w + 10) = some (.inl (0, 4, .inl (a 9))) := hww.2 9 (by decide)
  have w11 : h.1 (w + 11) = some (.inl (0, 4, .inl (a 10))) := hww.2 10 (by decide)
  refine Cn.of (L := [some (.ref w)]) (by decide) (Nat.le_of_ble_eq_true rfl) rfl ?_
  refine x_aload_n dX10_clear_0 rfl ?_
  refine x_iconst (v := 0) dX10_clear_1 (by decide) ?_
  refine x_put (fs' := wF w (va_up (wS V) 0 0)) fX10_61 hww.1 (Nat.le_of_ble_eq_true rfl) rfl rfl rfl dX10_clear_2 ?_
  have D1 := isW.num (s' := (va_up (wS V) 0 0)) hww
  refine x_aload_n dX10_clear_5 rfl ?_
  refine x_iconst (v := 0) dX10_clear_6 (by decide) ?_
  refine x_put (fs' := wF w (va_up (va_up (wS V) 0 0) 1 0)) fX10_64 D1.1 (Nat.le_of_ble_eq_true rfl) rfl rfl rfl dX10_clear_7 ?_
  have D2 := isW.num (s' := (va_up (va_up (wS V) 0 0) 1 0)) D1
  refine x_aload_n dX10_clear_10 rfl ?_
  refine x_iconst (v := 0) dX10_clear_11 (by decide) ?_
  refine x_put (fs' := wF w (va_up (va_up (va_up (wS V) 0 0) 1 0) 2 0)) fX10_67 D2.1 (Nat.le_of_ble_eq_true rfl) rfl rfl rfl dX10_clear_12 ?_
  have D3 := isW.num (s' := (va_up (va_up (va_up (wS V) 0 0) 1 0) 2 0)) D2
  refine x_aload_n dX10_clear_15 rfl ?_
  refine x_iconst (v := 0) dX10_clear_16 (by decide) ?_
  refine x_put (fs' := wF w (va_up (va_up (va_up (va_up (wS V) 0 0) 1 0) 2 0) 3 0)) fX10_70 D3.1 (Nat.le_of_ble_eq_true rfl) rfl rfl rfl dX10_clear_17 ?_
  have D4 := isW.num (s' := (va_up (va_up (va_up (va_up (wS V) 0 0) 1 0) 2 0) 3 0)) D3
  refine x_aload_n dX10_clear_20 rfl ?_
  refine x_iconst (v := 0) dX10_clear_21 (by decide) ?_
  refine x_put (fs' := wF w (va_up (va_up (va_up (va_up (va_up (wS V) 0 0) 1 0) 2 0) 3 0) 4 0)) fX10_74 D4.1 (Nat.le_of_ble_eq_true rfl) rfl rfl rfl dX10_clear_22 ?_
  have D5 := isW.num (s' := (va_up (va_up (va_up (va_up (va_up (wS V) 0 0) 1 0) 2 0) 3 0) 4 0)) D4
  refine x_aload_n dX10_clear_25 rfl ?_
  refine x_get fX10_36 D5.1 rfl dX10_clear_26 ?_
  refine x_iconst (v := 1) dX10_clear_29 (by decide) ?_
  refine x_cnS (c_J7_fill_53178 (D5.2 8 (by decide)) (by decide)) lkJ7_fill_53178 sX10_49 dX10_clear_30 rfl rfl (Nat.le_of_ble_eq_true rfl) (by decide) ⟨rfl, rfl, by decide, by decide⟩ ?_
  rintro h2 rfl
  refine x_vret rfl dX10_clear_33 ⟨by decide, by decide⟩ ?_
  have D6 := isW.row (i := 8) (f := fa_fill (fun _ => 1) (a 8) 8) D5 (by decide)
  exact ⟨rfl, clW_v okw rpw ⟨D6.1, D6.2⟩, (((((Fr.set (by omega) (by omega)).tr (Fr.set (by omega) (by omega))).tr (Fr.set (by omega) (by omega))).tr (Fr.set (by omega) (by omega))).tr (Fr.set (by omega) (by omega))).tr (Fr.set (by omega) (by omega))⟩
theorem okV_z {V : VS} {x : Int32} (h : okV V) : okV (V.1, x, V.2.2) := h
theorem rpA_z {V : VS} {x : Int32} {a : Nat → Nat → Int32} (h : rpA V a) : rpA (V.1, x, V.2.2) a := h
theorem pnS_step {V U : VS} {i : Nat} (h : pnS V i = U) : pnS V (i + 1) = if onS V i (V.1 1) = 0 then stT (U.1, nz U.2.1, U.2.2) i (decide (drw (nz U.2.1) < nI (chn V i ((U.1 3).testBit i)))) else U := by
  subst h; rfl
theorem pnS_ok1 {V U : VS} {i : Nat} {z : Int32} {b : Bool} (hi : i < V.1 0) (ho : onS V i (V.1 1) = 0) (h1 : okV U) (h2 : ∀ k, k ≠ 3 → U.1 k = V.1 k) (h3 : U.2.2 = V.2.2) : okV (stT (U.1, z, U.2.2) i b) ∧ (∀ k, k ≠ 3 → (stT (U.1, z, U.2.2) i b).1 k = V.1 k) ∧ (stT (U.1, z, U.2.2) i b).2.2 = V.2.2 := by
  refine ⟨stT_ok (okV_z h1) (by show i < U.1 0; rw [h2 0 (by decide)]; exact hi) (fun _ => ?_), fun k hk => ?_, h3⟩
  · show onS (U.1, z, U.2.2) i (U.1 1) = 0
    rw [h2 1 (by decide)]
    rw [onS_0] at ho ⊢
    intro w hw
    show U.2.2 5 w ≠ _
    rw [h3]; exact ho w hw
  · show va_up U.1 3 _ k = _
    simp only [va_up, if_neg hk]; exact h2 k hk
theorem pnS_ok {V : VS} (hv : okV V) : ∀ i, i ≤ V.1 0 → okV (pnS V i) ∧ (∀ k, k ≠ 3 → (pnS V i).1 k = V.1 k) ∧ (pnS V i).2.2 = V.2.2
  | 0, _ => ⟨hv, fun _ _ => rfl, rfl⟩
  | i + 1, h => by
    obtain ⟨h1, h2, h3⟩ := pnS_ok hv i (by omega)
    generalize hU : pnS V i = U at h1 h2 h3
    rw [pnS_step hU]
    split
    · next ho => exact pnS_ok1 (by omega) ho h1 h2 h3
    · exact ⟨h1, h2, h3⟩
theorem onS_c {V U : VS} (k : Nat) (h : U.2.2 5 = V.2.2 5) : ∀ n, onS U k n = onS V k n
  | 0 => rfl
  | n + 1 => by rw [onS, onS, onS_c k h n, h]
theorem atE_c {V U : VS} (p : Nat) (h : U.2.2 = V.2.2) : ∀ n, atE U p n = atE V p n
  | 0 => rfl
  | n + 1 => by rw [atE, atE, atE_c p h n, h]
theorem chn_c {V U : VS} (p : Nat) (b : Bool) (h1 : U.1 1 = V.1 1) (h2 : U.1 4 = V.1 4) (h3 : U.2.2 = V.2.2) : chn U p b = chn V p b := by
  unfold chn stays comes
  rw [onS_c (V := V) (U := U) p (by rw [h3]) (U.1 1), atE_c (V := V) (U := U) p h3 (U.1 1), h1, h2, h3]
theorem nums_z {V : VS} (x : Int32) : wF 0 (wS (V.1, x, V.2.2)) = wF 0 (wS (V.1, x, V.2.2)) := rfl
set_option maxRecDepth 10000 in
set_option maxHeartbeats 2000000 in
theorem c_X10_passNight {g : gG} {h : gH} {w : Nat} {V : VS} (hv : isV h w V) : Ct g mX10_passNight [.ref w] h none (Mt w (pn V) h) := by
  obtain ⟨okw, a, hww, rpw⟩ := id hv
  have kwp : V.1 0 ≤ 8 := okw.1.1
  have kww : V.1 1 ≤ 4 := okw.1.2.1
  have kwr : V.1 2 ≤ 4 := okw.1.2.2
  have w0 : h.1 w = some (.inr (10, wF w (wS V))) := hww.1
  have w1 : h.1 (w + 1) = some (.inl (0, 8, .inl (a 0))) := hww.2 0 (by decide)
  have w2 : h.1 (w + 2) = some (.inl (0, 8, .inl (a 1))) := hww.2 1 (by decide)
  have w3 : h.1 (w + 3) = some (.inl (0, 8, .inl (a 2))) := hww.2 2 (by decide)
  have w4 : h.1 (w + 4) = some (.inl (0, 8, .inl (a 3))) := hww.2 3 (by decide)
  have w5 : h.1 (w + 5) = some (.inl (0, 8, .inl (a 4))) := hww.2 4 (by decide)
  have w6 : h.1 (w + 6) = some (.inl (0, 4, .inl (a 5))) := hww.2 5 (by decide)
  have w7 : h.1 (w + 7) = some (.inl (0, 4, .inl (a 6))) := hww.2 6 (by decide)
  have w8 : h.1 (w + 8) = some (.inl (0, 4, .inl (a 7))) := hww.2 7 (by decide)
  have w9 : h.1 (w + 9) = some (.inl (0, 8, .inl (a 8))) := hww.2 8 (by decide)
  have w10 : h.1 (w + 10) = some (.inl (0, 4, .inl (a 9))) := hww.2 9 (by decide)
  have w11 : h.1 (w + 11) = some (.inl (0, 4, .inl (a 10))) := hww.2 10 (by decide)
  refine Cn.of (L := [some (.ref w), none, none]) (by decide) (Nat.le_of_ble_eq_true rfl) rfl ?_
  refine x_iconst (v := 0) dX10_passNight_0 (by decide) ?_
  refine x_ist_1 dX10_passNight_1 (by decide) rfl ?_
  refine lp_up (P := fun i => ∀ h1 u, isV h1 w (pnS V i) → Fr w 12 h h1 → Ex g mX10_passNight _ 2 [some (.ref w), some (.int (nI i)), u] [] h1 0 0) (V.1 0) (fun i hi ih h1 u hv1 hf1 => ?_) (fun h1 u hv1 hf1 => ?_) 0 (Nat.zero_le _) h none hv Fr.rf
  · obtain ⟨q1, q2, q3⟩ := pnS_ok okw i (by omega)
    generalize hU : pnS V i = U at hv1 q1 q2 q3
    have est := pnS_step hU
    obtain ⟨ok1, a1, hw1, rp1⟩ := id hv1
    have m0 := hw1.1
    have e0 : wS U 0 = nI (V.1 0) := congrArg nI (q2 0 (by decide))
    have eo : onS U i (U.1 1) = onS V i (V.1 1) := by rw [q2 1 (by decide)]; exact onS_c i (by rw [q3]) _
    have hi1 : i < U.1 0 := by rw [q2 0 (by decide)]; exact hi
    have z := nI_z (x := onS V i (V.1 1)) (by have := on16 okw i; omega)
    refine x_iload_n dX10_passNight_2 rfl ?_
    refine x_aload_n dX10_passNight_3 rfl ?_
    refine x_get fX10_61 (by assumption) rfl dX10_passNight_4 ?_
    refine x_icmp_ge_f 74 dX10_passNight_7 (by decide) (ge_f e0 hi (by omega)) ?_
    refine x_aload_n dX10_passNight_10 rfl ?_
    refine x_iload_n dX10_passNight_11 rfl ?_
    refine x_rdV (c_X10_walkersOn hv1 (by omega)) (by assumption) lkX10_walkersOn sX10_120 dX10_passNight_12 rfl rfl (Nat.le_of_ble_eq_true rfl) (by decide) ⟨rfl, rfl, by decide, by decide⟩ ?_
    rw [eo]
    refine x_if_ne 68 dX10_passNight_15 (by decide) (fun c15 => ?_) (fun c15 => ?_)
    · refine x_inc_1  dX10_passNight_68 (by decide) (nI_inc _) rfl ?_
      refine x_goto 2 dX10_passNight_71 (by decide) ?_
      refine ih h1 _ ?_ hf1
      rw [est, if_neg (fun q => c15 (z.mpr q))]; exact hv1
    · have c15 := z.mp c15
      refine x_aload_n dX10_passNight_18 rfl ?_
      refine x_aload_n dX10_passNight_19 rfl ?_
      refine x_get fX10_39 m0 rfl dX10_passNight_20 ?_
      refine x_ldc dX10_passNight_23 kX10_130 ?_
      refine x_imul dX10_passNight_25 ?_
      refine x_sipush (v := 12345) dX10_passNight_26 (by decide) ?_
      refine x_iadd dX10_passNight_29 ?_
      refine sw_top (show wS U 5 * 1103515245 + 12345 = nz (wS U 5) from rfl) ?_
      have est := est
      obtain ⟨z1, hz⟩ : ∃ z, z = nz (wS U 5) := ⟨_, rfl⟩
      rw [← hz]
      have hz2 : nz U.2.1 = z1 := hz.symm
      rw [hz2] at est
      refine x_put (fs' := wF w (wS (U.1, z1, U.2.2))) fX10_39 m0 (Nat.le_of_ble_eq_true rfl) rfl rfl rfl dX10_passNight_30 ?_
      have hwU := isW.num (s' := wS (U.1, z1, U.2.2)) hw1
      have hvU : isV (hset h1 w (.inr (10, wF w (wS (U.1, z1, U.2.2))))) w (U.1, z1, U.2.2) := ⟨okV_z ok1, a1, hwU, rpA_z rp1⟩
      have U0 := hvU.o
      have hfU : Fr w 12 h1 (hset h1 w (.inr (10, wF w (wS (U.1, z1, U.2.2))))) := Fr.set (Nat.le_refl _) (by omega)
      generalize hset h1 w (.inr (10, wF w (wS (U.1, z1, U.2.2)))) = h2 at hvU U0 hfU
      refine x_aload_n dX10_passNight_33 rfl ?_
      refine x_get fX10_39 U0 rfl dX10_passNight_34 ?_
      refine x_bipush (v := 16) dX10_passNight_37 (by decide) ?_
      refine x_iushr dX10_passNight_39 ?_
      refine x_bipush (v := 8) dX10_passNight_40 (by decide) ?_
      refine x_irem dX10_passNight_42 (by decide) ?_
      refine sw_top (show _ = drw z1 from rfl) ?_
      obtain ⟨dr, hd⟩ : ∃ z, z = drw z1 := ⟨_, rfl⟩
      rw [← hd] at est ⊢
      refine x_ist_2 dX10_passNight_43 (by decide) rfl ?_
      refine x_aload_n dX10_passNight_44 rfl ?_
      refine x_iload_n dX10_passNight_45 rfl ?_
      refine x_iload_n dX10_passNight_46 rfl ?_
      refine x_aload_n dX10_passNight_47 rfl ?_
      refine x_iload_n dX10_passNight_48 rfl ?_
      refine x_aload_n dX10_passNight_49 rfl ?_
      refine x_iload_n dX10_passNight_50 rfl ?_
      refine x_rdV (c_X10_isThere hvU (by omega)) U0 lkX10_isThere sX10_99 dX10_passNight_51 rfl rfl (Nat.le_of_ble_eq_true rfl) (by decide) ⟨rfl, rfl, by decide, by decide⟩ ?_
      refine x_rdV (c_X10_chanceOf (b := (U.1 3).testBit i) hvU hi1) U0 lkX10_chanceOf sX10_131 dX10_passNight_54 rfl rfl (Nat.le_of_ble_eq_true rfl) (by decide) ⟨rfl, rfl, by decide, by decide⟩ ?_
      rw [show chn (U.1, z1, U.2.2) i ((U.1 3).testBit i) = chn V i ((U.1 3).testBit i) from chn_c i _ (q2 1 (by decide)) (q2 4 (by decide)) q3]
      refine x_icmp_ge 64 dX10_passNight_57 (by decide) (fun c57 => ?_) (fun c57 => ?_)
      · refine x_iconst (v := 0) dX10_passNight_64 (by decide) ?_
        refine x_cnV (c_X10_setThere (b := false) hvU hi1 (fun _ => by show onS _ i (U.1 1) = 0; rw [q2 1 (by decide), onS_c (V := V) i (show ((U.1, z1, U.2.2) : VS).2.2 5 = V.2.2 5 by show U.2.2 5 = _; rw [q3])]; exact c15)) U0 lkX10_setThere sX10_84 dX10_passNight_65 rfl rfl (Nat.le_of_ble_eq_true rfl) (by decide) ⟨rfl, rfl, by decide, by decide⟩ ?_
        rintro h3 ⟨hv3, hf3⟩
        refine x_inc_1  dX10_passNight_68 (by decide) (nI_inc _) rfl ?_
        refine x_goto 2 dX10_passNight_71 (by decide) ?_
        refine ih h3 _ ?_ ((hf1.tr hfU).tr hf3)
        rw [est, if_pos c15, decide_eq_false (Int32.not_lt.mpr c57)]; exact hv3
      · refine x_iconst (v := 1) dX10_passNight_60 (by decide) ?_
        refine x_goto 65 dX10_passNight_61 (by decide) ?_
        refine x_cnV (c_X10_setThere (b := true) hvU hi1 (fun q => by cases q)) U0 lkX10_setThere sX10_84 dX10_passNight_65 rfl rfl (Nat.le_of_ble_eq_true rfl) (by decide) ⟨rfl, rfl, by decide, by decide⟩ ?_
        rintro h3 ⟨hv3, hf3⟩
        refine x_inc_1  dX10_passNight_68 (by decide) (nI_inc _) rfl ?_
        refine x_goto 2 dX10_passNight_71 (by decide) ?_
        refine ih h3 _ ?_ ((hf1.tr hfU).tr hf3)
        rw [est, if_pos c15, decide_eq_true (Int32.not_le.mp c57)]; exact hv3
  · obtain ⟨q1, q2, q3⟩ := pnS_ok okw (V.1 0) (Nat.le_refl _)
    have ep : pn V = (va_up (pnS V (V.1 0)).1 5 (V.1 5 + 1), (pnS V (V.1 0)).2) := rfl
    rw [ep]
    generalize hU : pnS V (V.1 0) = U at hv1 q1 q2 q3
    obtain ⟨ok1, a1, hw1, rp1⟩ := id hv1
    have m0 := hw1.1
    have e0 : wS U 0 = nI (V.1 0) := congrArg nI (q2 0 (by decide))
    refine x_iload_n dX10_passNight_2 rfl ?_
    refine x_aload_n dX10_passNight_3 rfl ?_
    refine x_get fX10_61 (by assumption) rfl dX10_passNight_4 ?_
    refine x_icmp_ge_t 74 dX10_passNight_7 (by decide) (ge_t e0 (by omega)) ?_
    refine x_aload_n dX10_passNight_74 rfl ?_
    refine x_dup dX10_passNight_75 rfl ?_
    refine x_get fX10_74 m0 rfl dX10_passNight_76 ?_
    refine x_iconst (v := 1) dX10_passNight_79 (by decide) ?_
    refine x_iadd dX10_passNight_80 ?_
    refine sw_top (show wS U 4 + 1 = wS (va_up U.1 5 (V.1 5 + 1), U.2) 4 from (nI_1 _).trans (by show nI (U.1 5 + 1) = nI (V.1 5 + 1); rw [q2 5 (by decide)])) ?_
    refine x_put (fs' := wF w (wS (va_up U.1 5 (V.1 5 + 1), U.2))) fX10_74 m0 (Nat.le_of_ble_eq_true rfl) rfl rfl rfl dX10_passNight_81 ?_
    refine x_vret rfl dX10_passNight_84 ⟨by decide, by decide⟩ ?_
    exact ⟨rfl, ⟨ok1, a1, isW.num (s' := wS (va_up U.1 5 (V.1 5 + 1), U.2)) hw1, rp1⟩, hf1.tr (Fr.set (Nat.le_refl _) (by omega))⟩
