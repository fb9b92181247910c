theorem hset_id {h : gH} {a : Nat} {e : va_E} (ha : h.1 a = some e) : hset h a e = h := by
  obtain ⟨f, z⟩ := h
  simp only [hset]
  congr 1
  funext b
  by_cases e1 : b = a
  · subst e1; rw [if_pos rfl]; exact ha.symm
  · rw [if_neg e1]
theorem hset2 {h : gH} {a : Nat} {e e' : va_E} : hset (hset h a e) a e' = hset h a e' := by
  simp only [hset]
  congr 1
  funext b
  by_cases e1 : b = a
  · simp [e1]
  · simp [e1]
theorem x_heap {g : gG} {M : gM} {Z : gZt} {pc : Nat} {L : List (Option Value)} {st : List Value} {h h1 : gH} {k n : Nat} (e : h1 = h) (kk : Ex g M Z pc L st h1 k n) : Ex g M Z pc L st h k n := e ▸ kk
theorem fill_s (f : Nat → Int32) (x : Int32) (i : Nat) : va_up (fa_fill (fun _ => x) f i) i x = fa_fill (fun _ => x) f (i + 1) := fa_fill_succ (fun _ => x) f i
set_option maxRecDepth 10000 in
set_option maxHeartbeats 2000000 in
theorem c_J7_fill_53178 {g : gG} {h : gH} {b N : Nat} {f : Nat → Int32} {x : Int32} (hb : h.1 b = some (.inl (0, N, .inl f))) (hN : N < 2 ^ 31) : Ct g mJ7_fill_53178 [.ref b, .int x] h none (fun h' => h' = hset h b (.inl (0, N, .inl (fa_fill (fun _ => x) f N)))) := by
  refine Cn.of (L := [some (.ref b), some (.int x), none, none]) (by decide) (Nat.le_of_ble_eq_true rfl) rfl ?_
  refine x_iconst (v := 0) dJ7_fill_53178_0 (by decide) ?_
  refine x_ist_2 dJ7_fill_53178_1 (by decide) rfl ?_
  refine x_aload_n dJ7_fill_53178_2 rfl ?_
  refine x_alen (by decide) hb dJ7_fill_53178_3 ?_
  refine x_ist_3 dJ7_fill_53178_4 (by decide) rfl ?_
  refine x_heap (h1 := hset h b (.inl (0, N, .inl (fa_fill (fun _ => x) f 0)))) (by rw [fa_fill_0]; exact hset_id hb) ?_
  refine lp_up (P := fun i => Ex g mJ7_fill_53178 _ 5 [some (.ref b), some (.int x), some (.int (nI i)), some (.int (nI N))] [] (hset h b (.inl (0, N, .inl (fa_fill (fun _ => x) f i)))) 0 0) N (fun i hi ih => ?_) ?_ 0 (Nat.zero_le _)
  · refine x_iload_n dJ7_fill_53178_5 rfl ?_
    refine x_iload_n dJ7_fill_53178_6 rfl ?_
    refine x_icmp_ge_f 20 dJ7_fill_53178_7 (by decide) (ge_f rfl hi hN) ?_
    refine x_aload_n dJ7_fill_53178_10 rfl ?_
    refine x_iload_n dJ7_fill_53178_11 rfl ?_
    refine x_iload_n dJ7_fill_53178_12 rfl ?_
    refine x_iast i hset_s rfl hi hN dJ7_fill_53178_13 ?_
    refine x_inc_2  dJ7_fill_53178_14 (by decide) (nI_inc _) rfl ?_
    refine x_goto 5 dJ7_fill_53178_17 (by decide) ?_
    rw [hset2, fill_s]; exact ih
  · refine x_iload_n dJ7_fill_53178_5 rfl ?_
    refine x_iload_n dJ7_fill_53178_6 rfl ?_
    refine x_icmp_ge_t 20 dJ7_fill_53178_7 (by decide) (ge_t rfl hN) ?_
    refine x_vret rfl dJ7_fill_53178_20 ⟨by decide, by decide⟩ ?_
    exact ⟨rfl, rfl⟩
/-- a path more: not there yet -/
def adP (V : VS) (f : Nat → Nat) : VS := (va_up V.1 0 (V.1 0 + 1), V.2.1, fun i j => if i < 5 ∧ j = V.1 0 then f i else V.2.2 i j)
theorem adP_ok {V : VS} {f : Nat → Nat} (hv : okV V) (hn : V.1 0 < 8) (h0 : f 0 < 6) (h1 : f 1 < 8) (h2 : f 2 < 8) (h3 : f 1 ≠ f 2) (h4 : f 3 ≤ 8) (h5 : f 4 ≤ 8) : okV (adP V f) := by
  obtain ⟨k1, k2, k3, k4, k5, k6, k7⟩ := hv
  refine ⟨⟨by show V.1 0 + 1 ≤ 8; omega, k1.2⟩, ?_, k3, fun p hp => ?_, fun w hw => ?_, fun c hc => ?_, fun r hr => ?_⟩
  · show V.1 3 < 2 ^ (V.1 0 + 1)
    exact Nat.lt_trans k2 (Nat.pow_lt_pow_right (by decide) (by omega))
  · have hp : p < V.1 0 + 1 := hp
    by_cases e : p = V.1 0
    · simp [adP, e]; exact ⟨h0, h1, h2, h3, h4, h5⟩
    · simp [adP, e]; exact k4 p (by omega)
  · have := k5 w hw
    have e5 : (adP V f).2.2 5 w = V.2.2 5 w := by simp [adP]
    have e6 : (adP V f).2.2 6 w = V.2.2 6 w := by simp [adP]
    rw [e5, e6]
    exact ⟨by show _ < 8 + (V.1 0 + 1); omega, this.2⟩
  · have e : (adP V f).2.2 7 c = V.2.2 7 c := by simp [adP]
    rw [e]; exact k6 c hc
  · have e : (adP V f).2.2 8 r = V.2.2 8 r := by simp [adP]
    have e2 : (adP V f).2.2 9 r = V.2.2 9 r := by simp [adP]
    rw [e, e2]; exact k7 r hr
theorem adP_on {V : VS} {f : Nat → Nat} {k : Nat} : ∀ n, onS (adP V f) k n = onS V k n
  | 0 => rfl
  | n + 1 => by
    have e5 : (adP V f).2.2 5 n = V.2.2 5 n := by simp [adP]
    rw [onS, onS, adP_on n, e5]
theorem adP_rp {V : VS} {f : Nat → Nat} {a : Nat → Nat → Int32} (h : rpA V a) : rpA (adP V f) (va_up (va_up (va_up (va_up (va_up a 0 (va_up (a 0) (V.1 0) (nI (f 0)))) 1 (va_up (a 1) (V.1 0) (nI (f 1)))) 2 (va_up (a 2) (V.1 0) (nI (f 2)))) 3 (va_up (a 3) (V.1 0) (nI (f 3)))) 4 (va_up (a 4) (V.1 0) (nI (f 4)))) := by
  obtain ⟨h1, h2, h3, h4⟩ := h
  refine ⟨fun i p hf hp => ?_, fun w hw => ?_, fun c hc => ?_, fun r hr => ?_⟩
  · have hp : p < V.1 0 + 1 := hp
    by_cases e : p = V.1 0
    · rcases (show i = 0 ∨ i = 1 ∨ i = 2 ∨ i = 3 ∨ i = 4 by omega) with rfl | rfl | rfl | rfl | rfl <;> simp [va_up, adP, e]
    · have := h1 i p hf (by omega)
      rcases (show i = 0 ∨ i = 1 ∨ i = 2 ∨ i = 3 ∨ i = 4 by omega) with rfl | rfl | rfl | rfl | rfl <;> simp [va_up, adP, e, this]
  · have := h2 w hw
    simp [va_up, adP]; exact this
  · have := h3 c hc
    simp [va_up, adP]; exact this
  · have := h4 r hr
    simp [va_up, adP]; exact this
set_option maxRecDepth 10000 in
set_option maxHeartbeats 2000000 in
theorem c_X10_addPath {g : gG} {h : gH} {w : Nat} {V : VS} (f : Nat → Nat) (hv : isV h w V) (hn : V.1 0 < 8) (h0 : f 0 < 6) (h1 : f 1 < 8) (h2 : f 2 < 8) (h3 : f 1 ≠ f 2) (h4 : f 3 ≤ 8) (h5 : f 4 ≤ 8) : Ct g mX10_addPath [.ref w, .int (nI (f 0)), .int (nI (f 1)), .int (nI (f 2)), .int (nI (f 3)), .int (nI (f 4))] h (some (.int (nI (V.1 0)))) (Mt w (stT (adP V f) (V.1 0) true) h) := by
  obtain ⟨okw, a, hww, rpw⟩ := id hv
  have kwp : V.1 0 ≤ 8 := okw.1.1
  have kww : V.1 1 ≤ 4 := okw.1.2.1
  have kwr : V.1 2 ≤ 4 := okw.1.2.2
  have w0 : h.1 w = some (.inr (10, wF w (wS V))) := hww.1
  have w1 : h.1 (w + 1) = some (.inl (0, 8, .inl (a 0))) := hww.2 0 (by decide)
  have w2 : h.1 (w + 2) = some (.inl (0, 8, .inl (a 1))) := hww.2 1 (by decide)
  have w3 : h.1 (w + 3) = some (.inl (0, 8, .inl (a 2))) := hww.2 2 (by decide)
  have w4 : h.1 (w + 4) = some (.inl (0, 8, .inl (a 3))) := hww.2 3 (by decide)
  have w5 : h.1 (w + 5) = some (.inl (0, 8, .inl (a 4))) := hww.2 4 (by decide)
  have w6 : h.1 (w + 6) = some (.inl (0, 4, .inl (a 5))) := hww.2 5 (by decide)
  have w7 : h.1 (w + 7) = some (.inl (0, 4, .inl (a 6))) := hww.2 6 (by decide)
  have w8 : h.1 (w + 8) = some (.inl (0, 4, .inl (a 7))) := hww.2 7 (by decide)
  have w9 : h.1 (w + 9) = some (.inl (0, 8, .inl (a 8))) := hww.2 8 (by decide)
  have w10 : h.1 (w + 10) = some (.inl (0, 4, .inl (a 9))) := hww.2 9 (by decide)
  have w11 : h.1 (w + 11) = some (.inl (0, 4, .inl (a 10))) := hww.2 10 (by decide)
  have okf := adP_ok okw hn h0 h1 h2 h3 h4 h5
  refine Cn.of (L := [some (.ref w), some (.int (nI (f 0))), some (.int (nI (f 1))), some (.int (nI (f 2))), some (.int (nI (f 3))), some (.int (nI (f 4))), none]) (by decide) (Nat.le_of_ble_eq_true rfl) rfl ?_
  refine x_aload_n dX10_addPath_0 rfl ?_
  refine x_get fX10_61 w0 rfl dX10_addPath_1 ?_
  refine x_ist_6 dX10_addPath_4 (by decide) rfl ?_
  refine x_aload_n dX10_addPath_6 rfl ?_
  refine x_get fX10_9 w0 rfl dX10_addPath_7 ?_
  refine x_iload dX10_addPath_10 rfl ?_
  refine x_iload_n dX10_addPath_12 rfl ?_
  refine x_iast (V.1 0) w1 rfl hn (by decide) dX10_addPath_13 ?_
  have D1 := isW.row (i := 0) (f := (va_up (a 0) (V.1 0) (nI (f 0)))) hww (by decide)
  have A1 := D1.1
  have B1 := D1.2 1 (by decide)
  refine x_aload_n dX10_addPath_14 rfl ?_
  refine x_get fX10_15 A1 rfl dX10_addPath_15 ?_
  refine x_iload dX10_addPath_18 rfl ?_
  refine x_iload_n dX10_addPath_20 rfl ?_
  refine x_iast (V.1 0) B1 rfl hn (by decide) dX10_addPath_21 ?_
  have D2 := isW.row (i := 1) (f := (va_up ((va_up a 0 (va_up (a 0) (V.1 0) (nI (f 0)))) 1) (V.1 0) (nI (f 1)))) D1 (by decide)
  have A2 := D2.1
  have B2 := D2.2 2 (by decide)
  refine x_aload_n dX10_addPath_22 rfl ?_
  refine x_get fX10_18 A2 rfl dX10_addPath_23 ?_
  refine x_iload dX10_addPath_26 rfl ?_
  refine x_iload_n dX10_addPath_28 rfl ?_
  refine x_iast (V.1 0) B2 rfl hn (by decide) dX10_addPath_29 ?_
  have D3 := isW.row (i := 2) (f := (va_up ((va_up (va_up a 0 (va_up (a 0) (V.1 0) (nI (f 0)))) 1 (va_up ((va_up a 0 (va_up (a 0) (V.1 0) (nI (f 0)))) 1) (V.1 0) (nI (f 1)))) 2) (V.1 0) (nI (f 2)))) D2 (by decide)
  have A3 := D3.1
  have B3 := D3.2 3 (by decide)
  refine x_aload_n dX10_addPath_30 rfl ?_
  refine x_get fX10_21 A3 rfl dX10_addPath_31 ?_
  refine x_iload dX10_addPath_34 rfl ?_
  refine x_iload dX10_addPath_36 rfl ?_
  refine x_iast (V.1 0) B3 rfl hn (by decide) dX10_addPath_38 ?_
  have D4 := isW.row (i := 3) (f := (va_up ((va_up (va_up (va_up a 0 (va_up (a 0) (V.1 0) (nI (f 0)))) 1 (va_up ((va_up a 0 (va_up (a 0) (V.1 0) (nI (f 0)))) 1) (V.1 0) (nI (f 1)))) 2 (va_up ((va_up (va_up a 0 (va_up (a 0) (V.1 0) (nI (f 0)))) 1 (va_up ((va_up a 0 (va_up (a 0) (V.1 0) (nI (f 0)))) 1) (V.1 0) (nI (f 1)))) 2) (V.1 0) (nI (f 2)))) 3) (V.1 0) (nI (f 3)))) D3 (by decide)
  have A4 := D4.1
  have B4 := D4.2 4 (by decide)
  refine x_aload_n dX10_addPath_39 rfl ?_
  refine x_get fX10_24 A4 rfl dX10_addPath_40 ?_
  refine x_iload dX10_addPath_43 rfl ?_
  refine x_iload dX10_addPath_45 rfl ?_
  refine x_iast (V.1 0) B4 rfl hn (by decide) dX10_addPath_47 ?_
  have D5 := isW.row (i := 4) (f := (va_up ((va_up (va_up (va_up (va_up a 0 (va_up (a 0) (V.1 0) (nI (f 0)))) 1 (va_up ((va_up a 0 (va_up (a 0) (V.1 0) (nI (f 0)))) 1) (V.1 0) (nI (f 1)))) 2 (va_up ((va_up (va_up a 0 (va_up (a 0) (V.1 0) (nI (f 0)))) 1 (va_up ((va_up a 0 (va_up (a 0) (V.1 0) (nI (f 0)))) 1) (V.1 0) (nI (f 1)))) 2) (V.1 0) (nI (f 2)))) 3 (va_up ((va_up (va_up (va_up a 0 (va_up (a 0) (V.1 0) (nI (f 0)))) 1 (va_up ((va_up a 0 (va_up (a 0) (V.1 0) (nI (f 0)))) 1) (V.1 0) (nI (f 1)))) 2 (va_up ((va_up (va_up a 0 (va_up (a 0) (V.1 0) (nI (f 0)))) 1 (va_up ((va_up a 0 (va_up (a 0) (V.1 0) (nI (f 0)))) 1) (V.1 0) (nI (f 1)))) 2) (V.1 0) (nI (f 2)))) 3) (V.1 0) (nI (f 3)))) 4) (V.1 0) (nI (f 4)))) D4 (by decide)
  have A5 := D5.1
  refine x_aload_n dX10_addPath_48 rfl ?_
  refine x_dup dX10_addPath_49 rfl ?_
  refine x_get fX10_61 A5 rfl dX10_addPath_50 ?_
  refine x_iconst (v := 1) dX10_addPath_53 (by decide) ?_
  refine x_iadd dX10_addPath_54 ?_
  refine sw_top (show wS V 0 + 1 = wS (adP V f) 0 from nI_1 _) ?_
  refine x_put (fs' := wF w (wS (adP V f))) fX10_61 A5 (Nat.le_of_ble_eq_true rfl) rfl rfl rfl dX10_addPath_55 ?_
  have E5 := isW.num (s' := wS (adP V f)) D5
  have hv5 : isV _ w (adP V f) := ⟨okf, _, E5, adP_rp rpw⟩
  have o5 := hv5.o
  refine x_aload_n dX10_addPath_58 rfl ?_
  refine x_iload dX10_addPath_59 rfl ?_
  refine x_iconst (v := 1) dX10_addPath_61 (by decide) ?_
  refine x_cnV (c_X10_setThere (b := true) hv5 (Nat.lt_succ_self _) (fun q => by cases q)) (by assumption) lkX10_setThere sX10_84 dX10_addPath_62 rfl rfl (Nat.le_of_ble_eq_true rfl) (by decide) ⟨rfl, rfl, by decide, by decide⟩ ?_
  rintro h6 ⟨hv6, hf6⟩
  refine x_iload dX10_addPath_65 rfl ?_
  refine x_iret rfl dX10_addPath_67 ⟨by decide, by decide⟩ ?_
  exact ⟨rfl, hv6, (((((((Fr.set (by omega) (by omega)).tr (Fr.set (by omega) (by omega))).tr (Fr.set (by omega) (by omega))).tr (Fr.set (by omega) (by omega))).tr (Fr.set (by omega) (by omega))).tr (Fr.set (by omega) (by omega))).tr hf6)⟩
def adR (V : VS) (x c : Nat) : VS := (va_up V.1 2 (V.1 2 + 1), V.2.1, va_up (va_up V.2.2 8 (va_up (V.2.2 8) (V.1 2) x)) 9 (va_up (V.2.2 9) (V.1 2) c))
theorem adR_ok {V : VS} {x c : Nat} (hv : okV V) (hn : V.1 2 < 4) (h0 : x < 4) (h1 : c < 8) : okV (adR V x c) := by
  obtain ⟨k1, k2, k3, k4, k5, k6, k7⟩ := hv
  refine ⟨⟨k1.1, k1.2.1, by show V.1 2 + 1 ≤ 4; omega⟩, k2, k3, k4, k5, k6, fun r hr => ?_⟩
  have hr : r < V.1 2 + 1 := hr
  by_cases e : r = V.1 2
  · simp [adR, va_up, e]; exact ⟨h0, h1⟩
  · simp [adR, va_up, e]; exact k7 r (by omega)
theorem adR_rp {V : VS} {x c : Nat} {a : Nat → Nat → Int32} (h : rpA V a) : rpA (adR V x c) (va_up (va_up a 9 (va_up (a 9) (V.1 2) (nI x))) 10 (va_up (a 10) (V.1 2) (nI c))) := by
  obtain ⟨h1, h2, h3, h4⟩ := h
  refine ⟨fun i p hf hp => ?_, fun w hw => ?_, fun c hc => ?_, fun r hr => ?_⟩
  · simp only [va_up, adR, if_neg (show ¬ i = 9 by omega), if_neg (show ¬ i = 10 by omega), if_neg (show ¬ i = 8 by omega)]; exact h1 i p hf hp
  · have := h2 w hw
    simp [va_up, adR]; exact this
  · have := h3 c hc
    simp [va_up, adR]; exact this
  · have hr : r < V.1 2 + 1 := hr
    by_cases e : r = V.1 2
    · simp [va_up, adR, e]
    · have := h4 r (by omega)
      simp [va_up, adR, e]; exact this
set_option maxRecDepth 10000 in
set_option maxHeartbeats 2000000 in
theorem c_X10_addRule {g : gG} {h : gH} {w : Nat} {V : VS} {x c : Nat} (hv : isV h w V) (hn : V.1 2 < 4) (h0 : x < 4) (h1 : c < 8) : Ct g mX10_addRule [.ref w, .int (nI x), .int (nI c)] h (some (.int (nI (V.1 2)))) (Mt w (adR V x c) h) := by
  obtain ⟨okw, a, hww, rpw⟩ := id hv
  have kwp : V.1 0 ≤ 8 := okw.1.1
  have kww : V.1 1 ≤ 4 := okw.1.2.1
  have kwr : V.1 2 ≤ 4 := okw.1.2.2
  have w0 : h.1 w = some (.inr (10, wF w (wS V))) := hww.1
  have w1 : h.1 (w + 1) = some (.inl (0, 8, .inl (a 0))) := hww.2 0 (by decide)
  have w2 : h.1 (w + 2) = some (.inl (0, 8, .inl (a 1))) := hww.2 1 (by decide)
  have w3 : h.1 (w + 3) = some (.inl (0, 8, .inl (a 2))) := hww.2 2 (by decide)
  have w4 : h.1 (w + 4) = some (.inl (0, 8, .inl (a 3))) := hww.2 3 (by decide)
  have w5 : h.1 (w + 5) = some (.inl (0, 8, .inl (a 4))) := hww.2 4 (by decide)
  have w6 : h.1 (w + 6) = some (.inl (0, 4, .inl (a 5))) := hww.2 5 (by decide)
  have w7 : h.1 (w + 7) = some (.inl (0, 4, .inl (a 6))) := hww.2 6 (by decide)
  have w8 : h.1 (w + 8) = some (.inl (0, 4, .inl (a 7))) := hww.2 7 (by decide)
  have w9 : h.1 (w + 9) = some (.inl (0, 8, .inl (a 8))) := hww.2 8 (by decide)
  have w10 : h.1 (w + 10) = some (.inl (0, 4, .inl (a 9))) := hww.2 9 (by decide)
  have w11 : h.1 (w + 11) = some (.inl (0, 4, .inl (a 10))) := hww.2 10 (by decide)
  refine Cn.of (L := [some (.ref w), some (.int (nI x)), some (.int (nI c)), none]) (by decide) (Nat.le_of_ble_eq_true rfl) rfl ?_
  refine x_aload_n dX10_addRule_0 rfl ?_
  refine x_get fX10_77 (by assumption) rfl dX10_addRule_1 ?_
  refine x_ist_3 dX10_addRule_4 (by decide) rfl ?_
  refine x_aload_n dX10_addRule_5 rfl ?_
  refine x_get fX10_43 (by assumption) rfl dX10_addRule_6 ?_
  refine x_iload_n dX10_addRule_9 rfl ?_
  refine x_iload_n dX10_addRule_10 rfl ?_
  refine x_iast (V.1 2) w10 rfl hn (by decide) dX10_addRule_11 ?_
  have D1 := isW.row (i := 9) (f := va_up (a 9) (V.1 2) (nI x)) hww (by decide)
  have A1 := D1.1
  have B1 := D1.2 10 (by decide)
  refine x_aload_n dX10_addRule_12 rfl ?_
  refine x_get fX10_46 A1 rfl dX10_addRule_13 ?_
  refine x_iload_n dX10_addRule_16 rfl ?_
  refine x_iload_n dX10_addRule_17 rfl ?_
  refine x_iast (V.1 2) B1 rfl hn (by decide) dX10_addRule_18 ?_
  have D2 := isW.row (i := 10) (f := va_up (a 10) (V.1 2) (nI c)) D1 (by decide)
  have A2 := D2.1
  refine x_aload_n dX10_addRule_19 rfl ?_
  refine x_dup dX10_addRule_20 rfl ?_
  refine x_get fX10_77 A2 rfl dX10_addRule_21 ?_
  refine x_iconst (v := 1) dX10_addRule_24 (by decide) ?_
  refine x_iadd dX10_addRule_25 ?_
  refine sw_top (show wS V 6 + 1 = wS (adR V x c) 6 from nI_1 _) ?_
  refine x_put (fs' := wF w (wS (adR V x c))) fX10_77 A2 (Nat.le_of_ble_eq_true rfl) rfl rfl rfl dX10_addRule_26 ?_
  refine x_iload_n dX10_addRule_29 rfl ?_
  refine x_iret rfl dX10_addRule_30 ⟨by decide, by decide⟩ ?_
  exact ⟨rfl, ⟨adR_ok okw hn h0 h1, _, isW.num (s' := wS (adR V x c)) D2, adR_rp rpw⟩, ((Fr.set (by omega) (by omega)).tr (Fr.set (by omega) (by omega))).tr (Fr.set (by omega) (by omega))⟩
def adW (V : VS) (c y : Nat) : VS := (va_up V.1 1 (V.1 1 + 1), V.2.1, va_up (va_up V.2.2 6 (va_up (V.2.2 6) (V.1 1) y)) 5 (va_up (V.2.2 5) (V.1 1) c))
theorem adW_ok {V : VS} {c y : Nat} (hv : okV V) (hn : V.1 1 < 4) (h0 : c < 8) (h1 : y ≤ 99) : okV (adW V c y) := by
  obtain ⟨k1, k2, k3, k4, k5, k6, k7⟩ := hv
  refine ⟨⟨k1.1, by show V.1 1 + 1 ≤ 4; omega, k1.2.2⟩, k2, k3, k4, fun r hr => ?_, k6, k7⟩
  have hr : r < V.1 1 + 1 := hr
  by_cases e : r = V.1 1
  · have e5 : (adW V c y).2.2 5 r = c := by simp [adW, va_up, e]
    have e6 : (adW V c y).2.2 6 r = y := by simp [adW, va_up, e]
    rw [e5, e6]; exact ⟨by omega, fun q => absurd q (by omega), h1⟩
  · have e5 : (adW V c y).2.2 5 r = V.2.2 5 r := by simp [adW, va_up, e]
    have e6 : (adW V c y).2.2 6 r = V.2.2 6 r := by simp [adW, va_up, e]
    rw [e5, e6]; exact k5 r (by omega)
def pyW (V : VS) (y : Nat) : VS := (V.1, V.2.1, va_up V.2.2 6 (va_up (V.2.2 6) (V.1 1) y))
theorem pyW_v {h : gH} {w y : Nat} {V : VS} {a : Nat → Nat → Int32} (hv : okV V) (hw : isW h w (wS V, va_up a 7 (va_up (a 7) (V.1 1) (nI y)))) (hr : rpA V a) : isV h w (pyW V y) := by
  obtain ⟨k1, k2, k3, k4, k5, k6, k7⟩ := hv
  obtain ⟨h1, h2, h3, h4⟩ := hr
  refine ⟨⟨k1, k2, k3, k4, fun r q => ?_, k6, k7⟩, _, hw, fun i p hf hp => ?_, fun u hu => ?_, fun c hc => ?_, fun r hr => ?_⟩
  · have q : r < V.1 1 := q
    have e5 : (pyW V y).2.2 5 r = V.2.2 5 r := by simp [pyW, va_up]
    have e6 : (pyW V y).2.2 6 r = V.2.2 6 r := by simp [pyW, va_up, Nat.ne_of_lt q]
    rw [e5, e6]; exact k5 r q
  · simp only [va_up, pyW, if_neg (show ¬ i = 7 by omega), if_neg (show ¬ i = 6 by omega)]; exact h1 i p hf hp
  · have hu : u < V.1 1 := hu
    have := h2 u hu
    simp [va_up, pyW, Nat.ne_of_lt hu]; exact this
  · have := h3 c hc
    simp [va_up, pyW]; exact this
  · have := h4 r hr
    simp [va_up, pyW]; exact this
theorem adW_rp {V : VS} {c y : Nat} {a : Nat → Nat → Int32} (h : rpA (mv (pyW V y) (V.1 1) c) a) (hp : a 5 (V.1 1) = plI c ∧ a 6 (V.1 1) = onI c ∧ a 7 (V.1 1) = nI y) : rpA (adW V c y) a := by
  obtain ⟨h1, h2, h3, h4⟩ := h
  refine ⟨h1, fun r hr => ?_, h3, h4⟩
  have hr : r < V.1 1 + 1 := hr
  by_cases e : r = V.1 1
  · have e5 : (adW V c y).2.2 5 r = c := by simp [adW, va_up, e]
    have e6 : (adW V c y).2.2 6 r = y := by simp [adW, va_up, e]
    rw [e5, e6, e]; exact hp
  · have := h2 r (by show r < V.1 1; omega)
    exact this
