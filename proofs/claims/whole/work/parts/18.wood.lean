def Mt (w : Nat) (V : VS) (h : gH) : gH → Prop := fun h' => isV h' w V ∧ Fr w 12 h h'
/-- where a walker is from now on -/
def mv (V : VS) (u q : Nat) : VS := (V.1, V.2.1, va_up V.2.2 5 (va_up (V.2.2 5) u q))
theorem onS_0 {V : VS} {k : Nat} : ∀ n, onS V k n = 0 ↔ ∀ w, w < n → V.2.2 5 w ≠ 8 + k
  | 0 => ⟨fun _ w h => absurd h (Nat.not_lt_zero w), fun _ => rfl⟩
  | n + 1 => by
    have ih := onS_0 (V := V) (k := k) n
    unfold onS
    split
    · next h =>
      constructor
      · intro q
        have := congrArg (fun z => z.testBit n) q
        rw [Nat.testBit_or, Nat.testBit_two_pow] at this
        simp at this
      · intro q; exact absurd h (q n (by omega))
    · next h =>
      rw [ih]
      exact ⟨fun q w hw => (Nat.lt_or_ge w n).elim (q w) (fun z => by rw [show w = n by omega]; exact h), fun q w hw => q w (by omega)⟩
theorem stT_ok {V : VS} {k : Nat} {b : Bool} (hv : okV V) (hk : k < V.1 0) (hb : b = false → onS V k (V.1 1) = 0) : okV (stT V k b) := by
  obtain ⟨h1, h2, h3, h4, h5, h6, h7⟩ := hv
  have hx := lt256 h2 h1.1
  refine ⟨h1, ?_, h3, h4, fun w hw => ⟨(h5 w hw).1, fun q => ?_, (h5 w hw).2.2⟩, h6, h7⟩
  · show (if b = true then V.1 3 ||| 2 ^ k else clr (V.1 3) k) < 2 ^ V.1 0
    split
    · exact or_bit h2 hk
    · exact clr_lt h2
  · show (if b = true then V.1 3 ||| 2 ^ k else clr (V.1 3) k).testBit (V.2.2 5 w - 8) = true
    have e := (h5 w hw).2.1 q
    split
    · rw [Nat.testBit_or, e]; rfl
    · next hb2 =>
      rw [clr_bit _ hx (by omega), e]
      have := (onS_0 _).mp (hb (by simpa using hb2)) w hw
      simp; show ¬ V.2.2 5 w - 8 = k
      have hq : 8 ≤ V.2.2 5 w := q
      omega
theorem sw_top {g : gG} {M : gM} {Z : gZt} {pc : Nat} {L : List (Option Value)} {st : List Value} {h : gH} {k n : Nat} {x y : Int32} (e : x = y) (kk : Ex g M Z pc L (.int y :: st) h k n) : Ex g M Z pc L (.int x :: st) h k n := e ▸ kk
theorem sw_topl {g : gG} {M : gM} {Z : gZt} {pc : Nat} {L : List (Option Value)} {st : List Value} {h : gH} {k n : Nat} {x y : Int64} (e : x = y) (kk : Ex g M Z pc L (.long y :: st) h k n) : Ex g M Z pc L (.long x :: st) h k n := e ▸ kk
set_option maxRecDepth 10000 in
set_option maxHeartbeats 2000000 in
theorem c_X10_setThere {g : gG} {h : gH} {w : Nat} {V : VS} {k : Nat} {b : Bool} (hv : isV h w V) (hk : k < V.1 0) (hb : b = false → onS V k (V.1 1) = 0) : Ct g mX10_setThere [.ref w, .int (nI k), .int (b2i (b = true))] h none (Mt w (stT V k b) h) := by
  obtain ⟨okw, a, hww, rpw⟩ := id hv
  have kwp : V.1 0 ≤ 8 := okw.1.1
  have kww : V.1 1 ≤ 4 := okw.1.2.1
  have kwr : V.1 2 ≤ 4 := okw.1.2.2
  have w0 : h.1 w = some (.inr (10, wF w (wS V))) := hww.1
  have w1 : h.1 (w + 1) = some (.inl (0, 8, .inl (a 0))) := hww.2 0 (by decide)
  have w2 : h.1 (w + 2) = some (.inl (0, 8, .inl (a 1))) := hww.2 1 (by decide)
  have w3 : h.1 (w + 3) = some (.inl (0, 8, .inl (a 2))) := hww.2 2 (by decide)
  have w4 : h.1 (w + 4) = some (.inl (0, 8, .inl (a 3))) := hww.2 3 (by decide)
  have w5 : h.1 (w + 5) = some (.inl (0, 8, .inl (a 4))) := hww.2 4 (by decide)
  have w6 : h.1 (w + 6) = some (.inl (0, 4, .inl (a 5))) := hww.2 5 (by decide)
  have w7 : h.1 (w + 7) = some (.inl (0, 4, .inl (a 6))) := hww.2 6 (by decide)
  have w8 : h.1 (w + 8) = some (.inl (0, 4, .inl (a 7))) := hww.2 7 (by decide)
  have w9 : h.1 (w + 9) = some (.inl (0, 8, .inl (a 8))) := hww.2 8 (by decide)
  have w10 : h.1 (w + 10) = some (.inl (0, 4, .inl (a 9))) := hww.2 9 (by decide)
  have w11 : h.1 (w + 11) = some (.inl (0, 4, .inl (a 10))) := hww.2 10 (by decide)
  have hx := lt256 okw.2.1 okw.1.1
  refine Cn.of (L := [some (.ref w), some (.int (nI k)), some (.int (b2i (b = true)))]) (by decide) (Nat.le_of_ble_eq_true rfl) rfl ?_
  refine x_aload_n dX10_setThere_0 rfl ?_
  refine x_iload_n dX10_setThere_1 rfl ?_
  refine x_if_eq 16 dX10_setThere_2 (by decide) (fun c2 => ?_) (fun c2 => ?_)
  · refine x_aload_n dX10_setThere_16 rfl ?_
    refine x_get fX10_64 (by assumption) rfl dX10_setThere_17 ?_
    refine x_iconst (v := 1) dX10_setThere_20 (by decide) ?_
    refine x_iload_n dX10_setThere_21 rfl ?_
    refine x_ishl dX10_setThere_22 ?_
    refine x_iconst (v := -1) dX10_setThere_23 (by decide) ?_
    refine x_ixor dX10_setThere_24 ?_
    have cb : b = false := by simpa [b2i_0] using c2
    rw [sh1 _ (by omega)]
    refine x_iand dX10_setThere_25 ?_
    refine sw_top (show wS V 1 &&& (nI (2 ^ k) ^^^ (-1)) = wS (stT V k b) 1 from (clr_I _ hx _ (by omega)).trans (by simp [wS, stT, va_up, cb])) ?_
    refine x_put (fs' := wF w (wS (stT V k b))) fX10_64 (by assumption) (Nat.le_of_ble_eq_true rfl) rfl rfl rfl dX10_setThere_26 ?_
    refine x_vret rfl dX10_setThere_29 ⟨by decide, by decide⟩ ?_
    exact ⟨rfl, ⟨stT_ok okw hk hb, a, hww.num, rpw⟩, Fr.set (Nat.le_refl _) (by omega)⟩
  · refine x_aload_n dX10_setThere_5 rfl ?_
    refine x_get fX10_64 (by assumption) rfl dX10_setThere_6 ?_
    refine x_iconst (v := 1) dX10_setThere_9 (by decide) ?_
    refine x_iload_n dX10_setThere_10 rfl ?_
    refine x_ishl dX10_setThere_11 ?_
    refine x_ior dX10_setThere_12 ?_
    have cb : b = true := by simpa [b2i_0] using c2
    rw [sh1 _ (by omega)]
    refine sw_top (show wS V 1 ||| nI (2 ^ k) = wS (stT V k b) 1 from (fa_or _ _).trans (by simp [wS, stT, va_up, cb])) ?_
    refine x_goto 26 dX10_setThere_13 (by decide) ?_
    refine x_put (fs' := wF w (wS (stT V k b))) fX10_64 (by assumption) (Nat.le_of_ble_eq_true rfl) rfl rfl rfl dX10_setThere_26 ?_
    refine x_vret rfl dX10_setThere_29 ⟨by decide, by decide⟩ ?_
    exact ⟨rfl, ⟨stT_ok okw hk hb, a, hww.num, rpw⟩, Fr.set (Nat.le_refl _) (by omega)⟩
theorem mv_ok {V : VS} {u q : Nat} (hv : okV V) (hq : q < 8 + V.1 0) (hb : 8 ≤ q → (V.1 3).testBit (q - 8) = true) : okV (mv V u q) := by
  obtain ⟨h1, h2, h3, h4, h5, h6, h7⟩ := hv
  refine ⟨h1, h2, h3, h4, fun w hw => ?_, h6, h7⟩
  have e6 : (mv V u q).2.2 6 w = V.2.2 6 w := by simp [mv, va_up]
  by_cases e : w = u
  · have e5 : (mv V u q).2.2 5 w = q := by simp [mv, va_up, e]
    rw [e5, e6]
    exact ⟨hq, hb, (h5 w hw).2.2⟩
  · have e5 : (mv V u q).2.2 5 w = V.2.2 5 w := by simp [mv, va_up, e]
    rw [e5, e6]
    exact h5 w hw
theorem mv_rp {V : VS} {a : Nat → Nat → Int32} {u q : Nat} {x y : Int32} (h : rpA V a) (hx : x = plI q) (hy : y = onI q) : rpA (mv V u q) (va_up (va_up a 5 (va_up (a 5) u x)) 6 (va_up (a 6) u y)) := by
  obtain ⟨h1, h2, h3, h4⟩ := h
  refine ⟨fun f p hf hp => ?_, fun w hw => ?_, fun c hc => ?_, fun r hr => ?_⟩
  · simp only [va_up, if_neg (show ¬ f = 6 by omega), if_neg (show ¬ f = 5 by omega), mv]; exact h1 f p hf hp
  · have := h2 w hw
    by_cases e : w = u
    · subst e; simp [va_up, mv, hx, hy]; exact this.2.2
    · simp [va_up, mv, e]; exact this
  · simp [va_up, mv]; exact h3 c hc
  · simp [va_up, mv]; exact h4 r hr
set_option maxRecDepth 10000 in
set_option maxHeartbeats 2000000 in
theorem c_X10_setDown {g : gG} {h : gH} {w : Nat} {V : VS} {u c : Nat} (hv : isV h w V) (hu : u < 4) (hc : c < 8) : Ct g mX10_setDown [.ref w, .int (nI u), .int (nI c)] h none (Mt w (mv V u c) h) := by
  obtain ⟨okw, a, hww, rpw⟩ := id hv
  have kwp : V.1 0 ≤ 8 := okw.1.1
  have kww : V.1 1 ≤ 4 := okw.1.2.1
  have kwr : V.1 2 ≤ 4 := okw.1.2.2
  have w0 : h.1 w = some (.inr (10, wF w (wS V))) := hww.1
  have w1 : h.1 (w + 1) = some (.inl (0, 8, .inl (a 0))) := hww.2 0 (by decide)
  have w2 : h.1 (w + 2) = some (.inl (0, 8, .inl (a 1))) := hww.2 1 (by decide)
  have w3 : h.1 (w + 3) = some (.inl (0, 8, .inl (a 2))) := hww.2 2 (by decide)
  have w4 : h.1 (w + 4) = some (.inl (0, 8, .inl (a 3))) := hww.2 3 (by decide)
  have w5 : h.1 (w + 5) = some (.inl (0, 8, .inl (a 4))) := hww.2 4 (by decide)
  have w6 : h.1 (w + 6) = some (.inl (0, 4, .inl (a 5))) := hww.2 5 (by decide)
  have w7 : h.1 (w + 7) = some (.inl (0, 4, .inl (a 6))) := hww.2 6 (by decide)
  have w8 : h.1 (w + 8) = some (.inl (0, 4, .inl (a 7))) := hww.2 7 (by decide)
  have w9 : h.1 (w + 9) = some (.inl (0, 8, .inl (a 8))) := hww.2 8 (by decide)
  have w10 : h.1 (w + 10) = some (.inl (0, 4, .inl (a 9))) := hww.2 9 (by decide)
  have w11 : h.1 (w + 11) = some (.inl (0, 4, .inl (a 10))) := hww.2 10 (by decide)
  refine Cn.of (L := [some (.ref w), some (.int (nI u)), some (.int (nI c))]) (by decide) (Nat.le_of_ble_eq_true rfl) rfl ?_
  refine x_aload_n dX10_setDown_0 rfl ?_
  refine x_get fX10_27 (by assumption) rfl dX10_setDown_1 ?_
  refine x_iload_n dX10_setDown_4 rfl ?_
  refine x_iload_n dX10_setDown_5 rfl ?_
  refine x_iast u w6 rfl hu (by decide) dX10_setDown_6 ?_
  have hw2 := isW.row (i := 5) (f := va_up (a 5) u (nI c)) hww (by decide)
  have m0 := hw2.1
  have m7 := hw2.2 6 (by decide)
  refine x_aload_n dX10_setDown_7 rfl ?_
  refine x_get fX10_30 m0 rfl dX10_setDown_8 ?_
  refine x_iload_n dX10_setDown_11 rfl ?_
  refine x_bipush (v := -9) dX10_setDown_12 (by decide) ?_
  refine x_iast u m7 rfl hu (by decide) dX10_setDown_14 ?_
  refine x_vret rfl dX10_setDown_15 ⟨by decide, by decide⟩ ?_
  exact ⟨rfl, ⟨mv_ok okw (by omega) (fun q => absurd q (by omega)), _, hw2.row (i := 6) (by decide), mv_rp rpw (by simp [plI, hc]) (by simp [onI, hc])⟩, (Fr.set (by omega) (by omega)).tr (Fr.set (by omega) (by omega))⟩
set_option maxRecDepth 10000 in
set_option maxHeartbeats 2000000 in
theorem c_X10_comeOn {g : gG} {h : gH} {w : Nat} {V : VS} {u p : Nat} (hv : isV h w V) (hu : u < 4) (hp : p < V.1 0) (ht : (V.1 3).testBit p = true) : Ct g mX10_comeOn [.ref w, .int (nI u), .int (nI p)] h none (Mt w (mv V u (8 + p)) h) := by
  obtain ⟨okw, a, hww, rpw⟩ := id hv
  have kwp : V.1 0 ≤ 8 := okw.1.1
  have kww : V.1 1 ≤ 4 := okw.1.2.1
  have kwr : V.1 2 ≤ 4 := okw.1.2.2
  have w0 : h.1 w = some (.inr (10, wF w (wS V))) := hww.1
  have w1 : h.1 (w + 1) = some (.inl (0, 8, .inl (a 0))) := hww.2 0 (by decide)
  have w2 : h.1 (w + 2) = some (.inl (0, 8, .inl (a 1))) := hww.2 1 (by decide)
  have w3 : h.1 (w + 3) = some (.inl (0, 8, .inl (a 2))) := hww.2 2 (by decide)
  have w4 : h.1 (w + 4) = some (.inl (0, 8, .inl (a 3))) := hww.2 3 (by decide)
  have w5 : h.1 (w + 5) = some (.inl (0, 8, .inl (a 4))) := hww.2 4 (by decide)
  have w6 : h.1 (w + 6) = some (.inl (0, 4, .inl (a 5))) := hww.2 5 (by decide)
  have w7 : h.1 (w + 7) = some (.inl (0, 4, .inl (a 6))) := hww.2 6 (by decide)
  have w8 : h.1 (w + 8) = some (.inl (0, 4, .inl (a 7))) := hww.2 7 (by decide)
  have w9 : h.1 (w + 9) = some (.inl (0, 8, .inl (a 8))) := hww.2 8 (by decide)
  have w10 : h.1 (w + 10) = some (.inl (0, 4, .inl (a 9))) := hww.2 9 (by decide)
  have w11 : h.1 (w + 11) = some (.inl (0, 4, .inl (a 10))) := hww.2 10 (by decide)
  refine Cn.of (L := [some (.ref w), some (.int (nI u)), some (.int (nI p))]) (by decide) (Nat.le_of_ble_eq_true rfl) rfl ?_
  refine x_aload_n dX10_comeOn_0 rfl ?_
  refine x_get fX10_27 (by assumption) rfl dX10_comeOn_1 ?_
  refine x_iload_n dX10_comeOn_4 rfl ?_
  refine x_bipush (v := -9) dX10_comeOn_5 (by decide) ?_
  refine x_iast u w6 rfl hu (by decide) dX10_comeOn_7 ?_
  have hw2 := isW.row (i := 5) (f := va_up (a 5) u (-9)) hww (by decide)
  have m0 := hw2.1
  have m7 := hw2.2 6 (by decide)
  refine x_aload_n dX10_comeOn_8 rfl ?_
  refine x_get fX10_30 m0 rfl dX10_comeOn_9 ?_
  refine x_iload_n dX10_comeOn_12 rfl ?_
  refine x_iload_n dX10_comeOn_13 rfl ?_
  refine x_iast u m7 rfl hu (by decide) dX10_comeOn_14 ?_
  refine x_vret rfl dX10_comeOn_15 ⟨by decide, by decide⟩ ?_
  exact ⟨rfl, ⟨mv_ok okw (by omega) (fun _ => by rw [show 8 + p - 8 = p by omega]; exact ht), _, hw2.row (i := 6) (by decide), mv_rp rpw (if_neg (by omega)).symm (by rw [onI, if_neg (by omega), show 8 + p - 8 = p by omega])⟩, (Fr.set (by omega) (by omega)).tr (Fr.set (by omega) (by omega))⟩
set_option maxRecDepth 10000 in
set_option maxHeartbeats 2000000 in
theorem c_X10_goAlong {g : gG} {h : gH} {w : Nat} {V : VS} {u p : Nat} (hv : isV h w V) (hu : u < V.1 1) (hc : V.2.2 5 u < 8) (hp : p < V.1 0) : Ct g mX10_goAlong [.ref w, .int (nI u), .int (nI p)] h none (Mt w (mv V u (oth V p (V.2.2 5 u))) h) := by
  obtain ⟨okw, a, hww, rpw⟩ := id hv
  have kwp : V.1 0 ≤ 8 := okw.1.1
  have kww : V.1 1 ≤ 4 := okw.1.2.1
  have kwr : V.1 2 ≤ 4 := okw.1.2.2
  have w0 : h.1 w = some (.inr (10, wF w (wS V))) := hww.1
  have w1 : h.1 (w + 1) = some (.inl (0, 8, .inl (a 0))) := hww.2 0 (by decide)
  have w2 : h.1 (w + 2) = some (.inl (0, 8, .inl (a 1))) := hww.2 1 (by decide)
  have w3 : h.1 (w + 3) = some (.inl (0, 8, .inl (a 2))) := hww.2 2 (by decide)
  have w4 : h.1 (w + 4) = some (.inl (0, 8, .inl (a 3))) := hww.2 3 (by decide)
  have w5 : h.1 (w + 5) = some (.inl (0, 8, .inl (a 4))) := hww.2 4 (by decide)
  have w6 : h.1 (w + 6) = some (.inl (0, 4, .inl (a 5))) := hww.2 5 (by decide)
  have w7 : h.1 (w + 7) = some (.inl (0, 4, .inl (a 6))) := hww.2 6 (by decide)
  have w8 : h.1 (w + 8) = some (.inl (0, 4, .inl (a 7))) := hww.2 7 (by decide)
  have w9 : h.1 (w + 9) = some (.inl (0, 8, .inl (a 8))) := hww.2 8 (by decide)
  have w10 : h.1 (w + 10) = some (.inl (0, 4, .inl (a 9))) := hww.2 9 (by decide)
  have w11 : h.1 (w + 11) = some (.inl (0, 4, .inl (a 10))) := hww.2 10 (by decide)
  have rp1 := rpw.2.1 u hu
  refine Cn.of (L := [some (.ref w), some (.int (nI u)), some (.int (nI p))]) (by decide) (Nat.le_of_ble_eq_true rfl) rfl ?_
  refine x_aload_n dX10_goAlong_0 rfl ?_
  refine x_iload_n dX10_goAlong_1 rfl ?_
  refine x_aload_n dX10_goAlong_2 rfl ?_
  refine x_iload_n dX10_goAlong_3 rfl ?_
  refine x_aload_n dX10_goAlong_4 rfl ?_
  refine x_get fX10_27 (by assumption) rfl dX10_goAlong_5 ?_
  refine x_iload_n dX10_goAlong_8 rfl ?_
  refine x_iald _ (by assumption) rfl (by omega) (by decide) dX10_goAlong_9 ?_
  refine x_rdV (c_X10_otherEnd hv hp) (by assumption) lkX10_otherEnd sX10_105 dX10_goAlong_10 rfl rfl (Nat.le_of_ble_eq_true rfl) (by decide) ⟨rfl, rfl, by decide, by decide⟩ ?_
  rw [rp1.1, show plI (V.2.2 5 u) = nI (V.2.2 5 u) from if_pos hc, oth_I okw hp hc]
  refine x_cnV (c_X10_setDown hv (by omega) (oth_lt okw hp _)) (by assumption) lkX10_setDown sX10_88 dX10_goAlong_13 rfl rfl (Nat.le_of_ble_eq_true rfl) (by decide) ⟨rfl, rfl, by decide, by decide⟩ ?_
  rintro h1 hm
  refine x_vret rfl dX10_goAlong_16 ⟨by decide, by decide⟩ ?_
  exact ⟨rfl, hm⟩
