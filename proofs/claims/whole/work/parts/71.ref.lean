theorem heldS_c {V U : VS} (h : U.2.2 5 = V.2.2 5) : ∀ n, heldS U n = heldS V n
  | 0 => rfl
  | n + 1 => by rw [heldS, heldS, heldS_c h n, h]
theorem hs_bit {V : VS} {k : Nat} : ∀ n, (heldS V n).testBit k = true ↔ ¬ onS V k n = 0
  | 0 => by simp [heldS, onS]
  | n + 1 => by
    have ih := hs_bit (V := V) (k := k) n
    rw [onS_0] at ih ⊢
    rw [heldS]
    constructor
    · intro z q
      split at z
      · next h8 =>
        rw [Nat.testBit_or, Nat.testBit_two_pow] at z
        rcases Bool.or_eq_true_iff.mp z with y | y
        · exact ih.mp y (fun w hw => q w (by omega))
        · have := of_decide_eq_true y; exact q n (by omega) (by omega)
      · exact ih.mp z (fun w hw => q w (by omega))
    · intro z
      by_cases e : V.2.2 5 n = 8 + k
      · rw [if_pos (by omega), Nat.testBit_or, Nat.testBit_two_pow, e, Nat.add_sub_cancel_left]; simp
      · have y := ih.mpr (fun q => z (fun w hw => by
          by_cases ew : w = n
          · subst ew; exact e
          · exact q w (by omega)))
        split
        · rw [Nat.testBit_or, y]; rfl
        · exact y
theorem stT_bit {V : VS} {k j : Nat} {b : Bool} (hx : V.1 3 < 256) (hk : k < 8) : ((stT V k b).1 3).testBit j = if j = k then b else (V.1 3).testBit j := by
  show (if b then V.1 3 ||| 2 ^ k else clr (V.1 3) k).testBit j = _
  cases b
  · rw [if_neg (by decide), clr_bit j hx hk]
    by_cases e : j = k
    · simp [e]
    · simp [e]
  · rw [if_pos rfl, or_bit_tb]
    by_cases e : j = k
    · simp [e]
    · have : ¬ k = j := fun z => e z.symm
      simp [e, this]
theorem pnS_hi {W : VS} (hW : okV W) : ∀ i, i ≤ W.1 0 → ∀ j, i ≤ j → ((pnS W i).1 3).testBit j = (W.1 3).testBit j
  | 0, _, _, _ => rfl
  | i + 1, h, j, hj => by
    have ih := pnS_hi hW i (by omega) j (by omega)
    obtain ⟨h1, h2, h3⟩ := pnS_ok hW i (by omega)
    obtain ⟨U, hU⟩ : ∃ U, pnS W i = U := ⟨_, rfl⟩
    rw [hU] at ih h1 h2
    rw [pnS_step hU]
    split
    · have e : ¬ j = i := by omega
      have := stT_bit (V := (U.1, nz U.2.1, U.2.2)) (k := i) (j := j) (b := decide (drw (nz U.2.1) < nI (chn W i ((U.1 3).testBit i)))) (lt256 h1.2.1 h1.1.1) (by have := hW.1.1; omega)
      rw [this, if_neg e]; exact ih
    · exact ih
def bhI (W : VS) (i x : Nat) : Prop := x < 256 ∧ ∀ j, x.testBit j = if j < i then ((pnS W i).1 3).testBit j else (heldS W (W.1 1)).testBit j
theorem bh_held {W : VS} {i x : Nat} (hW : okV W) (hi : i < W.1 0) (h : bhI W i x) (hh : (heldS W (W.1 1)).testBit i = true) : pnS W (i + 1) = pnS W i ∧ bhI W (i + 1) x := by
  have e : pnS W (i + 1) = pnS W i := by rw [pnS_step rfl, if_neg ((hs_bit _).mp hh)]
  refine ⟨e, h.1, fun j => ?_⟩
  rw [e, h.2 j]
  by_cases q : j = i
  · subst q
    rw [if_neg (Nat.lt_irrefl _), if_pos (Nat.lt_succ_self _), hh, pnS_hi hW j (by omega) j (Nat.le_refl _)]
    have z := (hs_bit _).mp hh
    rw [onS_0] at z
    obtain ⟨w, hw⟩ : ∃ w, ¬ (w < W.1 1 → W.2.2 5 w ≠ 8 + j) := Classical.not_forall.mp z
    have hw1 : w < W.1 1 := Classical.byContradiction fun y => hw (fun q => absurd q y)
    have hw2 : W.2.2 5 w = 8 + j := Classical.byContradiction fun y => hw (fun _ => y)
    have := (hW.2.2.2.2.1 w hw1).2.1 (by omega)
    rw [hw2, Nat.add_sub_cancel_left] at this
    exact this.symm
  · by_cases l : j < i
    · rw [if_pos l, if_pos (by omega)]
    · rw [if_neg l, if_neg (by omega)]
theorem bh_un {W : VS} {i x : Nat} {b : Bool} (hW : okV W) (hi : i < W.1 0) (h : bhI W i x) (hh : ¬ (heldS W (W.1 1)).testBit i = true) (hb : b = decide (drw (nz (pnS W i).2.1) < nI (chn W i ((W.1 3).testBit i)))) : (pnS W (i + 1)).2.1 = nz (pnS W i).2.1 ∧ bhI W (i + 1) (if b = true then x ||| 2 ^ i else x) := by
  have o0 : onS W i (W.1 1) = 0 := Classical.byContradiction fun z => hh ((hs_bit _).mpr z)
  obtain ⟨h1, h2, h3⟩ := pnS_ok hW i (by omega)
  have hb2 := pnS_hi hW i (by omega) i (Nat.le_refl _)
  have h8 : i < 8 := by have := hW.1.1; omega
  obtain ⟨U, hU⟩ : ∃ U, pnS W i = U := ⟨_, rfl⟩
  rw [hU] at h1 h2 hb hb2
  rw [pnS_step hU, if_pos o0, hb2, ← hb, hU]
  refine ⟨rfl, ?_, fun j => ?_⟩
  · split
    · exact or_bit (n := 8) h.1 h8
    · exact h.1
  · rw [pnS_step hU, if_pos o0, hb2, ← hb]
    rw [stT_bit (V := (U.1, nz U.2.1, U.2.2)) (lt256 h1.2.1 h1.1.1) h8]
    have hx := h.2 j
    rw [hU] at hx
    by_cases e : j = i
    · subst e
      rw [if_pos rfl, if_pos (Nat.lt_succ_self _)]
      rw [if_neg (Nat.lt_irrefl _), Bool.eq_false_iff.mpr hh] at hx
      cases b
      · exact hx
      · rw [if_pos rfl, or_bit_tb, hx]; simp
    · have e1 : (if b = true then x ||| 2 ^ i else x).testBit j = x.testBit j := by
        cases b
        · rfl
        · rw [if_pos rfl, or_bit_tb]; have : ¬ i = j := fun z => e z.symm; simp [this]
      rw [e1, hx, if_neg e]
      by_cases l : j < i
      · rw [if_pos l, if_pos (by omega)]
      · rw [if_neg l, if_neg (by omega)]
theorem bh_end {W : VS} {x : Nat} (hW : okV W) (h : bhI W (W.1 0) x) : x = (pnS W (W.1 0)).1 3 := by
  apply Nat.eq_of_testBit_eq
  intro j
  rw [h.2 j]
  by_cases l : j < W.1 0
  · rw [if_pos l]
  · rw [if_neg l, pnS_hi hW _ (Nat.le_refl _) j (by omega), Nat.testBit_lt_two_pow (Nat.lt_of_lt_of_le (heldS_lt W hW (W.1 1) (Nat.le_refl _)) (Nat.pow_le_pow_right (by decide) (by omega))), Nat.testBit_lt_two_pow (Nat.lt_of_lt_of_le hW.2.1 (Nat.pow_le_pow_right (by decide) (by omega)))]
theorem bh_0 {W : VS} (hW : okV W) : bhI W 0 (heldS W (W.1 1)) := ⟨lt256 (heldS_lt W hW _ (Nat.le_refl _)) hW.1.1, fun j => (if_neg (Nat.not_lt_zero j)).symm⟩
theorem chn_un {V : VS} {i : Nat} {b : Bool} (h : onS V i (V.1 1) = 0) : chn V i b = if b then stays V i else comes V i := if_neg (fun z => z h)
set_option maxRecDepth 10000 in
set_option maxHeartbeats 2000000 in
theorem c_X12_next {g : gG} {h : gH} {v : Int32} : Rd g mX12_next [.int v] h (.int (nz v)) := by
  refine Cn.of (L := [some (.int v)]) (by decide) (Nat.le_of_ble_eq_true rfl) rfl ?_
  refine x_iload_n dX12_next_0 rfl ?_
  refine x_ldc_w dX12_next_1 kX12_273 ?_
  refine x_imul dX12_next_4 ?_
  refine x_sipush (v := 12345) dX12_next_5 (by decide) ?_
  refine x_iadd dX12_next_8 ?_
  refine x_iret rfl dX12_next_9 ⟨by decide, by decide⟩ ?_
  exact ⟨rfl, rfl⟩
