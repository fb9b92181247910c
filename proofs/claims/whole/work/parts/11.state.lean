/-! truth values as ints, loops, the wood's cells -/
def b2i (p : Prop) [Decidable p] : Int32 := if p then 1 else 0
theorem b2i_t {p : Prop} [Decidable p] (h : p) : b2i p = 1 := if_pos h
theorem b2i_f {p : Prop} [Decidable p] (h : ¬ p) : b2i p = 0 := if_neg h
theorem b2i_0 {p : Prop} [Decidable p] : b2i p = 0 ↔ ¬ p := by unfold b2i; split <;> simp_all
theorem b2i_1 {p : Prop} [Decidable p] : b2i p = 1 ↔ p := by unfold b2i; split <;> simp_all
theorem b2i_n {p : Prop} [Decidable p] : narrow .boolean (.int (b2i p)) = .int (b2i p) := by unfold b2i; split <;> rfl
theorem b2i_c {p q : Prop} [Decidable p] [Decidable q] (h : p ↔ q) : b2i p = b2i q := by unfold b2i; by_cases hp : p <;> simp_all
section XBB
variable {g : gG} {M : gM} {Z : gZt} {pc : Nat} {L : List (Option Value)} {st : List Value} {h : gH} {k n : Nat} {P : Prop} {q : Decidable P}
theorem x_if_eqB {off : Int} (tgt : Nat) (d : decode M.2.1 pc = .ok (.ifCond .eq off, 3)) (ht : (pc : Int) + off = (tgt : Int)) (kt : ¬ P → Ex g M Z tgt L st h k n) (kf : P → Ex g M Z (pc + 3) L st h k n) : Ex g M Z pc L (.int (@b2i P q) :: st) h k n := x_if_eq tgt d ht (fun c => kt (b2i_0.mp c)) (fun c => kf (Decidable.not_not.mp fun e => c (b2i_0.mpr e)))
theorem x_if_neB {off : Int} (tgt : Nat) (d : decode M.2.1 pc = .ok (.ifCond .ne off, 3)) (ht : (pc : Int) + off = (tgt : Int)) (kt : P → Ex g M Z tgt L st h k n) (kf : ¬ P → Ex g M Z (pc + 3) L st h k n) : Ex g M Z pc L (.int (@b2i P q) :: st) h k n := x_if_ne tgt d ht (fun c => kt (Decidable.not_not.mp fun e => c (b2i_0.mpr e))) (fun c => kf (b2i_0.mp c))
theorem x_if_eqB_t {off : Int} (tgt : Nat) (d : decode M.2.1 pc = .ok (.ifCond .eq off, 3)) (ht : (pc : Int) + off = (tgt : Int)) (hc : ¬ P) (kk : Ex g M Z tgt L st h k n) : Ex g M Z pc L (.int (@b2i P q) :: st) h k n := x_if_eqB tgt d ht (fun _ => kk) (fun c => absurd c hc)
theorem x_if_eqB_f {off : Int} (tgt : Nat) (d : decode M.2.1 pc = .ok (.ifCond .eq off, 3)) (ht : (pc : Int) + off = (tgt : Int)) (hc : P) (kk : Ex g M Z (pc + 3) L st h k n) : Ex g M Z pc L (.int (@b2i P q) :: st) h k n := x_if_eqB tgt d ht (fun c => absurd hc c) (fun _ => kk)
theorem x_if_neB_t {off : Int} (tgt : Nat) (d : decode M.2.1 pc = .ok (.ifCond .ne off, 3)) (ht : (pc : Int) + off = (tgt : Int)) (hc : P) (kk : Ex g M Z tgt L st h k n) : Ex g M Z pc L (.int (@b2i P q) :: st) h k n := x_if_neB tgt d ht (fun _ => kk) (fun c => absurd hc c)
theorem x_if_neB_f {off : Int} (tgt : Nat) (d : decode M.2.1 pc = .ok (.ifCond .ne off, 3)) (ht : (pc : Int) + off = (tgt : Int)) (hc : ¬ P) (kk : Ex g M Z (pc + 3) L st h k n) : Ex g M Z pc L (.int (@b2i P q) :: st) h k n := x_if_neB tgt d ht (fun c => absurd c hc) (fun _ => kk)
end XBB
theorem lp_up {P : Nat → Prop} (N : Nat) (hs : ∀ i, i < N → P (i + 1) → P i) (he : P N) (i : Nat) (hi : i ≤ N) : P i := by
  have key : ∀ d i, i + d = N → P i := by
    intro d
    induction d with
    | zero => intro i h; rw [show i = N by omega]; exact he
    | succ d ih => intro i h; exact hs i (by omega) (ih (i + 1) (by omega))
  exact key (N - i) i (by omega)
theorem ge_f {x : Int32} {i N : Nat} (hx : x = nI N) (h : i < N) (hN : N < 2 ^ 31) : ¬ x ≤ nI i := by rw [hx]; exact nI_ge h hN
theorem ge_t {x : Int32} {N : Nat} (hx : x = nI N) (hN : N < 2 ^ 31) : x ≤ nI N := by rw [hx]; exact nI_le (Nat.le_refl _) hN
/-! the wood: numbers (paths, there, walkers, raining, nights, z, rules) and rows (kind, first, second, stay, come, place, onPath, pay, weight, ruleKind, ruleClearing) -/
abbrev WS : Type := (Nat → Int32) × (Nat → Nat → Int32)
abbrev wF (w : Nat) (s : Nat → Int32) : List Value := [.ref (w + 1), .ref (w + 2), .ref (w + 3), .ref (w + 4), .ref (w + 5), .int (s 0), .int (s 1), .ref (w + 6), .ref (w + 7), .ref (w + 8), .int (s 2), .ref (w + 9), .int (s 3), .int (s 4), .int (s 5), .ref (w + 10), .ref (w + 11), .int (s 6)]
def wl (i : Nat) : Nat := if i < 5 ∨ i = 8 then 8 else 4
def isW (h : gH) (w : Nat) (S : WS) : Prop := h.1 w = some (.inr (10, wF w S.1)) ∧ ∀ i, i < 11 → h.1 (w + 1 + i) = some (.inl (0, wl i, .inl (S.2 i)))
/-- outside n cells from w on nothing changed -/
def Fr (w n : Nat) (h h' : gH) : Prop := h'.2 = h.2 ∧ ∀ a, (a < w ∨ w + n ≤ a) → h'.1 a = h.1 a
theorem Fr.rf {w n : Nat} {h : gH} : Fr w n h h := ⟨rfl, fun _ _ => rfl⟩
theorem Fr.tr {w n : Nat} {h h1 h2 : gH} (a : Fr w n h h1) (b : Fr w n h1 h2) : Fr w n h h2 := ⟨b.1.trans a.1, fun x hx => (b.2 x hx).trans (a.2 x hx)⟩
theorem Fr.set {w n : Nat} {h : gH} {a : Nat} {e : va_E} (h1 : w ≤ a) (h2 : a < w + n) : Fr w n h (hset h a e) := ⟨rfl, fun x hx => by simp only [hset]; rw [if_neg (by omega)]⟩
theorem hset_s {h : gH} {a : Nat} {e : va_E} : (hset h a e).1 a = some e := by simp [hset]
theorem hset_n {h : gH} {a b : Nat} {e : va_E} (hn : b ≠ a) : (hset h a e).1 b = h.1 b := by simp [hset, hn]
theorem isW.num {h : gH} {w : Nat} {s s' : Nat → Int32} {a : Nat → Nat → Int32} (hw : isW h w (s, a)) : isW (hset h w (.inr (10, wF w s'))) w (s', a) := ⟨hset_s, fun i hi => by rw [hset_n (by omega)]; exact hw.2 i hi⟩
theorem isW.row {h : gH} {w i : Nat} {s : Nat → Int32} {a : Nat → Nat → Int32} {f : Nat → Int32} (hw : isW h w (s, a)) (hi : i < 11) : isW (hset h (w + 1 + i) (.inl (0, wl i, .inl f))) w (s, va_up a i f) := by
  refine ⟨by rw [hset_n (by omega)]; exact hw.1, fun j hj => ?_⟩
  by_cases e : j = i
  · subst e; rw [hset_s]; simp [va_up]
  · rw [hset_n (by omega)]; simp only [va_up, if_neg e]; exact hw.2 j hj
theorem isW.fr {h h' : gH} {w x n : Nat} {S : WS} (hw : isW h w S) (hf : Fr x n h h') (hd : w + 12 ≤ x ∨ x + n ≤ w) : isW h' w S := ⟨by rw [hf.2 w (by omega)]; exact hw.1, fun i hi => by rw [hf.2 _ (by omega)]; exact hw.2 i hi⟩
/-- is a number in a set -/
def inS (j x : Int32) : Prop := ¬ ((x.toUInt32 >>> (j.toUInt32 &&& Int32.toUInt32 31)).toInt32 &&& 1) = 0
def inS_dec (j x : Int32) : Decidable (inS j x) := inferInstanceAs (Decidable (¬ _))
