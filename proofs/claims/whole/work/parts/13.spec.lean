/-! THE SPECIFICATION'S STATE: V.1: 0 paths, 1 walkers, 2 rules, 3 there (a set), 4 rain, 5 nights; V.2.1: z; V.2.2: 0 kind, 1 first, 2 second, 3 stay, 4 come (of a path), 5 where (below 8: a clearing; 8 + p: on path p), 6 pay (of a walker), 7 weight (of a clearing), 8 kind, 9 clearing (of a rule) -/
abbrev VS : Type := (Nat → Nat) × Int32 × (Nat → Nat → Nat)
def plI (q : Nat) : Int32 := if q < 8 then nI q else -9
def onI (q : Nat) : Int32 := if q < 8 then -9 else nI (q - 8)
def wS (V : VS) : Nat → Int32 := fun k => match k with
  | 0 => nI (V.1 0)
  | 1 => nI (V.1 3)
  | 2 => nI (V.1 1)
  | 3 => nI (V.1 4)
  | 4 => nI (V.1 5)
  | 5 => V.2.1
  | _ => nI (V.1 2)
def okV (V : VS) : Prop := (V.1 0 ≤ 8 ∧ V.1 1 ≤ 4 ∧ V.1 2 ≤ 4) ∧ V.1 3 < 2 ^ V.1 0 ∧ V.1 4 ≤ 1 ∧ (∀ p, p < V.1 0 → V.2.2 0 p < 6 ∧ V.2.2 1 p < 8 ∧ V.2.2 2 p < 8 ∧ V.2.2 1 p ≠ V.2.2 2 p ∧ V.2.2 3 p ≤ 8 ∧ V.2.2 4 p ≤ 8) ∧ (∀ w, w < V.1 1 → V.2.2 5 w < 8 + V.1 0 ∧ (8 ≤ V.2.2 5 w → (V.1 3).testBit (V.2.2 5 w - 8) = true) ∧ V.2.2 6 w ≤ 99) ∧ (∀ c, c < 8 → V.2.2 7 c ≤ 9) ∧ ∀ r, r < V.1 2 → V.2.2 8 r < 4 ∧ V.2.2 9 r < 8
def rpA (V : VS) (a : Nat → Nat → Int32) : Prop := (∀ f p, f < 5 → p < V.1 0 → a f p = nI (V.2.2 f p)) ∧ (∀ w, w < V.1 1 → a 5 w = plI (V.2.2 5 w) ∧ a 6 w = onI (V.2.2 5 w) ∧ a 7 w = nI (V.2.2 6 w)) ∧ (∀ c, c < 8 → a 8 c = nI (V.2.2 7 c)) ∧ ∀ r, r < V.1 2 → a 9 r = nI (V.2.2 8 r) ∧ a 10 r = nI (V.2.2 9 r)
def isV (h : gH) (w : Nat) (V : VS) : Prop := okV V ∧ ∃ a, isW h w (wS V, a) ∧ rpA V a
theorem isV.fr {h h' : gH} {w x n : Nat} {V : VS} (hw : isV h w V) (hf : Fr x n h h') (hd : w + 12 ≤ x ∨ x + n ≤ w) : isV h' w V := by
  obtain ⟨h1, a, h2, h3⟩ := hw
  exact ⟨h1, a, h2.fr hf hd, h3⟩
theorem isV.o {h : gH} {w : Nat} {V : VS} (hw : isV h w V) : h.1 w = some (.inr (10, wF w (wS V))) := by
  obtain ⟨h1, a, h2, h3⟩ := hw
  exact h2.1
/-! bits -/
theorem nI_eqn {a b : Nat} (ha : a < 2 ^ 31) (hb : b < 2 ^ 31) (h : nI a = nI b) : a = b := (nI_eq ha hb).mp h
theorem sh1 : ∀ k, k < 31 → (1 : Int32) <<< (nI k &&& 31) = nI (2 ^ k) := by decide +kernel
theorem inS_iff {x k : Nat} (hx : x < 65536) (hk : k < 16) : inS (nI k) (nI x) ↔ x.testBit k = true := by
  unfold inS
  rw [nx_bit hx hk]
  cases x.testBit k <;> simp
theorem lt256 {x n : Nat} (h : x < 2 ^ n) (hn : n ≤ 8) : x < 256 := Nat.lt_of_lt_of_le h (Nat.pow_le_pow_right (by decide) hn)
theorem or_bit {x n k : Nat} (h : x < 2 ^ n) (hk : k < n) : x ||| 2 ^ k < 2 ^ n := Nat.or_lt_two_pow h (Nat.pow_lt_pow_right (by decide) hk)
/-- a set less one -/
def clr (x k : Nat) : Nat := if x.testBit k then x - 2 ^ k else x
theorem clr_I : ∀ x, x < 256 → ∀ k, k < 8 → nI x &&& (nI (2 ^ k) ^^^ (-1)) = nI (clr x k) := by decide +kernel
theorem clr_bit {x k : Nat} (j : Nat) (hx : x < 256) (hk : k < 8) : (clr x k).testBit j = (x.testBit j && decide (j ≠ k)) := by
  by_cases hj : j < 8
  · have key : ∀ x, x < 256 → ∀ k, k < 8 → ∀ j, j < 8 → (clr x k).testBit j = (x.testBit j && decide (j ≠ k)) := by decide +kernel
    exact key x hx k hk j hj
  · have e1 : x.testBit j = false := Nat.testBit_lt_two_pow (Nat.lt_of_lt_of_le hx (by have : 2 ^ 8 ≤ 2 ^ j := Nat.pow_le_pow_right (by decide) (by omega); omega))
    have e2 : clr x k ≤ x := by
      unfold clr; split
      · exact Nat.sub_le _ _
      · exact Nat.le_refl _
    have e3 : (clr x k).testBit j = false := Nat.testBit_lt_two_pow (Nat.lt_of_le_of_lt e2 (Nat.lt_of_lt_of_le hx (by have : 2 ^ 8 ≤ 2 ^ j := Nat.pow_le_pow_right (by decide) (by omega); omega)))
    rw [e1, e3]; rfl
theorem clr_lt {x k n : Nat} (h : x < 2 ^ n) : clr x k < 2 ^ n := by
  unfold clr; split
  · exact Nat.lt_of_le_of_lt (Nat.sub_le _ _) h
  · exact h
theorem or_bit_tb (x k j : Nat) : (x ||| 2 ^ k).testBit j = (x.testBit j || decide (k = j)) := by rw [Nat.testBit_or, Nat.testBit_two_pow]
/-! what a wood answers -/
def onS (V : VS) (k : Nat) : Nat → Nat
  | 0 => 0
  | w + 1 => if V.2.2 5 w = 8 + k then onS V k w ||| 2 ^ w else onS V k w
def heldS (V : VS) : Nat → Nat
  | 0 => 0
  | w + 1 => if 8 ≤ V.2.2 5 w then heldS V w ||| 2 ^ (V.2.2 5 w - 8) else heldS V w
def payS (V : VS) (b : Bool) : Nat → Nat
  | 0 => 0
  | w + 1 => if b = false ∨ 8 ≤ V.2.2 5 w then payS V b w + V.2.2 6 w else payS V b w
def atE (V : VS) (p : Nat) : Nat → Bool
  | 0 => false
  | w + 1 => atE V p w || decide (V.2.2 5 w = V.2.2 1 p ∨ V.2.2 5 w = V.2.2 2 p)
def stays (V : VS) (p : Nat) : Nat :=
  if V.2.2 0 p = 1 then min 8 (V.2.2 3 p + 2) else if V.2.2 0 p = 2 then 8 else if V.2.2 0 p = 3 then min 8 (V.2.2 3 p + 2) / 2
  else if V.2.2 0 p = 4 then (if V.1 4 = 0 then min 8 (V.2.2 3 p + 2) else min 8 (V.2.2 3 p + 2) - 3)
  else if V.2.2 0 p = 5 then (if atE V p (V.1 1) then 8 else V.2.2 3 p) else V.2.2 3 p
def comes (V : VS) (p : Nat) : Nat :=
  if V.2.2 0 p = 2 then 0 else if V.2.2 0 p = 3 then min 8 (V.2.2 4 p + 2) else if V.2.2 0 p = 4 then (if V.1 4 = 0 then V.2.2 4 p else 0) else V.2.2 4 p
def chn (V : VS) (p : Nat) (b : Bool) : Nat := if onS V p (V.1 1) ≠ 0 then 8 else if b then stays V p else comes V p
/-- a set of clearings and those one path of the set t away -/
def gr (V : VS) (t S : Nat) : Nat → Nat
  | 0 => S
  | p + 1 => if t.testBit p = true ∧ (S.testBit (V.2.2 1 p) = true ∨ S.testBit (V.2.2 2 p) = true) then gr V t S p ||| (2 ^ V.2.2 1 p ||| 2 ^ V.2.2 2 p) else gr V t S p
/-- d steps -/
def rea (V : VS) (t c : Nat) : Nat → Nat
  | 0 => 2 ^ c
  | d + 1 => gr V t (rea V t c d) (V.1 0)
/-- how far; 8: there is no way -/
def dist (V : VS) (t a b : Nat) : Nat := fa_first (fun d => (rea V t a d).testBit b) 8
theorem first_is {p : Nat → Bool} {n i : Nat} (hi : i < n) (h : p i = true) (hb : ∀ j, j < i → p j = false) : fa_first p n = i := by
  rcases Nat.lt_trichotomy (fa_first p n) i with q | q | q
  · have := fa_first_yes p n (by omega); rw [hb _ q] at this; cases this
  · exact q
  · have := fa_first_no p n i q; rw [h] at this; cases this
theorem first_no {p : Nat → Bool} {n : Nat} (hb : ∀ j, j < n → p j = false) : fa_first p n = n := by
  rcases Nat.lt_or_ge (fa_first p n) n with q | q
  · have := fa_first_yes p n q; rw [hb _ q] at this; cases this
  · exact Nat.le_antisymm (fa_first_le p n) q
def dI (x : Nat) : Int32 := if x < 8 then nI x else -3
def oth (V : VS) (p c : Nat) : Nat := if V.2.2 1 p = c then V.2.2 2 p else V.2.2 1 p
/-- the first path of a shortest way, or as many as there are -/
def fst (V : VS) (f t : Nat) : Nat := if 0 < dist V (V.1 3) f t ∧ dist V (V.1 3) f t < 8 then fa_first (fun p => (V.1 3).testBit p && decide (V.2.2 1 p = f ∨ V.2.2 2 p = f) && decide (dist V (V.1 3) (oth V p f) t + 1 = dist V (V.1 3) f t)) (V.1 0) else V.1 0
def fI (n x : Nat) : Int32 := if x < n then nI x else -9
/-- a night -/
def nz (z : Int32) : Int32 := z * 1103515245 + 12345
def drw (z : Int32) : Int32 := (z.toUInt32 >>> ((16 : Int32).toUInt32 &&& Int32.toUInt32 31)).toInt32 - (z.toUInt32 >>> ((16 : Int32).toUInt32 &&& Int32.toUInt32 31)).toInt32 / 8 * 8
def stT (V : VS) (k : Nat) (b : Bool) : VS := (va_up V.1 3 (if b then V.1 3 ||| 2 ^ k else clr (V.1 3) k), V.2)
def pnS (V : VS) : Nat → VS
  | 0 => V
  | p + 1 => if onS V p (V.1 1) = 0 then stT ((pnS V p).1, nz (pnS V p).2.1, (pnS V p).2.2) p (decide (drw (nz (pnS V p).2.1) < nI (chn V p ((pnS V p).1 3 |>.testBit p)))) else pnS V p
def pn (V : VS) : VS := (va_up (pnS V (V.1 0)).1 5 (V.1 5 + 1), (pnS V (V.1 0)).2)
/-- how many bits of 8 -/
def bc8 (x : Nat) : Nat := x % 2 + x / 2 % 2 + x / 4 % 2 + x / 8 % 2 + x / 16 % 2 + x / 32 % 2 + x / 64 % 2 + x / 128 % 2
