/-! which clearings hang together by a set of paths -/
theorem gr_bit (V : VS) (t S j : Nat) : ∀ n, (gr V t S n).testBit j = true ↔ S.testBit j = true ∨ ∃ p, p < n ∧ t.testBit p = true ∧ (S.testBit (V.2.2 1 p) = true ∨ S.testBit (V.2.2 2 p) = true) ∧ (j = V.2.2 1 p ∨ j = V.2.2 2 p)
  | 0 => ⟨Or.inl, fun h => h.elim id (fun ⟨p, hp, _⟩ => absurd hp (Nat.not_lt_zero p))⟩
  | n + 1 => by
    have ih := gr_bit V t S j n
    unfold gr
    split
    · next c =>
      rw [Nat.testBit_or, Nat.testBit_or, Nat.testBit_two_pow, Nat.testBit_two_pow, Bool.or_eq_true, Bool.or_eq_true, ih, decide_eq_true_eq, decide_eq_true_eq]
      constructor
      · rintro ((h | ⟨p, h1, h2⟩) | (h | h))
        · exact Or.inl h
        · exact Or.inr ⟨p, by omega, h2⟩
        · exact Or.inr ⟨n, by omega, c.1, c.2, Or.inl h.symm⟩
        · exact Or.inr ⟨n, by omega, c.1, c.2, Or.inr h.symm⟩
      · rintro (h | ⟨p, h1, h2, h3, h4⟩)
        · exact Or.inl (Or.inl h)
        · rcases Nat.lt_or_ge p n with q | q
          · exact Or.inl (Or.inr ⟨p, q, h2, h3, h4⟩)
          · have e : p = n := by omega
            subst e
            rcases h4 with h4 | h4
            · exact Or.inr (Or.inl h4.symm)
            · exact Or.inr (Or.inr h4.symm)
    · next c =>
      rw [ih]
      constructor
      · rintro (h | ⟨p, h1, h2⟩)
        · exact Or.inl h
        · exact Or.inr ⟨p, by omega, h2⟩
      · rintro (h | ⟨p, h1, h2, h3, h4⟩)
        · exact Or.inl h
        · rcases Nat.lt_or_ge p n with q | q
          · exact Or.inr ⟨p, q, h2, h3, h4⟩
          · have e : p = n := by omega
            subst e
            exact absurd ⟨h2, h3⟩ c
def Con (V : VS) (t x y : Nat) : Prop := ∃ d, (rea V t x d).testBit y = true
theorem rea_up {V : VS} {t x y d : Nat} (h : (rea V t x d).testBit y = true) : (rea V t x (d + 1)).testBit y = true := (gr_bit V t _ y _).mpr (Or.inl h)
theorem rea_mono {V : VS} {t x y : Nat} : ∀ (m d : Nat), (rea V t x d).testBit y = true → (rea V t x (d + m)).testBit y = true
  | 0, _, h => h
  | m + 1, d, h => rea_up (rea_mono m d h)
theorem Con.rf (V : VS) (t x : Nat) : Con V t x x := ⟨0, by show (2 ^ x).testBit x = true; rw [Nat.testBit_two_pow]; simp⟩
/-- one path more -/
theorem Con.go {V : VS} {t x y z p : Nat} (h : Con V t x y) (hp : p < V.1 0) (ht : t.testBit p = true) (hy : y = V.2.2 1 p ∨ y = V.2.2 2 p) (hz : z = V.2.2 1 p ∨ z = V.2.2 2 p) : Con V t x z := by
  obtain ⟨d, h⟩ := h
  refine ⟨d + 1, (gr_bit V t _ z _).mpr (Or.inr ⟨p, hp, ht, ?_, hz⟩)⟩
  rcases hy with rfl | rfl
  · exact Or.inl h
  · exact Or.inr h
/-- the least closed set -/
theorem Con.least {V : VS} {t x : Nat} {P : Nat → Prop} (hx : P x) (hc : ∀ p, p < V.1 0 → t.testBit p = true → (P (V.2.2 1 p) ∨ P (V.2.2 2 p)) → P (V.2.2 1 p) ∧ P (V.2.2 2 p)) {y : Nat} (h : Con V t x y) : P y := by
  obtain ⟨d, h⟩ := h
  have key : ∀ d y, (rea V t x d).testBit y = true → P y := by
    intro d
    induction d with
    | zero =>
      intro y h
      have h : (2 ^ x).testBit y = true := h
      rw [Nat.testBit_two_pow] at h
      have : x = y := by simpa using h
      rw [← this]; exact hx
    | succ d ih =>
      intro y h
      rcases (gr_bit V t _ y _).mp h with h | ⟨p, h1, h2, h3, h4⟩
      · exact ih y h
      · have := hc p h1 h2 (h3.elim (fun q => Or.inl (ih _ q)) (fun q => Or.inr (ih _ q)))
        rcases h4 with rfl | rfl
        · exact this.1
        · exact this.2
  exact key d y h
theorem Con.tr {V : VS} {t x y z : Nat} (h1 : Con V t x y) (h2 : Con V t y z) : Con V t x z :=
  Con.least (P := fun z => Con V t x z) h1 (fun p hp ht h => h.elim (fun q => ⟨q, q.go hp ht (Or.inl rfl) (Or.inr rfl)⟩) (fun q => ⟨q.go hp ht (Or.inr rfl) (Or.inl rfl), q⟩)) h2
theorem Con.sy {V : VS} {t x y : Nat} (h : Con V t x y) : Con V t y x :=
  Con.least (P := fun y => Con V t y x) (Con.rf V t x) (fun p hp ht h => by
    have e12 : Con V t (V.2.2 1 p) (V.2.2 2 p) := (Con.rf V t _).go hp ht (Or.inl rfl) (Or.inr rfl)
    have e21 : Con V t (V.2.2 2 p) (V.2.2 1 p) := (Con.rf V t _).go hp ht (Or.inr rfl) (Or.inl rfl)
    exact h.elim (fun q => ⟨q, e21.tr q⟩) (fun q => ⟨e12.tr q, q⟩)) h
theorem Con.mono {V : VS} {t u x y : Nat} (hs : ∀ p, p < V.1 0 → t.testBit p = true → u.testBit p = true) (h : Con V t x y) : Con V u x y :=
  Con.least (P := fun y => Con V u x y) (Con.rf V u x) (fun p hp ht h => h.elim (fun q => ⟨q, q.go hp (hs p hp ht) (Or.inl rfl) (Or.inr rfl)⟩) (fun q => ⟨q.go hp (hs p hp ht) (Or.inr rfl) (Or.inl rfl), q⟩)) h
/-- what a further path joins -/
theorem Con.add {V : VS} {t u k x y : Nat} (hk : k < V.1 0) (hu : ∀ p, p < V.1 0 → (u.testBit p = true ↔ t.testBit p = true ∨ p = k)) :
    Con V u x y ↔ ((Con V t (V.2.2 1 k) x ∨ Con V t (V.2.2 2 k) x) ∧ (Con V t (V.2.2 1 k) y ∨ Con V t (V.2.2 2 k) y)) ∨ (¬ (Con V t (V.2.2 1 k) x ∨ Con V t (V.2.2 2 k) x) ∧ Con V t x y) := by
  have hm : ∀ {x y}, Con V t x y → Con V u x y := fun h => h.mono (fun p hp q => (hu p hp).mpr (Or.inl q))
  have eab : Con V u (V.2.2 1 k) (V.2.2 2 k) := (Con.rf V u _).go hk ((hu k hk).mpr (Or.inr rfl)) (Or.inl rfl) (Or.inr rfl)
  constructor
  · intro h
    refine Con.least (P := fun y => ((Con V t (V.2.2 1 k) x ∨ Con V t (V.2.2 2 k) x) ∧ (Con V t (V.2.2 1 k) y ∨ Con V t (V.2.2 2 k) y)) ∨ (¬ (Con V t (V.2.2 1 k) x ∨ Con V t (V.2.2 2 k) x) ∧ Con V t x y)) ?_ (fun p hp hq => ?_) h
    · by_cases c : Con V t (V.2.2 1 k) x ∨ Con V t (V.2.2 2 k) x
      · exact Or.inl ⟨c, c⟩
      · exact Or.inr ⟨c, Con.rf V t x⟩
    · by_cases c : Con V t (V.2.2 1 k) x ∨ Con V t (V.2.2 2 k) x
      · simp only [c, true_and, not_true_eq_false, false_and, or_false]
        intro q
        rcases (hu p hp).mp hq with hq | rfl
        · have g : ∀ z, Con V t z (V.2.2 1 p) ↔ Con V t z (V.2.2 2 p) := fun z => ⟨fun w => w.go hp hq (Or.inl rfl) (Or.inr rfl), fun w => w.go hp hq (Or.inr rfl) (Or.inl rfl)⟩
          simp only [g] at q ⊢
          have q := q.elim id id
          exact ⟨q, q⟩
        · exact ⟨Or.inl (Con.rf V t _), Or.inr (Con.rf V t _)⟩
      · simp only [c, false_and, not_false_eq_true, true_and, false_or]
        intro q
        rcases (hu p hp).mp hq with hq | rfl
        · have g : ∀ z, Con V t z (V.2.2 1 p) ↔ Con V t z (V.2.2 2 p) := fun z => ⟨fun w => w.go hp hq (Or.inl rfl) (Or.inr rfl), fun w => w.go hp hq (Or.inr rfl) (Or.inl rfl)⟩
          simp only [g] at q ⊢
          have q := q.elim id id
          exact ⟨q, q⟩
        · exact absurd (q.elim (fun w => Or.inl w.sy) (fun w => Or.inr w.sy)) c
  · rintro (⟨c, h⟩ | ⟨c, h⟩)
    · have xa : Con V u x (V.2.2 1 k) := c.elim (fun w => (hm w).sy) (fun w => (hm w).sy.tr eab.sy)
      exact h.elim (fun w => xa.tr (hm w)) (fun w => (xa.tr eab).tr (hm w))
    · exact hm h
/-! after seven steps nothing is new -/
theorem cnt_grow {S T : Nat} (hs : ∀ j, j < 8 → S.testBit j = true → T.testBit j = true) (hS : S < 256) (hT : T < 256) (hne : S ≠ T) : fb_ct (fun j => S.testBit j) 8 + 1 ≤ fb_ct (fun j => T.testBit j) 8 := by
  have big : ∀ X, X < 256 → ∀ j, 8 ≤ j → X.testBit j = false := fun X hX j hj => Nat.testBit_lt_two_pow (Nat.lt_of_lt_of_le hX (by have : 2 ^ 8 ≤ 2 ^ j := Nat.pow_le_pow_right (by decide) hj; omega))
  have ex : ∃ j, j < 8 ∧ S.testBit j = false ∧ T.testBit j = true := by
    refine Classical.byContradiction fun hn => hne (Nat.eq_of_testBit_eq fun j => ?_)
    rcases Nat.lt_or_ge j 8 with q | q
    · cases e1 : S.testBit j with
      | true => exact (hs j q e1).symm
      | false =>
        cases e2 : T.testBit j with
        | true => exact absurd ⟨j, q, e1, e2⟩ hn
        | false => rfl
    · rw [big S hS j q, big T hT j q]
  obtain ⟨i, hi, h1, h2⟩ := ex
  have e : fb_ct (fun k => if k = i then true else S.testBit k) 8 + (if S.testBit i = true then 1 else 0) = fb_ct (fun j => S.testBit j) 8 + (if true = true then 1 else 0) := fb_ct_upd (fun j => S.testBit j) true (i := i) (n := 8) hi
  have l : fb_ct (fun k => if k = i then true else S.testBit k) 8 ≤ fb_ct (fun j => T.testBit j) 8 := by
    refine fb_ct_sub fun j hj q => ?_
    by_cases ej : j = i
    · rw [ej]; exact h2
    · simp only [if_neg ej] at q; exact hs j hj q
  rw [h1, if_neg (by decide), if_pos rfl] at e
  omega
theorem rea_stop {V : VS} {t x k : Nat} (h : rea V t x (k + 1) = rea V t x k) : ∀ m, rea V t x (k + m) = rea V t x k
  | 0 => rfl
  | m + 1 => by
    show gr V t (rea V t x (k + m)) (V.1 0) = _
    rw [rea_stop h m]; exact h
theorem rea_fix {V : VS} (hv : okV V) (t : Nat) {x : Nat} (hx : x < 8) : ∃ k, k ≤ 7 ∧ rea V t x (k + 1) = rea V t x k := by
  refine Classical.byContradiction fun hn => ?_
  have key : ∀ d, d ≤ 8 → d + 1 ≤ fb_ct (fun j => (rea V t x d).testBit j) 8 := by
    intro d
    induction d with
    | zero =>
      intro _
      exact fb_ct_pos.mpr ⟨x, hx, by show (2 ^ x).testBit x = true; rw [Nat.testBit_two_pow]; simp⟩
    | succ d ih =>
      intro hd
      have h1 := ih (by omega)
      have h2 := cnt_grow (S := rea V t x d) (T := rea V t x (d + 1)) (fun j _ q => rea_up q) (rea_lt hv t hx d) (rea_lt hv t hx (d + 1)) (fun e => hn ⟨d, by omega, e.symm⟩)
      omega
  have h1 := key 8 (Nat.le_refl _)
  have h2 := fb_ct_le (fun j => (rea V t x 8).testBit j) 8
  omega
theorem rea_7 {V : VS} (hv : okV V) (t : Nat) {x : Nat} (hx : x < 8) (m : Nat) : rea V t x (7 + m) = rea V t x 7 := by
  obtain ⟨k, hk, e⟩ := rea_fix hv t hx
  have h1 := rea_stop e (7 + m - k)
  have h2 := rea_stop e (7 - k)
  rw [show k + (7 + m - k) = 7 + m by omega] at h1
  rw [show k + (7 - k) = 7 by omega] at h2
  rw [h1, h2]
theorem con_7 {V : VS} (hv : okV V) (t : Nat) {x y : Nat} (hx : x < 8) : Con V t x y ↔ (rea V t x 7).testBit y = true := by
  constructor
  · rintro ⟨d, h⟩
    rcases Nat.lt_or_ge d 7 with q | q
    · have := rea_mono (7 - d) d h
      rwa [show d + (7 - d) = 7 by omega] at this
    · rw [← rea_7 hv t hx (d - 7), show 7 + (d - 7) = d by omega]; exact h
  · intro h; exact ⟨7, h⟩
/-- a step that brings nothing new is the last: all that is reached is there -/
theorem rea_last {V : VS} (hv : okV V) {t x k : Nat} (hx : x < 8) (h : rea V t x (k + 1) = rea V t x k) : rea V t x k = rea V t x 7 := by
  rcases Nat.lt_or_ge k 7 with q | q
  · have := rea_stop h (7 - k)
    rw [show k + (7 - k) = 7 by omega] at this
    exact this.symm
  · rw [← rea_7 hv t hx (k - 7), show 7 + (k - 7) = k by omega]
