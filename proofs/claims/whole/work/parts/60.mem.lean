/-! THE REFERENCE'S MEMORY -/
abbrev mF (m : Nat) (V : VS) (s : Nat → Int32) (l : Nat → Int64) : List Value := [.int (nI (V.1 0)), .ref (m + 1), .int (nI (V.1 3)), .int (nI (V.1 1)), .ref (m + 2), .ref (m + 3), .ref (m + 4), .int (nI (V.1 4)), .ref (m + 5), .int (nI (V.1 5)), .int V.2.1, .int (nI (V.1 2)), .ref (m + 6), .ref (m + 7), .int (s 7), .int (s 8), .int (s 9), .int (s 10), .long (l 0), .int (s 11), .int (s 12), .int (s 13), .int (s 14), .int (s 15), .int (s 16), .ref (m + 8), .ref (m + 9), .ref (m + 10), .ref (m + 11), .int (s 17), .long (l 1), .long (l 2), .ref (m + 12), .ref (m + 13), .ref (m + 14), .ref (m + 15), .ref (m + 16), .ref (m + 17), .int (s 18), .ref (m + 18), .ref (m + 19), .ref (m + 20), .ref (m + 21), .ref (m + 22), .ref (m + 23), .int (s 19), .int (s 20), .int (s 21), .ref (m + 24), .int (s 22), .int (s 23), .int (s 24), .ref (m + 25), .int (s 25), .ref (m + 26)]
def mlen : Nat → Nat
  | 0 => 40 | 1 => 4 | 2 => 4 | 3 => 4 | 4 => 8 | 5 => 8 | 6 => 240 | 7 => 40 | 8 => 4 | 9 => 4 | 10 => 8 | 11 => 8 | 12 => 256 | 13 => 8 | 14 => 8 | 15 => 24 | 16 => 24 | 17 => 4 | 18 => 4 | 19 => 160 | 20 => 4 | 21 => 4 | 22 => 4 | 23 => 30 | 24 => 80 | _ => 7
def mlg (i : Nat) : Bool := i == 13 || i == 14 || i == 19
def mcell (i : Nat) (A : Nat → Nat → Int32) (B : Nat → Nat → Int64) : va_E := if mlg i = true then .inl (1, mlen i, .inr (.inl (B i))) else .inl (0, mlen i, .inl (A i))
def MM (h : gH) (m : Nat) (V : VS) (s : Nat → Int32) (l : Nat → Int64) (A : Nat → Nat → Int32) (B : Nat → Nat → Int64) : Prop := h.1 m = some (.inr (12, mF m V s l)) ∧ ∀ i, i < 26 → h.1 (m + 1 + i) = some (mcell i A B)
theorem MM.num {h : gH} {m : Nat} {V V' : VS} {s s' : Nat → Int32} {l l' : Nat → Int64} {A : Nat → Nat → Int32} {B : Nat → Nat → Int64} (hm : MM h m V s l A B) : MM (hset h m (.inr (12, mF m V' s' l'))) m V' s' l' A B := ⟨hset_s, fun i hi => (hset_n (by omega)).trans (hm.2 i hi)⟩
theorem MM.int {h : gH} {m i : Nat} {V : VS} {s : Nat → Int32} {l : Nat → Int64} {A : Nat → Nat → Int32} {B : Nat → Nat → Int64} {f : Nat → Int32} (hm : MM h m V s l A B) (hl : mlg i = false) : MM (hset h (m + 1 + i) (.inl (0, mlen i, .inl f))) m V s l (va_up A i f) B := by
  refine ⟨(hset_n (by omega)).trans hm.1, fun j hj => ?_⟩
  by_cases e : j = i
  · subst e; rw [hset_s, mcell, if_neg (by rw [hl]; decide), va_up_self]
  · rw [hset_n (by omega), hm.2 j hj, mcell, mcell, va_up_ne _ _ e]
theorem MM.lng {h : gH} {m i : Nat} {V : VS} {s : Nat → Int32} {l : Nat → Int64} {A : Nat → Nat → Int32} {B : Nat → Nat → Int64} {f : Nat → Int64} (hm : MM h m V s l A B) (hl : mlg i = true) : MM (hset h (m + 1 + i) (.inl (1, mlen i, .inr (.inl f)))) m V s l A (va_up B i f) := by
  refine ⟨(hset_n (by omega)).trans hm.1, fun j hj => ?_⟩
  by_cases e : j = i
  · subst e; rw [hset_s, mcell, if_pos hl, va_up_self]
  · rw [hset_n (by omega), hm.2 j hj, mcell, mcell, va_up_ne _ _ e]
def onM (q : Nat) : Int32 := if q < 8 then -1 else nI (q - 8)
/-- the wood in the reference's rows -/
def rpV (V : VS) (A : Nat → Nat → Int32) : Prop := okV V ∧ (∀ f p, f < 5 → p < V.1 0 → A 0 (5 * p + f) = nI (V.2.2 f p)) ∧ (∀ w, w < V.1 1 → (V.2.2 5 w < 8 → A 1 w = nI (V.2.2 5 w)) ∧ A 2 w = onM (V.2.2 5 w) ∧ A 3 w = nI (V.2.2 6 w)) ∧ (∀ c, c < 8 → A 4 c = nI (V.2.2 7 c)) ∧ ∀ r, r < V.1 2 → A 5 (2 * r) = nI (V.2.2 8 r) ∧ A 5 (2 * r + 1) = nI (V.2.2 9 r)
def kof (i : Nat) : Nat := if i = 0 then 7 else if i = 1 then 47 else if i = 2 then 51 else if i = 3 then 55 else if i = 4 then 59 else 67
def rpK (K : Nat × VS) (s : Nat → Int32) (A : Nat → Nat → Int32) : Prop := (K.1 ≤ 1 ∧ s 24 = nI K.1) ∧ (K.1 = 1 → rpV K.2 (fun i j => A 24 (kof i + j)) ∧ A 24 0 = nI (K.2.1 0) ∧ A 24 1 = nI (K.2.1 3) ∧ A 24 2 = nI (K.2.1 1) ∧ A 24 3 = nI (K.2.1 4) ∧ A 24 4 = nI (K.2.1 5) ∧ A 24 5 = K.2.2.1 ∧ A 24 6 = nI (K.2.1 2))
def rpT (T : TT) (s : Nat → Int32) (A : Nat → Nat → Int32) : Prop := T.1 ≤ 240 ∧ s 7 = nI T.1 ∧ ∀ i, i < T.1 → T.2 i < 256 ∧ A 6 i = nI (T.2 i)
def rpR (R : Nat × (Nat → Int32) × (Nat → Int32)) (s : Nat → Int32) (A : Nat → Nat → Int32) : Prop := R.1 ≤ 12 ∧ s 18 = nI R.1 ∧ ∀ i, i < R.1 → A 15 (2 * i) = R.2.1 i ∧ A 15 (2 * i + 1) = R.2.2 i
def soI (n : Nat) : Int32 := if n = 0 then -1 else nI (n - 1)
def rpH (H : Nat → Nat × Nat × (Nat → Int64)) (A : Nat → Nat → Int32) (B : Nat → Nat → Int64) : Prop := ∀ i, i < 4 → (H i).1 ≤ 4 ∧ A 17 i = soI (H i).1 ∧ (0 < (H i).1 → (H i).2.1 ≤ 40 ∧ A 18 i = nI (H i).2.1 ∧ ∀ j, j < (H i).2.1 → B 19 (40 * i + j) = (H i).2.2 j)
def rpL (L : Nat → Nat × Nat × Nat) (A : Nat → Nat → Int32) : Prop := ∀ i, i < 4 → ((L i).1 = 0 ∧ A 20 i = -1) ∨ ((L i).1 = 1 ∧ (L i).2.1 < 8 ∧ A 20 i = 0 ∧ A 21 i = nI (L i).2.1) ∨ ((L i).1 = 2 ∧ (L i).2.1 < 4 ∧ (L i).2.2 ≤ 40 ∧ A 20 i = 1 ∧ A 21 i = nI (L i).2.1 ∧ A 22 i = nI (L i).2.2)
def rpQ (R : Nat × (Nat → Int32)) (s : Nat → Int32) (A : Nat → Nat → Int32) : Prop := R.1 ≤ 30 ∧ s 22 = nI R.1 ∧ ∀ i, i < R.1 → A 23 i = R.2 i
/-- all but the wood -/
def rpO (S : AS) (s : Nat → Int32) (A : Nat → Nat → Int32) (B : Nat → Nat → Int64) : Prop := rpK S.2.1 s A ∧ rpT S.2.2.1 s A ∧ rpR S.2.2.2.1 s A ∧ rpH S.2.2.2.2.1 A B ∧ rpL S.2.2.2.2.2.1 A ∧ rpQ S.2.2.2.2.2.2 s A
def isN (h : gH) (m : Nat) (S : AS) : Prop := m + 27 ≤ h.2 ∧ ∃ s l A B, MM h m S.1 s l A B ∧ rpV S.1 A ∧ rpO S s A B
def Pn (m : Nat) (S : AS) (h : gH) : gH → Prop := fun h' => isN h' m S ∧ Fr m 27 h h'
theorem mkI {h : gH} {q p p' N ci : Nat} {f f' : Nat → Int32} {fs : List Value} (hz : h.2 = p') (hqp : q < p) (hq : h.1 q = some (.inr (ci, fs))) (ha : h.1 p = some (.inl (0, N, .inl f))) : ∃ h', h' = hset h p (.inl (0, N, .inl f')) ∧ h'.2 = p' ∧ h'.1 q = some (.inr (ci, fs)) ∧ h'.1 p = some (.inl (0, N, .inl f')) ∧ ∀ a, a ≠ q → a < p → h'.1 a = h.1 a :=
  ⟨_, rfl, hz, (hset_n (by omega)).trans hq, hset_s, fun a h1 h2 => hset_n (by omega)⟩
theorem mkN {h : gH} {q p p' ci : Nat} {e : va_E} {fs : List Value} (hz : h.2 = p) (hqp : q < p) (hp : p + 1 = p') (hq : h.1 q = some (.inr (ci, fs))) : ∃ h', h' = hnew h e ∧ h'.2 = p' ∧ h'.1 q = some (.inr (ci, fs)) ∧ h'.1 p = some e ∧ ∀ a, a ≠ q → a < p → h'.1 a = h.1 a := by
  subst hz
  subst hp
  exact ⟨_, rfl, rfl, (hnew_n (by omega)).trans hq, hnew_s, fun a h1 h2 => hnew_n (by omega)⟩
set_option maxRecDepth 10000 in
set_option maxHeartbeats 2000000 in
theorem c_X12_init {g : gG} {h0 : gH} {q : Nat} (q0 : h0.1 q = some (.inr (12, [.int 0, .null, .int 0, .int 0, .null, .null, .null, .int 0, .null, .int 0, .int 0, .int 0, .null, .null, .int 0, .int 0, .int 0, .int 0, .long 0, .int 0, .int 0, .int 0, .int 0, .int 0, .int 0, .null, .null, .null, .null, .int 0, .long 0, .long 0, .null, .null, .null, .null, .null, .null, .int 0, .null, .null, .null, .null, .null, .null, .int 0, .int 0, .int 0, .null, .int 0, .int 0, .int 0, .null, .int 0, .null]))) (z0 : h0.2 = q + 1) : Ct g mX12_init [.ref q] h0 none (fun h' => h'.2 = q + 27 ∧ isN h' q S0 ∧ ∀ a, a < q → h'.1 a = h0.1 a) := by
  refine Cn.of (L := [some (.ref q)]) (by decide) (Nat.le_of_ble_eq_true rfl) rfl ?_
  refine x_aload_n dX12_init_0 rfl ?_
  refine x_objI sO_X12 dX12_init_1 (by decide) (Nat.le_of_ble_eq_true rfl) ?_
  refine x_aload_n dX12_init_4 rfl ?_
  refine x_bipush (v := 40) dX12_init_5 (by decide) ?_
  refine x_newi 40 rfl (by decide) ka_int (by decide) (by decide) dX12_init_7 ?_
  rw [z0]
  refine x_putF (fs' := [.int 0, .ref (q + 1), .int 0, .int 0, .null, .null, .null, .int 0, .null, .int 0, .int 0, .int 0, .null, .null, .int 0, .int 0, .int 0, .int 0, .long 0, .int 0, .int 0, .int 0, .int 0, .int 0, .int 0, .null, .null, .null, .null, .int 0, .long 0, .long 0, .null, .null, .null, .null, .null, .null, .int 0, .null, .null, .null, .null, .null, .null, .int 0, .int 0, .int 0, .null, .int 0, .int 0, .int 0, .null, .int 0, .null]) fX12_7 rfl ((hnew_n (nzq z0 (by decide))).trans q0) (Nat.le_of_ble_eq_true rfl) rfl rfl rfl dX12_init_9 ?_
  obtain ⟨h1, e1, z1, q1, a1, k1⟩ := mkA (h := h0) (q := q) (ci := 12) (e := (.inl (0, 40, .inl fun _ => 0))) (fs := [.int 0, .ref (q + 1), .int 0, .int 0, .null, .null, .null, .int 0, .null, .int 0, .int 0, .int 0, .null, .null, .int 0, .int 0, .int 0, .int 0, .long 0, .int 0, .int 0, .int 0, .int 0, .int 0, .int 0, .null, .null, .null, .null, .int 0, .long 0, .long 0, .null, .null, .null, .null, .null, .null, .int 0, .null, .null, .null, .null, .null, .null, .int 0, .int 0, .int 0, .null, .int 0, .int 0, .int 0, .null, .int 0, .null]) (p := q + 1) (p' := q + 2) z0 (l0 (by decide)) rfl
  rw [← e1]
  clear e1
  refine x_aload_n dX12_init_12 rfl ?_
  refine x_iconst (v := 4) dX12_init_13 (by decide) ?_
  refine x_newi 4 rfl (by decide) ka_int (by decide) (by decide) dX12_init_14 ?_
  rw [z1]
  refine x_putF (fs' := [.int 0, .ref (q + 1), .int 0, .int 0, .ref (q + 2), .null, .null, .int 0, .null, .int 0, .int 0, .int 0, .null, .null, .int 0, .int 0, .int 0, .int 0, .long 0, .int 0, .int 0, .int 0, .int 0, .int 0, .int 0, .null, .null, .null, .null, .int 0, .long 0, .long 0, .null, .null, .null, .null, .null, .null, .int 0, .null, .null, .null, .null, .null, .null, .int 0, .int 0, .int 0, .null, .int 0, .int 0, .int 0, .null, .int 0, .null]) fX12_13 rfl ((hnew_n (nzq z1 (by decide))).trans q1) (Nat.le_of_ble_eq_true rfl) rfl rfl rfl dX12_init_16 ?_
  obtain ⟨h2, e2, z2, q2, a2, k2⟩ := mkA (h := h1) (q := q) (ci := 12) (e := (.inl (0, 4, .inl fun _ => 0))) (fs := [.int 0, .ref (q + 1), .int 0, .int 0, .ref (q + 2), .null, .null, .int 0, .null, .int 0, .int 0, .int 0, .null, .null, .int 0, .int 0, .int 0, .int 0, .long 0, .int 0, .int 0, .int 0, .int 0, .int 0, .int 0, .null, .null, .null, .null, .int 0, .long 0, .long 0, .null, .null, .null, .null, .null, .null, .int 0, .null, .null, .null, .null, .null, .null, .int 0, .int 0, .int 0, .null, .int 0, .int 0, .int 0, .null, .int 0, .null]) (p := q + 2) (p' := q + 3) z1 (l0 (by decide)) rfl
  rw [← e2]
  clear e2
  refine x_aload_n dX12_init_19 rfl ?_
  refine x_iconst (v := 4) dX12_init_20 (by decide) ?_
  refine x_newi 4 rfl (by decide) ka_int (by decide) (by decide) dX12_init_21 ?_
  rw [z2]
  refine x_putF (fs' := [.int 0, .ref (q + 1), .int 0, .int 0, .ref (q + 2), .ref (q + 3), .null, .int 0, .null, .int 0, .int 0, .int 0, .null, .null, .int 0, .int 0, .int 0, .int 0, .long 0, .int 0, .int 0, .int 0, .int 0, .int 0, .int 0, .null, .null, .null, .null, .int 0, .long 0, .long 0, .null, .null, .null, .null, .null, .null, .int 0, .null, .null, .null, .null, .null, .null, .int 0, .int 0, .int 0, .null, .int 0, .int 0, .int 0, .null, .int 0, .null]) fX12_16 rfl ((hnew_n (nzq z2 (by decide))).trans q2) (Nat.le_of_ble_eq_true rfl) rfl rfl rfl dX12_init_23 ?_
  obtain ⟨h3, e3, z3, q3, a3, k3⟩ := mkA (h := h2) (q := q) (ci := 12) (e := (.inl (0, 4, .inl fun _ => 0))) (fs := [.int 0, .ref (q + 1), .int 0, .int 0, .ref (q + 2), .ref (q + 3), .null, .int 0, .null, .int 0, .int 0, .int 0, .null, .null, .int 0, .int 0, .int 0, .int 0, .long 0, .int 0, .int 0, .int 0, .int 0, .int 0, .int 0, .null, .null, .null, .null, .int 0, .long 0, .long 0, .null, .null, .null, .null, .null, .null, .int 0, .null, .null, .null, .null, .null, .null, .int 0, .int 0, .int 0, .null, .int 0, .int 0, .int 0, .null, .int 0, .null]) (p := q + 3) (p' := q + 4) z2 (l0 (by decide)) rfl
  rw [← e3]
  clear e3
  refine x_aload_n dX12_init_26 rfl ?_
  refine x_iconst (v := 4) dX12_init_27 (by decide) ?_
  refine x_newi 4 rfl (by decide) ka_int (by decide) (by decide) dX12_init_28 ?_
  rw [z3]
  refine x_putF (fs' := [.int 0, .ref (q + 1), .int 0, .int 0, .ref (q + 2), .ref (q + 3), .ref (q + 4), .int 0, .null, .int 0, .int 0, .int 0, .null, .null, .int 0, .int 0, .int 0, .int 0, .long 0, .int 0, .int 0, .int 0, .int 0, .int 0, .int 0, .null, .null, .null, .null, .int 0, .long 0, .long 0, .null, .null, .null, .null, .null, .null, .int 0, .null, .null, .null, .null, .null, .null, .int 0, .int 0, .int 0, .null, .int 0, .int 0, .int 0, .null, .int 0, .null]) fX12_19 rfl ((hnew_n (nzq z3 (by decide))).trans q3) (Nat.le_of_ble_eq_true rfl) rfl rfl rfl dX12_init_30 ?_
  obtain ⟨h4, e4, z4, q4, a4, k4⟩ := mkA (h := h3) (q := q) (ci := 12) (e := (.inl (0, 4, .inl fun _ => 0))) (fs := [.int 0, .ref (q + 1), .int 0, .int 0, .ref (q + 2), .ref (q + 3), .ref (q + 4), .int 0, .null, .int 0, .int 0, .int 0, .null, .null, .int 0, .int 0, .int 0, .int 0, .long 0, .int 0, .int 0, .int 0, .int 0, .int 0, .int 0, .null, .null, .null, .null, .int 0, .long 0, .long 0, .null, .null, .null, .null, .null, .null, .int 0, .null, .null, .null, .null, .null, .null, .int 0, .int 0, .int 0, .null, .int 0, .int 0, .int 0, .null, .int 0, .null]) (p := q + 4) (p' := q + 5) z3 (l0 (by decide)) rfl
  rw [← e4]
  clear e4
  refine x_aload_n dX12_init_33 rfl ?_
  refine x_bipush (v := 8) dX12_init_34 (by decide) ?_
  refine x_newi 8 rfl (by decide) ka_int (by decide) (by decide) dX12_init_36 ?_
  rw [z4]
  obtain ⟨h5, e5, z5, q5, a5, k5⟩ := mkN (q := q) (e := (.inl (0, 8, .inl fun _ => 0))) (p' := q + 6) z4 (l0 (by decide)) rfl q4
  rw [← e5]
  clear e5
  refine x_dup dX12_init_38 rfl ?_
  refine x_iconst (v := 0) dX12_init_39 (by decide) ?_
  refine x_iconst (v := 1) dX12_init_40 (by decide) ?_
  refine x_iast 0 a5 rfl (by decide) (by decide) dX12_init_41 ?_
  obtain ⟨h6, e6, z6, q6, b5, k6⟩ := mkI (q := q) (f' := va_up (fun _ => 0) 0 (1)) z5 (l0 (by decide)) q5 a5
  rw [← e6]
  clear e6 a5
  have a5 := b5
  clear b5
  refine x_dup dX12_init_42 rfl ?_
  refine x_iconst (v := 1) dX12_init_43 (by decide) ?_
  refine x_iconst (v := 1) dX12_init_44 (by decide) ?_
  refine x_iast 1 a5 rfl (by decide) (by decide) dX12_init_45 ?_
  obtain ⟨h7, e7, z7, q7, b5, k7⟩ := mkI (q := q) (f' := va_up (va_up (fun _ => 0) 0 (1)) 1 (1)) z6 (l0 (by decide)) q6 a5
  rw [← e7]
  clear e7 a5
  have a5 := b5
  clear b5
  refine x_dup dX12_init_46 rfl ?_
  refine x_iconst (v := 2) dX12_init_47 (by decide) ?_
  refine x_iconst (v := 1) dX12_init_48 (by decide) ?_
  refine x_iast 2 a5 rfl (by decide) (by decide) dX12_init_49 ?_
  obtain ⟨h8, e8, z8, q8, b5, k8⟩ := mkI (q := q) (f' := va_up (va_up (va_up (fun _ => 0) 0 (1)) 1 (1)) 2 (1)) z7 (l0 (by decide)) q7 a5
  rw [← e8]
  clear e8 a5
  have a5 := b5
  clear b5
  refine x_dup dX12_init_50 rfl ?_
  refine x_iconst (v := 3) dX12_init_51 (by decide) ?_
  refine x_iconst (v := 1) dX12_init_52 (by decide) ?_
  refine x_iast 3 a5 rfl (by decide) (by decide) dX12_init_53 ?_
  obtain ⟨h9, e9, z9, q9, b5, k9⟩ := mkI (q := q) (f' := va_up (va_up (va_up (va_up (fun _ => 0) 0 (1)) 1 (1)) 2 (1)) 3 (1)) z8 (l0 (by decide)) q8 a5
  rw [← e9]
  clear e9 a5
  have a5 := b5
  clear b5
  refine x_dup dX12_init_54 rfl ?_
  refine x_iconst (v := 4) dX12_init_55 (by decide) ?_
  refine x_iconst (v := 1) dX12_init_56 (by decide) ?_
  refine x_iast 4 a5 rfl (by decide) (by decide) dX12_init_57 ?_
  obtain ⟨h10, e10, z10, q10, b5, k10⟩ := mkI (q := q) (f' := va_up (va_up (va_up (va_up (va_up (fun _ => 0) 0 (1)) 1 (1)) 2 (1)) 3 (1)) 4 (1)) z9 (l0 (by decide)) q9 a5
  rw [← e10]
  clear e10 a5
  have a5 := b5
  clear b5
  refine x_dup dX12_init_58 rfl ?_
  refine x_iconst (v := 5) dX12_init_59 (by decide) ?_
  refine x_iconst (v := 1) dX12_init_60 (by decide) ?_
  refine x_iast 5 a5 rfl (by decide) (by decide) dX12_init_61 ?_
  obtain ⟨h11, e11, z11, q11, b5, k11⟩ := mkI (q := q) (f' := va_up (va_up (va_up (va_up (va_up (va_up (fun _ => 0) 0 (1)) 1 (1)) 2 (1)) 3 (1)) 4 (1)) 5 (1)) z10 (l0 (by decide)) q10 a5
  rw [← e11]
  clear e11 a5
  have a5 := b5
  clear b5
  refine x_dup dX12_init_62 rfl ?_
  refine x_bipush (v := 6) dX12_init_63 (by decide) ?_
  refine x_iconst (v := 1) dX12_init_65 (by decide) ?_
  refine x_iast 6 a5 rfl (by decide) (by decide) dX12_init_66 ?_
  obtain ⟨h12, e12, z12, q12, b5, k12⟩ := mkI (q := q) (f' := va_up (va_up (va_up (va_up (va_up (va_up (va_up (fun _ => 0) 0 (1)) 1 (1)) 2 (1)) 3 (1)) 4 (1)) 5 (1)) 6 (1)) z11 (l0 (by decide)) q11 a5
  rw [← e12]
  clear e12 a5
  have a5 := b5
  clear b5
  refine x_dup dX12_init_67 rfl ?_
  refine x_bipush (v := 7) dX12_init_68 (by decide) ?_
  refine x_iconst (v := 1) dX12_init_70 (by decide) ?_
  refine x_iast 7 a5 rfl (by decide) (by decide) dX12_init_71 ?_
  obtain ⟨h13, e13, z13, q13, b5, k13⟩ := mkI (q := q) (f' := va_up (va_up (va_up (va_up (va_up (va_up (va_up (va_up (fun _ => 0) 0 (1)) 1 (1)) 2 (1)) 3 (1)) 4 (1)) 5 (1)) 6 (1)) 7 (1)) z12 (l0 (by decide)) q12 a5
  rw [← e13]
  clear e13 a5
  have a5 := b5
  clear b5
  refine x_putF (fs' := [.int 0, .ref (q + 1), .int 0, .int 0, .ref (q + 2), .ref (q + 3), .ref (q + 4), .int 0, .ref (q + 5), .int 0, .int 0, .int 0, .null, .null, .int 0, .int 0, .int 0, .int 0, .long 0, .int 0, .int 0, .int 0, .int 0, .int 0, .int 0, .null, .null, .null, .null, .int 0, .long 0, .long 0, .null, .null, .null, .null, .null, .null, .int 0, .null, .null, .null, .null, .null, .null, .int 0, .int 0, .int 0, .null, .int 0, .int 0, .int 0, .null, .int 0, .null]) fX12_22 rfl q13 (Nat.le_of_ble_eq_true rfl) rfl rfl rfl dX12_init_72 ?_
  obtain ⟨h14, e14, z14, q14, k14⟩ := mkP (h := h13) (q := q) (ci := 12) (fs := [.int 0, .ref (q + 1), .int 0, .int 0, .ref (q + 2), .ref (q + 3), .ref (q + 4), .int 0, .ref (q + 5), .int 0, .int 0, .int 0, .null, .null, .int 0, .int 0, .int 0, .int 0, .long 0, .int 0, .int 0, .int 0, .int 0, .int 0, .int 0, .null, .null, .null, .null, .int 0, .long 0, .long 0, .null, .null, .null, .null, .null, .null, .int 0, .null, .null, .null, .null, .null, .null, .int 0, .int 0, .int 0, .null, .int 0, .int 0, .int 0, .null, .int 0, .null]) z13
  rw [← e14]
  clear e14
  refine x_aload_n dX12_init_75 rfl ?_
  refine x_iconst (v := 1) dX12_init_76 (by decide) ?_
  refine x_put (fs' := [.int 0, .ref (q + 1), .int 0, .int 0, .ref (q + 2), .ref (q + 3), .ref (q + 4), .int 0, .ref (q + 5), .int 0, .int 1, .int 0, .null, .null, .int 0, .int 0, .int 0, .int 0, .long 0, .int 0, .int 0, .int 0, .int 0, .int 0, .int 0, .null, .null, .null, .null, .int 0, .long 0, .long 0, .null, .null, .null, .null, .null, .null, .int 0, .null, .null, .null, .null, .null, .null, .int 0, .int 0, .int 0, .null, .int 0, .int 0, .int 0, .null, .int 0, .null]) fX12_25 q14 (Nat.le_of_ble_eq_true rfl) rfl rfl rfl dX12_init_77 ?_
  obtain ⟨h15, e15, z15, q15, k15⟩ := mkP (h := h14) (q := q) (ci := 12) (fs := [.int 0, .ref (q + 1), .int 0, .int 0, .ref (q + 2), .ref (q + 3), .ref (q + 4), .int 0, .ref (q + 5), .int 0, .int 1, .int 0, .null, .null, .int 0, .int 0, .int 0, .int 0, .long 0, .int 0, .int 0, .int 0, .int 0, .int 0, .int 0, .null, .null, .null, .null, .int 0, .long 0, .long 0, .null, .null, .null, .null, .null, .null, .int 0, .null, .null, .null, .null, .null, .null, .int 0, .int 0, .int 0, .null, .int 0, .int 0, .int 0, .null, .int 0, .null]) z14
  rw [← e15]
  clear e15
  refine x_aload_n dX12_init_80 rfl ?_
  refine x_bipush (v := 8) dX12_init_81 (by decide) ?_
  refine x_newi 8 rfl (by decide) ka_int (by decide) (by decide) dX12_init_83 ?_
  rw [z15]
  refine x_putF (fs' := [.int 0, .ref (q + 1), .int 0, .int 0, .ref (q + 2), .ref (q + 3), .ref (q + 4), .int 0, .ref (q + 5), .int 0, .int 1, .int 0, .ref (q + 6), .null, .int 0, .int 0, .int 0, .int 0, .long 0, .int 0, .int 0, .int 0, .int 0, .int 0, .int 0, .null, .null, .null, .null, .int 0, .long 0, .long 0, .null, .null, .null, .null, .null, .null, .int 0, .null, .null, .null, .null, .null, .null, .int 0, .int 0, .int 0, .null, .int 0, .int 0, .int 0, .null, .int 0, .null]) fX12_29 rfl ((hnew_n (nzq z15 (by decide))).trans q15) (Nat.le_of_ble_eq_true rfl) rfl rfl rfl dX12_init_85 ?_
  obtain ⟨h16, e16, z16, q16, a6, k16⟩ := mkA (h := h15) (q := q) (ci := 12) (e := (.inl (0, 8, .inl fun _ => 0))) (fs := [.int 0, .ref (q + 1), .int 0, .int 0, .ref (q + 2), .ref (q + 3), .ref (q + 4), .int 0, .ref (q + 5), .int 0, .int 1, .int 0, .ref (q + 6), .null, .int 0, .int 0, .int 0, .int 0, .long 0, .int 0, .int 0, .int 0, .int 0, .int 0, .int 0, .null, .null, .null, .null, .int 0, .long 0, .long 0, .null, .null, .null, .null, .null, .null, .int 0, .null, .null, .null, .null, .null, .null, .int 0, .int 0, .int 0, .null, .int 0, .int 0, .int 0, .null, .int 0, .null]) (p := q + 6) (p' := q + 7) z15 (l0 (by decide)) rfl
  rw [← e16]
  clear e16
  refine x_aload_n dX12_init_88 rfl ?_
  refine x_sipush (v := 240) dX12_init_89 (by decide) ?_
  refine x_newi 240 rfl (by decide) ka_int (by decide) (by decide) dX12_init_92 ?_
  rw [z16]
  refine x_putF (fs' := [.int 0, .ref (q + 1), .int 0, .int 0, .ref (q + 2), .ref (q + 3), .ref (q + 4), .int 0, .ref (q + 5), .int 0, .int 1, .int 0, .ref (q + 6), .ref (q + 7), .int 0, .int 0, .int 0, .int 0, .long 0, .int 0, .int 0, .int 0, .int 0, .int 0, .int 0, .null, .null, .null, .null, .int 0, .long 0, .long 0, .null, .null, .null, .null, .null, .null, .int 0, .null, .null, .null, .null, .null, .null, .int 0, .int 0, .int 0, .null, .int 0, .int 0, .int 0, .null, .int 0, .null]) fX12_32 rfl ((hnew_n (nzq z16 (by decide))).trans q16) (Nat.le_of_ble_eq_true rfl) rfl rfl rfl dX12_init_94 ?_
  obtain ⟨h17, e17, z17, q17, a7, k17⟩ := mkA (h := h16) (q := q) (ci := 12) (e := (.inl (0, 240, .inl fun _ => 0))) (fs := [.int 0, .ref (q + 1), .int 0, .int 0, .ref (q + 2), .ref (q + 3), .ref (q + 4), .int 0, .ref (q + 5), .int 0, .int 1, .int 0, .ref (q + 6), .ref (q + 7), .int 0, .int 0, .int 0, .int 0, .long 0, .int 0, .int 0, .int 0, .int 0, .int 0, .int 0, .null, .null, .null, .null, .int 0, .long 0, .long 0, .null, .null, .null, .null, .null, .null, .int 0, .null, .null, .null, .null, .null, .null, .int 0, .int 0, .int 0, .null, .int 0, .int 0, .int 0, .null, .int 0, .null]) (p := q + 7) (p' := q + 8) z16 (l0 (by decide)) rfl
  rw [← e17]
  clear e17
  refine x_aload_n dX12_init_97 rfl ?_
  refine x_bipush (v := 40) dX12_init_98 (by decide) ?_
  refine x_newi 40 rfl (by decide) ka_int (by decide) (by decide) dX12_init_100 ?_
  rw [z17]
  refine x_putF (fs' := [.int 0, .ref (q + 1), .int 0, .int 0, .ref (q + 2), .ref (q + 3), .ref (q + 4), .int 0, .ref (q + 5), .int 0, .int 1, .int 0, .ref (q + 6), .ref (q + 7), .int 0, .int 0, .int 0, .int 0, .long 0, .int 0, .int 0, .int 0, .int 0, .int 0, .int 0, .ref (q + 8), .null, .null, .null, .int 0, .long 0, .long 0, .null, .null, .null, .null, .null, .null, .int 0, .null, .null, .null, .null, .null, .null, .int 0, .int 0, .int 0, .null, .int 0, .int 0, .int 0, .null, .int 0, .null]) fX12_35 rfl ((hnew_n (nzq z17 (by decide))).trans q17) (Nat.le_of_ble_eq_true rfl) rfl rfl rfl dX12_init_102 ?_
  obtain ⟨h18, e18, z18, q18, a8, k18⟩ := mkA (h := h17) (q := q) (ci := 12) (e := (.inl (0, 40, .inl fun _ => 0))) (fs := [.int 0, .ref (q + 1), .int 0, .int 0, .ref (q + 2), .ref (q + 3), .ref (q + 4), .int 0, .ref (q + 5), .int 0, .int 1, .int 0, .ref (q + 6), .ref (q + 7), .int 0, .int 0, .int 0, .int 0, .long 0, .int 0, .int 0, .int 0, .int 0, .int 0, .int 0, .ref (q + 8), .null, .null, .null, .int 0, .long 0, .long 0, .null, .null, .null, .null, .null, .null, .int 0, .null, .null, .null, .null, .null, .null, .int 0, .int 0, .int 0, .null, .int 0, .int 0, .int 0, .null, .int 0, .null]) (p := q + 8) (p' := q + 9) z17 (l0 (by decide)) rfl
  rw [← e18]
  clear e18
  refine x_aload_n dX12_init_105 rfl ?_
  refine x_iconst (v := 4) dX12_init_106 (by decide) ?_
  refine x_newi 4 rfl (by decide) ka_int (by decide) (by decide) dX12_init_107 ?_
  rw [z18]
  refine x_putF (fs' := [.int 0, .ref (q + 1), .int 0, .int 0, .ref (q + 2), .ref (q + 3), .ref (q + 4), .int 0, .ref (q + 5), .int 0, .int 1, .int 0, .ref (q + 6), .ref (q + 7), .int 0, .int 0, .int 0, .int 0, .long 0, .int 0, .int 0, .int 0, .int 0, .int 0, .int 0, .ref (q + 8), .ref (q + 9), .null, .null, .int 0, .long 0, .long 0, .null, .null, .null, .null, .null, .null, .int 0, .null, .null, .null, .null, .null, .null, .int 0, .int 0, .int 0, .null, .int 0, .int 0, .int 0, .null, .int 0, .null]) fX12_38 rfl ((hnew_n (nzq z18 (by decide))).trans q18) (Nat.le_of_ble_eq_true rfl) rfl rfl rfl dX12_init_109 ?_
  obtain ⟨h19, e19, z19, q19, a9, k19⟩ := mkA (h := h18) (q := q) (ci := 12) (e := (.inl (0, 4, .inl fun _ => 0))) (fs := [.int 0, .ref (q + 1), .int 0, .int 0, .ref (q + 2), .ref (q + 3), .ref (q + 4), .int 0, .ref (q + 5), .int 0, .int 1, .int 0, .ref (q + 6), .ref (q + 7), .int 0, .int 0, .int 0, .int 0, .long 0, .int 0, .int 0, .int 0, .int 0, .int 0, .int 0, .ref (q + 8), .ref (q + 9), .null, .null, .int 0, .long 0, .long 0, .null, .null, .null, .null, .null, .null, .int 0, .null, .null, .null, .null, .null, .null, .int 0, .int 0, .int 0, .null, .int 0, .int 0, .int 0, .null, .int 0, .null]) (p := q + 9) (p' := q + 10) z18 (l0 (by decide)) rfl
  rw [← e19]
  clear e19
  refine x_aload_n dX12_init_112 rfl ?_
  refine x_iconst (v := 4) dX12_init_113 (by decide) ?_
  refine x_newi 4 rfl (by decide) ka_int (by decide) (by decide) dX12_init_114 ?_
  rw [z19]
  refine x_putF (fs' := [.int 0, .ref (q + 1), .int 0, .int 0, .ref (q + 2), .ref (q + 3), .ref (q + 4), .int 0, .ref (q + 5), .int 0, .int 1, .int 0, .ref (q + 6), .ref (q + 7), .int 0, .int 0, .int 0, .int 0, .long 0, .int 0, .int 0, .int 0, .int 0, .int 0, .int 0, .ref (q + 8), .ref (q + 9), .ref (q + 10), .null, .int 0, .long 0, .long 0, .null, .null, .null, .null, .null, .null, .int 0, .null, .null, .null, .null, .null, .null, .int 0, .int 0, .int 0, .null, .int 0, .int 0, .int 0, .null, .int 0, .null]) fX12_41 rfl ((hnew_n (nzq z19 (by decide))).trans q19) (Nat.le_of_ble_eq_true rfl) rfl rfl rfl dX12_init_116 ?_
  obtain ⟨h20, e20, z20, q20, a10, k20⟩ := mkA (h := h19) (q := q) (ci := 12) (e := (.inl (0, 4, .inl fun _ => 0))) (fs := [.int 0, .ref (q + 1), .int 0, .int 0, .ref (q + 2), .ref (q + 3), .ref (q + 4), .int 0, .ref (q + 5), .int 0, .int 1, .int 0, .ref (q + 6), .ref (q + 7), .int 0, .int 0, .int 0, .int 0, .long 0, .int 0, .int 0, .int 0, .int 0, .int 0, .int 0, .ref (q + 8), .ref (q + 9), .ref (q + 10), .null, .int 0, .long 0, .long 0, .null, .null, .null, .null, .null, .null, .int 0, .null, .null, .null, .null, .null, .null, .int 0, .int 0, .int 0, .null, .int 0, .int 0, .int 0, .null, .int 0, .null]) (p := q + 10) (p' := q + 11) z19 (l0 (by decide)) rfl
  rw [← e20]
  clear e20
  refine x_aload_n dX12_init_119 rfl ?_
  refine x_bipush (v := 8) dX12_init_120 (by decide) ?_
  refine x_newi 8 rfl (by decide) ka_int (by decide) (by decide) dX12_init_122 ?_
  rw [z20]
  refine x_putF (fs' := [.int 0, .ref (q + 1), .int 0, .int 0, .ref (q + 2), .ref (q + 3), .ref (q + 4), .int 0, .ref (q + 5), .int 0, .int 1, .int 0, .ref (q + 6), .ref (q + 7), .int 0, .int 0, .int 0, .int 0, .long 0, .int 0, .int 0, .int 0, .int 0, .int 0, .int 0, .ref (q + 8), .ref (q + 9), .ref (q + 10), .ref (q + 11), .int 0, .long 0, .long 0, .null, .null, .null, .null, .null, .null, .int 0, .null, .null, .null, .null, .null, .null, .int 0, .int 0, .int 0, .null, .int 0, .int 0, .int 0, .null, .int 0, .null]) fX12_44 rfl ((hnew_n (nzq z20 (by decide))).trans q20) (Nat.le_of_ble_eq_true rfl) rfl rfl rfl dX12_init_124 ?_
  obtain ⟨h21, e21, z21, q21, a11, k21⟩ := mkA (h := h20) (q := q) (ci := 12) (e := (.inl (0, 8, .inl fun _ => 0))) (fs := [.int 0, .ref (q + 1), .int 0, .int 0, .ref (q + 2), .ref (q + 3), .ref (q + 4), .int 0, .ref (q + 5), .int 0, .int 1, .int 0, .ref (q + 6), .ref (q + 7), .int 0, .int 0, .int 0, .int 0, .long 0, .int 0, .int 0, .int 0, .int 0, .int 0, .int 0, .ref (q + 8), .ref (q + 9), .ref (q + 10), .ref (q + 11), .int 0, .long 0, .long 0, .null, .null, .null, .null, .null, .null, .int 0, .null, .null, .null, .null, .null, .null, .int 0, .int 0, .int 0, .null, .int 0, .int 0, .int 0, .null, .int 0, .null]) (p := q + 11) (p' := q + 12) z20 (l0 (by decide)) rfl
  rw [← e21]
  clear e21
  refine x_aload_n dX12_init_127 rfl ?_
  refine x_bipush (v := 8) dX12_init_128 (by decide) ?_
  refine x_newi 8 rfl (by decide) ka_int (by decide) (by decide) dX12_init_130 ?_
  rw [z21]
  refine x_putF (fs' := [.int 0, .ref (q + 1), .int 0, .int 0, .ref (q + 2), .ref (q + 3), .ref (q + 4), .int 0, .ref (q + 5), .int 0, .int 1, .int 0, .ref (q + 6), .ref (q + 7), .int 0, .int 0, .int 0, .int 0, .long 0, .int 0, .int 0, .int 0, .int 0, .int 0, .int 0, .ref (q + 8), .ref (q + 9), .ref (q + 10), .ref (q + 11), .int 0, .long 0, .long 0, .ref (q + 12), .null, .null, .null, .null, .null, .int 0, .null, .null, .null, .null, .null, .null, .int 0, .int 0, .int 0, .null, .int 0, .int 0, .int 0, .null, .int 0, .null]) fX12_47 rfl ((hnew_n (nzq z21 (by decide))).trans q21) (Nat.le_of_ble_eq_true rfl) rfl rfl rfl dX12_init_132 ?_
  obtain ⟨h22, e22, z22, q22, a12, k22⟩ := mkA (h := h21) (q := q) (ci := 12) (e := (.inl (0, 8, .inl fun _ => 0))) (fs := [.int 0, .ref (q + 1), .int 0, .int 0, .ref (q + 2), .ref (q + 3), .ref (q + 4), .int 0, .ref (q + 5), .int 0, .int 1, .int 0, .ref (q + 6), .ref (q + 7), .int 0, .int 0, .int 0, .int 0, .long 0, .int 0, .int 0, .int 0, .int 0, .int 0, .int 0, .ref (q + 8), .ref (q + 9), .ref (q + 10), .ref (q + 11), .int 0, .long 0, .long 0, .ref (q + 12), .null, .null, .null, .null, .null, .int 0, .null, .null, .null, .null, .null, .null, .int 0, .int 0, .int 0, .null, .int 0, .int 0, .int 0, .null, .int 0, .null]) (p := q + 12) (p' := q + 13) z21 (l0 (by decide)) rfl
  rw [← e22]
  clear e22
  refine x_aload_n dX12_init_135 rfl ?_
  refine x_sipush (v := 256) dX12_init_136 (by decide) ?_
  refine x_newi 256 rfl (by decide) ka_int (by decide) (by decide) dX12_init_139 ?_
  rw [z22]
  refine x_putF (fs' := [.int 0, .ref (q + 1), .int 0, .int 0, .ref (q + 2), .ref (q + 3), .ref (q + 4), .int 0, .ref (q + 5), .int 0, .int 1, .int 0, .ref (q + 6), .ref (q + 7), .int 0, .int 0, .int 0, .int 0, .long 0, .int 0, .int 0, .int 0, .int 0, .int 0, .int 0, .ref (q + 8), .ref (q + 9), .ref (q + 10), .ref (q + 11), .int 0, .long 0, .long 0, .ref (q + 12), .ref (q + 13), .null, .null, .null, .null, .int 0, .null, .null, .null, .null, .null, .null, .int 0, .int 0, .int 0, .null, .int 0, .int 0, .int 0, .null, .int 0, .null]) fX12_50 rfl ((hnew_n (nzq z22 (by decide))).trans q22) (Nat.le_of_ble_eq_true rfl) rfl rfl rfl dX12_init_141 ?_
  obtain ⟨h23, e23, z23, q23, a13, k23⟩ := mkA (h := h22) (q := q) (ci := 12) (e := (.inl (0, 256, .inl fun _ => 0))) (fs := [.int 0, .ref (q + 1), .int 0, .int 0, .ref (q + 2), .ref (q + 3), .ref (q + 4), .int 0, .ref (q + 5), .int 0, .int 1, .int 0, .ref (q + 6), .ref (q + 7), .int 0, .int 0, .int 0, .int 0, .long 0, .int 0, .int 0, .int 0, .int 0, .int 0, .int 0, .ref (q + 8), .ref (q + 9), .ref (q + 10), .ref (q + 11), .int 0, .long 0, .long 0, .ref (q + 12), .ref (q + 13), .null, .null, .null, .null, .int 0, .null, .null, .null, .null, .null, .null, .int 0, .int 0, .int 0, .null, .int 0, .int 0, .int 0, .null, .int 0, .null]) (p := q + 13) (p' := q + 14) z22 (l0 (by decide)) rfl
  rw [← e23]
  clear e23
  refine x_aload_n dX12_init_144 rfl ?_
  refine x_bipush (v := 8) dX12_init_145 (by decide) ?_
  refine x_newl 8 rfl (by decide) ka_long (by decide) (by decide) dX12_init_147 ?_
  rw [z23]
  refine x_putF (fs' := [.int 0, .ref (q + 1), .int 0, .int 0, .ref (q + 2), .ref (q + 3), .ref (q + 4), .int 0, .ref (q + 5), .int 0, .int 1, .int 0, .ref (q + 6), .ref (q + 7), .int 0, .int 0, .int 0, .int 0, .long 0, .int 0, .int 0, .int 0, .int 0, .int 0, .int 0, .ref (q + 8), .ref (q + 9), .ref (q + 10), .ref (q + 11), .int 0, .long 0, .long 0, .ref (q + 12), .ref (q + 13), .ref (q + 14), .null, .null, .null, .int 0, .null, .null, .null, .null, .null, .null, .int 0, .int 0, .int 0, .null, .int 0, .int 0, .int 0, .null, .int 0, .null]) fX12_53 rfl ((hnew_n (nzq z23 (by decide))).trans q23) (Nat.le_of_ble_eq_true rfl) rfl rfl rfl dX12_init_149 ?_
  obtain ⟨h24, e24, z24, q24, a14, k24⟩ := mkA (h := h23) (q := q) (ci := 12) (e := (.inl (1, 8, .inr (.inl fun _ => 0)))) (fs := [.int 0, .ref (q + 1), .int 0, .int 0, .ref (q + 2), .ref (q + 3), .ref (q + 4), .int 0, .ref (q + 5), .int 0, .int 1, .int 0, .ref (q + 6), .ref (q + 7), .int 0, .int 0, .int 0, .int 0, .long 0, .int 0, .int 0, .int 0, .int 0, .int 0, .int 0, .ref (q + 8), .ref (q + 9), .ref (q + 10), .ref (q + 11), .int 0, .long 0, .long 0, .ref (q + 12), .ref (q + 13), .ref (q + 14), .null, .null, .null, .int 0, .null, .null, .null, .null, .null, .null, .int 0, .int 0, .int 0, .null, .int 0, .int 0, .int 0, .null, .int 0, .null]) (p := q + 14) (p' := q + 15) z23 (l0 (by decide)) rfl
  rw [← e24]
  clear e24
  refine x_aload_n dX12_init_152 rfl ?_
  refine x_bipush (v := 8) dX12_init_153 (by decide) ?_
  refine x_newl 8 rfl (by decide) ka_long (by decide) (by decide) dX12_init_155 ?_
  rw [z24]
  refine x_putF (fs' := [.int 0, .ref (q + 1), .int 0, .int 0, .ref (q + 2), .ref (q + 3), .ref (q + 4), .int 0, .ref (q + 5), .int 0, .int 1, .int 0, .ref (q + 6), .ref (q + 7), .int 0, .int 0, .int 0, .int 0, .long 0, .int 0, .int 0, .int 0, .int 0, .int 0, .int 0, .ref (q + 8), .ref (q + 9), .ref (q + 10), .ref (q + 11), .int 0, .long 0, .long 0, .ref (q + 12), .ref (q + 13), .ref (q + 14), .ref (q + 15), .null, .null, .int 0, .null, .null, .null, .null, .null, .null, .int 0, .int 0, .int 0, .null, .int 0, .int 0, .int 0, .null, .int 0, .null]) fX12_57 rfl ((hnew_n (nzq z24 (by decide))).trans q24) (Nat.le_of_ble_eq_true rfl) rfl rfl rfl dX12_init_157 ?_
  obtain ⟨h25, e25, z25, q25, a15, k25⟩ := mkA (h := h24) (q := q) (ci := 12) (e := (.inl (1, 8, .inr (.inl fun _ => 0)))) (fs := [.int 0, .ref (q + 1), .int 0, .int 0, .ref (q + 2), .ref (q + 3), .ref (q + 4), .int 0, .ref (q + 5), .int 0, .int 1, .int 0, .ref (q + 6), .ref (q + 7), .int 0, .int 0, .int 0, .int 0, .long 0, .int 0, .int 0, .int 0, .int 0, .int 0, .int 0, .ref (q + 8), .ref (q + 9), .ref (q + 10), .ref (q + 11), .int 0, .long 0, .long 0, .ref (q + 12), .ref (q + 13), .ref (q + 14), .ref (q + 15), .null, .null, .int 0, .null, .null, .null, .null, .null, .null, .int 0, .int 0, .int 0, .null, .int 0, .int 0, .int 0, .null, .int 0, .null]) (p := q + 15) (p' := q + 16) z24 (l0 (by decide)) rfl
  rw [← e25]
  clear e25
  refine x_aload_n dX12_init_160 rfl ?_
  refine x_bipush (v := 24) dX12_init_161 (by decide) ?_
  refine x_newi 24 rfl (by decide) ka_int (by decide) (by decide) dX12_init_163 ?_
  rw [z25]
  refine x_putF (fs' := [.int 0, .ref (q + 1), .int 0, .int 0, .ref (q + 2), .ref (q + 3), .ref (q + 4), .int 0, .ref (q + 5), .int 0, .int 1, .int 0, .ref (q + 6), .ref (q + 7), .int 0, .int 0, .int 0, .int 0, .long 0, .int 0, .int 0, .int 0, .int 0, .int 0, .int 0, .ref (q + 8), .ref (q + 9), .ref (q + 10), .ref (q + 11), .int 0, .long 0, .long 0, .ref (q + 12), .ref (q + 13), .ref (q + 14), .ref (q + 15), .ref (q + 16), .null, .int 0, .null, .null, .null, .null, .null, .null, .int 0, .int 0, .int 0, .null, .int 0, .int 0, .int 0, .null, .int 0, .null]) fX12_60 rfl ((hnew_n (nzq z25 (by decide))).trans q25) (Nat.le_of_ble_eq_true rfl) rfl rfl rfl dX12_init_165 ?_
  obtain ⟨h26, e26, z26, q26, a16, k26⟩ := mkA (h := h25) (q := q) (ci := 12) (e := (.inl (0, 24, .inl fun _ => 0))) (fs := [.int 0, .ref (q + 1), .int 0, .int 0, .ref (q + 2), .ref (q + 3), .ref (q + 4), .int 0, .ref (q + 5), .int 0, .int 1, .int 0, .ref (q + 6), .ref (q + 7), .int 0, .int 0, .int 0, .int 0, .long 0, .int 0, .int 0, .int 0, .int 0, .int 0, .int 0, .ref (q + 8), .ref (q + 9), .ref (q + 10), .ref (q + 11), .int 0, .long 0, .long 0, .ref (q + 12), .ref (q + 13), .ref (q + 14), .ref (q + 15), .ref (q + 16), .null, .int 0, .null, .null, .null, .null, .null, .null, .int 0, .int 0, .int 0, .null, .int 0, .int 0, .int 0, .null, .int 0, .null]) (p := q + 16) (p' := q + 17) z25 (l0 (by decide)) rfl
  rw [← e26]
  clear e26
  refine x_aload_n dX12_init_168 rfl ?_
  refine x_bipush (v := 24) dX12_init_169 (by decide) ?_
  refine x_newi 24 rfl (by decide) ka_int (by decide) (by decide) dX12_init_171 ?_
  rw [z26]
  refine x_putF (fs' := [.int 0, .ref (q + 1), .int 0, .int 0, .ref (q + 2), .ref (q + 3), .ref (q + 4), .int 0, .ref (q + 5), .int 0, .int 1, .int 0, .ref (q + 6), .ref (q + 7), .int 0, .int 0, .int 0, .int 0, .long 0, .int 0, .int 0, .int 0, .int 0, .int 0, .int 0, .ref (q + 8), .ref (q + 9), .ref (q + 10), .ref (q + 11), .int 0, .long 0, .long 0, .ref (q + 12), .ref (q + 13), .ref (q + 14), .ref (q + 15), .ref (q + 16), .ref (q + 17), .int 0, .null, .null, .null, .null, .null, .null, .int 0, .int 0, .int 0, .null, .int 0, .int 0, .int 0, .null, .int 0, .null]) fX12_63 rfl ((hnew_n (nzq z26 (by decide))).trans q26) (Nat.le_of_ble_eq_true rfl) rfl rfl rfl dX12_init_173 ?_
  obtain ⟨h27, e27, z27, q27, a17, k27⟩ := mkA (h := h26) (q := q) (ci := 12) (e := (.inl (0, 24, .inl fun _ => 0))) (fs := [.int 0, .ref (q + 1), .int 0, .int 0, .ref (q + 2), .ref (q + 3), .ref (q + 4), .int 0, .ref (q + 5), .int 0, .int 1, .int 0, .ref (q + 6), .ref (q + 7), .int 0, .int 0, .int 0, .int 0, .long 0, .int 0, .int 0, .int 0, .int 0, .int 0, .int 0, .ref (q + 8), .ref (q + 9), .ref (q + 10), .ref (q + 11), .int 0, .long 0, .long 0, .ref (q + 12), .ref (q + 13), .ref (q + 14), .ref (q + 15), .ref (q + 16), .ref (q + 17), .int 0, .null, .null, .null, .null, .null, .null, .int 0, .int 0, .int 0, .null, .int 0, .int 0, .int 0, .null, .int 0, .null]) (p := q + 17) (p' := q + 18) z26 (l0 (by decide)) rfl
  rw [← e27]
  clear e27
  refine x_aload_n dX12_init_176 rfl ?_
  refine x_iconst (v := 4) dX12_init_177 (by decide) ?_
  refine x_newi 4 rfl (by decide) ka_int (by decide) (by decide) dX12_init_178 ?_
  rw [z27]
  obtain ⟨h28, e28, z28, q28, a18, k28⟩ := mkN (q := q) (e := (.inl (0, 4, .inl fun _ => 0))) (p' := q + 19) z27 (l0 (by decide)) rfl q27
  rw [← e28]
  clear e28
  refine x_dup dX12_init_180 rfl ?_
  refine x_iconst (v := 0) dX12_init_181 (by decide) ?_
  refine x_iconst (v := -1) dX12_init_182 (by decide) ?_
  refine x_iast 0 a18 rfl (by decide) (by decide) dX12_init_183 ?_
  obtain ⟨h29, e29, z29, q29, b18, k29⟩ := mkI (q := q) (f' := va_up (fun _ => 0) 0 (-1)) z28 (l0 (by decide)) q28 a18
  rw [← e29]
  clear e29 a18
  have a18 := b18
  clear b18
  refine x_dup dX12_init_184 rfl ?_
  refine x_iconst (v := 1) dX12_init_185 (by decide) ?_
  refine x_iconst (v := -1) dX12_init_186 (by decide) ?_
  refine x_iast 1 a18 rfl (by decide) (by decide) dX12_init_187 ?_
  obtain ⟨h30, e30, z30, q30, b18, k30⟩ := mkI (q := q) (f' := va_up (va_up (fun _ => 0) 0 (-1)) 1 (-1)) z29 (l0 (by decide)) q29 a18
  rw [← e30]
  clear e30 a18
  have a18 := b18
  clear b18
  refine x_dup dX12_init_188 rfl ?_
  refine x_iconst (v := 2) dX12_init_189 (by decide) ?_
  refine x_iconst (v := -1) dX12_init_190 (by decide) ?_
  refine x_iast 2 a18 rfl (by decide) (by decide) dX12_init_191 ?_
  obtain ⟨h31, e31, z31, q31, b18, k31⟩ := mkI (q := q) (f' := va_up (va_up (va_up (fun _ => 0) 0 (-1)) 1 (-1)) 2 (-1)) z30 (l0 (by decide)) q30 a18
  rw [← e31]
  clear e31 a18
  have a18 := b18
  clear b18
  refine x_dup dX12_init_192 rfl ?_
  refine x_iconst (v := 3) dX12_init_193 (by decide) ?_
  refine x_iconst (v := -1) dX12_init_194 (by decide) ?_
  refine x_iast 3 a18 rfl (by decide) (by decide) dX12_init_195 ?_
  obtain ⟨h32, e32, z32, q32, b18, k32⟩ := mkI (q := q) (f' := va_up (va_up (va_up (va_up (fun _ => 0) 0 (-1)) 1 (-1)) 2 (-1)) 3 (-1)) z31 (l0 (by decide)) q31 a18
  rw [← e32]
  clear e32 a18
  have a18 := b18
  clear b18
  refine x_putF (fs' := [.int 0, .ref (q + 1), .int 0, .int 0, .ref (q + 2), .ref (q + 3), .ref (q + 4), .int 0, .ref (q + 5), .int 0, .int 1, .int 0, .ref (q + 6), .ref (q + 7), .int 0, .int 0, .int 0, .int 0, .long 0, .int 0, .int 0, .int 0, .int 0, .int 0, .int 0, .ref (q + 8), .ref (q + 9), .ref (q + 10), .ref (q + 11), .int 0, .long 0, .long 0, .ref (q + 12), .ref (q + 13), .ref (q + 14), .ref (q + 15), .ref (q + 16), .ref (q + 17), .int 0, .ref (q + 18), .null, .null, .null, .null, .null, .int 0, .int 0, .int 0, .null, .int 0, .int 0, .int 0, .null, .int 0, .null]) fX12_66 rfl q32 (Nat.le_of_ble_eq_true rfl) rfl rfl rfl dX12_init_196 ?_
  obtain ⟨h33, e33, z33, q33, k33⟩ := mkP (h := h32) (q := q) (ci := 12) (fs := [.int 0, .ref (q + 1), .int 0, .int 0, .ref (q + 2), .ref (q + 3), .ref (q + 4), .int 0, .ref (q + 5), .int 0, .int 1, .int 0, .ref (q + 6), .ref (q + 7), .int 0, .int 0, .int 0, .int 0, .long 0, .int 0, .int 0, .int 0, .int 0, .int 0, .int 0, .ref (q + 8), .ref (q + 9), .ref (q + 10), .ref (q + 11), .int 0, .long 0, .long 0, .ref (q + 12), .ref (q + 13), .ref (q + 14), .ref (q + 15), .ref (q + 16), .ref (q + 17), .int 0, .ref (q + 18), .null, .null, .null, .null, .null, .int 0, .int 0, .int 0, .null, .int 0, .int 0, .int 0, .null, .int 0, .null]) z32
  rw [← e33]
  clear e33
  refine x_aload_n dX12_init_199 rfl ?_
  refine x_iconst (v := 4) dX12_init_200 (by decide) ?_
  refine x_newi 4 rfl (by decide) ka_int (by decide) (by decide) dX12_init_201 ?_
  rw [z33]
  refine x_putF (fs' := [.int 0, .ref (q + 1), .int 0, .int 0, .ref (q + 2), .ref (q + 3), .ref (q + 4), .int 0, .ref (q + 5), .int 0, .int 1, .int 0, .ref (q + 6), .ref (q + 7), .int 0, .int 0, .int 0, .int 0, .long 0, .int 0, .int 0, .int 0, .int 0, .int 0, .int 0, .ref (q + 8), .ref (q + 9), .ref (q + 10), .ref (q + 11), .int 0, .long 0, .long 0, .ref (q + 12), .ref (q + 13), .ref (q + 14), .ref (q + 15), .ref (q + 16), .ref (q + 17), .int 0, .ref (q + 18), .ref (q + 19), .null, .null, .null, .null, .int 0, .int 0, .int 0, .null, .int 0, .int 0, .int 0, .null, .int 0, .null]) fX12_69 rfl ((hnew_n (nzq z33 (by decide))).trans q33) (Nat.le_of_ble_eq_true rfl) rfl rfl rfl dX12_init_203 ?_
  obtain ⟨h34, e34, z34, q34, a19, k34⟩ := mkA (h := h33) (q := q) (ci := 12) (e := (.inl (0, 4, .inl fun _ => 0))) (fs := [.int 0, .ref (q + 1), .int 0, .int 0, .ref (q + 2), .ref (q + 3), .ref (q + 4), .int 0, .ref (q + 5), .int 0, .int 1, .int 0, .ref (q + 6), .ref (q + 7), .int 0, .int 0, .int 0, .int 0, .long 0, .int 0, .int 0, .int 0, .int 0, .int 0, .int 0, .ref (q + 8), .ref (q + 9), .ref (q + 10), .ref (q + 11), .int 0, .long 0, .long 0, .ref (q + 12), .ref (q + 13), .ref (q + 14), .ref (q + 15), .ref (q + 16), .ref (q + 17), .int 0, .ref (q + 18), .ref (q + 19), .null, .null, .null, .null, .int 0, .int 0, .int 0, .null, .int 0, .int 0, .int 0, .null, .int 0, .null]) (p := q + 19) (p' := q + 20) z33 (l0 (by decide)) rfl
  rw [← e34]
  clear e34
  refine x_aload_n dX12_init_206 rfl ?_
  refine x_sipush (v := 160) dX12_init_207 (by decide) ?_
  refine x_newl 160 rfl (by decide) ka_long (by decide) (by decide) dX12_init_210 ?_
  rw [z34]
  refine x_putF (fs' := [.int 0, .ref (q + 1), .int 0, .int 0, .ref (q + 2), .ref (q + 3), .ref (q + 4), .int 0, .ref (q + 5), .int 0, .int 1, .int 0, .ref (q + 6), .ref (q + 7), .int 0, .int 0, .int 0, .int 0, .long 0, .int 0, .int 0, .int 0, .int 0, .int 0, .int 0, .ref (q + 8), .ref (q + 9), .ref (q + 10), .ref (q + 11), .int 0, .long 0, .long 0, .ref (q + 12), .ref (q + 13), .ref (q + 14), .ref (q + 15), .ref (q + 16), .ref (q + 17), .int 0, .ref (q + 18), .ref (q + 19), .ref (q + 20), .null, .null, .null, .int 0, .int 0, .int 0, .null, .int 0, .int 0, .int 0, .null, .int 0, .null]) fX12_72 rfl ((hnew_n (nzq z34 (by decide))).trans q34) (Nat.le_of_ble_eq_true rfl) rfl rfl rfl dX12_init_212 ?_
  obtain ⟨h35, e35, z35, q35, a20, k35⟩ := mkA (h := h34) (q := q) (ci := 12) (e := (.inl (1, 160, .inr (.inl fun _ => 0)))) (fs := [.int 0, .ref (q + 1), .int 0, .int 0, .ref (q + 2), .ref (q + 3), .ref (q + 4), .int 0, .ref (q + 5), .int 0, .int 1, .int 0, .ref (q + 6), .ref (q + 7), .int 0, .int 0, .int 0, .int 0, .long 0, .int 0, .int 0, .int 0, .int 0, .int 0, .int 0, .ref (q + 8), .ref (q + 9), .ref (q + 10), .ref (q + 11), .int 0, .long 0, .long 0, .ref (q + 12), .ref (q + 13), .ref (q + 14), .ref (q + 15), .ref (q + 16), .ref (q + 17), .int 0, .ref (q + 18), .ref (q + 19), .ref (q + 20), .null, .null, .null, .int 0, .int 0, .int 0, .null, .int 0, .int 0, .int 0, .null, .int 0, .null]) (p := q + 20) (p' := q + 21) z34 (l0 (by decide)) rfl
  rw [← e35]
  clear e35
  refine x_aload_n dX12_init_215 rfl ?_
  refine x_iconst (v := 4) dX12_init_216 (by decide) ?_
  refine x_newi 4 rfl (by decide) ka_int (by decide) (by decide) dX12_init_217 ?_
  rw [z35]
  obtain ⟨h36, e36, z36, q36, a21, k36⟩ := mkN (q := q) (e := (.inl (0, 4, .inl fun _ => 0))) (p' := q + 22) z35 (l0 (by decide)) rfl q35
  rw [← e36]
  clear e36
  refine x_dup dX12_init_219 rfl ?_
  refine x_iconst (v := 0) dX12_init_220 (by decide) ?_
  refine x_iconst (v := -1) dX12_init_221 (by decide) ?_
  refine x_iast 0 a21 rfl (by decide) (by decide) dX12_init_222 ?_
  obtain ⟨h37, e37, z37, q37, b21, k37⟩ := mkI (q := q) (f' := va_up (fun _ => 0) 0 (-1)) z36 (l0 (by decide)) q36 a21
  rw [← e37]
  clear e37 a21
  have a21 := b21
  clear b21
  refine x_dup dX12_init_223 rfl ?_
  refine x_iconst (v := 1) dX12_init_224 (by decide) ?_
  refine x_iconst (v := -1) dX12_init_225 (by decide) ?_
  refine x_iast 1 a21 rfl (by decide) (by decide) dX12_init_226 ?_
  obtain ⟨h38, e38, z38, q38, b21, k38⟩ := mkI (q := q) (f' := va_up (va_up (fun _ => 0) 0 (-1)) 1 (-1)) z37 (l0 (by decide)) q37 a21
  rw [← e38]
  clear e38 a21
  have a21 := b21
  clear b21
  refine x_dup dX12_init_227 rfl ?_
  refine x_iconst (v := 2) dX12_init_228 (by decide) ?_
  refine x_iconst (v := -1) dX12_init_229 (by decide) ?_
  refine x_iast 2 a21 rfl (by decide) (by decide) dX12_init_230 ?_
  obtain ⟨h39, e39, z39, q39, b21, k39⟩ := mkI (q := q) (f' := va_up (va_up (va_up (fun _ => 0) 0 (-1)) 1 (-1)) 2 (-1)) z38 (l0 (by decide)) q38 a21
  rw [← e39]
  clear e39 a21
  have a21 := b21
  clear b21
  refine x_dup dX12_init_231 rfl ?_
  refine x_iconst (v := 3) dX12_init_232 (by decide) ?_
  refine x_iconst (v := -1) dX12_init_233 (by decide) ?_
  refine x_iast 3 a21 rfl (by decide) (by decide) dX12_init_234 ?_
  obtain ⟨h40, e40, z40, q40, b21, k40⟩ := mkI (q := q) (f' := va_up (va_up (va_up (va_up (fun _ => 0) 0 (-1)) 1 (-1)) 2 (-1)) 3 (-1)) z39 (l0 (by decide)) q39 a21
  rw [← e40]
  clear e40 a21
  have a21 := b21
  clear b21
  refine x_putF (fs' := [.int 0, .ref (q + 1), .int 0, .int 0, .ref (q + 2), .ref (q + 3), .ref (q + 4), .int 0, .ref (q + 5), .int 0, .int 1, .int 0, .ref (q + 6), .ref (q + 7), .int 0, .int 0, .int 0, .int 0, .long 0, .int 0, .int 0, .int 0, .int 0, .int 0, .int 0, .ref (q + 8), .ref (q + 9), .ref (q + 10), .ref (q + 11), .int 0, .long 0, .long 0, .ref (q + 12), .ref (q + 13), .ref (q + 14), .ref (q + 15), .ref (q + 16), .ref (q + 17), .int 0, .ref (q + 18), .ref (q + 19), .ref (q + 20), .ref (q + 21), .null, .null, .int 0, .int 0, .int 0, .null, .int 0, .int 0, .int 0, .null, .int 0, .null]) fX12_75 rfl q40 (Nat.le_of_ble_eq_true rfl) rfl rfl rfl dX12_init_235 ?_
  obtain ⟨h41, e41, z41, q41, k41⟩ := mkP (h := h40) (q := q) (ci := 12) (fs := [.int 0, .ref (q + 1), .int 0, .int 0, .ref (q + 2), .ref (q + 3), .ref (q + 4), .int 0, .ref (q + 5), .int 0, .int 1, .int 0, .ref (q + 6), .ref (q + 7), .int 0, .int 0, .int 0, .int 0, .long 0, .int 0, .int 0, .int 0, .int 0, .int 0, .int 0, .ref (q + 8), .ref (q + 9), .ref (q + 10), .ref (q + 11), .int 0, .long 0, .long 0, .ref (q + 12), .ref (q + 13), .ref (q + 14), .ref (q + 15), .ref (q + 16), .ref (q + 17), .int 0, .ref (q + 18), .ref (q + 19), .ref (q + 20), .ref (q + 21), .null, .null, .int 0, .int 0, .int 0, .null, .int 0, .int 0, .int 0, .null, .int 0, .null]) z40
  rw [← e41]
  clear e41
  refine x_aload_n dX12_init_238 rfl ?_
  refine x_iconst (v := 4) dX12_init_239 (by decide) ?_
  refine x_newi 4 rfl (by decide) ka_int (by decide) (by decide) dX12_init_240 ?_
  rw [z41]
  refine x_putF (fs' := [.int 0, .ref (q + 1), .int 0, .int 0, .ref (q + 2), .ref (q + 3), .ref (q + 4), .int 0, .ref (q + 5), .int 0, .int 1, .int 0, .ref (q + 6), .ref (q + 7), .int 0, .int 0, .int 0, .int 0, .long 0, .int 0, .int 0, .int 0, .int 0, .int 0, .int 0, .ref (q + 8), .ref (q + 9), .ref (q + 10), .ref (q + 11), .int 0, .long 0, .long 0, .ref (q + 12), .ref (q + 13), .ref (q + 14), .ref (q + 15), .ref (q + 16), .ref (q + 17), .int 0, .ref (q + 18), .ref (q + 19), .ref (q + 20), .ref (q + 21), .ref (q + 22), .null, .int 0, .int 0, .int 0, .null, .int 0, .int 0, .int 0, .null, .int 0, .null]) fX12_78 rfl ((hnew_n (nzq z41 (by decide))).trans q41) (Nat.le_of_ble_eq_true rfl) rfl rfl rfl dX12_init_242 ?_
  obtain ⟨h42, e42, z42, q42, a22, k42⟩ := mkA (h := h41) (q := q) (ci := 12) (e := (.inl (0, 4, .inl fun _ => 0))) (fs := [.int 0, .ref (q + 1), .int 0, .int 0, .ref (q + 2), .ref (q + 3), .ref (q + 4), .int 0, .ref (q + 5), .int 0, .int 1, .int 0, .ref (q + 6), .ref (q + 7), .int 0, .int 0, .int 0, .int 0, .long 0, .int 0, .int 0, .int 0, .int 0, .int 0, .int 0, .ref (q + 8), .ref (q + 9), .ref (q + 10), .ref (q + 11), .int 0, .long 0, .long 0, .ref (q + 12), .ref (q + 13), .ref (q + 14), .ref (q + 15), .ref (q + 16), .ref (q + 17), .int 0, .ref (q + 18), .ref (q + 19), .ref (q + 20), .ref (q + 21), .ref (q + 22), .null, .int 0, .int 0, .int 0, .null, .int 0, .int 0, .int 0, .null, .int 0, .null]) (p := q + 22) (p' := q + 23) z41 (l0 (by decide)) rfl
  rw [← e42]
  clear e42
  refine x_aload_n dX12_init_245 rfl ?_
  refine x_iconst (v := 4) dX12_init_246 (by decide) ?_
  refine x_newi 4 rfl (by decide) ka_int (by decide) (by decide) dX12_init_247 ?_
  rw [z42]
  refine x_putF (fs' := [.int 0, .ref (q + 1), .int 0, .int 0, .ref (q + 2), .ref (q + 3), .ref (q + 4), .int 0, .ref (q + 5), .int 0, .int 1, .int 0, .ref (q + 6), .ref (q + 7), .int 0, .int 0, .int 0, .int 0, .long 0, .int 0, .int 0, .int 0, .int 0, .int 0, .int 0, .ref (q + 8), .ref (q + 9), .ref (q + 10), .ref (q + 11), .int 0, .long 0, .long 0, .ref (q + 12), .ref (q + 13), .ref (q + 14), .ref (q + 15), .ref (q + 16), .ref (q + 17), .int 0, .ref (q + 18), .ref (q + 19), .ref (q + 20), .ref (q + 21), .ref (q + 22), .ref (q + 23), .int 0, .int 0, .int 0, .null, .int 0, .int 0, .int 0, .null, .int 0, .null]) fX12_81 rfl ((hnew_n (nzq z42 (by decide))).trans q42) (Nat.le_of_ble_eq_true rfl) rfl rfl rfl dX12_init_249 ?_
  obtain ⟨h43, e43, z43, q43, a23, k43⟩ := mkA (h := h42) (q := q) (ci := 12) (e := (.inl (0, 4, .inl fun _ => 0))) (fs := [.int 0, .ref (q + 1), .int 0, .int 0, .ref (q + 2), .ref (q + 3), .ref (q + 4), .int 0, .ref (q + 5), .int 0, .int 1, .int 0, .ref (q + 6), .ref (q + 7), .int 0, .int 0, .int 0, .int 0, .long 0, .int 0, .int 0, .int 0, .int 0, .int 0, .int 0, .ref (q + 8), .ref (q + 9), .ref (q + 10), .ref (q + 11), .int 0, .long 0, .long 0, .ref (q + 12), .ref (q + 13), .ref (q + 14), .ref (q + 15), .ref (q + 16), .ref (q + 17), .int 0, .ref (q + 18), .ref (q + 19), .ref (q + 20), .ref (q + 21), .ref (q + 22), .ref (q + 23), .int 0, .int 0, .int 0, .null, .int 0, .int 0, .int 0, .null, .int 0, .null]) (p := q + 23) (p' := q + 24) z42 (l0 (by decide)) rfl
  rw [← e43]
  clear e43
  refine x_aload_n dX12_init_252 rfl ?_
  refine x_bipush (v := 30) dX12_init_253 (by decide) ?_
  refine x_newi 30 rfl (by decide) ka_int (by decide) (by decide) dX12_init_255 ?_
  rw [z43]
  refine x_putF (fs' := [.int 0, .ref (q + 1), .int 0, .int 0, .ref (q + 2), .ref (q + 3), .ref (q + 4), .int 0, .ref (q + 5), .int 0, .int 1, .int 0, .ref (q + 6), .ref (q + 7), .int 0, .int 0, .int 0, .int 0, .long 0, .int 0, .int 0, .int 0, .int 0, .int 0, .int 0, .ref (q + 8), .ref (q + 9), .ref (q + 10), .ref (q + 11), .int 0, .long 0, .long 0, .ref (q + 12), .ref (q + 13), .ref (q + 14), .ref (q + 15), .ref (q + 16), .ref (q + 17), .int 0, .ref (q + 18), .ref (q + 19), .ref (q + 20), .ref (q + 21), .ref (q + 22), .ref (q + 23), .int 0, .int 0, .int 0, .ref (q + 24), .int 0, .int 0, .int 0, .null, .int 0, .null]) fX12_84 rfl ((hnew_n (nzq z43 (by decide))).trans q43) (Nat.le_of_ble_eq_true rfl) rfl rfl rfl dX12_init_257 ?_
  obtain ⟨h44, e44, z44, q44, a24, k44⟩ := mkA (h := h43) (q := q) (ci := 12) (e := (.inl (0, 30, .inl fun _ => 0))) (fs := [.int 0, .ref (q + 1), .int 0, .int 0, .ref (q + 2), .ref (q + 3), .ref (q + 4), .int 0, .ref (q + 5), .int 0, .int 1, .int 0, .ref (q + 6), .ref (q + 7), .int 0, .int 0, .int 0, .int 0, .long 0, .int 0, .int 0, .int 0, .int 0, .int 0, .int 0, .ref (q + 8), .ref (q + 9), .ref (q + 10), .ref (q + 11), .int 0, .long 0, .long 0, .ref (q + 12), .ref (q + 13), .ref (q + 14), .ref (q + 15), .ref (q + 16), .ref (q + 17), .int 0, .ref (q + 18), .ref (q + 19), .ref (q + 20), .ref (q + 21), .ref (q + 22), .ref (q + 23), .int 0, .int 0, .int 0, .ref (q + 24), .int 0, .int 0, .int 0, .null, .int 0, .null]) (p := q + 24) (p' := q + 25) z43 (l0 (by decide)) rfl
  rw [← e44]
  clear e44
  refine x_aload_n dX12_init_260 rfl ?_
  refine x_bipush (v := 80) dX12_init_261 (by decide) ?_
  refine x_newi 80 rfl (by decide) ka_int (by decide) (by decide) dX12_init_263 ?_
  rw [z44]
  refine x_putF (fs' := [.int 0, .ref (q + 1), .int 0, .int 0, .ref (q + 2), .ref (q + 3), .ref (q + 4), .int 0, .ref (q + 5), .int 0, .int 1, .int 0, .ref (q + 6), .ref (q + 7), .int 0, .int 0, .int 0, .int 0, .long 0, .int 0, .int 0, .int 0, .int 0, .int 0, .int 0, .ref (q + 8), .ref (q + 9), .ref (q + 10), .ref (q + 11), .int 0, .long 0, .long 0, .ref (q + 12), .ref (q + 13), .ref (q + 14), .ref (q + 15), .ref (q + 16), .ref (q + 17), .int 0, .ref (q + 18), .ref (q + 19), .ref (q + 20), .ref (q + 21), .ref (q + 22), .ref (q + 23), .int 0, .int 0, .int 0, .ref (q + 24), .int 0, .int 0, .int 0, .ref (q + 25), .int 0, .null]) fX12_87 rfl ((hnew_n (nzq z44 (by decide))).trans q44) (Nat.le_of_ble_eq_true rfl) rfl rfl rfl dX12_init_265 ?_
  obtain ⟨h45, e45, z45, q45, a25, k45⟩ := mkA (h := h44) (q := q) (ci := 12) (e := (.inl (0, 80, .inl fun _ => 0))) (fs := [.int 0, .ref (q + 1), .int 0, .int 0, .ref (q + 2), .ref (q + 3), .ref (q + 4), .int 0, .ref (q + 5), .int 0, .int 1, .int 0, .ref (q + 6), .ref (q + 7), .int 0, .int 0, .int 0, .int 0, .long 0, .int 0, .int 0, .int 0, .int 0, .int 0, .int 0, .ref (q + 8), .ref (q + 9), .ref (q + 10), .ref (q + 11), .int 0, .long 0, .long 0, .ref (q + 12), .ref (q + 13), .ref (q + 14), .ref (q + 15), .ref (q + 16), .ref (q + 17), .int 0, .ref (q + 18), .ref (q + 19), .ref (q + 20), .ref (q + 21), .ref (q + 22), .ref (q + 23), .int 0, .int 0, .int 0, .ref (q + 24), .int 0, .int 0, .int 0, .ref (q + 25), .int 0, .null]) (p := q + 25) (p' := q + 26) z44 (l0 (by decide)) rfl
  rw [← e45]
  clear e45
  refine x_aload_n dX12_init_268 rfl ?_
  refine x_bipush (v := 7) dX12_init_269 (by decide) ?_
  refine x_newi 7 rfl (by decide) ka_int (by decide) (by decide) dX12_init_271 ?_
  rw [z45]
  refine x_putF (fs' := [.int 0, .ref (q + 1), .int 0, .int 0, .ref (q + 2), .ref (q + 3), .ref (q + 4), .int 0, .ref (q + 5), .int 0, .int 1, .int 0, .ref (q + 6), .ref (q + 7), .int 0, .int 0, .int 0, .int 0, .long 0, .int 0, .int 0, .int 0, .int 0, .int 0, .int 0, .ref (q + 8), .ref (q + 9), .ref (q + 10), .ref (q + 11), .int 0, .long 0, .long 0, .ref (q + 12), .ref (q + 13), .ref (q + 14), .ref (q + 15), .ref (q + 16), .ref (q + 17), .int 0, .ref (q + 18), .ref (q + 19), .ref (q + 20), .ref (q + 21), .ref (q + 22), .ref (q + 23), .int 0, .int 0, .int 0, .ref (q + 24), .int 0, .int 0, .int 0, .ref (q + 25), .int 0, .ref (q + 26)]) fX12_90 rfl ((hnew_n (nzq z45 (by decide))).trans q45) (Nat.le_of_ble_eq_true rfl) rfl rfl rfl dX12_init_273 ?_
  obtain ⟨h46, e46, z46, q46, a26, k46⟩ := mkA (h := h45) (q := q) (ci := 12) (e := (.inl (0, 7, .inl fun _ => 0))) (fs := [.int 0, .ref (q + 1), .int 0, .int 0, .ref (q + 2), .ref (q + 3), .ref (q + 4), .int 0, .ref (q + 5), .int 0, .int 1, .int 0, .ref (q + 6), .ref (q + 7), .int 0, .int 0, .int 0, .int 0, .long 0, .int 0, .int 0, .int 0, .int 0, .int 0, .int 0, .ref (q + 8), .ref (q + 9), .ref (q + 10), .ref (q + 11), .int 0, .long 0, .long 0, .ref (q + 12), .ref (q + 13), .ref (q + 14), .ref (q + 15), .ref (q + 16), .ref (q + 17), .int 0, .ref (q + 18), .ref (q + 19), .ref (q + 20), .ref (q + 21), .ref (q + 22), .ref (q + 23), .int 0, .int 0, .int 0, .ref (q + 24), .int 0, .int 0, .int 0, .ref (q + 25), .int 0, .ref (q + 26)]) (p := q + 26) (p' := q + 27) z45 (l0 (by decide)) rfl
  rw [← e46]
  clear e46
  refine x_vret rfl dX12_init_276 ⟨by decide, by decide⟩ ?_
  have K46 : ∀ a, a ≠ q → a < q + 27 → h46.1 a = h46.1 a := fun _ _ _ => rfl
  have K45 : ∀ a, a ≠ q → a < q + 26 → h46.1 a = h45.1 a := fun a l1 l2 => (K46 a l1 (lk l2 (by decide))).trans (k46 a l1 l2)
  have K44 : ∀ a, a ≠ q → a < q + 25 → h46.1 a = h44.1 a := fun a l1 l2 => (K45 a l1 (lk l2 (by decide))).trans (k45 a l1 l2)
  have K43 : ∀ a, a ≠ q → a < q + 24 → h46.1 a = h43.1 a := fun a l1 l2 => (K44 a l1 (lk l2 (by decide))).trans (k44 a l1 l2)
  have K42 : ∀ a, a ≠ q → a < q + 23 → h46.1 a = h42.1 a := fun a l1 l2 => (K43 a l1 (lk l2 (by decide))).trans (k43 a l1 l2)
  have K41 : ∀ a, a ≠ q → a < q + 22 → h46.1 a = h41.1 a := fun a l1 l2 => (K42 a l1 (lk l2 (by decide))).trans (k42 a l1 l2)
  have K40 : ∀ a, a ≠ q → a < q + 22 → h46.1 a = h40.1 a := fun a l1 l2 => (K41 a l1 (lk l2 (by decide))).trans (k41 a l1 l2)
  have K39 : ∀ a, a ≠ q → a < q + 21 → h46.1 a = h39.1 a := fun a l1 l2 => (K40 a l1 (lk l2 (by decide))).trans (k40 a l1 l2)
  have K38 : ∀ a, a ≠ q → a < q + 21 → h46.1 a = h38.1 a := fun a l1 l2 => (K39 a l1 (lk l2 (by decide))).trans (k39 a l1 l2)
  have K37 : ∀ a, a ≠ q → a < q + 21 → h46.1 a = h37.1 a := fun a l1 l2 => (K38 a l1 (lk l2 (by decide))).trans (k38 a l1 l2)
  have K36 : ∀ a, a ≠ q → a < q + 21 → h46.1 a = h36.1 a := fun a l1 l2 => (K37 a l1 (lk l2 (by decide))).trans (k37 a l1 l2)
  have K35 : ∀ a, a ≠ q → a < q + 21 → h46.1 a = h35.1 a := fun a l1 l2 => (K36 a l1 (lk l2 (by decide))).trans (k36 a l1 l2)
  have K34 : ∀ a, a ≠ q → a < q + 20 → h46.1 a = h34.1 a := fun a l1 l2 => (K35 a l1 (lk l2 (by decide))).trans (k35 a l1 l2)
  have K33 : ∀ a, a ≠ q → a < q + 19 → h46.1 a = h33.1 a := fun a l1 l2 => (K34 a l1 (lk l2 (by decide))).trans (k34 a l1 l2)
  have K32 : ∀ a, a ≠ q → a < q + 19 → h46.1 a = h32.1 a := fun a l1 l2 => (K33 a l1 (lk l2 (by decide))).trans (k33 a l1 l2)
  have K31 : ∀ a, a ≠ q → a < q + 18 → h46.1 a = h31.1 a := fun a l1 l2 => (K32 a l1 (lk l2 (by decide))).trans (k32 a l1 l2)
  have K30 : ∀ a, a ≠ q → a < q + 18 → h46.1 a = h30.1 a := fun a l1 l2 => (K31 a l1 (lk l2 (by decide))).trans (k31 a l1 l2)
  have K29 : ∀ a, a ≠ q → a < q + 18 → h46.1 a = h29.1 a := fun a l1 l2 => (K30 a l1 (lk l2 (by decide))).trans (k30 a l1 l2)
  have K28 : ∀ a, a ≠ q → a < q + 18 → h46.1 a = h28.1 a := fun a l1 l2 => (K29 a l1 (lk l2 (by decide))).trans (k29 a l1 l2)
  have K27 : ∀ a, a ≠ q → a < q + 18 → h46.1 a = h27.1 a := fun a l1 l2 => (K28 a l1 (lk l2 (by decide))).trans (k28 a l1 l2)
  have K26 : ∀ a, a ≠ q → a < q + 17 → h46.1 a = h26.1 a := fun a l1 l2 => (K27 a l1 (lk l2 (by decide))).trans (k27 a l1 l2)
  have K25 : ∀ a, a ≠ q → a < q + 16 → h46.1 a = h25.1 a := fun a l1 l2 => (K26 a l1 (lk l2 (by decide))).trans (k26 a l1 l2)
  have K24 : ∀ a, a ≠ q → a < q + 15 → h46.1 a = h24.1 a := fun a l1 l2 => (K25 a l1 (lk l2 (by decide))).trans (k25 a l1 l2)
  have K23 : ∀ a, a ≠ q → a < q + 14 → h46.1 a = h23.1 a := fun a l1 l2 => (K24 a l1 (lk l2 (by decide))).trans (k24 a l1 l2)
  have K22 : ∀ a, a ≠ q → a < q + 13 → h46.1 a = h22.1 a := fun a l1 l2 => (K23 a l1 (lk l2 (by decide))).trans (k23 a l1 l2)
  have K21 : ∀ a, a ≠ q → a < q + 12 → h46.1 a = h21.1 a := fun a l1 l2 => (K22 a l1 (lk l2 (by decide))).trans (k22 a l1 l2)
  have K20 : ∀ a, a ≠ q → a < q + 11 → h46.1 a = h20.1 a := fun a l1 l2 => (K21 a l1 (lk l2 (by decide))).trans (k21 a l1 l2)
  have K19 : ∀ a, a ≠ q → a < q + 10 → h46.1 a = h19.1 a := fun a l1 l2 => (K20 a l1 (lk l2 (by decide))).trans (k20 a l1 l2)
  have K18 : ∀ a, a ≠ q → a < q + 9 → h46.1 a = h18.1 a := fun a l1 l2 => (K19 a l1 (lk l2 (by decide))).trans (k19 a l1 l2)
  have K17 : ∀ a, a ≠ q → a < q + 8 → h46.1 a = h17.1 a := fun a l1 l2 => (K18 a l1 (lk l2 (by decide))).trans (k18 a l1 l2)
  have K16 : ∀ a, a ≠ q → a < q + 7 → h46.1 a = h16.1 a := fun a l1 l2 => (K17 a l1 (lk l2 (by decide))).trans (k17 a l1 l2)
  have K15 : ∀ a, a ≠ q → a < q + 6 → h46.1 a = h15.1 a := fun a l1 l2 => (K16 a l1 (lk l2 (by decide))).trans (k16 a l1 l2)
  have K14 : ∀ a, a ≠ q → a < q + 6 → h46.1 a = h14.1 a := fun a l1 l2 => (K15 a l1 (lk l2 (by decide))).trans (k15 a l1 l2)
  have K13 : ∀ a, a ≠ q → a < q + 6 → h46.1 a = h13.1 a := fun a l1 l2 => (K14 a l1 (lk l2 (by decide))).trans (k14 a l1 l2)
  have K12 : ∀ a, a ≠ q → a < q + 5 → h46.1 a = h12.1 a := fun a l1 l2 => (K13 a l1 (lk l2 (by decide))).trans (k13 a l1 l2)
  have K11 : ∀ a, a ≠ q → a < q + 5 → h46.1 a = h11.1 a := fun a l1 l2 => (K12 a l1 (lk l2 (by decide))).trans (k12 a l1 l2)
  have K10 : ∀ a, a ≠ q → a < q + 5 → h46.1 a = h10.1 a := fun a l1 l2 => (K11 a l1 (lk l2 (by decide))).trans (k11 a l1 l2)
  have K9 : ∀ a, a ≠ q → a < q + 5 → h46.1 a = h9.1 a := fun a l1 l2 => (K10 a l1 (lk l2 (by decide))).trans (k10 a l1 l2)
  have K8 : ∀ a, a ≠ q → a < q + 5 → h46.1 a = h8.1 a := fun a l1 l2 => (K9 a l1 (lk l2 (by decide))).trans (k9 a l1 l2)
  have K7 : ∀ a, a ≠ q → a < q + 5 → h46.1 a = h7.1 a := fun a l1 l2 => (K8 a l1 (lk l2 (by decide))).trans (k8 a l1 l2)
  have K6 : ∀ a, a ≠ q → a < q + 5 → h46.1 a = h6.1 a := fun a l1 l2 => (K7 a l1 (lk l2 (by decide))).trans (k7 a l1 l2)
  have K5 : ∀ a, a ≠ q → a < q + 5 → h46.1 a = h5.1 a := fun a l1 l2 => (K6 a l1 (lk l2 (by decide))).trans (k6 a l1 l2)
  have K4 : ∀ a, a ≠ q → a < q + 5 → h46.1 a = h4.1 a := fun a l1 l2 => (K5 a l1 (lk l2 (by decide))).trans (k5 a l1 l2)
  have K3 : ∀ a, a ≠ q → a < q + 4 → h46.1 a = h3.1 a := fun a l1 l2 => (K4 a l1 (lk l2 (by decide))).trans (k4 a l1 l2)
  have K2 : ∀ a, a ≠ q → a < q + 3 → h46.1 a = h2.1 a := fun a l1 l2 => (K3 a l1 (lk l2 (by decide))).trans (k3 a l1 l2)
  have K1 : ∀ a, a ≠ q → a < q + 2 → h46.1 a = h1.1 a := fun a l1 l2 => (K2 a l1 (lk l2 (by decide))).trans (k2 a l1 l2)
  have K0 : ∀ a, a ≠ q → a < q + 1 → h46.1 a = h0.1 a := fun a l1 l2 => (K1 a l1 (lk l2 (by decide))).trans (k1 a l1 l2)
  refine ⟨rfl, z46, ⟨Nat.le_of_eq z46.symm, fun _ => 0, fun _ => 0, fun i => if i = 4 then va_up (va_up (va_up (va_up (va_up (va_up (va_up (va_up (fun _ => 0) 0 (1)) 1 (1)) 2 (1)) 3 (1)) 4 (1)) 5 (1)) 6 (1)) 7 (1) else if i = 17 then va_up (va_up (va_up (va_up (fun _ => 0) 0 (-1)) 1 (-1)) 2 (-1)) 3 (-1) else if i = 20 then va_up (va_up (va_up (va_up (fun _ => 0) 0 (-1)) 1 (-1)) 2 (-1)) 3 (-1) else fun _ => 0, fun _ _ => 0, ⟨q46, ?_⟩, ⟨V0_ok, fun f p _ hp => absurd hp (Nat.not_lt_zero p), fun u hu => absurd hu (Nat.not_lt_zero u), ?_, fun r hr => absurd hr (Nat.not_lt_zero r)⟩, ⟨⟨Nat.zero_le _, rfl⟩, fun z => absurd z (by decide)⟩, ⟨Nat.zero_le _, rfl, fun i z => absurd z (Nat.not_lt_zero i)⟩, ⟨Nat.zero_le _, rfl, fun i z => absurd z (Nat.not_lt_zero i)⟩, fun i hi => ⟨Nat.zero_le _, ?_, fun z => absurd z (Nat.lt_irrefl 0)⟩, fun i hi => .inl ⟨rfl, ?_⟩, ⟨Nat.zero_le _, rfl, fun i z => absurd z (Nat.not_lt_zero i)⟩⟩, fun a l => K0 a (lo1 l) (lo2 l)⟩
  · intro i hi
    match i, hi with
    | 0, _ => exact (K1 _ (nk (by decide)) (lk2 (by decide))).trans a1
    | 1, _ => exact (K2 _ (nk (by decide)) (lk2 (by decide))).trans a2
    | 2, _ => exact (K3 _ (nk (by decide)) (lk2 (by decide))).trans a3
    | 3, _ => exact (K4 _ (nk (by decide)) (lk2 (by decide))).trans a4
    | 4, _ => exact (K13 _ (nk (by decide)) (lk2 (by decide))).trans a5
    | 5, _ => exact (K16 _ (nk (by decide)) (lk2 (by decide))).trans a6
    | 6, _ => exact (K17 _ (nk (by decide)) (lk2 (by decide))).trans a7
    | 7, _ => exact (K18 _ (nk (by decide)) (lk2 (by decide))).trans a8
    | 8, _ => exact (K19 _ (nk (by decide)) (lk2 (by decide))).trans a9
    | 9, _ => exact (K20 _ (nk (by decide)) (lk2 (by decide))).trans a10
    | 10, _ => exact (K21 _ (nk (by decide)) (lk2 (by decide))).trans a11
    | 11, _ => exact (K22 _ (nk (by decide)) (lk2 (by decide))).trans a12
    | 12, _ => exact (K23 _ (nk (by decide)) (lk2 (by decide))).trans a13
    | 13, _ => exact (K24 _ (nk (by decide)) (lk2 (by decide))).trans a14
    | 14, _ => exact (K25 _ (nk (by decide)) (lk2 (by decide))).trans a15
    | 15, _ => exact (K26 _ (nk (by decide)) (lk2 (by decide))).trans a16
    | 16, _ => exact (K27 _ (nk (by decide)) (lk2 (by decide))).trans a17
    | 17, _ => exact (K32 _ (nk (by decide)) (lk2 (by decide))).trans a18
    | 18, _ => exact (K34 _ (nk (by decide)) (lk2 (by decide))).trans a19
    | 19, _ => exact (K35 _ (nk (by decide)) (lk2 (by decide))).trans a20
    | 20, _ => exact (K40 _ (nk (by decide)) (lk2 (by decide))).trans a21
    | 21, _ => exact (K42 _ (nk (by decide)) (lk2 (by decide))).trans a22
    | 22, _ => exact (K43 _ (nk (by decide)) (lk2 (by decide))).trans a23
    | 23, _ => exact (K44 _ (nk (by decide)) (lk2 (by decide))).trans a24
    | 24, _ => exact (K45 _ (nk (by decide)) (lk2 (by decide))).trans a25
    | 25, _ => exact a26
    | i + 26, hi => exact absurd hi (by omega)
  · have key : ∀ c, c < 8 → (va_up (va_up (va_up (va_up (va_up (va_up (va_up (va_up (fun _ => 0) 0 (1)) 1 (1)) 2 (1)) 3 (1)) 4 (1)) 5 (1)) 6 (1)) 7 (1) : Nat → Int32) c = nI (if (7 : Nat) = 7 then 1 else 0) := by decide
    exact key
  · have key : ∀ c, c < 4 → (va_up (va_up (va_up (va_up (fun _ => 0) 0 (-1)) 1 (-1)) 2 (-1)) 3 (-1) : Nat → Int32) c = -1 := by decide
    exact key i hi
  · have key : ∀ c, c < 4 → (va_up (va_up (va_up (va_up (fun _ => 0) 0 (-1)) 1 (-1)) 2 (-1)) 3 (-1) : Nat → Int32) c = -1 := by decide
    exact key i hi
theorem gd12 : gdef 12 [.int 0, .null, .int 0, .int 0, .null, .null, .null, .int 0, .null, .int 0, .int 0, .int 0, .null, .null, .int 0, .int 0, .int 0, .int 0, .long 0, .int 0, .int 0, .int 0, .int 0, .int 0, .int 0, .null, .null, .null, .null, .int 0, .long 0, .long 0, .null, .null, .null, .null, .null, .null, .int 0, .null, .null, .null, .null, .null, .null, .int 0, .int 0, .int 0, .null, .int 0, .int 0, .int 0, .null, .int 0, .null] := gd_of (ty := tyX12) rfl tyX12_ok (by decide)
