/-! fields, arrays, new cells -/
def gFd (own : String) (idx ci kf : Nat) (fin : Bool) (ty : FieldType) : Prop := ∃ (C : String) (T : u_T) (N : Nat) (ref : String) (ty0 : Nat → FieldType), vwCl[ci]? = some (C, T, N) ∧ kf < N ∧ (∀ w ∈ u_ws C T N, w ∈ gT) ∧ Cond.fieldLink own idx ref (T kf).2.1 (T kf).2.2.1 ∈ gT ∧ (ref = (T kf).1 ∨ Cond.sameField ref (T kf).1 (T kf).2.1 (T kf).2.2.1 ∈ gT) ∧ (∀ j, j < N → parseFieldDescriptor (T j).2.2.1 = some (ty0 j)) ∧ (∀ a, a < N → ∀ b, b < N → a ≠ b → (T a).2.1 ≠ (T b).2.1) ∧ (T kf).2.2.2 = fin ∧ parseFieldDescriptor (T kf).2.2.1 = some ty ∧ (fin = true → (T kf).1 = own)
theorem gRl.P1 {g : gG} {h : gH} {H : Heap} (r : gRl g h H) {a : Nat} {e : va_E} (ha : h.1 a = some e) : va_P g.2.1 vwCl [(a, gtr g e)] H := by
  intro j q hj
  match j, hj with
  | 0, hj => cases hj; exact (r.1 a e ha).2
  | j + 1, hj => simp at hj
section XH
variable {g : gG} {M : gM} {Z : gZt} {pc : Nat} {L : List (Option Value)} {st rest : List Value} {h : gH} {k n : Nat}
theorem gsame {args : Array Value} {s : State} (hts : ∀ w ∈ gT, w.before args s = true) {ref o f d : String} (h : ref = o ∨ Cond.sameField ref o f d ∈ gT) : ∀ x, s.fieldFound? o f d = some x → s.fieldFound? ref f d = some x := by
  intro x hx
  rcases h with h | h
  · rw [h]; exact hx
  · exact u_same (hts _ h) x hx
theorem x_get {a ci kf idx : Nat} {fin : Bool} {ty : FieldType} {fs : List Value} {v : Value} (F : gFd M.1.cls idx ci kf fin ty) (ha : h.1 a = some (.inr (ci, fs))) (hv : fs[kf]? = some v) (d : decode M.2.1 pc = .ok (.getfield idx, 3)) (kk : Ex g M Z (pc + 3) L (v :: st) h k n) : Ex g M Z pc L (.ref a :: st) h k n := by
  intro p e s m args below meth c H locs ls C R Fr Lh
  obtain ⟨Cn, T, N, ref, ty0, hc, hk, hin, hl, hs, -⟩ := F
  obtain ⟨hx, hb, hml, hrt, hown, hts, hlk, hnm, hsc⟩ := id C
  exact va_get hx hb hts hin hown hsc.1 (R.P1 ha) 0 (fs := fs) rfl hc kf hk (hts _ hl) (gsame hts hs) hv d (kk p e s m args below meth c H locs ls C R Fr Lh)
theorem x_put {a ci kf idx : Nat} {ty : FieldType} {fs fs' : List Value} {v : Value} (F : gFd M.1.cls idx ci kf false ty) (ha : h.1 a = some (.inr (ci, fs))) (hl : kf < fs.length) (hn : narrow ty v = v) (hf : fits ty v = true) (hfs : fs.set kf v = fs') (d : decode M.2.1 pc = .ok (.putfield idx, 3)) (kk : Ex g M Z (pc + 3) L st (hset h a (.inr (ci, fs'))) k n) : Ex g M Z pc L (v :: .ref a :: st) h k n := by
  intro p e s m args below meth c H locs ls C R Fr Lh
  subst hfs
  obtain ⟨Cn, T, N, ref, ty0, hc, hk, hin, hlk, hs, hty, hnm, hfin, hd, -⟩ := F
  obtain ⟨hx, hb, hml, hrt, hown, hts, hlc, hname, hsc⟩ := id C
  have hK := hsc.1
  have hap := va_apart (own := M.1.cls) hts hin ty0 hty hnm hK hc
  obtain ⟨r, h1, cell, q1, q2, q3, q4⟩ := (R.1 a _ ha).2
  have hr : r = (Cn, T, N) := Option.some.inj (h1.symm.trans hc)
  subst hr
  obtain ⟨hS, hfc, kC, hkC, hkind⟩ := hK.1 ci _ hc
  obtain ⟨cf, kf', fi, f, hi, hsl⟩ := hS kf hk
  have hlay := hts _ (hin _ (u_in_lay hk))
  unfold u_lay at hlay
  rw [if_neg (by rw [hfin]; decide)] at hlay
  have hst := (u_facts hfc hkC (u_lays hts hin hk) hi).1
  have h6 := u_store hfc hkC hkind hlay hi hd hn hf
  refine W.putK hx hb (f := f) ⟨hown, hts _ hlk, ⟨_, _, _, gsame hts hs _ hi⟩, hst⟩ (by rw [q2]; exact h6) q1 q3 (by rw [hsl]; exact k2_hasslot (q4 kf hk)) rfl rfl d fun H' e1 e2 e3 => ?_
  rw [hsl] at e1 ⊢
  refine kk p e s m args below meth c H' _ ls C (R.set ha e2 e3 ⟨_, hc, t_OB.to (V := updV (vp_V fs) kf v) ⟨_, e1, q2, q3, t_set q4 hap hk v⟩ (fun j _ => vp_updV_set hl v j)⟩) (fun q hq => ?_) Lh
  rcases List.mem_append.mp hq with hq | hq
  · exact Fr q hq
  · rw [List.mem_singleton.mp hq]; exact (R.1 a _ ha).1
theorem x_putF {a ci kf idx : Nat} {ty : FieldType} {fs fs' : List Value} {v : Value} (F : gFd M.1.cls idx ci kf true ty) (hini : M.1.name = "<init>") (ha : h.1 a = some (.inr (ci, fs))) (hl : kf < fs.length) (hn : narrow ty v = v) (hf : fits ty v = true) (hfs : fs.set kf v = fs') (d : decode M.2.1 pc = .ok (.putfield idx, 3)) (kk : Ex g M Z (pc + 3) L st (hset h a (.inr (ci, fs'))) k n) : Ex g M Z pc L (v :: .ref a :: st) h k n := by
  intro p e s m args below meth c H locs ls C R Fr Lh
  subst hfs
  obtain ⟨Cn, T, N, ref, ty0, hc, hk, hin, hlk, hs, hty, hnm, hfin, hd, hdecl⟩ := F
  obtain ⟨hx, hb, hml, hrt, hown, hts, hlc, hname, hsc⟩ := id C
  have hdecl := hdecl rfl
  have hK := hsc.1
  have hap := va_apart (own := M.1.cls) hts hin ty0 hty hnm hK hc
  obtain ⟨r, h1, cell, q1, q2, q3, q4⟩ := (R.1 a _ ha).2
  have hr : r = (Cn, T, N) := Option.some.inj (h1.symm.trans hc)
  subst hr
  obtain ⟨hS, hfc, kC, hkC, hkind⟩ := hK.1 ci _ hc
  obtain ⟨cf, kf', fi, f, hi, hsl⟩ := hS kf hk
  have hlay := hts _ (hin _ (u_in_lay hk))
  unfold u_lay at hlay
  rw [if_pos hfin] at hlay
  have hst := (u_facts hfc hkC (u_lays hts hin hk) hi).1
  have hcf : m.cls = cf := by
    obtain ⟨_, _, c', _, _, _, -, -, hf', -, -, -, hown2, -⟩ := Cond.laysFinal_spec hlay
    have e1 : c' = cf := by have := hi.symm.trans hf'; simp at this; exact this.1.symm
    rw [hdecl] at hown2
    rw [← e1]; exact Option.some.inj (hown.symm.trans hown2)
  have h6 := u_fits hfc hkC hkind (Or.inr hlay) hi hd hn hf
  refine W.putFinK hx hb hown (hts _ hlk) (gsame hts hs _ hi) hst hcf (hname.trans hini) (by rw [q2]; exact h6) q1 q3 (by rw [hsl]; exact k2_hasslot (q4 kf hk)) rfl rfl d fun H' e1 e2 e3 => ?_
  rw [hsl] at e1 ⊢
  refine kk p e s m args below meth c H' _ ls C (R.set ha e2 e3 ⟨_, hc, t_OB.to (V := updV (vp_V fs) kf v) ⟨_, e1, q2, q3, t_set q4 hap hk v⟩ (fun j _ => vp_updV_set hl v j)⟩) (fun q hq => ?_) Lh
  rcases List.mem_append.mp hq with hq | hq
  · exact Fr q hq
  · rw [List.mem_singleton.mp hq]; exact (R.1 a _ ha).1
/-! arrays -/
theorem x_iald {a N : Nat} {f : Nat → Int32} {i : Int32} (j : Nat) (ha : h.1 a = some (.inl (0, N, .inl f))) (hi : i = nI j) (hj : j < N) (hN : N < 2 ^ 31) (d : decode M.2.1 pc = .ok (.iaload, 1)) (kk : Ex g M Z (pc + 1) L (.int (f j) :: st) h k n) : Ex g M Z pc L (.int i :: .ref a :: st) h k n := by
  intro p e s m args below meth c H locs ls C R Fr Lh
  subst hi
  refine va_iald C.1 C.2.1 C.2.2.2.2.2.2.2.2.1 (R.P1 ha) 0 0 rfl rfl (vp_in_nI hj hN) d ?_
  rw [nI_clamp (Nat.lt_trans hj hN)]
  exact kk p e s m args below meth c H locs ls C R Fr Lh
theorem x_lald {a N : Nat} {f : Nat → Int64} {i : Int32} (j : Nat) (ha : h.1 a = some (.inl (1, N, .inr (.inl f)))) (hi : i = nI j) (hj : j < N) (hN : N < 2 ^ 31) (d : decode M.2.1 pc = .ok (.laload, 1)) (kk : Ex g M Z (pc + 1) L (.long (f j) :: st) h k n) : Ex g M Z pc L (.int i :: .ref a :: st) h k n := by
  intro p e s m args below meth c H locs ls C R Fr Lh
  subst hi
  refine va_lald C.1 C.2.1 C.2.2.2.2.2.2.2.2.1 (R.P1 ha) 0 1 rfl rfl (vp_in_nI hj hN) d ?_
  rw [nI_clamp (Nat.lt_trans hj hN)]
  exact kk p e s m args below meth c H locs ls C R Fr Lh
theorem x_bald {a N : Nat} {f : Nat → Int32} {i : Int32} (j : Nat) (ha : h.1 a = some (.inl (2, N, .inl f))) (hi : i = nI j) (hj : j < N) (hN : N < 2 ^ 31) (d : decode M.2.1 pc = .ok (.baload, 1)) (kk : Ex g M Z (pc + 1) L (.int (f j) :: st) h k n) : Ex g M Z pc L (.int i :: .ref a :: st) h k n := by
  intro p e s m args below meth c H locs ls C R Fr Lh
  subst hi
  refine va_bald C.1 C.2.1 C.2.2.2.2.2.2.2.2.1 (R.P1 ha) 0 2 rfl rfl (vp_in_nI hj hN) d ?_
  rw [nI_clamp (Nat.lt_trans hj hN)]
  exact kk p e s m args below meth c H locs ls C R Fr Lh
theorem x_aald {a N : Nat} {f : Nat → Option Nat} {i : Int32} (j : Nat) (ha : h.1 a = some (.inl (3, N, .inr (.inr (.inr (.inr f)))))) (hi : i = nI j) (hj : j < N) (hN : N < 2 ^ 31) (d : decode M.2.1 pc = .ok (.aaload, 1)) (kk : Ex g M Z (pc + 1) L (va_rf (f j) :: st) h k n) : Ex g M Z pc L (.int i :: .ref a :: st) h k n := by
  intro p e s m args below meth c H locs ls C R Fr Lh
  subst hi
  refine va_aldq C.1 C.2.1 C.2.2.2.2.2.2.2.2.1 (R.P1 ha) 0 3 rfl rfl (vp_in_nI hj hN) d ?_
  rw [nI_clamp (Nat.lt_trans hj hN)]
  exact kk p e s m args below meth c H locs ls C R Fr Lh
theorem x_alen {a q : Nat} {x : vp_A} (hq : q < 4) (ha : h.1 a = some (.inl (q, x))) (d : decode M.2.1 pc = .ok (.arraylength, 1)) (kk : Ex g M Z (pc + 1) L (.int (nI x.1) :: st) h k n) : Ex g M Z pc L (.ref a :: st) h k n := by
  intro p e s m args below meth c H locs ls C R Fr Lh
  have hh := kk p e s m args below meth c H locs ls C R Fr Lh
  match q, hq, ha with
  | 0, _, ha => exact va_alen C.1 C.2.1 C.2.2.2.2.2.2.2.2.1 (R.P1 ha) 0 0 rfl rfl (v := nI x.1) rfl d hh
  | 1, _, ha => exact va_alen C.1 C.2.1 C.2.2.2.2.2.2.2.2.1 (R.P1 ha) 0 1 rfl rfl (v := nI x.1) rfl d hh
  | 2, _, ha => exact va_alen C.1 C.2.1 C.2.2.2.2.2.2.2.2.1 (R.P1 ha) 0 2 rfl rfl (v := nI x.1) rfl d hh
  | 3, _, ha => exact va_alen C.1 C.2.1 C.2.2.2.2.2.2.2.2.1 (R.P1 ha) 0 3 rfl rfl (v := nI x.1) rfl d hh
theorem gFr {g : gG} {h : gH} {H : Heap} {locs : List Loc} (R : gRl g h H) (Fr : ∀ q ∈ locs, gS g ≤ q.base) {a i : Nat} {e : va_E} (ha : h.1 a = some e) : ∀ q ∈ locs ++ [(⟨a, i⟩ : Loc)], gS g ≤ q.base := by
  intro q hq
  rcases List.mem_append.mp hq with hq | hq
  · exact Fr q hq
  · rw [List.mem_singleton.mp hq]; exact (R.1 a _ ha).1
theorem x_iast {a N : Nat} {f : Nat → Int32} {i x : Int32} (j : Nat) (ha : h.1 a = some (.inl (0, N, .inl f))) (hi : i = nI j) (hj : j < N) (hN : N < 2 ^ 31) (d : decode M.2.1 pc = .ok (.iastore, 1)) (kk : Ex g M Z (pc + 1) L st (hset h a (.inl (0, N, .inl (va_up f j x)))) k n) : Ex g M Z pc L (.int x :: .int i :: .ref a :: st) h k n := by
  intro p e s m args below meth c H locs ls C R Fr Lh
  subst hi
  have hcl : (nI j).toNatClampNeg = j := nI_clamp (Nat.lt_trans hj hN)
  refine W.iast C.1 C.2.1 (R.1 a _ ha).2 ((C.2.2.2.2.2.2.2.2.1.2 0 _ rfl).1 N (fun j => .int (f j))) (fun q => by cases q) (by show ¬ (nI j < 0 ∨ (arrV _ _ _).slots.size ≤ _); rw [arrV_size]; exact vp_in_nI hj hN) rfl rfl d fun H1 e1 z oq => ?_
  refine kk p e s m args below meth c H1 _ ls C (R.set ha z oq ?_) (gFr R Fr ha) Lh
  show H1[a]? = some (vp_cell _ _)
  rw [e1]
  show some ((vp_cell _ (N, .inl f)).setSlot _ _) = some (vp_cell _ (N, .inl (va_up f j x)))
  rw [vp_cell_i, vp_cell_i, arrV_store, hcl]
  congr 2
  funext q
  by_cases hq : q = j
  · subst hq; simp [updV, va_up]
  · simp [updV, va_up, hq]
theorem x_last {a N : Nat} {f : Nat → Int64} {i : Int32} {x : Int64} (j : Nat) (ha : h.1 a = some (.inl (1, N, .inr (.inl f)))) (hi : i = nI j) (hj : j < N) (hN : N < 2 ^ 31) (d : decode M.2.1 pc = .ok (.lastore, 1)) (kk : Ex g M Z (pc + 1) L st (hset h a (.inl (1, N, .inr (.inl (va_up f j x))))) k n) : Ex g M Z pc L (.long x :: .int i :: .ref a :: st) h k n := by
  intro p e s m args below meth c H locs ls C R Fr Lh
  subst hi
  have hcl : (nI j).toNatClampNeg = j := nI_clamp (Nat.lt_trans hj hN)
  refine W.last C.1 C.2.1 (R.1 a _ ha).2 ((C.2.2.2.2.2.2.2.2.1.2 1 _ rfl).1 N (fun j => .long (f j))) (fun q => by cases q) (by show ¬ (nI j < 0 ∨ (arrV _ _ _).slots.size ≤ _); rw [arrV_size]; exact vp_in_nI hj hN) rfl rfl d fun H1 e1 z oq => ?_
  refine kk p e s m args below meth c H1 _ ls C (R.set ha z oq ?_) (gFr R Fr ha) Lh
  show H1[a]? = some (vp_cell _ _)
  rw [e1]
  show some ((vp_cell _ (N, .inr (.inl f))).setSlot _ _) = some (vp_cell _ (N, .inr (.inl (va_up f j x))))
  rw [vp_cell_l, vp_cell_l, arrV_store, hcl]
  congr 2
  funext q
  by_cases hq : q = j
  · subst hq; simp [updV, va_up]
  · simp [updV, va_up, hq]
theorem x_bast {a N : Nat} {f : Nat → Int32} {i x : Int32} (j : Nat) (ha : h.1 a = some (.inl (2, N, .inl f))) (hi : i = nI j) (hj : j < N) (hN : N < 2 ^ 31) (d : decode M.2.1 pc = .ok (.bastore, 1)) (kk : Ex g M Z (pc + 1) L st (hset h a (.inl (2, N, .inl (va_up f j x.toInt8.toInt32)))) k n) : Ex g M Z pc L (.int x :: .int i :: .ref a :: st) h k n := by
  intro p e s m args below meth c H locs ls C R Fr Lh
  subst hi
  have hcl : (nI j).toNatClampNeg = j := nI_clamp (Nat.lt_trans hj hN)
  refine W.bast C.1 C.2.1 (R.1 a _ ha).2 ((C.2.2.2.2.2.2.2.2.1.2 2 _ rfl).1 N (fun j => .int (f j))) (fun q => by cases q) (by show ¬ (nI j < 0 ∨ (arrV _ _ _).slots.size ≤ _); rw [arrV_size]; exact vp_in_nI hj hN) rfl rfl d fun H1 e1 z oq => ?_
  refine kk p e s m args below meth c H1 _ ls C (R.set ha z oq ?_) (gFr R Fr ha) Lh
  show H1[a]? = some (vp_cell _ _)
  rw [e1]
  show some ((vp_cell _ (N, .inl f)).setSlot _ _) = some (vp_cell _ (N, .inl (va_up f j x.toInt8.toInt32)))
  rw [vp_cell_i, vp_cell_i, arrV_store, hcl]
  congr 2
  funext q
  by_cases hq : q = j
  · subst hq; simp [updV, va_up, narrow]
  · simp [updV, va_up, hq]
theorem x_aastN {a N : Nat} {f : Nat → Option Nat} {i : Int32} (j : Nat) (ha : h.1 a = some (.inl (3, N, .inr (.inr (.inr (.inr f)))))) (hi : i = nI j) (hj : j < N) (hN : N < 2 ^ 31) (d : decode M.2.1 pc = .ok (.aastore, 1)) (kk : Ex g M Z (pc + 1) L st (hset h a (.inl (3, N, .inr (.inr (.inr (.inr (va_up f j none))))))) k n) : Ex g M Z pc L (.null :: .int i :: .ref a :: st) h k n := by
  intro p e s m args below meth c H locs ls C R Fr Lh
  subst hi
  have hcl : (nI j).toNatClampNeg = j := nI_clamp (Nat.lt_trans hj hN)
  refine va_WaastN (C := "HeldPaths$Strip") C.1 C.2.1 (R.1 a _ ha).2 ((C.2.2.2.2.2.2.2.2.1.2 3 _ rfl).1 N (fun j => va_rf (f j))) (fun h => by cases h) (by show ¬ (nI j < 0 ∨ (arrV _ _ _).slots.size ≤ _); rw [arrV_size]; exact vp_in_nI hj hN) rfl rfl d fun H1 e1 z oq => ?_
  refine kk p e s m args below meth c H1 _ ls C (R.set ha z oq ?_) (gFr R Fr ha) Lh
  show H1[a]? = some (vp_cell _ _)
  rw [e1]
  show some ((vp_cell _ (N, .inr (.inr (.inr (.inr f))))).setSlot _ _) = some (vp_cell _ (N, .inr (.inr (.inr (.inr (va_up f j none))))))
  rw [vp_cell_q, vp_cell_q, arrV_store, hcl]
  congr 2
  funext q
  by_cases hq : q = j
  · subst hq; simp [updV, va_up, va_rf]
  · simp [updV, va_up, hq]
theorem x_aast {a N v : Nat} {f : Nat → Option Nat} {fs : List Value} {i : Int32} (j : Nat) (ha : h.1 a = some (.inl (3, N, .inr (.inr (.inr (.inr f)))))) (hv : h.1 v = some (.inr (5, fs))) (hi : i = nI j) (hj : j < N) (hN : N < 2 ^ 31) (d : decode M.2.1 pc = .ok (.aastore, 1)) (kk : Ex g M Z (pc + 1) L st (hset h a (.inl (3, N, .inr (.inr (.inr (.inr (va_up f j (some v)))))))) k n) : Ex g M Z pc L (.ref v :: .int i :: .ref a :: st) h k n := by
  intro p e s m args below meth c H locs ls C R Fr Lh
  subst hi
  have hcl : (nI j).toNatClampNeg = j := nI_clamp (Nat.lt_trans hj hN)
  have hK := C.2.2.2.2.2.2.2.2.1
  have hin := vp_in_nI hj hN
  obtain ⟨r', hr', cellV, g1, g2, g3, -⟩ := (R.1 v _ hv).2
  have hcls := (hK.1 5 _ (rfl : vwCl[5]? = some (RX5, TX5, 2))).2
  obtain ⟨kA, comp, k1, k2, k3, -⟩ := (hK.2 3 _ rfl).2
  have hcomp : comp = g.2.1.1 5 := Option.some.inj (k3.symm.trans hcls.1)
  subst hcomp
  obtain ⟨kC, hkC, -⟩ := hcls.2
  refine W.aast C.1 C.2.1 (R.1 a _ ha).2 (fun q h => by cases h) (fun h => by cases h) k1 k2 rfl hkC ⟨fun q => hin (Or.inl q), by show _ < (arrV _ _ _).slots.size; rw [arrV_size, hcl]; exact hj⟩ g1 (fun q h => by rw [g3] at h; cases h) (by rw [g2]; exact hkC) (by rw [g2]; exact va_assign hcls) rfl rfl d fun H1 e1 z oq => ?_
  refine kk p e s m args below meth c H1 _ ls C (R.set ha z oq ?_) (gFr R Fr ha) Lh
  show H1[a]? = some (vp_cell _ _)
  rw [e1]
  show some ((vp_cell _ (N, .inr (.inr (.inr (.inr f))))).setSlot _ _) = some (vp_cell _ (N, .inr (.inr (.inr (.inr (va_up f j (some v)))))))
  rw [vp_cell_q, vp_cell_q, arrV_store, hcl]
  congr 2
  funext q
  by_cases hq : q = j
  · subst hq; simp [updV, va_up, va_rf]
  · simp [updV, va_up, hq]
/-! new cells -/
def gNw (own : String) (idx ci N : Nat) : Prop := ∃ (C : String) (T : u_T) (ty0 : Nat → FieldType), vwCl[ci]? = some (C, T, N) ∧ (∀ w ∈ u_ws C T N, w ∈ gT) ∧ (∀ j, j < N → parseFieldDescriptor (T j).2.2.1 = some (ty0 j)) ∧ Cond.classLink own idx C ∈ gT ∧ Cond.instantiable C N ∈ gT ∧ Cond.initialized C ∈ gT
def gdef (ci : Nat) (fs : List Value) : Prop := ∀ (C : String) (T : u_T) (N : Nat), vwCl[ci]? = some (C, T, N) → ∀ j ty, j < N → parseFieldDescriptor (T j).2.2.1 = some ty → defaultValue ty = vp_V fs j
theorem x_new {idx ci N : Nat} {fs : List Value} (F : gNw M.1.cls idx ci N) (hfs : gdef ci fs) (hcells : k + 1 ≤ M.2.2.2.2.cells) (hslots : n + N ≤ M.2.2.2.2.slots) (d : decode M.2.1 pc = .ok (.new idx, 3)) (kk : Ex g M Z (pc + 3) L (.ref h.2 :: st) (hnew h (.inr (ci, fs))) (k + 1) (n + N)) : Ex g M Z pc L st h k n := by
  intro p e s m args below meth c H locs ls C R Fr Lh
  obtain ⟨Cl, T, ty0, hc, hin, hty, hcl, hinst, hini⟩ := F
  obtain ⟨hx, hb, hml, hrt, hown, hts, hlc, hname, hsc⟩ := id C
  have hKn := hsc.1.1 ci _ hc
  refine W.newcK hx hb hown (hts _ hcl) (hts _ hinst) (hts _ hini) rfl d hcells hslots hKn.2.1 R.2.1 fun H1 kC hkC e1 z1 o1 => ?_
  exact kk p e s m args below meth c H1 locs ls C (R.new z1 o1 ⟨_, hc, (u_born ty0 hts hin hKn hkC e1 hty).to (fun j hj => hfs _ _ _ hc j _ hj (hty j hj))⟩) Fr Lh
def gdefA : Nat → va_E
  | _ => .inl (0, 0, .inl fun _ => 0)
theorem x_newi {x : Int32} (N : Nat) (hN : x = nI N) (hb31 : N < 100000) (hw : Cond.arrayClass .int ∈ gT) (hcells : k + 1 ≤ M.2.2.2.2.cells) (hslots : n + N ≤ M.2.2.2.2.slots) (d : decode M.2.1 pc = .ok (.newarray .int, 2)) (kk : Ex g M Z (pc + 2) L (.ref h.2 :: st) (hnew h (.inl (0, N, .inl fun _ => 0))) (k + 1) (n + N)) : Ex g M Z pc L (.int x :: st) h k n := by
  intro p e s m args below meth c H locs ls C R Fr Lh
  subst hN
  have hK := C.2.2.2.2.2.2.2.2.1
  refine va_newaK (atype := .int) C.1 C.2.1 (C.2.2.2.2.2.1 _ hw) rfl d rfl (nI_pos (by omega)) (nI_clamp (by omega)) (by show N * 4 ≤ _; omega) hcells hslots R.2.1 fun H1 cA e1 z1 o1 hAr hNm => ?_
  have hcA : cA = g.2.2.1 0 := Option.some.inj (hNm.symm.trans (hK.2 0 _ rfl).2)
  subst hcA
  exact kk p e s m args below meth c H1 locs ls C (R.new z1 o1 (e1.trans (by show some _ = some (vp_cell _ (N, .inl fun _ => 0)); rw [vp_cell_i]; rfl))) Fr Lh
theorem x_newl {x : Int32} (N : Nat) (hN : x = nI N) (hb31 : N < 100000) (hw : Cond.arrayClass .long ∈ gT) (hcells : k + 1 ≤ M.2.2.2.2.cells) (hslots : n + N ≤ M.2.2.2.2.slots) (d : decode M.2.1 pc = .ok (.newarray .long, 2)) (kk : Ex g M Z (pc + 2) L (.ref h.2 :: st) (hnew h (.inl (1, N, .inr (.inl fun _ => 0)))) (k + 1) (n + N)) : Ex g M Z pc L (.int x :: st) h k n := by
  intro p e s m args below meth c H locs ls C R Fr Lh
  subst hN
  have hK := C.2.2.2.2.2.2.2.2.1
  refine va_newaK (atype := .long) C.1 C.2.1 (C.2.2.2.2.2.1 _ hw) rfl d rfl (nI_pos (by omega)) (nI_clamp (by omega)) (by show N * 8 ≤ _; omega) hcells hslots R.2.1 fun H1 cA e1 z1 o1 hAr hNm => ?_
  have hcA : cA = g.2.2.1 1 := Option.some.inj (hNm.symm.trans (hK.2 1 _ rfl).2)
  subst hcA
  exact kk p e s m args below meth c H1 locs ls C (R.new z1 o1 (e1.trans (by show some _ = some (vp_cell _ (N, .inr (.inl fun _ => 0))); rw [vp_cell_l]; rfl))) Fr Lh
theorem x_newb {x : Int32} (N : Nat) (hN : x = nI N) (hb31 : N < 100000) (hw : Cond.arrayClass .byte ∈ gT) (hcells : k + 1 ≤ M.2.2.2.2.cells) (hslots : n + N ≤ M.2.2.2.2.slots) (d : decode M.2.1 pc = .ok (.newarray .byte, 2)) (kk : Ex g M Z (pc + 2) L (.ref h.2 :: st) (hnew h (.inl (2, N, .inl fun _ => 0))) (k + 1) (n + N)) : Ex g M Z pc L (.int x :: st) h k n := by
  intro p e s m args below meth c H locs ls C R Fr Lh
  subst hN
  have hK := C.2.2.2.2.2.2.2.2.1
  refine va_newaK (atype := .byte) C.1 C.2.1 (C.2.2.2.2.2.1 _ hw) rfl d rfl (nI_pos (by omega)) (nI_clamp (by omega)) (by show N * 1 ≤ _; omega) hcells hslots R.2.1 fun H1 cA e1 z1 o1 hAr hNm => ?_
  have hcA : cA = g.2.2.1 2 := Option.some.inj (hNm.symm.trans (hK.2 2 _ rfl).2)
  subst hcA
  exact kk p e s m args below meth c H1 locs ls C (R.new z1 o1 (e1.trans (by show some _ = some (vp_cell _ (N, .inl fun _ => 0)); rw [vp_cell_i]; rfl))) Fr Lh
theorem x_newq {x : Int32} {idx : Nat} (N : Nat) (hN : x = nI N) (hb31 : N < 100000) (hw : Cond.classLink M.1.cls idx "HeldPaths$Strip" ∈ gT) (hcells : k + 1 ≤ M.2.2.2.2.cells) (hslots : n + N ≤ M.2.2.2.2.slots) (d : decode M.2.1 pc = .ok (.anewarray idx, 3)) (kk : Ex g M Z (pc + 3) L (.ref h.2 :: st) (hnew h (.inl (3, N, .inr (.inr (.inr (.inr fun _ => none)))))) (k + 1) (n + N)) : Ex g M Z pc L (.int x :: st) h k n := by
  intro p e s m args below meth c H locs ls C R Fr Lh
  subst hN
  have hK := C.2.2.2.2.2.2.2.2.1
  have hcl : (nI N).toNatClampNeg = N := nI_clamp (by omega)
  refine W.anew C.1 C.2.1 C.2.2.2.2.1 (C.2.2.2.2.2.1 _ hw) (va_AO.use C.2.2.2.2.2.2.2.2.2.1) rfl d rfl (nI_pos (by omega)) (by rw [hcl]; omega) hcells (by rw [hcl]; exact hslots) fun cA kA comp f1 f2 f3 f4 => ?_
  rw [hcl]
  obtain ⟨kA', comp', k1, k2, k3, k4⟩ := (hK.2 3 _ rfl).2
  have hcA : cA = g.2.2.1 3 := Option.some.inj (f1.symm.trans k4)
  subst hcA
  have hz : h.2 = H.size := R.2.1.symm
  have := kk p e s m args below meth c (H.push ({ cls := g.2.2.1 3, slots := Array.replicate N .null, vm := .none } : Cell)) locs ls C (R.new (by rw [Array.size_push, R.2.1]) (fun q hq => by rw [Array.getElem?_push, if_neg (by omega)]) (by
    show (H.push _)[h.2]? = some (vp_cell _ (N, .inr (.inr (.inr (.inr fun _ => none)))))
    rw [hz, Array.getElem?_push_size, vp_cell_q, arrV_new]
    rfl)) Fr Lh
  rw [hz] at this
  exact this
end XH
