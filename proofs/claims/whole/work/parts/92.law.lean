def R_law : String := "HeldPathsLaw"
def lw_P (b : Addr) (xs : List Int32) (args : Array Value) (s : State) : Prop := args = #[.ref b] ∧ s.IntsAt b xs ∧ xs.length ≤ 384 ∧ (Jvm.Cond.and given_1 narrow_1).before args s = true
def lw_Q (_ : Array Value) (s : State) (o : Outcome) (t : State) : Prop := o = .returned (some (.int 1)) ∧ Framed s o t [] 600000 7302250
def lw_Z (below : List Frame) (a : Array Value) (s : State) : State → Prop := fun t => ∃ o, t.status = .running ∧ Ended t below o ∧ lw_Q a s o t
/-- the law's own end, with 1 on the stack, nothing written that was there before, its room as the claim has it -/
theorem lw_ret {p : Program} {l : Launch} {e : Env} {s : State} {m : MethodId} {below : List Frame} {meth : Method} {c : Code} {b : Nat} (hx : p.tables.exec = Jvm.exec) (hb : c.code = code) (hr : meth.sig.returnType = ret) (hlocks : meth.locks = false) {pc : Nat} {H : Heap} {ls : Array Slot} (hdg : decode code pc = .ok (.ireturn, 1)) : W p l e room_1 s m #[Value.ref b] below meth c H [] 600000 7302250 (lw_Z below #[Value.ref b] s) (F0 m pc ls [.int 1]) := by
  intro T hT X
  obtain ⟨fs, hret, hrun, hended, hW, hframe⟩ := X.leave (v := some (.int 1)) (hlocks := hlocks) (fun h => by rw [hr] at h; cases h)
  have hmeth' : T.vm.method? m = some meth := X.method'
  refine ⟨T.setFrames fs, ?_, .returned (some (.int 1)), hrun, hended, rfl, ⟨_, rfl⟩, hW, hframe⟩
  jvm_step X.here [X.here.top, hx, hb, hdg, hmeth', hr, ret, narrow_b1]
  (try refine ⟨rfl, ?_⟩); (try refine ⟨rfl, ?_⟩)
  first | (intro acts; rw [hret _ acts rfl rfl rfl]) | rw [hret _ _ rfl rfl rfl]
  exact Steps.refl _
/-- what holds at the law's entry: the machine, the code, the tables' words (any of lw_tbl by 'hts w (by decide +kernel)'), the script of L ints xs at the cell b, what the Statement gives of the start (any of its parts by flat_of_before) -/
def lw_At (p : Program) (s : State) (m : MethodId) (meth : Method) (c : Code) (b L : Nat) (xs : Nat → Int32) : Prop :=
  p.tables.exec = Jvm.exec ∧ c.code = code ∧ meth.sig.returnType = ret ∧ c.maxLocals = 4 ∧ s.vm.findClass R_law = some m.cls ∧ (∀ w ∈ lw_tbl, w.before #[Value.ref b] s = true) ∧ va_X b L xs s s.heap ∧ b < s.heap.size ∧ meth.locks = false ∧ (Jvm.Cond.and given_1 narrow_1).before #[Value.ref b] s = true
/-! THE LAW: class and reference hold the same -/
abbrev mLw (nm : String) : gM := (⟨RL, nm, "([I)Z"⟩, cL_law, 4, some .boolean, { frames := 13, cells := 600000, slots := 7302250, locals := 484 })
def lwH (g : gG) (b L : Nat) (xs : Nat → Int32) (args : Array Value) (s : State) : Prop := args = #[.ref b] ∧ va_X b L xs s g.2.2.2.1 ∧ s.heap.size = gS g ∧ b < gS g
def lwZ (g : gG) (b L : Nat) (xs : Nat → Int32) : gZt := fun below args s t => lwH g b L xs args s → lw_Z below args s t
theorem gRl.S {g : gG} {h : gH} {H : Heap} {locs : List Loc} (R : gRl g h H) (F : ∀ q ∈ locs, gS g ≤ q.base) : va_S (gF g) g.2.2.2.1 H locs := ⟨R.2.2.1, fun q hq _ => R.2.2.2 q hq, F⟩
section LW
variable {g : gG} {nm : String} {b L : Nat} {xs : Nat → Int32} {pc : Nat} {Ls : List (Option Value)} {st : List Value} {h : gH} {k n : Nat}
theorem x_sld {i : Int32} (j : Nat) (hi : i = nI j) (hj : j < L) (hN : L < 2 ^ 31) (d : decode cL_law pc = .ok (.iaload, 1)) (kk : Ex g (mLw nm) (lwZ g b L xs) (pc + 1) Ls (.int (xs j) :: st) h k n) : Ex g (mLw nm) (lwZ g b L xs) pc Ls (.int i :: .ref b :: st) h k n := by
  intro p e s m args below meth c H locs ls C R F Lh
  by_cases q : lwH g b L xs args s
  · subst hi
    obtain ⟨-, hX, -, hb⟩ := id q
    have hcl : (nI j).toNatClampNeg = j := nI_clamp (Nat.lt_trans hj hN)
    refine va_sld C.1 C.2.1 hX hb (Nat.not_le.mpr hb) (R.S F) (vp_in_nI hj hN) d ?_
    rw [hcl]
    exact kk p e s m args below meth c H locs ls C R F Lh
  · intro T hT X
    exact ⟨_, Steps.refl _, fun z => absurd z q⟩
theorem x_slen (d : decode cL_law pc = .ok (.arraylength, 1)) (kk : Ex g (mLw nm) (lwZ g b L xs) (pc + 1) Ls (.int (nI L) :: st) h k n) : Ex g (mLw nm) (lwZ g b L xs) pc Ls (.ref b :: st) h k n := by
  intro p e s m args below meth c H locs ls C R F Lh
  by_cases q : lwH g b L xs args s
  · obtain ⟨-, hX, -, hb⟩ := id q
    exact va_slen C.1 C.2.1 hX hb (Nat.not_le.mpr hb) (R.S F) d (kk p e s m args below meth c H locs ls C R F Lh)
  · intro T hT X
    exact ⟨_, Steps.refl _, fun z => absurd z q⟩
theorem x_lwret (hk : k ≤ 600000) (hn : n ≤ 7302250) (d : decode cL_law pc = .ok (.ireturn, 1)) : Ex g (mLw nm) (lwZ g b L xs) pc Ls [.int 1] h k n := by
  intro p e s m args below meth c H locs ls C R F Lh
  by_cases q : lwH g b L xs args s
  · obtain ⟨rfl, -, hz, -⟩ := id q
    refine W.widen hk hn (va_forget (fun q hq => by rw [hz]; exact F q hq) ?_)
    intro T hT X
    obtain ⟨t, a1, a2⟩ := lw_ret (b := b) C.1 C.2.1 C.2.2.2.1 C.2.2.2.2.2.2.1 d T hT X
    exact ⟨t, a1, fun _ => a2⟩
  · intro T hT X
    exact ⟨_, Steps.refl _, fun z => absurd z q⟩
end LW
theorem isN.ag {h h' : gH} {m : Nat} {S : AS} (hn : isN h m S) (hz : h.2 ≤ h'.2) (e : ∀ a, m ≤ a → a < m + 27 → h'.1 a = h.1 a) : isN h' m S := by
  obtain ⟨z, s, l, A, B, hm, r⟩ := hn
  exact ⟨Nat.le_trans z hz, s, l, A, B, ⟨(e m (by omega) (by omega)).trans hm.1, fun i hi => (e _ (by omega) (by omega)).trans (hm.2 i hi)⟩, r⟩
theorem isX.fo {h h' : gH} {x : Nat} {D : Nat → Prop} {S : AS} (hx : isX h x D S) (hD : ∀ a, D a → x + 77 ≤ a) (hf : Fr (x + 50) 27 h h') : isX h' x D S := by
  have dd : ∀ a, D a → D a ∧ h'.1 a = h.1 a := fun a q => ⟨q, hf.2 a (.inr (by have := hD a q; omega))⟩
  obtain ⟨a1, a2, a3, a4, a5, a6, a7, a8, a9, pt, a10⟩ := id hx
  exact ⟨hx.sz hf, by rw [hf.2 _ (by omega)]; exact a2, a3.ag (hf.agr (by omega)), a4.ag (hf.agr (by omega)), a5.ag (hf.agr (by omega)), a6.ag (hf.agr (by omega)), a7.ag (hf.agr (by omega)), a8.ag (hf.agr (by omega)), ⟨a9.1.ag (hf.2 _ (by omega)) dd, a9.2.ag (hf.agr (by omega)) dd⟩, pt, a10.ag (hf.agr (by omega))⟩
/-- class at x and reference at x + 50 hold S -/
def LI (h : gH) (x : Nat) (S : AS) : Prop := ∃ D, isX h x D S ∧ isN h (x + 50) S ∧ ∀ a, D a → x + 77 ≤ a
theorem isN.px {h h' : gH} {x : Nat} {S : AS} (hn : isN h (x + 50) S) (hf : Fr x 50 h h') : isN h' (x + 50) S := hn.ag (Nat.le_of_eq hf.1.symm) (fun a h1 h2 => hf.2 a (by omega))
theorem isN.py {h h' : gH} {x : Nat} {S : AS} {D : Nat → Prop} (hn : isN h (x + 50) S) (hD : ∀ a, D a → x + 77 ≤ a) (hf : Fx x D h h') : isN h' (x + 50) S ∧ ∀ a, Dx D h h' a → x + 77 ≤ a := by
  have z := hn.1
  exact ⟨hn.ag hf.1 (fun a h1 h2 => hf.2 a (by omega) (by omega) (fun q => by have := hD a q; omega)), fun a q => q.elim (hD a) (fun q => by omega)⟩
theorem lcmp_s (v : Int64) : lg_cmp v v = 0 := by unfold lg_cmp; simp
