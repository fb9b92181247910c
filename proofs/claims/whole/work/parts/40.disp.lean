section XSI
variable {g : gG} {M M' : gM} {Z : gZt} {pc : Nat} {L : List (Option Value)} {st rest av : List Value} {h : gH} {k n k' n' : Nat} {Q' : Option Value → gH → Prop}
theorem sub_2 {vm : Vm} {a b : ClassId} {ka : Class} (h1 : vm.classes[a]? = some ka) (h2 : ka.super = some b) : vm.isSubclass a b = true := by
  have hs : 0 < vm.classes.size := by
    rcases Nat.eq_zero_or_pos vm.classes.size with q | q
    · rw [Array.getElem?_eq_none (by omega)] at h1; exact absurd h1 (by simp)
    · exact q
  obtain ⟨f, hf⟩ : ∃ f, vm.classes.size = f + 1 := ⟨vm.classes.size - 1, by omega⟩
  unfold Vm.isSubclass
  rw [hf]
  simp [Vm.isSubclassAux, h1, h2]
/-- super.m(..), where the class right above has m from the one above it -/
theorem x_callSI {idx na b ci N i0 : Nat} {fs : List Value} {T : u_T} {Cq : String} {x : MethodName} (hc : Cn g M' (.ref b :: av) h Q') (hb : h.1 b = some (.inr (ci, fs))) (lk : gLk M' na) (hcl : vwCl[ci]? = some (Cq, T, N)) (hin : Cond.instantiable Cq i0 ∈ gT) (hl : Cond.methodLink M.1.cls idx x ∈ gT ∧ Cond.sameMethod x.cls M'.1.cls x.name x.desc ∈ gT ∧ Cond.superclass M.1.cls x.cls ∈ gT ∧ Cond.superclass x.cls M'.1.cls ∈ gT ∧ Cond.instanceMethod M'.1 ∈ gT) (hxy : M'.1 = ⟨M'.1.cls, x.name, x.desc⟩) (hno : x.name ≠ "<init>") (d : decode M.2.1 pc = .ok (.invokespecial idx, 3)) (hn : av.length = na) (hst : st = av.reverse ++ .ref b :: rest) (hw : (rest.map fun v => v.category).sum ≤ 8) (hR : gRm M M')
    (hk : k + M'.2.2.2.2.cells = k' ∧ n + M'.2.2.2.2.slots = n' ∧ k' ≤ M.2.2.2.2.cells ∧ n' ≤ M.2.2.2.2.slots) (kk : ∀ r h', Q' r h' → Ex g M Z (pc + 3) L (r.toList ++ rest) h' k' n') : Ex g M Z pc L st h k n := by
  intro p e s m args below meth c H locs ls C R Fr Lh
  obtain ⟨rfl, rfl, hk1, hk2⟩ := hk
  obtain ⟨hx, hbb, hml, hrt, hown, hts, hlc, hname, hsc⟩ := id C
  obtain ⟨cC, hfc, kB, hkB, -⟩ := classAt_of (hts _ hin)
  obtain ⟨hbl, ⟨cellB, hcB, hoB, hclB⟩, hPc⟩ := gPreV (av := av) hsc R hb hcl
  cases hfc.symm.trans hclB
  have hini := hts _ lk.2.1
  have hK : Back g.1 M.2.2.2.2 p e below s args M'.1 3 8 (PreOf M.2.2.2.2 M'.2.2.2.2.cells M'.2.2.2.2.slots (gPc g (.ref b :: av) h)) (PostOf (gQ g Q') M'.2.2.2.2.cells M'.2.2.2.2.slots (gF g)) := back_of (bytes := M'.2.1) (maxL := M'.2.2.1) (ret := M'.2.2.2.1) hc hbl rfl rfl hR.1 hR.2 (pay_in hts lk.good) List.mem_cons_self (fun a' U hW => word_at hW (Or.inl (by first | rfl | simp [Cond.onTables, Cond.keeps, Cond.steady])) hini)
  refine x_after (mc := M'.2.2.2.2.cells) (ms := M'.2.2.2.2.slots) (a := (Value.ref b :: av).toArray) (Q' := Q') ?_ Fr fun r h' q H1 locs1 R1 Fr1 => kk r h' q p e s m args below meth c H1 locs1 ls C R1 Fr1 Lh
  intro T hT X
  obtain ⟨mk, methM, hnamed, hmethM, hstM, habM⟩ := Cond.instanceMethod_spec (hts _ hl.2.2.2.2)
  obtain ⟨methM', cM, hmethM', -, -, -, -, -, -, hsigM⟩ := Cond.code_spec hnamed (hts _ lk.1)
  cases hmethM.symm.trans hmethM'
  obtain ⟨ps, dk, kp, hps, hdk, hkp, hsuper, -, -, hnid⟩ := Cond.superclass_spec hown (hts _ hl.2.2.1)
  obtain ⟨p2, k2, kp2, hp2, hk2', -, hs2, -⟩ := Cond.superclass_spec hps (hts _ hl.2.2.2.1)
  have hpm : p2 = mk.cls := Option.some.inj (hp2.symm.trans (findClass_of_methodNamed hnamed))
  have hsub : s.vm.isSubclass ps mk.cls = true := hpm ▸ sub_2 hk2' hs2
  have hnm : s.methodNamed? ⟨M'.1.cls, x.name, x.desc⟩ = some mk := hxy ▸ hnamed
  obtain ⟨vm₁, X₁, hstep₁⟩ := X.invokespecialUp hx hown (hts _ hl.1) (hts _ hl.2.1) hnm hmethM hstM habM hno hdk hnid hps hsuper hsub (a := b) (cell := cellB) (by rw [hT]; exact hcB) (fun z h => by rw [h] at hoB; cases hoB) hkB (g := F0 m pc ls st) rfl (argsL := av) (rest := rest) (hn.trans (lk.len _ hsigM)) hst (by rw [hbb]; exact d)
  obtain ⟨v, ⟨U', l2, c2, s2⟩, X', ⟨g', mk', t, Ls, e1, e2, hq, h1, hL, h2, h3⟩, hsteps⟩ := hK m meth c ⟨T.setVm vm₁, locs, k, n⟩ { F0 m pc ls st with stack := rest } (.invokespecial idx) mk (Value.ref b :: av).toArray X₁ rfl (Lh.1.trans hml.symm) (by rw [hbb]; exact d) (lv_room hw) (X₁.named hnamed) ⟨hk1, hk2, hPc (T.setVm vm₁) hT X₁.warmed⟩
  dsimp only [Pt.U, Pt.locs, Pt.cells, Pt.slots] at X' e1 e2 h1 h2 h3 hsteps
  subst h1; subst h2; subst h3
  exact ⟨v, (T.setVm vm₁).calling g' mk' (Value.ref b :: av).toArray, t, U', Ls, hT, X', hL, e1, e2, hq, fun target hh => hstep₁ _ (by rw [doInvoke_state]; exact hsteps.trans hh)⟩
end XSI
