/-! calls of a thing: a virtual call that the receiver's class answers with a method of its own or of a class above it -/
section XU
variable {g : gG} {M M' : gM} {Z : gZt} {pc : Nat} {L : List (Option Value)} {st rest av : List Value} {h : gH} {k n k' n' : Nat} {Q' : Option Value → gH → Prop}
theorem x_callU {idx na b ci m0 N : Nat} {fs : List Value} {T : u_T} {Cq owner : String} {x : MethodName} {b0 : ByteArray} {r0 : Option FieldType} (hc : Cn g M' (.ref b :: av) h Q') (hb : h.1 b = some (.inr (ci, fs))) (lk : gLk M' na) (hcl : vwCl[ci]? = some (Cq, T, N)) (hl : Cond.methodLink M.1.cls idx x ∈ gT ∧ Cond.sameMethod x.cls owner x.name x.desc ∈ gT ∧ Cond.instanceMethod ⟨owner, x.name, x.desc⟩ ∈ gT ∧ Cond.selects Cq x M'.1 ∈ gT ∧ Cond.instanceMethod M'.1 ∈ gT) (h0 : Cond.code ⟨owner, x.name, x.desc⟩ b0 m0 r0 ∈ gT) (hd : owner ≠ "java/lang/invoke/MethodHandle" ∧ owner ≠ "java/lang/invoke/VarHandle" ∧ (parseMethodDescriptor x.desc).map (fun d => d.parameters.length) = some na) (d : decode M.2.1 pc = .ok (.invokevirtual idx, 3)) (hn : av.length = na) (hst : st = av.reverse ++ .ref b :: rest) (hw : (rest.map fun v => v.category).sum ≤ 8) (hR : gRm M M')
    (hk : k + M'.2.2.2.2.cells = k' ∧ n + M'.2.2.2.2.slots = n' ∧ k' ≤ M.2.2.2.2.cells ∧ n' ≤ M.2.2.2.2.slots) (kk : ∀ r h', Q' r h' → Ex g M Z (pc + 3) L (r.toList ++ rest) h' k' n') : Ex g M Z pc L st h k n := by
  intro p e s m args below meth c H locs ls C R Fr Lh
  obtain ⟨rfl, rfl, hk1, hk2⟩ := hk
  obtain ⟨hx, hbb, hml, hrt, hown, hts, hlc, hname, hsc⟩ := id C
  have hG : GoodIn gT (va_wsO M.1.cls idx Cq owner x M'.1 (gWs M')) := by
    intro w hw
    unfold va_wsO at hw
    rcases List.mem_append.mp hw with q | q
    · have hm : w ∈ gT := by
        simp only [List.mem_cons, List.not_mem_nil, or_false] at q
        rcases q with q | q | q | q | q | q
        · rw [q]; exact hl.1
        · rw [q]; exact hl.2.1
        · rw [q]; exact hl.2.2.1
        · rw [q]; exact hl.2.2.2.1
        · rw [q]; exact hl.2.2.2.2
        · rw [q]; exact lk.2.1
      exact ⟨hm, gT_good _ hm⟩
    · exact lk.good w q
  refine x_after (va_runU ⟨hx, hbb, hml, hown, hts⟩ hc (va_cwO na hts hG rfl rfl rfl h0 hd hR) (gPreV hsc R hb hcl) rfl hn Lh.1 hst (lv_room hw) d ⟨hk1, hk2⟩) Fr fun r h' q H1 locs1 R1 Fr1 => ?_
  exact kk r h' q p e s m args below meth c H1 locs1 ls C R1 Fr1 Lh
/-- super.m(..), where m is a method of the class right above -/
theorem x_callSU {idx na b ci N i0 : Nat} {fs : List Value} {T : u_T} {Cq : String} (hc : Cn g M' (.ref b :: av) h Q') (hb : h.1 b = some (.inr (ci, fs))) (lk : gLk M' na) (hcl : vwCl[ci]? = some (Cq, T, N)) (hin : Cond.instantiable Cq i0 ∈ gT) (hl : Cond.methodLink M.1.cls idx M'.1 ∈ gT ∧ Cond.sameMethod M'.1.cls M'.1.cls M'.1.name M'.1.desc ∈ gT ∧ Cond.superclass M.1.cls M'.1.cls ∈ gT ∧ Cond.instanceMethod M'.1 ∈ gT) (hno : M'.1.name ≠ "<init>") (d : decode M.2.1 pc = .ok (.invokespecial idx, 3)) (hn : av.length = na) (hst : st = av.reverse ++ .ref b :: rest) (hw : (rest.map fun v => v.category).sum ≤ 8) (hR : gRm M M')
    (hk : k + M'.2.2.2.2.cells = k' ∧ n + M'.2.2.2.2.slots = n' ∧ k' ≤ M.2.2.2.2.cells ∧ n' ≤ M.2.2.2.2.slots) (kk : ∀ r h', Q' r h' → Ex g M Z (pc + 3) L (r.toList ++ rest) h' k' n') : Ex g M Z pc L st h k n := by
  intro p e s m args below meth c H locs ls C R Fr Lh
  obtain ⟨rfl, rfl, hk1, hk2⟩ := hk
  obtain ⟨hx, hbb, hml, hrt, hown, hts, hlc, hname, hsc⟩ := id C
  obtain ⟨cC, hat⟩ := classAt_of (hts _ hin)
  have hG : GoodIn gT (va_wsSU M.1.cls idx M'.1 (gWs M')) := by
    intro w hw
    unfold va_wsSU at hw
    rcases List.mem_append.mp hw with q | q
    · have hm : w ∈ gT := by
        simp only [List.mem_cons, List.not_mem_nil, or_false] at q
        rcases q with q | q | q | q | q
        · rw [q]; exact hl.1
        · rw [q]; exact hl.2.1
        · rw [q]; exact hl.2.2.1
        · rw [q]; exact hl.2.2.2
        · rw [q]; exact lk.2.1
      exact ⟨hm, gT_good _ hm⟩
    · exact lk.good w q
  refine x_after (va_runSU hat ⟨hx, hbb, hml, hown, hts⟩ hc (va_cwSU na hts hG rfl rfl rfl ⟨hno, lk.2.2.2⟩ hR) (gPreV hsc R hb hcl) rfl hn Lh.1 hst (lv_room hw) d ⟨hk1, hk2⟩) Fr fun r h' q H1 locs1 R1 Fr1 => ?_
  exact kk r h' q p e s m args below meth c H1 locs1 ls C R1 Fr1 Lh
end XU
