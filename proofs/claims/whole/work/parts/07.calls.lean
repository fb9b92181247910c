/-! calls -/
def gLk (M : gM) (na : Nat) : Prop := Cond.code M.1 M.2.1 M.2.2.1 M.2.2.2.1 ∈ gT ∧ Cond.initialized M.1.cls ∈ gT ∧ (M.1.cls ≠ "java/lang/invoke/MethodHandle" ∧ M.1.cls ≠ "java/lang/invoke/VarHandle") ∧ (parseMethodDescriptor M.1.desc).map (fun d => d.parameters.length) = some na
theorem gLk.good {M : gM} {na : Nat} (h : gLk M na) : GoodIn gT (gWs M) := by
  intro w hw
  rcases List.mem_cons.mp hw with e | hw
  · subst e; exact ⟨h.1, gT_good _ h.1⟩
  · exact ⟨hw, gT_good _ hw⟩
theorem gLk.len {M : gM} {na : Nat} (h : gLk M na) : ∀ sig, parseMethodDescriptor M.1.desc = some sig → na = sig.parameters.length := by
  intro sig hs
  have h2 := h.2.2.2
  rw [hs] at h2
  exact (Option.some.inj h2).symm
/-- the callee's room within the caller's -/
abbrev gRm (M M' : gM) : Prop := M'.2.2.2.2.frames + 1 ≤ M.2.2.2.2.frames ∧ 8 + (M'.2.2.1 + 11) + M'.2.2.2.2.locals ≤ M.2.2.2.2.locals
section XC
variable {g : gG} {M M' : gM} {Z : gZt} {pc : Nat} {L : List (Option Value)} {st rest av : List Value} {h : gH} {k n k' n' : Nat} {Q' : Option Value → gH → Prop}
theorem x_after {p : Program} {e : Env} {s : State} {m : MethodId} {args : Array Value} {below : List Frame} {meth : Method} {c : Code} {H : Heap} {locs : List Loc} {ls : Array Slot} {Zs : State → Prop} {mc ms : Nat} {a : Array Value}
    (hr : va_Run p g.1 e M.2.2.2.2 s m args below meth c H locs k n mc ms (F0 m pc ls st) rest (gQ g Q' a) (gF g)) (Fr : ∀ q ∈ locs, gS g ≤ q.base)
    (kk : ∀ r h', Q' r h' → ∀ (H1 : Heap) (locs1 : List Loc), gRl g h' H1 → (∀ q ∈ locs1, gS g ≤ q.base) → W p g.1 e M.2.2.2.2 s m args below meth c H1 locs1 (k + mc) (n + ms) Zs (F0 m (pc + 3) ls (r.toList ++ rest))) : W p g.1 e M.2.2.2.2 s m args below meth c H locs k n Zs (F0 m pc ls st) := by
  intro T hT X
  obtain ⟨v, st₀, t, T', Ls, h0, X', hL, e1, e2, ⟨r, h', hv, hq, hR⟩, stp⟩ := hr T hT X
  cases hv
  obtain ⟨t2, a1, b1⟩ := kk v h' hq T'.heap (locs ++ Ls) (by rw [e1]; exact hR) (fun q hq => (List.mem_append.mp hq).elim (Fr q) (hL q)) T' rfl X'
  exact ⟨t2, stp t2 a1, b1⟩
theorem gPreS {s : State} {H : Heap} (hsc : gSC g s) (R : gRl g h H) : PreS s H (gPc g av h) av := ⟨gPc.blind g av h, fun U hU hW => ⟨rfl, hsc.warm hW, by rw [hU]; exact R⟩⟩
theorem gPreV {s : State} {H : Heap} {b ci : Nat} {fs : List Value} {q : vw_C} (hsc : gSC g s) (R : gRl g h H) (hb : h.1 b = some (.inr (ci, fs))) (hc : vwCl[ci]? = some q) : PreV s H q.1 b (gPc g (.ref b :: av) h) av :=
  ⟨gPc.blind g _ h, va_recv hsc.1 (R.P1 hb) hc (q0 := 0) rfl, fun U hU hW => ⟨rfl, hsc.warm hW, by rw [hU]; exact R⟩⟩
theorem gCallB {R : Room} {s : State} {args : Array Value} {own : String} {idx na : Nat} (hts : ∀ w ∈ gT, w.before args s = true) (lk : gLk M' na) (hl : (Cond.methodLink own idx M'.1).before args s = true) (hR : M'.2.2.2.2.frames + 1 ≤ R.frames ∧ 8 + (M'.2.2.1 + 11) + M'.2.2.2.2.locals ≤ R.locals) :
    CallB R s args own idx M'.1 M'.2.1 M'.2.2.1 M'.2.2.2.1 (gWs M') M'.2.2.2.2 M'.2.2.2.2.cells M'.2.2.2.2.slots na :=
  ⟨rfl, rfl, hR.1, hR.2, pay_in hts lk.good, List.mem_cons_self, hts _ lk.1, hts _ lk.2.1, lk.2.2.1, lk.len, hl⟩
theorem gCallN {R : Room} {s : State} {args : Array Value} {own host : String} {idx na : Nat} (hts : ∀ w ∈ gT, w.before args s = true) (lk : gLk M' na) (hl : va_Nw (.methodLinkNest own idx M'.1 host) s) (hR : M'.2.2.2.2.frames + 1 ≤ R.frames ∧ 8 + (M'.2.2.1 + 11) + M'.2.2.2.2.locals ≤ R.locals) :
    va_CN R s args own idx M'.1 host M'.2.1 M'.2.2.1 M'.2.2.2.1 (gWs M') M'.2.2.2.2 M'.2.2.2.2.cells M'.2.2.2.2.slots na :=
  ⟨⟨rfl, rfl, hR.1, hR.2, pay_in hts lk.good, List.mem_cons_self⟩, hts _ lk.1, hts _ lk.2.1, lk.2.2.1, lk.len, va_Nw.use rfl hl⟩
/-- a static method of a class that the tables link -/
theorem x_callS {idx na : Nat} (hc : Cn g M' av h Q') (lk : gLk M' na) (hl : Cond.methodLink M.1.cls idx M'.1 ∈ gT ∧ Cond.static M'.1 ∈ gT) (d : decode M.2.1 pc = .ok (.invokestatic idx, 3)) (hn : av.length = na) (hst : st = av.reverse ++ rest) (hw : (rest.map fun v => v.category).sum ≤ 8) (hR : gRm M M')
    (hk : k + M'.2.2.2.2.cells = k' ∧ n + M'.2.2.2.2.slots = n' ∧ k' ≤ M.2.2.2.2.cells ∧ n' ≤ M.2.2.2.2.slots) (kk : ∀ r h', Q' r h' → Ex g M Z (pc + 3) L (r.toList ++ rest) h' k' n') : Ex g M Z pc L st h k n := by
  intro p e s m args below meth c H locs ls C R Fr Lh
  obtain ⟨rfl, rfl, hk1, hk2⟩ := hk
  obtain ⟨hx, hb, hml, hrt, hown, hts, hlc, hname, hsc⟩ := id C
  refine x_after (va_runS ⟨hx, hb, hml, hown, hts⟩ hc ⟨gCallB hts lk (hts _ hl.1) hR, hts _ hl.2⟩ (gPreS hsc R) rfl hn Lh.1 hst (lv_room hw) d ⟨hk1, hk2⟩) Fr fun r h' q H1 locs1 R1 Fr1 => ?_
  exact kk r h' q p e s m args below meth c H1 locs1 ls C R1 Fr1 Lh
/-- a private static method of the nest's host -/
theorem x_callSN {idx na : Nat} {host : String} (hc : Cn g M' av h Q') (lk : gLk M' na) (hl : (M.1.cls, idx, M'.1, host) ∈ gNs ∧ Cond.static M'.1 ∈ gT) (d : decode M.2.1 pc = .ok (.invokestatic idx, 3)) (hn : av.length = na) (hst : st = av.reverse ++ rest) (hw : (rest.map fun v => v.category).sum ≤ 8) (hR : gRm M M')
    (hk : k + M'.2.2.2.2.cells = k' ∧ n + M'.2.2.2.2.slots = n' ∧ k' ≤ M.2.2.2.2.cells ∧ n' ≤ M.2.2.2.2.slots) (kk : ∀ r h', Q' r h' → Ex g M Z (pc + 3) L (r.toList ++ rest) h' k' n') : Ex g M Z pc L st h k n := by
  intro p e s m args below meth c H locs ls C R Fr Lh
  obtain ⟨rfl, rfl, hk1, hk2⟩ := hk
  obtain ⟨hx, hb, hml, hrt, hown, hts, hlc, hname, hsc⟩ := id C
  refine x_after (va_runSN ⟨hx, hb, hml, hown, hts⟩ hc ⟨gCallN hts lk (hsc.2.2.2.2.2 _ hl.1) hR, hts _ hl.2, trivial⟩ (gPreS hsc R) rfl hn Lh.1 hst (lv_room hw) d ⟨hk1, hk2⟩) Fr fun r h' q H1 locs1 R1 Fr1 => ?_
  exact kk r h' q p e s m args below meth c H1 locs1 ls C R1 Fr1 Lh
/-- a method of the receiver's own class -/
theorem x_callV {idx na b ci : Nat} {fs : List Value} {T : u_T} {N : Nat} (hc : Cn g M' (.ref b :: av) h Q') (hb : h.1 b = some (.inr (ci, fs))) (lk : gLk M' na) (hl : vwCl[ci]? = some (M'.1.cls, T, N) ∧ Cond.methodLink M.1.cls idx M'.1 ∈ gT ∧ Cond.instanceMethod M'.1 ∈ gT ∧ Cond.selects M'.1.cls M'.1 M'.1 ∈ gT) (d : decode M.2.1 pc = .ok (.invokevirtual idx, 3)) (hn : av.length = na) (hst : st = av.reverse ++ .ref b :: rest) (hw : (rest.map fun v => v.category).sum ≤ 8) (hR : gRm M M')
    (hk : k + M'.2.2.2.2.cells = k' ∧ n + M'.2.2.2.2.slots = n' ∧ k' ≤ M.2.2.2.2.cells ∧ n' ≤ M.2.2.2.2.slots) (kk : ∀ r h', Q' r h' → Ex g M Z (pc + 3) L (r.toList ++ rest) h' k' n') : Ex g M Z pc L st h k n := by
  intro p e s m args below meth c H locs ls C R Fr Lh
  obtain ⟨rfl, rfl, hk1, hk2⟩ := hk
  obtain ⟨hx, hbb, hml, hrt, hown, hts, hlc, hname, hsc⟩ := id C
  refine x_after (va_runV ⟨hx, hbb, hml, hown, hts⟩ hc ⟨gCallB hts lk (hts _ hl.2.1) hR, hts _ hl.2.2.1, hts _ hl.2.2.2⟩ (gPreV hsc R hb hl.1) rfl hn Lh.1 hst (lv_room hw) d ⟨hk1, hk2⟩) Fr fun r h' q H1 locs1 R1 Fr1 => ?_
  exact kk r h' q p e s m args below meth c H1 locs1 ls C R1 Fr1 Lh
/-- a constructor -/
theorem x_callI {idx na b : Nat} (hret : M'.2.2.2.1 = none) (hc : Cn g M' (.ref b :: av) h Q') (lk : gLk M' na) (hl : M'.1.name = "<init>" ∧ Cond.methodLink M.1.cls idx M'.1 ∈ gT ∧ Cond.instanceMethod M'.1 ∈ gT) (d : decode M.2.1 pc = .ok (.invokespecial idx, 3)) (hn : av.length = na) (hst : st = av.reverse ++ .ref b :: rest) (hw : (rest.map fun v => v.category).sum ≤ 8) (hR : gRm M M')
    (hk : k + M'.2.2.2.2.cells = k' ∧ n + M'.2.2.2.2.slots = n' ∧ k' ≤ M.2.2.2.2.cells ∧ n' ≤ M.2.2.2.2.slots) (kk : ∀ r h', Q' r h' → Ex g M Z (pc + 3) L (r.toList ++ rest) h' k' n') : Ex g M Z pc L st h k n := by
  intro p e s m args below meth c H locs ls C R Fr Lh
  obtain ⟨rfl, rfl, hk1, hk2⟩ := hk
  obtain ⟨hx, hbb, hml, hrt, hown, hts, hlc, hname, hsc⟩ := id C
  have cb := gCallB (R := M.2.2.2.2) hts lk (hts _ hl.2.1) hR
  rw [hret] at cb
  refine x_after (va_runI ⟨hx, hbb, hml, hown, hts⟩ hc ⟨cb, hl.1, hts _ hl.2.2⟩ (gPreS hsc R) rfl hn Lh.1 hst (lv_room hw) d ⟨hk1, hk2⟩) Fr fun r h' q H1 locs1 R1 Fr1 => ?_
  exact kk r h' q p e s m args below meth c H1 locs1 ls C R1 Fr1 Lh
/-- a private constructor of a nest mate -/
theorem x_callIN {idx na b : Nat} {host : String} (hret : M'.2.2.2.1 = none) (hc : Cn g M' (.ref b :: av) h Q') (lk : gLk M' na) (hl : M'.1.name = "<init>" ∧ (M.1.cls, idx, M'.1, host) ∈ gNs ∧ Cond.instanceMethod M'.1 ∈ gT) (d : decode M.2.1 pc = .ok (.invokespecial idx, 3)) (hn : av.length = na) (hst : st = av.reverse ++ .ref b :: rest) (hw : (rest.map fun v => v.category).sum ≤ 8) (hR : gRm M M')
    (hk : k + M'.2.2.2.2.cells = k' ∧ n + M'.2.2.2.2.slots = n' ∧ k' ≤ M.2.2.2.2.cells ∧ n' ≤ M.2.2.2.2.slots) (kk : ∀ r h', Q' r h' → Ex g M Z (pc + 3) L (r.toList ++ rest) h' k' n') : Ex g M Z pc L st h k n := by
  intro p e s m args below meth c H locs ls C R Fr Lh
  obtain ⟨rfl, rfl, hk1, hk2⟩ := hk
  obtain ⟨hx, hbb, hml, hrt, hown, hts, hlc, hname, hsc⟩ := id C
  have cb := gCallN (R := M.2.2.2.2) hts lk (hsc.2.2.2.2.2 _ hl.2.1) hR
  rw [hret] at cb
  refine x_after (va_runIN ⟨hx, hbb, hml, hown, hts⟩ hc ⟨cb, hl.1, hts _ hl.2.2⟩ (gPreS hsc R) rfl hn Lh.1 hst (lv_room hw) d ⟨hk1, hk2⟩) Fr fun r h' q H1 locs1 R1 Fr1 => ?_
  exact kk r h' q p e s m args below meth c H1 locs1 ls C R1 Fr1 Lh
/-- Object's constructor -/
theorem x_objI {idx a : Nat} (hl : Cond.methodLink M.1.cls idx Lib.objectInit ∈ gT ∧ Cond.instanceMethod Lib.objectInit ∈ gT ∧ Cond.code Lib.objectInit ⟨#[0xb1]⟩ 1 none ∈ gT) (d : decode M.2.1 pc = .ok (.invokespecial idx, 3)) (hf : 1 ≤ M.2.2.2.2.frames) (hlo : (st.map fun v => v.category).sum + 12 ≤ M.2.2.2.2.locals) (kk : Ex g M Z (pc + 3) L st h k n) : Ex g M Z pc L (.ref a :: st) h k n := by
  intro p e s m args below meth c H locs ls C R Fr Lh
  obtain ⟨hx, hbb, hml, hrt, hown, hts, hlc, hname, hsc⟩ := id C
  refine W.objInit hx hbb hown (hts _ hl.1) (hts _ hl.2.1) (hts _ hl.2.2) rfl (by rw [hml]; exact Lh.1) rfl d hf (by show 2 * 0 + _ + 12 ≤ _; omega) ?_
  exact kk p e s m args below meth c H locs ls C R Fr Lh
/-- a read: an answer, and nothing changed -/
def Rd (g : gG) (M : gM) (av : List Value) (h : gH) (v : Value) : Prop := Cn g M av h (fun o h' => o = some v ∧ h' = h)
theorem x_rdS {idx na : Nat} {v : Value} (hc : Rd g M' av h v) (lk : gLk M' na) (hl : Cond.methodLink M.1.cls idx M'.1 ∈ gT ∧ Cond.static M'.1 ∈ gT) (d : decode M.2.1 pc = .ok (.invokestatic idx, 3)) (hn : av.length = na) (hst : st = av.reverse ++ rest) (hw : (rest.map fun v => v.category).sum ≤ 8) (hR : gRm M M')
    (hk : M'.2.2.2.2.cells = 0 ∧ M'.2.2.2.2.slots = 0 ∧ k ≤ M.2.2.2.2.cells ∧ n ≤ M.2.2.2.2.slots) (kk : Ex g M Z (pc + 3) L (v :: rest) h k n) : Ex g M Z pc L st h k n :=
  x_callS hc lk hl d hn hst hw hR ⟨by rw [hk.1]; rfl, by rw [hk.2.1]; rfl, hk.2.2.1, hk.2.2.2⟩ fun r h' q => by obtain ⟨rfl, rfl⟩ := q; exact kk
theorem x_rdSN {idx na : Nat} {host : String} {v : Value} (hc : Rd g M' av h v) (lk : gLk M' na) (hl : (M.1.cls, idx, M'.1, host) ∈ gNs ∧ Cond.static M'.1 ∈ gT) (d : decode M.2.1 pc = .ok (.invokestatic idx, 3)) (hn : av.length = na) (hst : st = av.reverse ++ rest) (hw : (rest.map fun v => v.category).sum ≤ 8) (hR : gRm M M')
    (hk : M'.2.2.2.2.cells = 0 ∧ M'.2.2.2.2.slots = 0 ∧ k ≤ M.2.2.2.2.cells ∧ n ≤ M.2.2.2.2.slots) (kk : Ex g M Z (pc + 3) L (v :: rest) h k n) : Ex g M Z pc L st h k n :=
  x_callSN hc lk hl d hn hst hw hR ⟨by rw [hk.1]; rfl, by rw [hk.2.1]; rfl, hk.2.2.1, hk.2.2.2⟩ fun r h' q => by obtain ⟨rfl, rfl⟩ := q; exact kk
theorem x_rdV {idx na b ci : Nat} {fs : List Value} {T : u_T} {N : Nat} {v : Value} (hc : Rd g M' (.ref b :: av) h v) (hb : h.1 b = some (.inr (ci, fs))) (lk : gLk M' na) (hl : vwCl[ci]? = some (M'.1.cls, T, N) ∧ Cond.methodLink M.1.cls idx M'.1 ∈ gT ∧ Cond.instanceMethod M'.1 ∈ gT ∧ Cond.selects M'.1.cls M'.1 M'.1 ∈ gT) (d : decode M.2.1 pc = .ok (.invokevirtual idx, 3)) (hn : av.length = na) (hst : st = av.reverse ++ .ref b :: rest) (hw : (rest.map fun v => v.category).sum ≤ 8) (hR : gRm M M')
    (hk : M'.2.2.2.2.cells = 0 ∧ M'.2.2.2.2.slots = 0 ∧ k ≤ M.2.2.2.2.cells ∧ n ≤ M.2.2.2.2.slots) (kk : Ex g M Z (pc + 3) L (v :: rest) h k n) : Ex g M Z pc L st h k n :=
  x_callV hc hb lk hl d hn hst hw hR ⟨by rw [hk.1]; rfl, by rw [hk.2.1]; rfl, hk.2.2.1, hk.2.2.2⟩ fun r h' q => by obtain ⟨rfl, rfl⟩ := q; exact kk
end XC
