/-! THE LOGIC: a heap is a function from addresses to cells, and its size; Ex: from this place of a method it comes to its end. -/
abbrev gH : Type := (Nat → Option va_E) × Nat
abbrev gG : Type := Launch × va_G × (Nat → ClassId) × Heap × (Nat → Nat) × (Nat → Nat)
abbrev gM : Type := MethodName × ByteArray × Nat × Option FieldType × Room
abbrev gZt : Type := List Frame → Array Value → State → State → Prop
def gT : List Cond := lw_tbl.filter goodWord
def gS (g : gG) : Nat := g.2.2.2.1.size
def gF (g : gG) : Nat → Prop := fun q => gS g ≤ q
def gtys (g : gG) : List (ClassId × FieldType) := [(g.2.2.1 0, .int), (g.2.2.1 1, .long), (g.2.2.1 2, .byte), (g.2.2.1 3, .object "HeldPaths$Strip")]
def gtr (g : gG) (e : va_E) : va_E := match e with
  | .inl a => .inl (g.2.2.1 a.1, a.2)
  | .inr o => .inr o
def sk_ix : List Nat := [80, 82, 84, 86, 88, 90, 96, 102, 108, 48, 114, 60, 69]
def sk_tx : List String := ["path", "track", "wall", "deer", "bog", "ride", "stay", "come", "gone", "walker", "pay", "rain", "weight"]
def sk_len : List Nat := [4, 5, 4, 4, 3, 4, 4, 4, 4, 6, 3, 4, 6]
def sk_byt : List (List Int32) := [[112, 97, 116, 104], [116, 114, 97, 99, 107], [119, 97, 108, 108], [100, 101, 101, 114], [98, 111, 103], [114, 105, 100, 101], [115, 116, 97, 121], [99, 111, 109, 101], [103, 111, 110, 101], [119, 97, 108, 107, 101, 114], [112, 97, 121], [114, 97, 105, 110], [119, 101, 105, 103, 104, 116]]
def gNs : List (String × Nat × MethodName × String) := [("HeldPaths", 24, ⟨"HeldPaths$Tape", "<init>", "()V"⟩, "HeldPaths"), ("HeldPaths", 31, ⟨"HeldPaths$Chances", "<init>", "()V"⟩, "HeldPaths"), ("HeldPaths", 57, ⟨"HeldPaths$Trace", "<init>", "()V"⟩, "HeldPaths"), ("HeldPaths$Wood", 80, ⟨"HeldPaths", "isBelow", "(II)Z"⟩, "HeldPaths"), ("HeldPaths$Wood", 92, ⟨"HeldPaths", "isInSet", "(II)Z"⟩, "HeldPaths")]
/-- what the tables say at every state that comes -/
def gSC (g : gG) (U : State) : Prop := va_K g.2.1 vwCl (gtys g) U ∧ va_AO "HeldPaths$Strip" U ∧ (∀ i, i < 13 → vk_R "HeldPaths$Tape" (sk_ix.getD i 0) (sk_tx.getD i "") (g.2.2.2.2.1 i) U) ∧ vk_S 13 sk_len sk_byt g.2.2.2.2.1 g.2.2.2.2.2 (gF g) U g.2.2.2.1 ∧ (va_Z "java/lang/String" "COMPACT_STRINGS" "Z" (.int 1) (gF g) U g.2.2.2.1 ∧ va_Zq "jdk/internal/util/Preconditions" "SIOOBE_FORMATTER" "Ljava/util/function/BiFunction;" (gF g) U g.2.2.2.1) ∧ ∀ q ∈ gNs, va_Nw (.methodLinkNest q.1 q.2.1 q.2.2.1 q.2.2.2) U
/-- the machine's heap holds the cells of h, and all that was there at the law's start -/
def gRl (g : gG) (h : gH) (H : Heap) : Prop := (∀ a e, h.1 a = some e → gS g ≤ a ∧ va_at g.2.1 vwCl (a, gtr g e) H) ∧ H.size = h.2 ∧ gS g ≤ H.size ∧ ∀ q, q < gS g → H[q]? = g.2.2.2.1[q]?
def gCx (g : gG) (M : gM) (p : Program) (s : State) (m : MethodId) (args : Array Value) (meth : Method) (c : Code) : Prop :=
  p.tables.exec = Jvm.exec ∧ c.code = M.2.1 ∧ c.maxLocals = M.2.2.1 ∧ meth.sig.returnType = M.2.2.2.1 ∧ s.vm.findClass M.1.cls = some m.cls ∧ (∀ w ∈ gT, w.before args s = true) ∧ meth.locks = false ∧ meth.name = M.1.name ∧ gSC g s
def gL (ls : Array Slot) (n : Nat) (L : List (Option Value)) : Prop := ls.size = n ∧ lv_wf ls ∧ ∀ (i : Nat) (v : Value), L[i]? = some (some v) → ls[i]? = some (.val v)
def Ex (g : gG) (M : gM) (Z : gZt) (pc : Nat) (L : List (Option Value)) (st : List Value) (h : gH) (k n : Nat) : Prop :=
  ∀ (p : Program) (e : Env) (s : State) (m : MethodId) (args : Array Value) (below : List Frame) (meth : Method) (c : Code) (H : Heap) (locs : List Loc) (ls : Array Slot), gCx g M p s m args meth c → gRl g h H → (∀ q ∈ locs, gS g ≤ q.base) → gL ls M.2.2.1 L → W p g.1 e M.2.2.2.2 s m args below meth c H locs k n (Z below args s) (F0 m pc ls st)
def gQ (g : gG) (Q : Option Value → gH → Prop) : Array Value → State → Outcome → State → Prop := fun _ _ o t => ∃ (r : Option Value) (h' : gH), o = .returned r ∧ Q r h' ∧ gRl g h' t.heap
def gZm (g : gG) (M : gM) (Q : Option Value → gH → Prop) : gZt := fun below args s => MQ below (gQ g Q) args s M.2.2.2.2.cells M.2.2.2.2.slots (gF g)
def gPc (g : gG) (av : List Value) (h : gH) : Array Value → State → Prop := fun v U => v = av.toArray ∧ gSC g U ∧ gRl g h U.heap
def gWs (M : gM) : List Cond := Cond.code M.1 M.2.1 M.2.2.1 M.2.2.2.1 :: gT
/-- a method's contract -/
def Cn (g : gG) (M : gM) (av : List Value) (h : gH) (Q : Option Value → gH → Prop) : Prop := Met g.1 M.1 (gWs M) M.2.2.2.2 (gPc g av h) (gQ g Q) M.2.2.2.2.cells M.2.2.2.2.slots (gF g)
theorem gSC.warm {g : gG} {s U : State} (hW : s.WarmedH U.vm) (h : gSC g s) : gSC g U :=
  ⟨va_K.moved hW.alike h.1, va_AO.moved hW.alike h.2.1, fun i hi => vk_R.warm hW (h.2.2.1 i hi), vk_S.moved hW.alike h.2.2.2.1, ⟨va_Z.moved hW.alike h.2.2.2.2.1.1, va_Zq.moved hW.alike h.2.2.2.2.1.2⟩, fun q hq => va_Nw.warmM hW (h.2.2.2.2.2 q hq)⟩
theorem gSC.same {g : gG} {s U : State} (hv : U.vm = s.vm) (h : gSC g s) : gSC g U := by
  have hA : s.vm.Alike U.vm := by rw [hv]; exact Vm.Alike.refl _
  exact ⟨va_K.moved hA h.1, va_AO.moved hA h.2.1, fun i hi => vk_R.same hv (h.2.2.1 i hi), vk_S.moved hA h.2.2.2.1, ⟨va_Z.moved hA h.2.2.2.2.1.1, va_Zq.moved hA h.2.2.2.2.1.2⟩, fun q hq => va_Nw.same rfl hv.symm (h.2.2.2.2.2 q hq)⟩
theorem gPc.blind (g : gG) (av : List Value) (h : gH) : FrameBlind (gPc g av h) := fun _ U _ _ q => ⟨q.1, gSC.same (s := U) rfl q.2.1, q.2.2⟩
theorem gT_good : ∀ w ∈ gT, (w.onTables && w.keeps) = true ∨ ∃ ty, w = .arrayClass ty := fun _ h => good_of_word (List.mem_filter.mp h).2
theorem gT_in {w : Cond} (i : Nat) (h : lw_tbl[i]? = some w) (hg : goodWord w = true) : w ∈ gT := List.mem_filter.mpr ⟨List.mem_of_getElem? h, hg⟩
/-! locals -/
theorem gL.lv {ls : Array Slot} {n : Nat} {L : List (Option Value)} (h : gL ls n L) (l : List (Nat × Value)) (hl : ∀ q ∈ l, L[q.1]? = some (some q.2)) : lv_has ls n l := ⟨h.1, h.2.1, fun q hq => h.2.2 _ _ (hl q hq)⟩
/-- all listed values, with their places -/
def gas : Nat → List (Option Value) → List (Nat × Value)
  | _, [] => []
  | k, none :: t => gas (k + 1) t
  | k, some v :: t => (k, v) :: gas (k + 1) t
theorem gas_mem : ∀ (k : Nat) (L : List (Option Value)) (q : Nat × Value), q ∈ gas k L ↔ k ≤ q.1 ∧ L[q.1 - k]? = some (some q.2)
  | k, [], q => by simp [gas]
  | k, none :: t, q => by
    rw [gas, gas_mem (k + 1) t q]
    constructor
    · rintro ⟨h1, h2⟩
      refine ⟨by omega, ?_⟩
      rw [show q.1 - k = (q.1 - (k + 1)) + 1 by omega, List.getElem?_cons_succ]
      exact h2
    · rintro ⟨h1, h2⟩
      by_cases e : q.1 = k
      · rw [e, Nat.sub_self, List.getElem?_cons_zero] at h2; cases h2
      · refine ⟨by omega, ?_⟩
        rw [show q.1 - k = (q.1 - (k + 1)) + 1 by omega, List.getElem?_cons_succ] at h2
        exact h2
  | k, some v :: t, q => by
    rw [gas, List.mem_cons, gas_mem (k + 1) t q]
    constructor
    · rintro (h | ⟨h1, h2⟩)
      · subst h; exact ⟨Nat.le_refl _, by simp⟩
      · refine ⟨by omega, ?_⟩
        rw [show q.1 - k = (q.1 - (k + 1)) + 1 by omega, List.getElem?_cons_succ]
        exact h2
    · rintro ⟨h1, h2⟩
      by_cases e : q.1 = k
      · left
        rw [e, Nat.sub_self, List.getElem?_cons_zero] at h2
        obtain ⟨a, b⟩ := q
        simp at h2 e
        rw [e, h2]
      · right
        refine ⟨by omega, ?_⟩
        rw [show q.1 - k = (q.1 - (k + 1)) + 1 by omega, List.getElem?_cons_succ] at h2
        exact h2
theorem gL.gas {ls : Array Slot} {n : Nat} {L : List (Option Value)} (h : gL ls n L) : lv_has ls n (gas 0 L) := h.lv _ fun q hq => by simpa using ((gas_mem 0 L q).mp hq).2
/-- what was there ahead of a place is no long -/
def gok (L : List (Option Value)) (i : Nat) : Bool := match i with
  | 0 => true
  | j + 1 => match L[j]? with
    | some (some v) => v.category == 1
    | _ => true
theorem gL.store1 {ls : Array Slot} {n : Nat} {L L' : List (Option Value)} {i : Nat} {v : Value} (h : gL ls n L) (hi : i < n) (hc : v.category = 1) (ho : gok L i = true) (hL : L.set i (some v) = L') : ∃ ls', storeLocals ls i v = some ls' ∧ gL ls' n L' := by
  subst hL
  obtain ⟨ls', h1, h2⟩ := lv_store1 (v := v) h.gas hi hc
  refine ⟨ls', h1, h2.1, h2.2.1, fun j w hj => ?_⟩
  by_cases e : j = i
  · subst e
    rw [List.getElem?_set] at hj
    simp only [if_true] at hj
    split at hj
    · cases hj; exact h2.2.2 _ List.mem_cons_self
    · cases hj
  · rw [List.getElem?_set_ne (Ne.symm e)] at hj
    refine h2.2.2 (j, w) (List.mem_cons_of_mem _ (List.mem_filter.mpr ⟨(gas_mem 0 L _).mpr ⟨Nat.zero_le _, by simpa using hj⟩, ?_⟩))
    simp only [Bool.and_eq_true, Bool.not_eq_true', beq_eq_false_iff_ne, ne_eq, Bool.and_eq_false_iff]
    refine ⟨e, ?_⟩
    by_cases e2 : j + 1 = i
    · right
      subst e2
      unfold gok at ho
      simp only [hj, beq_iff_eq] at ho
      omega
    · exact Or.inl e2
theorem gL.store2 {ls : Array Slot} {n : Nat} {L L' : List (Option Value)} {i : Nat} {v : Value} (h : gL ls n L) (hi : i + 1 < n) (hc : v.category = 2) (ho : gok L i = true) (hL : (L.set i (some v)).set (i + 1) none = L') : ∃ ls', storeLocals ls i v = some ls' ∧ gL ls' n L' := by
  subst hL
  obtain ⟨ls', h1, h2⟩ := lv_store2 (v := v) h.gas hi hc
  refine ⟨ls', h1, h2.1, h2.2.1, fun j w hj => ?_⟩
  by_cases e1 : j = i + 1
  · subst e1
    rw [List.getElem?_set] at hj
    simp only [if_true] at hj
    split at hj <;> cases hj
  rw [List.getElem?_set_ne (Ne.symm e1)] at hj
  by_cases e : j = i
  · subst e
    rw [List.getElem?_set] at hj
    simp only [if_true] at hj
    split at hj
    · cases hj; exact h2.2.2 _ List.mem_cons_self
    · cases hj
  · rw [List.getElem?_set_ne (Ne.symm e)] at hj
    refine h2.2.2 (j, w) (List.mem_cons_of_mem _ (List.mem_filter.mpr ⟨(gas_mem 0 L _).mpr ⟨Nat.zero_le _, by simpa using hj⟩, ?_⟩))
    simp only [Bool.and_eq_true, Bool.not_eq_true', beq_eq_false_iff_ne, ne_eq, Bool.and_eq_false_iff]
    refine ⟨e, e1, ?_⟩
    by_cases e2 : j + 1 = i
    · right
      subst e2
      unfold gok at ho
      simp only [hj, beq_iff_eq] at ho
      omega
    · exact Or.inl e2
/-! heaps -/
def hset (h : gH) (a : Nat) (e : va_E) : gH := (fun b => if b = a then some e else h.1 b, h.2)
def hnew (h : gH) (e : va_E) : gH := (fun b => if b = h.2 then some e else h.1 b, h.2 + 1)
theorem gRl.lt {g : gG} {h : gH} {H : Heap} (r : gRl g h H) {a : Nat} {e : va_E} (ha : h.1 a = some e) : a < h.2 := by
  have := (r.1 a e ha).2.lt
  rw [← r.2.1]; exact this
theorem gRl.set {g : gG} {h : gH} {H H1 : Heap} (r : gRl g h H) {a : Nat} {e0 e : va_E} (ha : h.1 a = some e0) (z : H1.size = H.size) (oq : ∀ q, q ≠ a → H1[q]? = H[q]?) (he : va_at g.2.1 vwCl (a, gtr g e) H1) : gRl g (hset h a e) H1 := by
  have ha1 := (r.1 a e0 ha).1
  refine ⟨fun b e' hb => ?_, by rw [z]; exact r.2.1, by rw [z]; exact r.2.2.1, fun q hq => ?_⟩
  · by_cases hba : b = a
    · subst hba
      simp only [hset, if_true] at hb
      cases hb
      exact ⟨ha1, he⟩
    · simp only [hset, if_neg hba] at hb
      exact ⟨(r.1 b e' hb).1, (r.1 b e' hb).2.kept (oq b hba)⟩
  · rw [oq q (fun e => by subst e; exact absurd ha1 (Nat.not_le.mpr hq))]
    exact r.2.2.2 q hq
theorem gRl.new {g : gG} {h : gH} {H H1 : Heap} (r : gRl g h H) {e : va_E} (z : H1.size = h.2 + 1) (oq : ∀ q, q < h.2 → H1[q]? = H[q]?) (he : va_at g.2.1 vwCl (h.2, gtr g e) H1) : gRl g (hnew h e) H1 := by
  have hs : gS g ≤ h.2 := by rw [← r.2.1]; exact r.2.2.1
  refine ⟨fun b e' hb => ?_, z, by rw [z]; omega, fun q hq => ?_⟩
  · by_cases hba : b = h.2
    · subst hba
      simp only [hnew, if_true] at hb
      cases hb
      exact ⟨hs, he⟩
    · simp only [hnew, if_neg hba] at hb
      exact ⟨(r.1 b e' hb).1, (r.1 b e' hb).2.kept (oq b (r.lt hb))⟩
  · rw [oq q (by omega)]
    exact r.2.2.2 q hq
/-! entry and end -/
def gLof : List Value → List (Option Value)
  | [] => []
  | v :: vs => if v.category = 2 then some v :: none :: gLof vs else some v :: gLof vs
theorem gLof_mem : ∀ (k : Nat) (vs : List Value) (i : Nat) (v : Value), (gLof vs)[i]? = some (some v) → (k + i, v) ∈ lv_args k vs
  | _, [], i, v, h => by simp [gLof] at h
  | k, w :: vs, i, v, h => by
    unfold gLof at h
    unfold lv_args
    split at h
    · next hc =>
      rw [if_pos hc]
      match i, h with
      | 0, h => simp at h; subst h; exact List.mem_cons_self
      | 1, h => simp at h
      | i + 2, h =>
        simp only [List.getElem?_cons_succ] at h
        have := gLof_mem (k + 2) vs i v h
        rw [show k + (i + 2) = k + 2 + i by omega]
        exact List.mem_cons_of_mem _ this
    · next hc =>
      rw [if_neg hc]
      match i, h with
      | 0, h => simp at h; subst h; exact List.mem_cons_self
      | i + 1, h =>
        simp only [List.getElem?_cons_succ] at h
        have := gLof_mem (k + 1) vs i v h
        rw [show k + (i + 1) = k + 1 + i by omega]
        exact List.mem_cons_of_mem _ this
theorem gL_entry (vs : List Value) {n : Nat} {L : List (Option Value)} (h : (lg_sl vs).length ≤ n) (hL : gLof vs ++ List.replicate (n - (lg_sl vs).length) none = L) : gL ((lg_sl vs ++ List.replicate (n - (lg_sl vs).length) Slot.unset).toArray) n L := by
  obtain ⟨h1, h2, h3⟩ := lv_entry vs h
  refine ⟨h1, h2, fun i v hi => ?_⟩
  subst hL
  rw [List.getElem?_append] at hi
  split at hi
  · have := gLof_mem 0 vs i v hi
    rw [Nat.zero_add] at this
    exact h3 _ this
  · rw [List.getElem?_replicate] at hi
    split at hi <;> cases hi
theorem Cn.of {g : gG} {M : gM} {av : List Value} {h : gH} {Q : Option Value → gH → Prop} {L : List (Option Value)} (hy : plainName M.1.cls = true) (hn : (lg_sl av).length ≤ M.2.2.1) (hL : gLof av ++ List.replicate (M.2.2.1 - (lg_sl av).length) none = L)
    (k : Ex g M (gZm g M Q) 0 L [] h 0 0) : Cn g M av h Q := by
  refine Met.ofW (cc := M.2.1) (maxL := M.2.2.1) (ret := M.2.2.2.1) hy rfl ?_
  intro p e s m args below meth c s₁ B hml hv
  obtain ⟨rfl, hsc, hrl⟩ := hv
  have hts := atoms_spec (ws := gWs M) B.pre
  rw [lg_entry_eq]
  refine k p e s m _ below meth c s.heap [] _ ⟨B.exec, B.bytes, hml, B.returns, findClass_of_methodNamed B.named, fun w hw => hts w (List.mem_cons_of_mem _ hw), B.notSynchronized, (name_of_methodNamed B.named B.method).1, hsc⟩ hrl (fun q hq => by cases hq) (gL_entry av hn hL)
section GR
variable {g : gG} {M : gM} {Z : gZt} {Q : Option Value → gH → Prop} {pc : Nat} {L : List (Option Value)} {st rest : List Value} {h : gH} {k n : Nat}
theorem x_iret {v : Int32} (hr : M.2.2.2.1 = some .int) (d : decode M.2.1 pc = .ok (.ireturn, 1)) (hk : k ≤ M.2.2.2.2.cells ∧ n ≤ M.2.2.2.2.slots) (q : Q (some (.int v)) h) : Ex g M (gZm g M Q) pc L [.int v] h k n := by
  intro p e s m args below meth c H locs ls C R F Lh
  obtain ⟨hx, hb, hml, hrt, hown, hts, hlk, hnm, hsc⟩ := C
  refine W.widen hk.1 hk.2 ?_
  exact W.iret hx hb (hrt.trans hr) (fun t ht _ => ⟨_, h, rfl, q, by rw [ht]; exact R⟩) F d hlk
theorem x_zret {v : Int32} {ty : FieldType} (hr : M.2.2.2.1 = some ty) (d : decode M.2.1 pc = .ok (.ireturn, 1)) (hk : k ≤ M.2.2.2.2.cells ∧ n ≤ M.2.2.2.2.slots) (hn : narrow ty (.int v) = .int v) (q : Q (some (.int v)) h) : Ex g M (gZm g M Q) pc L [.int v] h k n := by
  intro p e s m args below meth c H locs ls C R F Lh
  obtain ⟨hx, hb, hml, hrt, hown, hts, hlk, hnm, hsc⟩ := C
  refine W.widen hk.1 hk.2 ?_
  exact W.zret hx hb (hrt.trans hr) hn (fun t ht _ => ⟨_, h, rfl, q, by rw [ht]; exact R⟩) F d hlk
theorem x_vret (hr : M.2.2.2.1 = none) (d : decode M.2.1 pc = .ok (.return_, 1)) (hk : k ≤ M.2.2.2.2.cells ∧ n ≤ M.2.2.2.2.slots) (q : Q none h) : Ex g M (gZm g M Q) pc L [] h k n := by
  intro p e s m args below meth c H locs ls C R F Lh
  obtain ⟨hx, hb, hml, hrt, hown, hts, hlk, hnm, hsc⟩ := C
  refine W.widen hk.1 hk.2 ?_
  exact W.vret hx hb (hrt.trans hr) (fun t ht _ => ⟨_, h, rfl, q, by rw [ht]; exact R⟩) F d hlk
theorem x_lret {v : Int64} (hr : M.2.2.2.1 = some .long) (d : decode M.2.1 pc = .ok (.lreturn, 1)) (hk : k ≤ M.2.2.2.2.cells ∧ n ≤ M.2.2.2.2.slots) (q : Q (some (.long v)) h) : Ex g M (gZm g M Q) pc L [.long v] h k n := by
  intro p e s m args below meth c H locs ls C R F Lh
  obtain ⟨hx, hb, hml, hrt, hown, hts, hlk, hnm, hsc⟩ := C
  refine W.widen hk.1 hk.2 ?_
  exact W.lret hx hb (hrt.trans hr) (fun t ht _ => ⟨_, h, rfl, q, by rw [ht]; exact R⟩) F d hlk
theorem x_aret {v : Value} {rt : FieldType} (hr : M.2.2.2.1 = some rt) (hrt2 : (∃ n, rt = .object n) ∨ ∃ t, rt = .array t) (hv : v = .null ∨ ∃ a, v = .ref a) (d : decode M.2.1 pc = .ok (.areturn, 1)) (hk : k ≤ M.2.2.2.2.cells ∧ n ≤ M.2.2.2.2.slots) (q : Q (some v) h) : Ex g M (gZm g M Q) pc L [v] h k n := by
  intro p e s m args below meth c H locs ls C R F Lh
  obtain ⟨hx, hb, hml, hrt, hown, hts, hlk, hnm, hsc⟩ := C
  refine W.widen hk.1 hk.2 ?_
  exact W.aret hx hb (hrt.trans hr) hrt2 hv (fun t ht _ => ⟨_, h, rfl, q, by rw [ht]; exact R⟩) F d hlk
theorem x_widen {k' n' : Nat} (h1 : k ≤ k') (h2 : n ≤ n') (kk : Ex g M Z pc L st h k' n') : Ex g M Z pc L st h k n := fun p e s m args below meth c H locs ls C R F Lh => W.widen h1 h2 (kk p e s m args below meth c H locs ls C R F Lh)
theorem x_locals {L' : List (Option Value)} (hL : ∀ (i : Nat) (v : Value), L'[i]? = some (some v) → L[i]? = some (some v)) (kk : Ex g M Z pc L' st h k n) : Ex g M Z pc L st h k n := fun p e s m args below meth c H locs ls C R F Lh => kk p e s m args below meth c H locs ls C R F ⟨Lh.1, Lh.2.1, fun i v hi => Lh.2.2 i v (hL i v hi)⟩
end GR
