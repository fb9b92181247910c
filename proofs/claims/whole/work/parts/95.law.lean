/-! THE START -/
def lwF : List Cond := flatC (Jvm.Cond.and given_1 narrow_1)
def lwT (i : Nat) : Term := Term.string "HeldPaths$Tape" (sk_ix.getD i 0)
def lwV (i : Nat) : Term := Term.field (lwT i) "java/lang/String" "value" "[B"
theorem lf_len : ∀ i : Nat, i < 13 → sk_len.getD i 0 < 2 ^ 31 := by decide +kernel
theorem lf_ex : ∀ i : Nat, i < 13 → Cond.exactly (lwT i) "java/lang/String" ∈ lwF := by decide +kernel
theorem lf_co : ∀ i : Nat, i < 13 → Cond.eq (.field (lwT i) "java/lang/String" "coder" "B") (.int 0) ∈ lwF := by decide +kernel
theorem lf_ar : ∀ i : Nat, i < 13 → Cond.arrayOf (.field (lwT i) "java/lang/String" "value" "[B") .byte ∈ lwF := by decide +kernel
theorem lf_le : ∀ i : Nat, i < 13 → Cond.eq (.length (.field (lwT i) "java/lang/String" "value" "[B")) (.int (Int32.ofNat (sk_len.getD i 0))) ∈ lwF := by decide +kernel
theorem lf_el : ∀ i : Nat, i < 13 → ∀ j : Nat, j < sk_len.getD i 0 → Cond.eq (.elem (.field (lwT i) "java/lang/String" "value" "[B") (.int (Int32.ofNat j))) (.int ((sk_byt.getD i []).getD j 0)) ∈ lwF := by decide +kernel
theorem lf_ne : ∀ i : Nat, i < 13 → ∀ j : Nat, j < 13 → i ≠ j → Cond.not (Cond.eq (lwT i) (lwT j)) ∈ lwF ∨ Cond.not (Cond.eq (lwT j) (lwT i)) ∈ lwF := by decide +kernel
theorem lf_cs : Cond.eq (.static "java/lang/String" "COMPACT_STRINGS" "Z") (.int 1) ∈ lwF := by decide +kernel
theorem lf_sf : Cond.isRef (.static "jdk/internal/util/Preconditions" "SIOOBE_FORMATTER" "Ljava/util/function/BiFunction;") ∈ lwF := by decide +kernel
def sr_ix : List Nat := [364, 417, 418, 419, 420, 421, 430, 435, 444, 450, 455, 464, 465]
theorem lt_sr : ∀ i : Nat, i < 13 → lw_tbl[sr_ix.getD i 0]? = some (Cond.stringRef "HeldPaths$Tape" (sk_ix.getD i 0) (sk_tx.getD i "")) := by decide +kernel
theorem lt_ao : lw_tbl[256]? = some (Cond.arrayOver (.object "HeldPaths$Strip")) := by decide +kernel
theorem lt_cs : lw_tbl[378]? = some (Cond.laysStatic "java/lang/String" "COMPACT_STRINGS" "Z") := by decide +kernel
theorem lt_sf : lw_tbl[394]? = some (Cond.laysStatic "jdk/internal/util/Preconditions" "SIOOBE_FORMATTER" "Ljava/util/function/BiFunction;") := by decide +kernel
theorem lt_is : lw_tbl[89]? = some (Cond.initialized "java/lang/String") := by decide +kernel
theorem lt_ip : lw_tbl[91]? = some (Cond.initialized "jdk/internal/util/Preconditions") := by decide +kernel
def ns_ix : List Nat := [203, 233, 259, 496, 501]
theorem lt_ns : ∀ i : Nat, i < 5 → ∀ q : String × Nat × MethodName × String, gNs[i]? = some q → lw_tbl[ns_ix.getD i 0]? = some (.methodLinkNest q.1 q.2.1 q.2.2.1 q.2.2.2)
  | 0, _, _, rfl => by decide +kernel
  | 1, _, _, rfl => by decide +kernel
  | 2, _, _, rfl => by decide +kernel
  | 3, _, _, rfl => by decide +kernel
  | 4, _, _, rfl => by decide +kernel
theorem lw_K {args : Array Value} {s : State} (hts : ∀ w ∈ gT, w.before args s = true) : ∃ D : va_G, ∀ (c : Nat) (q : vw_C), vwCl[c]? = some q → u_Kn s q.1 q.2.1 q.2.2 (D.1 c) (D.2 c) := by
  have h : ∀ c : Nat, ∃ d : ClassId × (Nat → Nat), ∀ q : vw_C, vwCl[c]? = some q → u_Kn s q.1 q.2.1 q.2.2 d.1 d.2 := by
    intro c
    match c with
    | 0 =>
      obtain ⟨a, b, h⟩ := u_known (C := RX0) (T := TX0) (N := 3) (n := 3) hts iX0 (hts _ (gT_in 945 (by decide +kernel) rfl))
      exact ⟨(a, b), fun q e => by cases e; exact h⟩
    | 1 =>
      obtain ⟨a, b, h⟩ := u_known (C := RX1) (T := TX1) (N := 5) (n := 5) hts iX1 (hts _ (gT_in 232 (by decide +kernel) rfl))
      exact ⟨(a, b), fun q e => by cases e; exact h⟩
    | 2 =>
      obtain ⟨a, b, h⟩ := u_known (C := RX2) (T := TX2) (N := 3) (n := 3) hts iX2 (hts _ (gT_in 935 (by decide +kernel) rfl))
      exact ⟨(a, b), fun q e => by cases e; exact h⟩
    | 3 =>
      obtain ⟨a, b, h⟩ := u_known (C := RX3) (T := TX3) (N := 3) (n := 3) hts iX3 (hts _ (gT_in 965 (by decide +kernel) rfl))
      exact ⟨(a, b), fun q e => by cases e; exact h⟩
    | 4 =>
      obtain ⟨a, b, h⟩ := u_known (C := RX4) (T := TX4) (N := 3) (n := 3) hts iX4 (hts _ (gT_in 955 (by decide +kernel) rfl))
      exact ⟨(a, b), fun q e => by cases e; exact h⟩
    | 5 =>
      obtain ⟨a, b, h⟩ := u_known (C := RX5) (T := TX5) (N := 2) (n := 2) hts iX5 (hts _ (gT_in 836 (by decide +kernel) rfl))
      exact ⟨(a, b), fun q e => by cases e; exact h⟩
    | 6 =>
      obtain ⟨a, b, h⟩ := u_known (C := RX6) (T := TX6) (N := 7) (n := 7) hts iX6 (hts _ (gT_in 202 (by decide +kernel) rfl))
      exact ⟨(a, b), fun q e => by cases e; exact h⟩
    | 7 =>
      obtain ⟨a, b, h⟩ := u_known (C := RX7) (T := TX7) (N := 3) (n := 3) hts iX7 (hts _ (gT_in 258 (by decide +kernel) rfl))
      exact ⟨(a, b), fun q e => by cases e; exact h⟩
    | 8 =>
      obtain ⟨a, b, h⟩ := u_known (C := RX8) (T := TX8) (N := 3) (n := 3) hts iX8 (hts _ (gT_in 886 (by decide +kernel) rfl))
      exact ⟨(a, b), fun q e => by cases e; exact h⟩
    | 9 =>
      obtain ⟨a, b, h⟩ := u_known (C := RX9) (T := TX9) (N := 3) (n := 3) hts iX9 (hts _ (gT_in 925 (by decide +kernel) rfl))
      exact ⟨(a, b), fun q e => by cases e; exact h⟩
    | 10 =>
      obtain ⟨a, b, h⟩ := u_known (C := RX10) (T := TX10) (N := 18) (n := 18) hts iX10 (hts _ (gT_in 111 (by decide +kernel) rfl))
      exact ⟨(a, b), fun q e => by cases e; exact h⟩
    | 11 =>
      obtain ⟨a, b, h⟩ := u_known (C := RX11) (T := TX11) (N := 13) (n := 13) hts iX11 (hts _ (gT_in 103 (by decide +kernel) rfl))
      exact ⟨(a, b), fun q e => by cases e; exact h⟩
    | 12 =>
      obtain ⟨a, b, h⟩ := u_known (C := RX12) (T := TX12) (N := 55) (n := 55) hts iX12 (hts _ (gT_in 1077 (by decide +kernel) rfl))
      exact ⟨(a, b), fun q e => by cases e; exact h⟩
    | c + 13 => exact ⟨(0, fun _ => 0), fun q e => by rw [List.getElem?_eq_none (show 13 ≤ c + 13 by omega)] at e; cases e⟩
  exact ⟨(fun c => (h c).choose.1, fun c => (h c).choose.2), fun c => (h c).choose_spec⟩
theorem lw_arr {args : Array Value} {s : State} (hts : ∀ w ∈ lw_tbl, w.before args s = true) : ∃ cid : Nat → ClassId, ∀ (k : Nat) (q : ClassId × FieldType), ([(cid 0, .int), (cid 1, .long), (cid 2, .byte), (cid 3, .object "HeldPaths$Strip")] : List (ClassId × FieldType))[k]? = some q → ArrOfT s q.1 q.2 ∧ va_RA s q.1 q.2 := by
  have hT : ∀ w ∈ gT, w.before args s = true := fun w hw => hts w (List.mem_filter.mp hw).1
  obtain ⟨c0, k0, m0, a0, b0, d0⟩ := Cond.arrayClass_spec (hT _ ka_int)
  obtain ⟨c1, k1, m1, a1, b1, d1⟩ := Cond.arrayClass_spec (hT _ ka_long)
  obtain ⟨c2, k2, m2, a2, b2, d2⟩ := Cond.arrayClass_spec (hT _ ka_byte)
  obtain ⟨m3, c3, k3, f1, -, f2, f3, f4⟩ := Cond.arrayOver_spec (hts _ (List.mem_of_getElem? lt_ao))
  refine ⟨fun k => match k with
    | 0 => c0
    | 1 => c1
    | 2 => c2
    | _ => c3, fun k q e => ?_⟩
  match k with
  | 0 => cases e; exact ⟨fun n z => ⟨fun k h => (by cases h), k0, b0, m0, d0⟩, a0⟩
  | 1 => cases e; exact ⟨fun n z => ⟨fun k h => (by cases h), k1, b1, m1, d1⟩, a1⟩
  | 2 => cases e; exact ⟨fun n z => ⟨fun k h => (by cases h), k2, b2, m2, d2⟩, a2⟩
  | 3 => cases e; exact ⟨fun n z => ⟨fun k h => (by cases h), k3, f2, m3, f3⟩, ⟨k3, m3, f2, f3, f1, f4⟩⟩
  | k + 4 => rw [List.getElem?_eq_none (show 4 ≤ k + 4 by omega)] at e; cases e
theorem lw_gSC {args : Array Value} {s : State} (l : Launch) (hts : ∀ w ∈ lw_tbl, w.before args s = true) (hgv : (Jvm.Cond.and given_1 narrow_1).before args s = true) : ∃ (D : va_G) (cid : Nat → ClassId) (adK adV : Nat → Nat), gSC (l, D, cid, s.heap, adK, adV) s := by
  have hs : ∀ w ∈ lwF, w.before args s = true := flat_of_before _ hgv
  have hw : ∀ {i : Nat} {w : Cond}, lw_tbl[i]? = some w → w.before args s = true := fun h => hts _ (List.mem_of_getElem? h)
  obtain ⟨D, hD⟩ := lw_K (fun w h => hts w (List.mem_filter.mp h).1)
  obtain ⟨cid, hc⟩ := lw_arr hts
  have hA : ∀ a : Nat, a < s.heap.size → ¬ (fun q : Nat => s.heap.size ≤ q) a := fun a h => Nat.not_le.mpr h
  obtain ⟨adK, adV, hS, hE⟩ := vk_Sof (args := args) (s := s) (N := 13) (tm := lwT) (len := sk_len) (byt := sk_byt) (A := fun q => s.heap.size ≤ q) lf_len (fun i h => hs _ (lf_ex i h)) (fun i h => hs _ (lf_co i h)) (fun i h => hs _ (lf_ar i h)) (fun i h => hs _ (lf_le i h)) (fun i h j hj => hs _ (lf_el i h j hj)) (fun i j hi hj h => (lf_ne i hi j hj h).elim (fun z => .inl (hs _ z)) (fun z => .inr (hs _ z))) hA
  refine ⟨D, cid, adK, adV, ⟨hD, hc⟩, va_AO.of (hw lt_ao), fun i hi => vk_R.of (hw (lt_sr i hi)) (hE i hi), hS, ⟨va_Zof (hw lt_cs) (hw lt_is) (va_eqt (hs _ lf_cs)) hA, va_Zqof (hw lt_sf) (hw lt_ip) (hs _ lf_sf) hA⟩, fun q hq => ?_⟩
  obtain ⟨i, hi, e⟩ := List.getElem_of_mem hq
  exact va_Nw.of rfl (hw (lt_ns i hi q (by rw [List.getElem?_eq_getElem hi, e])))
/-- YOUR PART: from the entry, for every script of at most 384 ints, the law comes to its end with true ('hflags': the launch's flags, for a law that throws: no stack traces) -/
theorem whole_start {p : Program} {e : Env} {s : State} {m : MethodId} {below : List Frame} {meth : Method} {c : Code} (l : Launch) (hflags : l.flags = flags0) {b L : Nat} {xs : Nat → Int32} (hL : L ≤ 384) (C0 : lw_At p s m meth c b L xs) : W p l e room_1 s m #[Value.ref b] below meth c s.heap [] 0 0 (lw_Z below #[Value.ref b] s) (entryFrame m ([Value.ref b] : List Value).toArray 4) := by
  obtain ⟨hx, hb, hr, hml, hown, hts, hX, hbl, hlocks, hgv⟩ := id C0
  obtain ⟨D, cid, adK, adV, hsc⟩ := lw_gSC l hts hgv
  have K := lw_entry (g := (l, D, cid, s.heap, adK, adV)) (nm := meth.name) (b := b) (L := L) (xs := xs) (h := (fun _ => none, s.heap.size)) hL p e s m #[.ref b] below meth c s.heap [] _ ⟨hx, hb, hml, hr, hown, fun w hw => hts w (List.mem_filter.mp hw).1, hlocks, rfl, hsc⟩ ⟨fun a e q => (by cases q), rfl, Nat.le_refl _, fun _ _ => rfl⟩ (fun q hq => by cases hq) (gL_entry [.ref b] (n := 4) (Nat.le_of_ble_eq_true rfl) rfl)
  rw [lg_entry_eq]
  intro T hT X
  obtain ⟨t, a1, a2⟩ := K T hT X
  exact ⟨t, a1, a2 ⟨rfl, hX, rfl, hbl⟩⟩
set_option maxHeartbeats 4000000 in
theorem lw_walk (l : Launch) (hflags : l.flags = flags0) (b : Addr) (xs : List Int32) : MetFree l x (headSpec (Jvm.Cond.code x code maxLocals ret :: tables_1) room_1) (lw_P b xs) (fun _ _ _ _ _ => True) lw_Q := by
  refine MetFree.of_bodyS (code := code) (maxLocals := maxLocals) (ret := ret) (by decide) ?_ ?_
  · intro args s m h hn
    obtain ⟨meth, c, h1, h2, h3, h4, h5, h6, -, -⟩ := Cond.code_spec hn (atoms_spec (ws := Jvm.Cond.code x code maxLocals ret :: tables_1) h _ List.mem_cons_self)
    exact ⟨meth, c, h1, h2, h3, h4, h5, h6⟩
  · intro p e s m args below meth c s₁ B hml0 hP _
    obtain ⟨rfl, hx, hbd, hgv⟩ := hP
    obtain ⟨scr, harrAt, hlist, hof, hsmall⟩ := hx
    obtain ⟨hcb, hkn, -, -⟩ := State.arrayAt?_spec harrAt
    have hown : s.vm.findClass R_law = some m.cls := findClass_of_methodNamed B.named
    have hts0 : ∀ c ∈ (Jvm.Cond.code x code maxLocals ret :: tables_1), c.before #[Value.ref b] s = true := atoms_spec (ws := Jvm.Cond.code x code maxLocals ret :: tables_1) B.pre
    have hts : ∀ w ∈ lw_tbl, w.before #[Value.ref b] s = true := k2_hts_sels lw_privs (fun w hw => hts0 w (List.mem_cons_of_mem _ hw)) lw_privs_ok
    have hml : c.maxLocals = 4 := B.maxLocals_eq (hts0 _ List.mem_cons_self)
    have X₀ : Stand p l e room_1 s m #[Value.ref b] below meth c s₁ [] 0 0 := Stand.of_body B
    have hh0 : s₁.heap = s.heap := by rw [B.state]; rfl
    have hsz : scr.slots.size = xs.length := by rw [← Array.length_toList, hlist, List.length_map]
    have hval : ∀ j : Nat, j < xs.length → scr.slots[j]? = some (.int (xs.getD j 0)) := fun j hj => by
      rw [← Array.getElem?_toList, hlist]
      simp [hj]
    have hbl : b < s.heap.size := (Array.getElem?_eq_some_iff.mp hcb).1
    have hX : va_X b xs.length (fun j => xs.getD j 0) s s.heap := ⟨scr, hcb, hof, hkn, hsz, hval⟩
    have K : W p l e room_1 s m #[Value.ref b] below meth c s₁.heap [] 0 0 (lw_Z below #[Value.ref b] s) (entryFrame m ([Value.ref b] : List Value).toArray 4) := by
      rw [hh0]
      exact whole_start l hflags hbd ⟨B.exec, B.bytes, B.returns, hml, hown, hts, hX, hbl, B.notSynchronized, hgv⟩
    obtain ⟨t, a1, o, b1, b2, b3⟩ := K s₁ rfl X₀
    exact ⟨t, o, a1, b1, b2, b3⟩
theorem lw_pre_spec {args : Array Value} {s : State} (h : (Jvm.Cond.and given_1 narrow_1).before args s = true) (hr : rest_1_c.before args s = true) : ∃ (b : Addr) (xs : List Int32), lw_P b xs args s := by
  have hs := flat_of_before _ h
  have hq := flat_of_before _ hr
  have hc : (Cond.count 1).before args s = true := hs _ (by decide +kernel)
  have harr : (Cond.arrayOf (.arg 0) .int).before args s = true := hs _ (by decide +kernel)
  have hle : (Cond.le (.length (.arg 0)) (.int 384)).before args s = true := hs _ (by decide +kernel)
  have hlen : (Cond.isInt (.length (.arg 0))).before args s = true := hq _ (by decide +kernel)
  have hall : (Cond.all (.arg 0) (.isInt (.elem (.arg 0) (.index 0)))).before args s = true := hq _ (by decide +kernel)
  obtain ⟨b, xs, hb, hx⟩ := State.ints_of_pre rfl harr hlen hall
  have hsm : xs.length < 2 ^ 31 := hx.choose_spec.2.2.2
  have hev : (Term.length (.arg 0)).eval args s none [] s = some (.int xs.length.toInt32) := hx.length_eval hb
  have hv := Cond.le_ints hev (show (Term.int 384).eval args s none [] s = some (.int 384) from rfl)
  have hd : xs.length.toInt32 ≤ 384 := by
    simpa [Cond.before, Cond.holds, hv] using hle
  have hN : xs.length ≤ 384 := (Int32.ofNat_le_ofNat hsm (by decide)).mp (show Int32.ofNat xs.length ≤ Int32.ofNat 384 from hd)
  exact ⟨b, xs, Cond.one_arg hc (show args[0]? = some (.ref b) from hb), hx, hN, h⟩
theorem lw_comes (l : Launch) (hflags : l.flags = flags0) : Comes l x (Jvm.Cond.code x code maxLocals ret :: tables_1) room_1 (fun tb e args s => Calls_1 tb e args s ∧ rest_1 tb e args s ∧ Pre_1 tb e args s)
    (fun _ _ args s o t => lw_Q args s o t) := by
  intro p e ha hc hk s m args below hf hfit hheap happ hpre
  obtain ⟨b, xs, hP⟩ := lw_pre_spec hpre.2.2 hpre.2.1
  obtain ⟨k, o, h1, h2, h3, hQ⟩ := lw_walk l hflags b xs p e ha hc hk s m args below hf ((Spec.applies_iff_loose hf).mp happ).1 hP trivial
  exact ⟨k, o, h1, h2, h3, hQ⟩
theorem lw_frame {s t : State} {o : Outcome} {args : Array Value} (h : Framed s o t [] 600000 7302250) :
    Framed s o t (fieldLocs frame_1_writes args s ++ arrayLocs frame_1_arrays args s ++ staticLocs frame_1_statics s) 600000 7302250 := h
theorem lw_limb (L : Cond) (hL : ∀ (args : Array Value) (s t : State), L.after args s (.returned (some (.int 1))) t = true) :
    ArmFor flags0 classFile x code maxLocals ret World_1 tables_1 room_1 Calls_1 rest_1 Pre_1
      (fun tb e a s o t => postC L tb e a s o t ∧ Framed s o t (fieldLocs frame_1_writes a s ++ arrayLocs frame_1_arrays a s ++ staticLocs frame_1_statics s) 600000 7302250) := by
  intro l hflags _ _ p e ha hc hk s m args below hf hfit hheap happ hpre
  obtain ⟨k, o, h1, h2, h3, rfl, hF⟩ := lw_comes l hflags p e ha hc hk s m args below hf hfit hheap happ hpre
  exact ⟨k, _, h1, h2, h3, hL args s _, lw_frame hF⟩
theorem i_vc : Claimed_1_1 ∧ Claimed_1_2 := ⟨lw_limb limb_1_1 (fun args s t => by simp [limb_1_1, Cond.after, Cond.holds, Cond.value]), lw_limb limb_1_2 (fun args s t => Cond.after_iff.mpr (by
  first | (rw [show limb_1_2 = Cond.eq .result (.int 1) from rfl, Cond.eq_ints (x := 1) (y := 1) rfl rfl]; simp; done) | (simp [limb_1_2, Cond.value, Term.eval]; done)))⟩
