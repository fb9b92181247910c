section XT
variable {g : gG} {M M' : gM} {Z : gZt} {pc : Nat} {L : List (Option Value)} {st rest av : List Value} {h : gH} {k n k' n' : Nat} {P : gH → Prop} {v : Value}
theorem x_cvU {idx na b ci N m0 : Nat} {fs : List Value} {T : u_T} {Cq owner : String} {x : MethodName} {b0 : ByteArray} {r0 : Option FieldType} (hc : Ct g M' (.ref b :: av) h (some v) P) (hb : h.1 b = some (.inr (ci, fs))) (lk : gLk M' na) (hcl : vwCl[ci]? = some (Cq, T, N)) (hl : Cond.methodLink M.1.cls idx x ∈ gT ∧ Cond.sameMethod x.cls owner x.name x.desc ∈ gT ∧ Cond.instanceMethod ⟨owner, x.name, x.desc⟩ ∈ gT ∧ Cond.selects Cq x M'.1 ∈ gT ∧ Cond.instanceMethod M'.1 ∈ gT) (h0 : Cond.code ⟨owner, x.name, x.desc⟩ b0 m0 r0 ∈ gT) (hd : owner ≠ "java/lang/invoke/MethodHandle" ∧ owner ≠ "java/lang/invoke/VarHandle" ∧ (parseMethodDescriptor x.desc).map (fun d => d.parameters.length) = some na) (d : decode M.2.1 pc = .ok (.invokevirtual idx, 3)) (hn : av.length = na) (hst : st = av.reverse ++ .ref b :: rest) (hw : (rest.map fun v => v.category).sum ≤ 8) (hR : gRm M M') (hk : k + M'.2.2.2.2.cells = k' ∧ n + M'.2.2.2.2.slots = n' ∧ k' ≤ M.2.2.2.2.cells ∧ n' ≤ M.2.2.2.2.slots) (kk : ∀ h', P h' → Ex g M Z (pc + 3) L (v :: rest) h' k' n') : Ex g M Z pc L st h k n := x_callU hc hb lk hcl hl h0 hd d hn hst hw hR hk (fun r h' q => by obtain ⟨rfl, p⟩ := q; exact kk h' p)
theorem x_cvSU {idx na b ci N i0 : Nat} {fs : List Value} {T : u_T} {Cq : String} (hc : Ct g M' (.ref b :: av) h (some v) P) (hb : h.1 b = some (.inr (ci, fs))) (lk : gLk M' na) (hcl : vwCl[ci]? = some (Cq, T, N)) (hin : Cond.instantiable Cq i0 ∈ gT) (hl : Cond.methodLink M.1.cls idx M'.1 ∈ gT ∧ Cond.sameMethod M'.1.cls M'.1.cls M'.1.name M'.1.desc ∈ gT ∧ Cond.superclass M.1.cls M'.1.cls ∈ gT ∧ Cond.instanceMethod M'.1 ∈ gT) (hno : M'.1.name ≠ "<init>") (d : decode M.2.1 pc = .ok (.invokespecial idx, 3)) (hn : av.length = na) (hst : st = av.reverse ++ .ref b :: rest) (hw : (rest.map fun v => v.category).sum ≤ 8) (hR : gRm M M') (hk : k + M'.2.2.2.2.cells = k' ∧ n + M'.2.2.2.2.slots = n' ∧ k' ≤ M.2.2.2.2.cells ∧ n' ≤ M.2.2.2.2.slots) (kk : ∀ h', P h' → Ex g M Z (pc + 3) L (v :: rest) h' k' n') : Ex g M Z pc L st h k n := x_callSU hc hb lk hcl hin hl hno d hn hst hw hR hk (fun r h' q => by obtain ⟨rfl, p⟩ := q; exact kk h' p)
theorem x_cvSI {idx na b ci N i0 : Nat} {fs : List Value} {T : u_T} {Cq : String} {x : MethodName} (hc : Ct g M' (.ref b :: av) h (some v) P) (hb : h.1 b = some (.inr (ci, fs))) (lk : gLk M' na) (hcl : vwCl[ci]? = some (Cq, T, N)) (hin : Cond.instantiable Cq i0 ∈ gT) (hl : Cond.methodLink M.1.cls idx x ∈ gT ∧ Cond.sameMethod x.cls M'.1.cls x.name x.desc ∈ gT ∧ Cond.superclass M.1.cls x.cls ∈ gT ∧ Cond.superclass x.cls M'.1.cls ∈ gT ∧ Cond.instanceMethod M'.1 ∈ gT) (hxy : M'.1 = ⟨M'.1.cls, x.name, x.desc⟩) (hno : x.name ≠ "<init>") (d : decode M.2.1 pc = .ok (.invokespecial idx, 3)) (hn : av.length = na) (hst : st = av.reverse ++ .ref b :: rest) (hw : (rest.map fun v => v.category).sum ≤ 8) (hR : gRm M M') (hk : k + M'.2.2.2.2.cells = k' ∧ n + M'.2.2.2.2.slots = n' ∧ k' ≤ M.2.2.2.2.cells ∧ n' ≤ M.2.2.2.2.slots) (kk : ∀ h', P h' → Ex g M Z (pc + 3) L (v :: rest) h' k' n') : Ex g M Z pc L st h k n := x_callSI hc hb lk hcl hin hl hxy hno d hn hst hw hR hk (fun r h' q => by obtain ⟨rfl, p⟩ := q; exact kk h' p)
end XT
/-! the trace: length, bodies, parted -/
abbrev TR : Type := Nat × (Nat → Int32) × Nat
def bg (t : TR) (b : Int32) : TR := if t.2.2 = 0 ∧ t.1 < 30 then (t.1 + 1, va_up t.2.1 t.1 b, t.2.2) else t
def isQ (h : gH) (r : Nat) (t : TR) : Prop := isR h r (t.1, t.2.1) (nI t.2.2) ∧ t.2.2 ≤ 1
abbrev rF (r n p : Nat) : List Value := [.ref (r + 1), .int (nI n), .int (nI p)]
theorem bg_y {t : TR} {b : Int32} (h : t.2.2 = 0 ∧ t.1 < 30) : bg t b = (t.1 + 1, va_up t.2.1 t.1 b, t.2.2) := if_pos h
theorem bg_n {t : TR} {b : Int32} (h : ¬ (t.2.2 = 0 ∧ t.1 < 30)) : bg t b = t := if_neg h
set_option maxRecDepth 10000 in
set_option maxHeartbeats 2000000 in
theorem c_X7_begin {g : gG} {h : gH} {r : Nat} {t : TR} {b : Int32} (hq : isQ h r t) : Ct g mX7_begin [.ref r, .int b] h none (fun h' => isQ h' r (bg t b) ∧ Fr r 2 h h') := by
  obtain ⟨⟨l30, e0, a, e1, ea⟩, p1⟩ := id hq
  have l30 : t.1 ≤ 30 := l30
  have pz : nI t.2.2 = 0 ↔ t.2.2 = 0 := nI_z (by omega)
  have l3 : (30 : Int32) ≤ nI t.1 ↔ 30 ≤ t.1 := nI_leI (a := 30) (by decide) (by omega)
  refine Cn.of (L := [some (.ref r), some (.int b)]) (by decide) (Nat.le_of_ble_eq_true rfl) rfl ?_
  refine x_aload_n dX7_begin_0 rfl ?_
  refine x_get fX7_19 e0 rfl dX7_begin_1 ?_
  refine x_if_ne 36 dX7_begin_4 (by decide) (fun c4 => ?_) (fun c4 => ?_)
  · refine x_vret rfl dX7_begin_36 ⟨by decide, by decide⟩ ?_
    exact ⟨rfl, by rw [bg_n (fun q => c4 (pz.mpr q.1))]; exact hq, Fr.rf⟩
  · refine x_aload_n dX7_begin_7 rfl ?_
    refine x_get fX7_15 e0 rfl dX7_begin_8 ?_
    refine x_bipush (v := 30) dX7_begin_11 (by decide) ?_
    refine x_icmp_ge 36 dX7_begin_13 (by decide) (fun c13 => ?_) (fun c13 => ?_)
    · refine x_vret rfl dX7_begin_36 ⟨by decide, by decide⟩ ?_
      exact ⟨rfl, by rw [bg_n (fun q => by have := l3.mp c13; omega)]; exact hq, Fr.rf⟩
    · refine x_aload_n dX7_begin_16 rfl ?_
      refine x_get fX7_9 e0 rfl dX7_begin_17 ?_
      refine x_aload_n dX7_begin_20 rfl ?_
      refine x_get fX7_15 e0 rfl dX7_begin_21 ?_
      refine x_iload_n dX7_begin_24 rfl ?_
      refine x_iast t.1 e1 rfl (by have : ¬ 30 ≤ t.1 := fun q => c13 (l3.mpr q); omega) (by decide) dX7_begin_25 ?_
      refine x_aload_n dX7_begin_26 rfl ?_
      refine x_dup dX7_begin_27 rfl ?_
      refine x_get fX7_15 ((hset_n (show r ≠ r + 1 by omega)).trans e0) rfl dX7_begin_28 ?_
      refine x_iconst (v := 1) dX7_begin_31 (by decide) ?_
      refine x_iadd dX7_begin_32 ?_
      rw [nI_1]
      refine x_put (fs' := rF r (t.1 + 1) t.2.2) fX7_15 ((hset_n (show r ≠ r + 1 by omega)).trans e0) (Nat.le_of_ble_eq_true rfl) rfl rfl rfl dX7_begin_33 ?_
      refine x_vret rfl dX7_begin_36 ⟨by decide, by decide⟩ ?_
      have lt : t.1 < 30 := by have : ¬ 30 ≤ t.1 := fun q => c13 (l3.mpr q); omega
      refine ⟨rfl, ?_, (Fr.set (by omega) (by omega)).tr (Fr.set (by omega) (by omega))⟩
      rw [bg_y ⟨pz.mp c4, lt⟩]
      refine ⟨⟨by show t.1 + 1 ≤ 30; omega, hset_s, _, (hset_n (by omega)).trans hset_s, fun i hi => ?_⟩, p1⟩
      have hi : i < t.1 + 1 := hi
      show va_up a t.1 b i = va_up t.2.1 t.1 b i
      simp only [va_up]
      split
      · rfl
      · exact ea i (by show i < t.1; omega)
set_option maxRecDepth 10000 in
set_option maxHeartbeats 2000000 in
theorem c_X7_clear {g : gG} {h : gH} {r : Nat} {t : TR} (hq : isQ h r t) : Ct g mX7_clear [.ref r] h none (fun h' => isQ h' r (0, t.2.1, 0) ∧ Fr r 2 h h') := by
  obtain ⟨⟨l30, e0, a, e1, ea⟩, p1⟩ := id hq
  refine Cn.of (L := [some (.ref r)]) (by decide) (Nat.le_of_ble_eq_true rfl) rfl ?_
  refine x_aload_n dX7_clear_0 rfl ?_
  refine x_iconst (v := 0) dX7_clear_1 (by decide) ?_
  refine x_put (fs' := rF r 0 t.2.2) fX7_15 e0 (Nat.le_of_ble_eq_true rfl) rfl rfl rfl dX7_clear_2 ?_
  refine x_aload_n dX7_clear_5 rfl ?_
  refine x_iconst (v := 0) dX7_clear_6 (by decide) ?_
  refine x_put (fs' := rF r 0 0) fX7_19 hset_s (Nat.le_of_ble_eq_true rfl) rfl rfl rfl dX7_clear_7 ?_
  refine x_vret rfl dX7_clear_10 ⟨by decide, by decide⟩ ?_
  exact ⟨rfl, ⟨⟨Nat.zero_le _, hset_s, a, (hset_n (by omega)).trans ((hset_n (by omega)).trans e1), fun i q => absurd q (Nat.not_lt_zero i)⟩, Nat.zero_le _⟩, (Fr.set (by omega) (by omega)).tr (Fr.set (by omega) (by omega))⟩
