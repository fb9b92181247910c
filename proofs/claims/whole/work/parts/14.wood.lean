section XM
variable {g : gG} {M : gM} {Z : gZt} {pc : Nat} {L : List (Option Value)} {st : List Value} {h : gH} {k n : Nat}
theorem x_mmax {idx : Nat} {x y : Int32} (hl : Cond.methodLink M.1.cls idx mJ9_max_7cf53.1 ∈ gT ∧ Cond.static mJ9_max_7cf53.1 ∈ gT) (d : decode M.2.1 pc = .ok (.invokestatic idx, 3)) (hf : 1 ≤ M.2.2.2.2.frames) (hlo : (st.map fun v => v.category).sum + 13 ≤ M.2.2.2.2.locals) (hk : k ≤ M.2.2.2.2.cells ∧ n ≤ M.2.2.2.2.slots) (kk : Ex g M Z (pc + 3) L (.int (if x < y then y else x) :: st) h k n) : Ex g M Z pc L (.int y :: .int x :: st) h k n := by
  intro p e s m args below meth c H locs ls C R F Lh
  exact va_mmax C.1 C.2.1 (C.2.2.1.trans Lh.1.symm) C.2.2.2.2.1 (C.2.2.2.2.2.1 _ hl.1) (C.2.2.2.2.2.1 _ hl.2) (C.2.2.2.2.2.1 _ lkJ9_max_7cf53.2.1) (C.2.2.2.2.2.1 _ lkJ9_max_7cf53.1) hf hlo hk.1 hk.2 d (kk p e s m args below meth c H locs ls C R F Lh)
theorem x_mmin {idx : Nat} {x y : Int32} (hl : Cond.methodLink M.1.cls idx mJ9_min_7cf53.1 ∈ gT ∧ Cond.static mJ9_min_7cf53.1 ∈ gT) (d : decode M.2.1 pc = .ok (.invokestatic idx, 3)) (hf : 1 ≤ M.2.2.2.2.frames) (hlo : (st.map fun v => v.category).sum + 13 ≤ M.2.2.2.2.locals) (hk : k ≤ M.2.2.2.2.cells ∧ n ≤ M.2.2.2.2.slots) (kk : Ex g M Z (pc + 3) L (.int (if y < x then y else x) :: st) h k n) : Ex g M Z pc L (.int y :: .int x :: st) h k n := by
  intro p e s m args below meth c H locs ls C R F Lh
  exact va_mmin C.1 C.2.1 (C.2.2.1.trans Lh.1.symm) C.2.2.2.2.1 (C.2.2.2.2.2.1 _ hl.1) (C.2.2.2.2.2.1 _ hl.2) (C.2.2.2.2.2.1 _ lkJ9_min_7cf53.2.1) (C.2.2.2.2.2.1 _ lkJ9_min_7cf53.1) hf hlo hk.1 hk.2 d (kk p e s m args below meth c H locs ls C R F Lh)
theorem x_mmaxL {idx : Nat} {x y : Int64} (hl : Cond.methodLink M.1.cls idx mJ9_max_f86c9.1 ∈ gT ∧ Cond.static mJ9_max_f86c9.1 ∈ gT) (d : decode M.2.1 pc = .ok (.invokestatic idx, 3)) (hf : 1 ≤ M.2.2.2.2.frames) (hlo : (st.map fun v => v.category).sum + 15 ≤ M.2.2.2.2.locals) (hk : k ≤ M.2.2.2.2.cells ∧ n ≤ M.2.2.2.2.slots) (kk : Ex g M Z (pc + 3) L (.long (if y < x then x else y) :: st) h k n) : Ex g M Z pc L (.long y :: .long x :: st) h k n := by
  intro p e s m args below meth c H locs ls C R F Lh
  exact va_mmax_long C.1 C.2.1 (C.2.2.1.trans Lh.1.symm) C.2.2.2.2.1 (C.2.2.2.2.2.1 _ hl.1) (C.2.2.2.2.2.1 _ hl.2) (C.2.2.2.2.2.1 _ lkJ9_max_f86c9.2.1) (C.2.2.2.2.2.1 _ lkJ9_max_f86c9.1) hf hlo hk.1 hk.2 d (kk p e s m args below meth c H locs ls C R F Lh)
theorem x_mminL {idx : Nat} {x y : Int64} (hl : Cond.methodLink M.1.cls idx mJ9_min_f86c9.1 ∈ gT ∧ Cond.static mJ9_min_f86c9.1 ∈ gT) (d : decode M.2.1 pc = .ok (.invokestatic idx, 3)) (hf : 1 ≤ M.2.2.2.2.frames) (hlo : (st.map fun v => v.category).sum + 15 ≤ M.2.2.2.2.locals) (hk : k ≤ M.2.2.2.2.cells ∧ n ≤ M.2.2.2.2.slots) (kk : Ex g M Z (pc + 3) L (.long (if y < x then y else x) :: st) h k n) : Ex g M Z pc L (.long y :: .long x :: st) h k n := by
  intro p e s m args below meth c H locs ls C R F Lh
  exact va_mmin_long C.1 C.2.1 (C.2.2.1.trans Lh.1.symm) C.2.2.2.2.1 (C.2.2.2.2.2.1 _ hl.1) (C.2.2.2.2.2.1 _ hl.2) (C.2.2.2.2.2.1 _ lkJ9_min_f86c9.2.1) (C.2.2.2.2.2.1 _ lkJ9_min_f86c9.1) hf hlo hk.1 hk.2 d (kk p e s m args below meth c H locs ls C R F Lh)
end XM
theorem sO_X11 : Cond.methodLink RX11 3 Lib.objectInit ∈ gT ∧ Cond.instanceMethod Lib.objectInit ∈ gT ∧ Cond.code Lib.objectInit ⟨#[0xb1]⟩ 1 none ∈ gT := ⟨gT_in 107 (by decide +kernel) rfl, gT_in 108 (by decide +kernel) rfl, gT_in 109 (by decide +kernel) rfl⟩
theorem sO_X10 : Cond.methodLink RX10 3 Lib.objectInit ∈ gT ∧ Cond.instanceMethod Lib.objectInit ∈ gT ∧ Cond.code Lib.objectInit ⟨#[0xb1]⟩ 1 none ∈ gT := ⟨gT_in 115 (by decide +kernel) rfl, gT_in 108 (by decide +kernel) rfl, gT_in 109 (by decide +kernel) rfl⟩
theorem sNX11_24 : mX6_init.1.name = "<init>" ∧ (RX11, 24, mX6_init.1, "HeldPaths") ∈ gNs ∧ Cond.instanceMethod mX6_init.1 ∈ gT := ⟨rfl, by decide +kernel, gT_in 204 (by decide +kernel) rfl⟩
theorem sO_X6 : Cond.methodLink RX6 3 Lib.objectInit ∈ gT ∧ Cond.instanceMethod Lib.objectInit ∈ gT ∧ Cond.code Lib.objectInit ⟨#[0xb1]⟩ 1 none ∈ gT := ⟨gT_in 206 (by decide +kernel) rfl, gT_in 108 (by decide +kernel) rfl, gT_in 109 (by decide +kernel) rfl⟩
theorem sNX11_31 : mX1_init.1.name = "<init>" ∧ (RX11, 31, mX1_init.1, "HeldPaths") ∈ gNs ∧ Cond.instanceMethod mX1_init.1 ∈ gT := ⟨rfl, by decide +kernel, gT_in 234 (by decide +kernel) rfl⟩
theorem sO_X1 : Cond.methodLink RX1 3 Lib.objectInit ∈ gT ∧ Cond.instanceMethod Lib.objectInit ∈ gT ∧ Cond.code Lib.objectInit ⟨#[0xb1]⟩ 1 none ∈ gT := ⟨gT_in 236 (by decide +kernel) rfl, gT_in 108 (by decide +kernel) rfl, gT_in 109 (by decide +kernel) rfl⟩
theorem sNX11_57 : mX7_init.1.name = "<init>" ∧ (RX11, 57, mX7_init.1, "HeldPaths") ∈ gNs ∧ Cond.instanceMethod mX7_init.1 ∈ gT := ⟨rfl, by decide +kernel, gT_in 260 (by decide +kernel) rfl⟩
theorem sO_X7 : Cond.methodLink RX7 3 Lib.objectInit ∈ gT ∧ Cond.instanceMethod Lib.objectInit ∈ gT ∧ Cond.code Lib.objectInit ⟨#[0xb1]⟩ 1 none ∈ gT := ⟨gT_in 262 (by decide +kernel) rfl, gT_in 108 (by decide +kernel) rfl, gT_in 109 (by decide +kernel) rfl⟩
theorem sNX10_80 : (RX10, 80, mX11_isBelow.1, "HeldPaths") ∈ gNs ∧ Cond.static mX11_isBelow.1 ∈ gT := ⟨by decide +kernel, gT_in 482 (by decide +kernel) rfl⟩
theorem sNX10_92 : (RX10, 92, mX11_isInSet.1, "HeldPaths") ∈ gNs ∧ Cond.static mX11_isInSet.1 ∈ gT := ⟨by decide +kernel, gT_in 502 (by decide +kernel) rfl⟩
theorem sO_X5 : Cond.methodLink RX5 3 Lib.objectInit ∈ gT ∧ Cond.instanceMethod Lib.objectInit ∈ gT ∧ Cond.code Lib.objectInit ⟨#[0xb1]⟩ 1 none ∈ gT := ⟨gT_in 840 (by decide +kernel) rfl, gT_in 108 (by decide +kernel) rfl, gT_in 109 (by decide +kernel) rfl⟩
theorem sO_X3 : Cond.methodLink RX3 1 Lib.objectInit ∈ gT ∧ Cond.instanceMethod Lib.objectInit ∈ gT ∧ Cond.code Lib.objectInit ⟨#[0xb1]⟩ 1 none ∈ gT := ⟨gT_in 893 (by decide +kernel) rfl, gT_in 108 (by decide +kernel) rfl, gT_in 109 (by decide +kernel) rfl⟩
theorem sO_X12 : Cond.methodLink RX12 1 Lib.objectInit ∈ gT ∧ Cond.instanceMethod Lib.objectInit ∈ gT ∧ Cond.code Lib.objectInit ⟨#[0xb1]⟩ 1 none ∈ gT := ⟨gT_in 1081 (by decide +kernel) rfl, gT_in 108 (by decide +kernel) rfl, gT_in 109 (by decide +kernel) rfl⟩
set_option maxRecDepth 10000 in
set_option maxHeartbeats 2000000 in
theorem c_X11_isBelow {g : gG} {h : gH} {v b : Int32} : Rd g mX11_isBelow [.int v, .int b] h (.int (b2i (0 ≤ v ∧ v < b))) := by
  refine Cn.of (L := [some (.int v), some (.int b)]) (by decide) (Nat.le_of_ble_eq_true rfl) rfl ?_
  refine x_iload_n dX11_isBelow_0 rfl ?_
  refine x_if_lt 13 dX11_isBelow_1 (by decide) (fun c1 => ?_) (fun c1 => ?_)
  · refine x_iconst (v := 0) dX11_isBelow_13 (by decide) ?_
    refine x_zret rfl dX11_isBelow_14 ⟨by decide, by decide⟩ rfl ?_
    exact ⟨by rw [b2i_f (fun q => absurd c1 (Int32.not_lt.mpr q.1))], rfl⟩
  · refine x_iload_n dX11_isBelow_4 rfl ?_
    refine x_iload_n dX11_isBelow_5 rfl ?_
    refine x_icmp_ge 13 dX11_isBelow_6 (by decide) (fun c6 => ?_) (fun c6 => ?_)
    · refine x_iconst (v := 0) dX11_isBelow_13 (by decide) ?_
      refine x_zret rfl dX11_isBelow_14 ⟨by decide, by decide⟩ rfl ?_
      exact ⟨by rw [b2i_f (fun q => absurd q.2 (Int32.not_lt.mpr c6))], rfl⟩
    · refine x_iconst (v := 1) dX11_isBelow_9 (by decide) ?_
      refine x_goto 14 dX11_isBelow_10 (by decide) ?_
      refine x_zret rfl dX11_isBelow_14 ⟨by decide, by decide⟩ rfl ?_
      exact ⟨by rw [b2i_t ⟨Int32.not_lt.mp c1, Int32.not_le.mp c6⟩], rfl⟩
set_option maxRecDepth 10000 in
set_option maxHeartbeats 2000000 in
theorem c_X11_isUpTo {g : gG} {h : gH} {v b : Int32} : Rd g mX11_isUpTo [.int v, .int b] h (.int (b2i (0 ≤ v ∧ v ≤ b))) := by
  refine Cn.of (L := [some (.int v), some (.int b)]) (by decide) (Nat.le_of_ble_eq_true rfl) rfl ?_
  refine x_iload_n dX11_isUpTo_0 rfl ?_
  refine x_if_lt 13 dX11_isUpTo_1 (by decide) (fun c1 => ?_) (fun c1 => ?_)
  · refine x_iconst (v := 0) dX11_isUpTo_13 (by decide) ?_
    refine x_zret rfl dX11_isUpTo_14 ⟨by decide, by decide⟩ rfl ?_
    exact ⟨by rw [b2i_f (fun q => absurd c1 (Int32.not_lt.mpr q.1))], rfl⟩
  · refine x_iload_n dX11_isUpTo_4 rfl ?_
    refine x_iload_n dX11_isUpTo_5 rfl ?_
    refine x_icmp_gt 13 dX11_isUpTo_6 (by decide) (fun c6 => ?_) (fun c6 => ?_)
    · refine x_iconst (v := 0) dX11_isUpTo_13 (by decide) ?_
      refine x_zret rfl dX11_isUpTo_14 ⟨by decide, by decide⟩ rfl ?_
      exact ⟨by rw [b2i_f (fun q => absurd q.2 (Int32.not_le.mpr c6))], rfl⟩
    · refine x_iconst (v := 1) dX11_isUpTo_9 (by decide) ?_
      refine x_goto 14 dX11_isUpTo_10 (by decide) ?_
      refine x_zret rfl dX11_isUpTo_14 ⟨by decide, by decide⟩ rfl ?_
      exact ⟨by rw [b2i_t ⟨Int32.not_lt.mp c1, Int32.not_lt.mp c6⟩], rfl⟩
set_option maxRecDepth 10000 in
set_option maxHeartbeats 2000000 in
theorem c_X11_isClearing {g : gG} {h : gH} {v : Int32} : Rd g mX11_isClearing [.int v] h (.int (b2i (0 ≤ v ∧ v < 8))) := by
  refine Cn.of (L := [some (.int v)]) (by decide) (Nat.le_of_ble_eq_true rfl) rfl ?_
  refine x_iload_n dX11_isClearing_0 rfl ?_
  refine x_bipush (v := 8) dX11_isClearing_1 (by decide) ?_
  refine x_rdS c_X11_isBelow lkX11_isBelow sX11_94 dX11_isClearing_3 rfl rfl (Nat.le_of_ble_eq_true rfl) (by decide) ⟨rfl, rfl, by decide, by decide⟩ ?_
  refine x_zret rfl dX11_isClearing_6 ⟨by decide, by decide⟩ b2i_n ?_
  exact ⟨rfl, rfl⟩
set_option maxRecDepth 10000 in
set_option maxHeartbeats 2000000 in
theorem c_X11_isPart {g : gG} {h : gH} {v : Int32} : Rd g mX11_isPart [.int v] h (.int (b2i (0 ≤ v ∧ v < 2))) := by
  refine Cn.of (L := [some (.int v)]) (by decide) (Nat.le_of_ble_eq_true rfl) rfl ?_
  refine x_iload_n dX11_isPart_0 rfl ?_
  refine x_iconst (v := 2) dX11_isPart_1 (by decide) ?_
  refine x_rdS c_X11_isBelow lkX11_isBelow sX11_94 dX11_isPart_2 rfl rfl (Nat.le_of_ble_eq_true rfl) (by decide) ⟨rfl, rfl, by decide, by decide⟩ ?_
  refine x_zret rfl dX11_isPart_5 ⟨by decide, by decide⟩ b2i_n ?_
  exact ⟨rfl, rfl⟩
set_option maxRecDepth 10000 in
set_option maxHeartbeats 2000000 in
theorem c_X11_isInSet {g : gG} {h : gH} {j x : Int32} : Rd g mX11_isInSet [.int j, .int x] h (.int (@b2i (inS j x) (inS_dec j x))) := by
  refine Cn.of (L := [some (.int j), some (.int x)]) (by decide) (Nat.le_of_ble_eq_true rfl) rfl ?_
  refine x_iload_n dX11_isInSet_0 rfl ?_
  refine x_iload_n dX11_isInSet_1 rfl ?_
  refine x_iushr dX11_isInSet_2 ?_
  refine x_iconst (v := 1) dX11_isInSet_3 (by decide) ?_
  refine x_iand dX11_isInSet_4 ?_
  refine x_if_eq 12 dX11_isInSet_5 (by decide) (fun c5 => ?_) (fun c5 => ?_)
  · refine x_iconst (v := 0) dX11_isInSet_12 (by decide) ?_
    refine x_zret rfl dX11_isInSet_13 ⟨by decide, by decide⟩ rfl ?_
    exact ⟨by rw [@b2i_f _ (inS_dec j x) (fun q => q c5)], rfl⟩
  · refine x_iconst (v := 1) dX11_isInSet_8 (by decide) ?_
    refine x_goto 13 dX11_isInSet_9 (by decide) ?_
    refine x_zret rfl dX11_isInSet_13 ⟨by decide, by decide⟩ rfl ?_
    exact ⟨by rw [@b2i_t _ (inS_dec j x) c5], rfl⟩
theorem bc_I : ∀ x, x < 256 → (fun (i0 : Int32) => (fun (i1 : Int32) => (fun (i2 : Int32) => (fun (i3 : Int32) => (fun (i4 : Int32) => i4 &&& 63) (i3 + ((i3.toUInt32 >>> ((16 : Int32).toUInt32 &&& Int32.toUInt32 31)).toInt32))) (i2 + ((i2.toUInt32 >>> ((8 : Int32).toUInt32 &&& Int32.toUInt32 31)).toInt32))) ((i1 + ((i1.toUInt32 >>> ((4 : Int32).toUInt32 &&& Int32.toUInt32 31)).toInt32)) &&& 252645135)) ((i0 &&& 858993459) + (((i0.toUInt32 >>> ((2 : Int32).toUInt32 &&& Int32.toUInt32 31)).toInt32) &&& 858993459))) (nI x - (((nI x).toUInt32 >>> ((1 : Int32).toUInt32 &&& Int32.toUInt32 31)).toInt32 &&& 1431655765)) = nI (bc8 x) := by decide +kernel
set_option maxRecDepth 10000 in
set_option maxHeartbeats 2000000 in
theorem c_J6_bitCount_0f7a4 {g : gG} {h : gH} {x : Nat} (hx : x < 256) : Rd g mJ6_bitCount_0f7a4 [.int (nI x)] h (.int (nI (bc8 x))) := by
  refine Cn.of (L := [some (.int (nI x))]) (by decide) (Nat.le_of_ble_eq_true rfl) rfl ?_
  refine x_iload_n dJ6_bitCount_0f7a4_0 rfl ?_
  refine x_iload_n dJ6_bitCount_0f7a4_1 rfl ?_
  refine x_iconst (v := 1) dJ6_bitCount_0f7a4_2 (by decide) ?_
  refine x_iushr dJ6_bitCount_0f7a4_3 ?_
  refine x_ldc_w dJ6_bitCount_0f7a4_4 kJ6_265 ?_
  refine x_iand dJ6_bitCount_0f7a4_7 ?_
  refine x_isub dJ6_bitCount_0f7a4_8 ?_
  refine x_ist_0 dJ6_bitCount_0f7a4_9 (by decide) ?_
  refine x_iload_n dJ6_bitCount_0f7a4_10 rfl ?_
  refine x_ldc_w dJ6_bitCount_0f7a4_11 kJ6_266 ?_
  refine x_iand dJ6_bitCount_0f7a4_14 ?_
  refine x_iload_n dJ6_bitCount_0f7a4_15 rfl ?_
  refine x_iconst (v := 2) dJ6_bitCount_0f7a4_16 (by decide) ?_
  refine x_iushr dJ6_bitCount_0f7a4_17 ?_
  refine x_ldc_w dJ6_bitCount_0f7a4_18 kJ6_266 ?_
  refine x_iand dJ6_bitCount_0f7a4_21 ?_
  refine x_iadd dJ6_bitCount_0f7a4_22 ?_
  refine x_ist_0 dJ6_bitCount_0f7a4_23 (by decide) ?_
  refine x_iload_n dJ6_bitCount_0f7a4_24 rfl ?_
  refine x_iload_n dJ6_bitCount_0f7a4_25 rfl ?_
  refine x_iconst (v := 4) dJ6_bitCount_0f7a4_26 (by decide) ?_
  refine x_iushr dJ6_bitCount_0f7a4_27 ?_
  refine x_iadd dJ6_bitCount_0f7a4_28 ?_
  refine x_ldc_w dJ6_bitCount_0f7a4_29 kJ6_267 ?_
  refine x_iand dJ6_bitCount_0f7a4_32 ?_
  refine x_ist_0 dJ6_bitCount_0f7a4_33 (by decide) ?_
  refine x_iload_n dJ6_bitCount_0f7a4_34 rfl ?_
  refine x_iload_n dJ6_bitCount_0f7a4_35 rfl ?_
  refine x_bipush (v := 8) dJ6_bitCount_0f7a4_36 (by decide) ?_
  refine x_iushr dJ6_bitCount_0f7a4_38 ?_
  refine x_iadd dJ6_bitCount_0f7a4_39 ?_
  refine x_ist_0 dJ6_bitCount_0f7a4_40 (by decide) ?_
  refine x_iload_n dJ6_bitCount_0f7a4_41 rfl ?_
  refine x_iload_n dJ6_bitCount_0f7a4_42 rfl ?_
  refine x_bipush (v := 16) dJ6_bitCount_0f7a4_43 (by decide) ?_
  refine x_iushr dJ6_bitCount_0f7a4_45 ?_
  refine x_iadd dJ6_bitCount_0f7a4_46 ?_
  refine x_ist_0 dJ6_bitCount_0f7a4_47 (by decide) ?_
  refine x_iload_n dJ6_bitCount_0f7a4_48 rfl ?_
  refine x_bipush (v := 63) dJ6_bitCount_0f7a4_49 (by decide) ?_
  refine x_iand dJ6_bitCount_0f7a4_51 ?_
  refine x_iret rfl dJ6_bitCount_0f7a4_52 ⟨by decide, by decide⟩ ?_
  exact ⟨congrArg (fun z => some (Value.int z)) (bc_I x hx), rfl⟩
set_option maxRecDepth 10000 in
set_option maxHeartbeats 2000000 in
theorem c_X10_hasPath {g : gG} {h : gH} {w : Nat} {V : VS} {p : Int32} (hv : isV h w V) : Rd g mX10_hasPath [.ref w, .int p] h (.int (b2i (0 ≤ p ∧ p < nI (V.1 0)))) := by
  obtain ⟨okw, a, hww, rpw⟩ := id hv
  have kwp : V.1 0 ≤ 8 := okw.1.1
  have kww : V.1 1 ≤ 4 := okw.1.2.1
  have kwr : V.1 2 ≤ 4 := okw.1.2.2
  have w0 : h.1 w = some (.inr (10, wF w (wS V))) := hww.1
  have w1 : h.1 (w + 1) = some (.inl (0, 8, .inl (a 0))) := hww.2 0 (by decide)
  have w2 : h.1 (w + 2) = some (.inl (0, 8, .inl (a 1))) := hww.2 1 (by decide)
  have w3 : h.1 (w + 3) = some (.inl (0, 8, .inl (a 2))) := hww.2 2 (by decide)
  have w4 : h.1 (w + 4) = some (.inl (0, 8, .inl (a 3))) := hww.2 3 (by decide)
  have w5 : h.1 (w + 5) = some (.inl (0, 8, .inl (a 4))) := hww.2 4 (by decide)
  have w6 : h.1 (w + 6) = some (.inl (0, 4, .inl (a 5))) := hww.2 5 (by decide)
  have w7 : h.1 (w + 7) = some (.inl (0, 4, .inl (a 6))) := hww.2 6 (by decide)
  have w8 : h.1 (w + 8) = some (.inl (0, 4, .inl (a 7))) := hww.2 7 (by decide)
  have w9 : h.1 (w + 9) = some (.inl (0, 8, .inl (a 8))) := hww.2 8 (by decide)
  have w10 : h.1 (w + 10) = some (.inl (0, 4, .inl (a 9))) := hww.2 9 (by decide)
  have w11 : h.1 (w + 11) = some (.inl (0, 4, .inl (a 10))) := hww.2 10 (by decide)
  refine Cn.of (L := [some (.ref w), some (.int p)]) (by decide) (Nat.le_of_ble_eq_true rfl) rfl ?_
  refine x_iload_n dX10_hasPath_0 rfl ?_
  refine x_aload_n dX10_hasPath_1 rfl ?_
  refine x_get fX10_61 (by assumption) rfl dX10_hasPath_2 ?_
  refine x_rdSN c_X11_isBelow lkX11_isBelow sNX10_80 dX10_hasPath_5 rfl rfl (Nat.le_of_ble_eq_true rfl) (by decide) ⟨rfl, rfl, by decide, by decide⟩ ?_
  refine x_zret rfl dX10_hasPath_8 ⟨by decide, by decide⟩ b2i_n ?_
  exact ⟨rfl, rfl⟩
set_option maxRecDepth 10000 in
set_option maxHeartbeats 2000000 in
theorem c_X10_hasWalker {g : gG} {h : gH} {w : Nat} {V : VS} {p : Int32} (hv : isV h w V) : Rd g mX10_hasWalker [.ref w, .int p] h (.int (b2i (0 ≤ p ∧ p < nI (V.1 1)))) := by
  obtain ⟨okw, a, hww, rpw⟩ := id hv
  have kwp : V.1 0 ≤ 8 := okw.1.1
  have kww : V.1 1 ≤ 4 := okw.1.2.1
  have kwr : V.1 2 ≤ 4 := okw.1.2.2
  have w0 : h.1 w = some (.inr (10, wF w (wS V))) := hww.1
  have w1 : h.1 (w + 1) = some (.inl (0, 8, .inl (a 0))) := hww.2 0 (by decide)
  have w2 : h.1 (w + 2) = some (.inl (0, 8, .inl (a 1))) := hww.2 1 (by decide)
  have w3 : h.1 (w + 3) = some (.inl (0, 8, .inl (a 2))) := hww.2 2 (by decide)
  have w4 : h.1 (w + 4) = some (.inl (0, 8, .inl (a 3))) := hww.2 3 (by decide)
  have w5 : h.1 (w + 5) = some (.inl (0, 8, .inl (a 4))) := hww.2 4 (by decide)
  have w6 : h.1 (w + 6) = some (.inl (0, 4, .inl (a 5))) := hww.2 5 (by decide)
  have w7 : h.1 (w + 7) = some (.inl (0, 4, .inl (a 6))) := hww.2 6 (by decide)
  have w8 : h.1 (w + 8) = some (.inl (0, 4, .inl (a 7))) := hww.2 7 (by decide)
  have w9 : h.1 (w + 9) = some (.inl (0, 8, .inl (a 8))) := hww.2 8 (by decide)
  have w10 : h.1 (w + 10) = some (.inl (0, 4, .inl (a 9))) := hww.2 9 (by decide)
  have w11 : h.1 (w + 11) = some (.inl (0, 4, .inl (a 10))) := hww.2 10 (by decide)
  refine Cn.of (L := [some (.ref w), some (.int p)]) (by decide) (Nat.le_of_ble_eq_true rfl) rfl ?_
  refine x_iload_n dX10_hasWalker_0 rfl ?_
  refine x_aload_n dX10_hasWalker_1 rfl ?_
  refine x_get fX10_67 (by assumption) rfl dX10_hasWalker_2 ?_
  refine x_rdSN c_X11_isBelow lkX11_isBelow sNX10_80 dX10_hasWalker_5 rfl rfl (Nat.le_of_ble_eq_true rfl) (by decide) ⟨rfl, rfl, by decide, by decide⟩ ?_
  refine x_zret rfl dX10_hasWalker_8 ⟨by decide, by decide⟩ b2i_n ?_
  exact ⟨rfl, rfl⟩
set_option maxRecDepth 10000 in
set_option maxHeartbeats 2000000 in
theorem c_X10_hasRule {g : gG} {h : gH} {w : Nat} {V : VS} {p : Int32} (hv : isV h w V) : Rd g mX10_hasRule [.ref w, .int p] h (.int (b2i (0 ≤ p ∧ p < nI (V.1 2)))) := by
  obtain ⟨okw, a, hww, rpw⟩ := id hv
  have kwp : V.1 0 ≤ 8 := okw.1.1
  have kww : V.1 1 ≤ 4 := okw.1.2.1
  have kwr : V.1 2 ≤ 4 := okw.1.2.2
  have w0 : h.1 w = some (.inr (10, wF w (wS V))) := hww.1
  have w1 : h.1 (w + 1) = some (.inl (0, 8, .inl (a 0))) := hww.2 0 (by decide)
  have w2 : h.1 (w + 2) = some (.inl (0, 8, .inl (a 1))) := hww.2 1 (by decide)
  have w3 : h.1 (w + 3) = some (.inl (0, 8, .inl (a 2))) := hww.2 2 (by decide)
  have w4 : h.1 (w + 4) = some (.inl (0, 8, .inl (a 3))) := hww.2 3 (by decide)
  have w5 : h.1 (w + 5) = some (.inl (0, 8, .inl (a 4))) := hww.2 4 (by decide)
  have w6 : h.1 (w + 6) = some (.inl (0, 4, .inl (a 5))) := hww.2 5 (by decide)
  have w7 : h.1 (w + 7) = some (.inl (0, 4, .inl (a 6))) := hww.2 6 (by decide)
  have w8 : h.1 (w + 8) = some (.inl (0, 4, .inl (a 7))) := hww.2 7 (by decide)
  have w9 : h.1 (w + 9) = some (.inl (0, 8, .inl (a 8))) := hww.2 8 (by decide)
  have w10 : h.1 (w + 10) = some (.inl (0, 4, .inl (a 9))) := hww.2 9 (by decide)
  have w11 : h.1 (w + 11) = some (.inl (0, 4, .inl (a 10))) := hww.2 10 (by decide)
  refine Cn.of (L := [some (.ref w), some (.int p)]) (by decide) (Nat.le_of_ble_eq_true rfl) rfl ?_
  refine x_iload_n dX10_hasRule_0 rfl ?_
  refine x_aload_n dX10_hasRule_1 rfl ?_
  refine x_get fX10_77 (by assumption) rfl dX10_hasRule_2 ?_
  refine x_rdSN c_X11_isBelow lkX11_isBelow sNX10_80 dX10_hasRule_5 rfl rfl (Nat.le_of_ble_eq_true rfl) (by decide) ⟨rfl, rfl, by decide, by decide⟩ ?_
  refine x_zret rfl dX10_hasRule_8 ⟨by decide, by decide⟩ b2i_n ?_
  exact ⟨rfl, rfl⟩
set_option maxRecDepth 10000 in
set_option maxHeartbeats 2000000 in
theorem c_X10_isThere {g : gG} {h : gH} {w : Nat} {V : VS} {k : Nat} (hv : isV h w V) (hk : k < 8) : Rd g mX10_isThere [.ref w, .int (nI k)] h (.int (b2i ((V.1 3).testBit k = true))) := by
  obtain ⟨okw, a, hww, rpw⟩ := id hv
  have kwp : V.1 0 ≤ 8 := okw.1.1
  have kww : V.1 1 ≤ 4 := okw.1.2.1
  have kwr : V.1 2 ≤ 4 := okw.1.2.2
  have w0 : h.1 w = some (.inr (10, wF w (wS V))) := hww.1
  have w1 : h.1 (w + 1) = some (.inl (0, 8, .inl (a 0))) := hww.2 0 (by decide)
  have w2 : h.1 (w + 2) = some (.inl (0, 8, .inl (a 1))) := hww.2 1 (by decide)
  have w3 : h.1 (w + 3) = some (.inl (0, 8, .inl (a 2))) := hww.2 2 (by decide)
  have w4 : h.1 (w + 4) = some (.inl (0, 8, .inl (a 3))) := hww.2 3 (by decide)
  have w5 : h.1 (w + 5) = some (.inl (0, 8, .inl (a 4))) := hww.2 4 (by decide)
  have w6 : h.1 (w + 6) = some (.inl (0, 4, .inl (a 5))) := hww.2 5 (by decide)
  have w7 : h.1 (w + 7) = some (.inl (0, 4, .inl (a 6))) := hww.2 6 (by decide)
  have w8 : h.1 (w + 8) = some (.inl (0, 4, .inl (a 7))) := hww.2 7 (by decide)
  have w9 : h.1 (w + 9) = some (.inl (0, 8, .inl (a 8))) := hww.2 8 (by decide)
  have w10 : h.1 (w + 10) = some (.inl (0, 4, .inl (a 9))) := hww.2 9 (by decide)
  have w11 : h.1 (w + 11) = some (.inl (0, 4, .inl (a 10))) := hww.2 10 (by decide)
  refine Cn.of (L := [some (.ref w), some (.int (nI k))]) (by decide) (Nat.le_of_ble_eq_true rfl) rfl ?_
  refine x_iload_n dX10_isThere_0 rfl ?_
  refine x_aload_n dX10_isThere_1 rfl ?_
  refine x_get fX10_64 (by assumption) rfl dX10_isThere_2 ?_
  refine x_rdSN c_X11_isInSet lkX11_isInSet sNX10_92 dX10_isThere_5 rfl rfl (Nat.le_of_ble_eq_true rfl) (by decide) ⟨rfl, rfl, by decide, by decide⟩ ?_
  refine x_zret rfl dX10_isThere_8 ⟨by decide, by decide⟩ (@b2i_n _ (inS_dec _ _)) ?_
  exact ⟨congrArg (fun z => some (Value.int z)) (@b2i_c _ _ (inS_dec _ _) _ (inS_iff (Nat.lt_trans (lt256 okw.2.1 okw.1.1) (by decide)) (by omega))), rfl⟩
set_option maxRecDepth 10000 in
set_option maxHeartbeats 2000000 in
theorem c_X10_endsAt {g : gG} {h : gH} {w : Nat} {V : VS} {p : Nat} {c : Int32} (hv : isV h w V) (hp : p < V.1 0) : Rd g mX10_endsAt [.ref w, .int (nI p), .int c] h (.int (b2i (nI (V.2.2 1 p) = c ∨ nI (V.2.2 2 p) = c))) := by
  obtain ⟨okw, a, hww, rpw⟩ := id hv
  have kwp : V.1 0 ≤ 8 := okw.1.1
  have kww : V.1 1 ≤ 4 := okw.1.2.1
  have kwr : V.1 2 ≤ 4 := okw.1.2.2
  have w0 : h.1 w = some (.inr (10, wF w (wS V))) := hww.1
  have w1 : h.1 (w + 1) = some (.inl (0, 8, .inl (a 0))) := hww.2 0 (by decide)
  have w2 : h.1 (w + 2) = some (.inl (0, 8, .inl (a 1))) := hww.2 1 (by decide)
  have w3 : h.1 (w + 3) = some (.inl (0, 8, .inl (a 2))) := hww.2 2 (by decide)
  have w4 : h.1 (w + 4) = some (.inl (0, 8, .inl (a 3))) := hww.2 3 (by decide)
  have w5 : h.1 (w + 5) = some (.inl (0, 8, .inl (a 4))) := hww.2 4 (by decide)
  have w6 : h.1 (w + 6) = some (.inl (0, 4, .inl (a 5))) := hww.2 5 (by decide)
  have w7 : h.1 (w + 7) = some (.inl (0, 4, .inl (a 6))) := hww.2 6 (by decide)
  have w8 : h.1 (w + 8) = some (.inl (0, 4, .inl (a 7))) := hww.2 7 (by decide)
  have w9 : h.1 (w + 9) = some (.inl (0, 8, .inl (a 8))) := hww.2 8 (by decide)
  have w10 : h.1 (w + 10) = some (.inl (0, 4, .inl (a 9))) := hww.2 9 (by decide)
  have w11 : h.1 (w + 11) = some (.inl (0, 4, .inl (a 10))) := hww.2 10 (by decide)
  have hp8 : p < 8 := Nat.lt_of_lt_of_le hp hv.1.1.1
  have e1 := rpw.1 1 p (by decide) hp
  have e2 := rpw.1 2 p (by decide) hp
  refine Cn.of (L := [some (.ref w), some (.int (nI p)), some (.int c)]) (by decide) (Nat.le_of_ble_eq_true rfl) rfl ?_
  refine x_aload_n dX10_endsAt_0 rfl ?_
  refine x_get fX10_15 (by assumption) rfl dX10_endsAt_1 ?_
  refine x_iload_n dX10_endsAt_4 rfl ?_
  refine x_iald _ (by assumption) rfl (by omega) (by decide) dX10_endsAt_5 ?_
  refine x_iload_n dX10_endsAt_6 rfl ?_
  refine x_icmp_eq 20 dX10_endsAt_7 (by decide) (fun c7 => ?_) (fun c7 => ?_)
  · refine x_iconst (v := 1) dX10_endsAt_20 (by decide) ?_
    refine x_goto 25 dX10_endsAt_21 (by decide) ?_
    refine x_zret rfl dX10_endsAt_25 ⟨by decide, by decide⟩ rfl ?_
    exact ⟨by rw [b2i_t (Or.inl (e1.symm.trans c7))], rfl⟩
  · refine x_aload_n dX10_endsAt_10 rfl ?_
    refine x_get fX10_18 (by assumption) rfl dX10_endsAt_11 ?_
    refine x_iload_n dX10_endsAt_14 rfl ?_
    refine x_iald _ (by assumption) rfl (by omega) (by decide) dX10_endsAt_15 ?_
    refine x_iload_n dX10_endsAt_16 rfl ?_
    refine x_icmp_ne 24 dX10_endsAt_17 (by decide) (fun c17 => ?_) (fun c17 => ?_)
    · refine x_iconst (v := 0) dX10_endsAt_24 (by decide) ?_
      refine x_zret rfl dX10_endsAt_25 ⟨by decide, by decide⟩ rfl ?_
      exact ⟨by rw [b2i_f (fun q => q.elim (fun q => c7 (e1.trans q)) (fun q => c17 (e2.trans q)))], rfl⟩
    · refine x_iconst (v := 1) dX10_endsAt_20 (by decide) ?_
      refine x_goto 25 dX10_endsAt_21 (by decide) ?_
      refine x_zret rfl dX10_endsAt_25 ⟨by decide, by decide⟩ rfl ?_
      exact ⟨by rw [b2i_t (Or.inr (e2.symm.trans c17))], rfl⟩
set_option maxRecDepth 10000 in
set_option maxHeartbeats 2000000 in
theorem c_X10_otherEnd {g : gG} {h : gH} {w : Nat} {V : VS} {p : Nat} {c : Int32} (hv : isV h w V) (hp : p < V.1 0) : Rd g mX10_otherEnd [.ref w, .int (nI p), .int c] h (.int (nI (if nI (V.2.2 1 p) = c then V.2.2 2 p else V.2.2 1 p))) := by
  obtain ⟨okw, a, hww, rpw⟩ := id hv
  have kwp : V.1 0 ≤ 8 := okw.1.1
  have kww : V.1 1 ≤ 4 := okw.1.2.1
  have kwr : V.1 2 ≤ 4 := okw.1.2.2
  have w0 : h.1 w = some (.inr (10, wF w (wS V))) := hww.1
  have w1 : h.1 (w + 1) = some (.inl (0, 8, .inl (a 0))) := hww.2 0 (by decide)
  have w2 : h.1 (w + 2) = some (.inl (0, 8, .inl (a 1))) := hww.2 1 (by decide)
  have w3 : h.1 (w + 3) = some (.inl (0, 8, .inl (a 2))) := hww.2 2 (by decide)
  have w4 : h.1 (w + 4) = some (.inl (0, 8, .inl (a 3))) := hww.2 3 (by decide)
  have w5 : h.1 (w + 5) = some (.inl (0, 8, .inl (a 4))) := hww.2 4 (by decide)
  have w6 : h.1 (w + 6) = some (.inl (0, 4, .inl (a 5))) := hww.2 5 (by decide)
  have w7 : h.1 (w + 7) = some (.inl (0, 4, .inl (a 6))) := hww.2 6 (by decide)
  have w8 : h.1 (w + 8) = some (.inl (0, 4, .inl (a 7))) := hww.2 7 (by decide)
  have w9 : h.1 (w + 9) = some (.inl (0, 8, .inl (a 8))) := hww.2 8 (by decide)
  have w10 : h.1 (w + 10) = some (.inl (0, 4, .inl (a 9))) := hww.2 9 (by decide)
  have w11 : h.1 (w + 11) = some (.inl (0, 4, .inl (a 10))) := hww.2 10 (by decide)
  have hp8 : p < 8 := Nat.lt_of_lt_of_le hp hv.1.1.1
  have e1 := rpw.1 1 p (by decide) hp
  have e2 := rpw.1 2 p (by decide) hp
  refine Cn.of (L := [some (.ref w), some (.int (nI p)), some (.int c)]) (by decide) (Nat.le_of_ble_eq_true rfl) rfl ?_
  refine x_aload_n dX10_otherEnd_0 rfl ?_
  refine x_get fX10_15 (by assumption) rfl dX10_otherEnd_1 ?_
  refine x_iload_n dX10_otherEnd_4 rfl ?_
  refine x_iald _ (by assumption) rfl (by omega) (by decide) dX10_otherEnd_5 ?_
  refine x_iload_n dX10_otherEnd_6 rfl ?_
  refine x_icmp_ne 19 dX10_otherEnd_7 (by decide) (fun c7 => ?_) (fun c7 => ?_)
  · refine x_aload_n dX10_otherEnd_19 rfl ?_
    refine x_get fX10_15 (by assumption) rfl dX10_otherEnd_20 ?_
    refine x_iload_n dX10_otherEnd_23 rfl ?_
    refine x_iald _ (by assumption) rfl (by omega) (by decide) dX10_otherEnd_24 ?_
    refine x_iret rfl dX10_otherEnd_25 ⟨by decide, by decide⟩ ?_
    exact ⟨by rw [if_neg (fun q => c7 (e1.trans q)), e1], rfl⟩
  · refine x_aload_n dX10_otherEnd_10 rfl ?_
    refine x_get fX10_18 (by assumption) rfl dX10_otherEnd_11 ?_
    refine x_iload_n dX10_otherEnd_14 rfl ?_
    refine x_iald _ (by assumption) rfl (by omega) (by decide) dX10_otherEnd_15 ?_
    refine x_goto 25 dX10_otherEnd_16 (by decide) ?_
    refine x_iret rfl dX10_otherEnd_25 ⟨by decide, by decide⟩ ?_
    exact ⟨by rw [if_pos (e1.symm.trans c7), e2], rfl⟩
theorem onI_eq {q k : Nat} (hq : q < 16) (hk : k < 8) : onI q = nI k ↔ q = 8 + k := by
  have key : ∀ q, q < 16 → ∀ k, k < 8 → (onI q = nI k ↔ q = 8 + k) := by decide +kernel
  exact key q hq k hk
theorem onS_lt (V : VS) (k : Nat) : ∀ n, onS V k n < 2 ^ n
  | 0 => by show 0 < 1; decide
  | n + 1 => by
    have ih := onS_lt V k n
    have h2 : 2 ^ n < 2 ^ (n + 1) := Nat.pow_lt_pow_right (by decide) (by omega)
    unfold onS
    split
    · exact Nat.or_lt_two_pow (Nat.lt_trans ih h2) h2
    · exact Nat.lt_trans ih h2
set_option maxRecDepth 10000 in
set_option maxHeartbeats 2000000 in
theorem c_X10_walkersOn {g : gG} {h : gH} {w : Nat} {V : VS} {p : Nat} (hv : isV h w V) (hp : p < 8) : Rd g mX10_walkersOn [.ref w, .int (nI p)] h (.int (nI (onS V p (V.1 1)))) := by
  obtain ⟨okw, a, hww, rpw⟩ := id hv
  have kwp : V.1 0 ≤ 8 := okw.1.1
  have kww : V.1 1 ≤ 4 := okw.1.2.1
  have kwr : V.1 2 ≤ 4 := okw.1.2.2
  have w0 : h.1 w = some (.inr (10, wF w (wS V))) := hww.1
  have w1 : h.1 (w + 1) = some (.inl (0, 8, .inl (a 0))) := hww.2 0 (by decide)
  have w2 : h.1 (w + 2) = some (.inl (0, 8, .inl (a 1))) := hww.2 1 (by decide)
  have w3 : h.1 (w + 3) = some (.inl (0, 8, .inl (a 2))) := hww.2 2 (by decide)
  have w4 : h.1 (w + 4) = some (.inl (0, 8, .inl (a 3))) := hww.2 3 (by decide)
  have w5 : h.1 (w + 5) = some (.inl (0, 8, .inl (a 4))) := hww.2 4 (by decide)
  have w6 : h.1 (w + 6) = some (.inl (0, 4, .inl (a 5))) := hww.2 5 (by decide)
  have w7 : h.1 (w + 7) = some (.inl (0, 4, .inl (a 6))) := hww.2 6 (by decide)
  have w8 : h.1 (w + 8) = some (.inl (0, 4, .inl (a 7))) := hww.2 7 (by decide)
  have w9 : h.1 (w + 9) = some (.inl (0, 8, .inl (a 8))) := hww.2 8 (by decide)
  have w10 : h.1 (w + 10) = some (.inl (0, 4, .inl (a 9))) := hww.2 9 (by decide)
  have w11 : h.1 (w + 11) = some (.inl (0, 4, .inl (a 10))) := hww.2 10 (by decide)
  refine Cn.of (L := [some (.ref w), some (.int (nI p)), none, none]) (by decide) (Nat.le_of_ble_eq_true rfl) rfl ?_
  refine x_iconst (v := 0) dX10_walkersOn_0 (by decide) ?_
  refine x_ist_2 dX10_walkersOn_1 (by decide) rfl ?_
  refine x_iconst (v := 0) dX10_walkersOn_2 (by decide) ?_
  refine x_ist_3 dX10_walkersOn_3 (by decide) rfl ?_
  refine lp_up (P := fun i => Ex g mX10_walkersOn _ 4 [some (.ref w), some (.int (nI p)), some (.int (nI (onS V p i))), some (.int (nI i))] [] h 0 0) (V.1 1) (fun i hi ih => ?_) ?_ 0 (Nat.zero_le _)
  · have hi4 : i < 4 := Nat.lt_of_lt_of_le hi okw.1.2.1
    have eo := (rpw.2.1 i hi).2.1
    have q16 : V.2.2 5 i < 16 := by have := (okw.2.2.2.2.1 i hi).1; have := okw.1.1; omega
    refine x_iload_n dX10_walkersOn_4 rfl ?_
    refine x_aload_n dX10_walkersOn_5 rfl ?_
    refine x_get fX10_67 (by assumption) rfl dX10_walkersOn_6 ?_
    refine x_icmp_ge_f 34 dX10_walkersOn_9 (by decide) (ge_f rfl hi (by omega)) ?_
    refine x_aload_n dX10_walkersOn_12 rfl ?_
    refine x_get fX10_30 (by assumption) rfl dX10_walkersOn_13 ?_
    refine x_iload_n dX10_walkersOn_16 rfl ?_
    refine x_iald _ (by assumption) rfl (by omega) (by decide) dX10_walkersOn_17 ?_
    refine x_iload_n dX10_walkersOn_18 rfl ?_
    refine x_icmp_ne 28 dX10_walkersOn_19 (by decide) (fun c19 => ?_) (fun c19 => ?_)
    · refine x_inc_3  dX10_walkersOn_28 (by decide) (nI_inc _) rfl ?_
      refine x_goto 4 dX10_walkersOn_31 (by decide) ?_
      rw [onS, if_neg (fun q => c19 (eo.trans ((onI_eq q16 hp).mpr q)))] at ih; exact ih
    · refine x_iload_n dX10_walkersOn_22 rfl ?_
      refine x_iconst (v := 1) dX10_walkersOn_23 (by decide) ?_
      refine x_iload_n dX10_walkersOn_24 rfl ?_
      refine x_ishl dX10_walkersOn_25 ?_
      refine x_ior dX10_walkersOn_26 ?_
      refine x_ist_2 dX10_walkersOn_27 (by decide) rfl ?_
      refine x_inc_3  dX10_walkersOn_28 (by decide) (nI_inc _) rfl ?_
      refine x_goto 4 dX10_walkersOn_31 (by decide) ?_
      rw [onS, if_pos ((onI_eq q16 hp).mp (eo.symm.trans c19))] at ih; rw [sh1 i (by omega), fa_or]; exact ih
  · refine x_iload_n dX10_walkersOn_4 rfl ?_
    refine x_aload_n dX10_walkersOn_5 rfl ?_
    refine x_get fX10_67 (by assumption) rfl dX10_walkersOn_6 ?_
    refine x_icmp_ge_t 34 dX10_walkersOn_9 (by decide) (ge_t rfl (by have := okw.1.2.1; omega)) ?_
    refine x_iload_n dX10_walkersOn_34 rfl ?_
    refine x_iret rfl dX10_walkersOn_35 ⟨by decide, by decide⟩ ?_
    exact ⟨rfl, rfl⟩
theorem onI_in {q n : Nat} (hq : q < 8 + n) (hn : n ≤ 8) : (0 ≤ onI q ∧ onI q < nI n) ↔ 8 ≤ q := by
  have key : ∀ n, n < 9 → ∀ q, q < 8 + n → ((0 ≤ onI q ∧ onI q < nI n) ↔ 8 ≤ q) := by decide +kernel
  exact key n (by omega) q hq
theorem onI_8 {q : Nat} (h : 8 ≤ q) : onI q = nI (q - 8) := if_neg (by omega)
theorem heldS_lt (V : VS) (hv : okV V) : ∀ n, n ≤ V.1 1 → heldS V n < 2 ^ V.1 0
  | 0, _ => by show 0 < _; exact Nat.pos_of_ne_zero (by simp)
  | n + 1, h => by
    have ih := heldS_lt V hv n (by omega)
    have h1 := (hv.2.2.2.2.1 n (by omega)).1
    unfold heldS
    split
    · exact or_bit ih (by omega)
    · exact ih
set_option maxRecDepth 10000 in
set_option maxHeartbeats 2000000 in
theorem c_X10_pathsWalked {g : gG} {h : gH} {w : Nat} {V : VS} (hv : isV h w V) : Rd g mX10_pathsWalked [.ref w] h (.int (nI (heldS V (V.1 1)))) := by
  obtain ⟨okw, a, hww, rpw⟩ := id hv
  have kwp : V.1 0 ≤ 8 := okw.1.1
  have kww : V.1 1 ≤ 4 := okw.1.2.1
  have kwr : V.1 2 ≤ 4 := okw.1.2.2
  have w0 : h.1 w = some (.inr (10, wF w (wS V))) := hww.1
  have w1 : h.1 (w + 1) = some (.inl (0, 8, .inl (a 0))) := hww.2 0 (by decide)
  have w2 : h.1 (w + 2) = some (.inl (0, 8, .inl (a 1))) := hww.2 1 (by decide)
  have w3 : h.1 (w + 3) = some (.inl (0, 8, .inl (a 2))) := hww.2 2 (by decide)
  have w4 : h.1 (w + 4) = some (.inl (0, 8, .inl (a 3))) := hww.2 3 (by decide)
  have w5 : h.1 (w + 5) = some (.inl (0, 8, .inl (a 4))) := hww.2 4 (by decide)
  have w6 : h.1 (w + 6) = some (.inl (0, 4, .inl (a 5))) := hww.2 5 (by decide)
  have w7 : h.1 (w + 7) = some (.inl (0, 4, .inl (a 6))) := hww.2 6 (by decide)
  have w8 : h.1 (w + 8) = some (.inl (0, 4, .inl (a 7))) := hww.2 7 (by decide)
  have w9 : h.1 (w + 9) = some (.inl (0, 8, .inl (a 8))) := hww.2 8 (by decide)
  have w10 : h.1 (w + 10) = some (.inl (0, 4, .inl (a 9))) := hww.2 9 (by decide)
  have w11 : h.1 (w + 11) = some (.inl (0, 4, .inl (a 10))) := hww.2 10 (by decide)
  refine Cn.of (L := [some (.ref w), none, none]) (by decide) (Nat.le_of_ble_eq_true rfl) rfl ?_
  refine x_iconst (v := 0) dX10_pathsWalked_0 (by decide) ?_
  refine x_ist_1 dX10_pathsWalked_1 (by decide) rfl ?_
  refine x_iconst (v := 0) dX10_pathsWalked_2 (by decide) ?_
  refine x_ist_2 dX10_pathsWalked_3 (by decide) rfl ?_
  refine lp_up (P := fun i => Ex g mX10_pathsWalked _ 4 [some (.ref w), some (.int (nI (heldS V i))), some (.int (nI i))] [] h 0 0) (V.1 1) (fun i hi ih => ?_) ?_ 0 (Nat.zero_le _)
  · have hi4 : i < 4 := by omega
    have rp1 := rpw.2.1 i hi
    have ok1 := okw.2.2.2.2.1 i hi
    have q16 : V.2.2 5 i < 16 := by omega
    refine x_iload_n dX10_pathsWalked_4 rfl ?_
    refine x_aload_n dX10_pathsWalked_5 rfl ?_
    refine x_get fX10_67 (by assumption) rfl dX10_pathsWalked_6 ?_
    refine x_icmp_ge_f 42 dX10_pathsWalked_9 (by decide) (ge_f rfl hi (by omega)) ?_
    refine x_aload_n dX10_pathsWalked_12 rfl ?_
    refine x_aload_n dX10_pathsWalked_13 rfl ?_
    refine x_get fX10_30 (by assumption) rfl dX10_pathsWalked_14 ?_
    refine x_iload_n dX10_pathsWalked_17 rfl ?_
    refine x_iald _ (by assumption) rfl (by omega) (by decide) dX10_pathsWalked_18 ?_
    refine x_rdV (c_X10_hasPath hv) (by assumption) lkX10_hasPath sX10_95 dX10_pathsWalked_19 rfl rfl (Nat.le_of_ble_eq_true rfl) (by decide) ⟨rfl, rfl, by decide, by decide⟩ ?_
    refine x_if_eqB 36 dX10_pathsWalked_22 (by decide) (fun c22 => ?_) (fun c22 => ?_)
    · refine x_inc_2  dX10_pathsWalked_36 (by decide) (nI_inc _) rfl ?_
      refine x_goto 4 dX10_pathsWalked_39 (by decide) ?_
      rw [rp1.2.1] at c22
      rw [heldS, if_neg (fun q => c22 ((onI_in ok1.1 kwp).mpr q))] at ih; exact ih
    · refine x_iload_n dX10_pathsWalked_25 rfl ?_
      refine x_iconst (v := 1) dX10_pathsWalked_26 (by decide) ?_
      refine x_aload_n dX10_pathsWalked_27 rfl ?_
      refine x_get fX10_30 (by assumption) rfl dX10_pathsWalked_28 ?_
      refine x_iload_n dX10_pathsWalked_31 rfl ?_
      refine x_iald _ (by assumption) rfl (by omega) (by decide) dX10_pathsWalked_32 ?_
      refine x_ishl dX10_pathsWalked_33 ?_
      refine x_ior dX10_pathsWalked_34 ?_
      refine x_ist_1 dX10_pathsWalked_35 (by decide) rfl ?_
      refine x_inc_2  dX10_pathsWalked_36 (by decide) (nI_inc _) rfl ?_
      refine x_goto 4 dX10_pathsWalked_39 (by decide) ?_
      rw [rp1.2.1] at c22 ⊢
      have q8 := (onI_in ok1.1 kwp).mp c22
      rw [heldS, if_pos q8] at ih; rw [onI_8 q8, sh1 _ (by omega), fa_or]; exact ih
  · refine x_iload_n dX10_pathsWalked_4 rfl ?_
    refine x_aload_n dX10_pathsWalked_5 rfl ?_
    refine x_get fX10_67 (by assumption) rfl dX10_pathsWalked_6 ?_
    refine x_icmp_ge_t 42 dX10_pathsWalked_9 (by decide) (ge_t rfl (by omega)) ?_
    refine x_iload_n dX10_pathsWalked_42 rfl ?_
    refine x_iret rfl dX10_pathsWalked_43 ⟨by decide, by decide⟩ ?_
    exact ⟨rfl, rfl⟩
set_option maxRecDepth 10000 in
set_option maxHeartbeats 2000000 in
theorem c_X10_payOf {g : gG} {h : gH} {w : Nat} {V : VS} {b : Bool} (hv : isV h w V) : Rd g mX10_payOf [.ref w, .int (b2i (b = true))] h (.int (nI (payS V b (V.1 1)))) := by
  obtain ⟨okw, a, hww, rpw⟩ := id hv
  have kwp : V.1 0 ≤ 8 := okw.1.1
  have kww : V.1 1 ≤ 4 := okw.1.2.1
  have kwr : V.1 2 ≤ 4 := okw.1.2.2
  have w0 : h.1 w = some (.inr (10, wF w (wS V))) := hww.1
  have w1 : h.1 (w + 1) = some (.inl (0, 8, .inl (a 0))) := hww.2 0 (by decide)
  have w2 : h.1 (w + 2) = some (.inl (0, 8, .inl (a 1))) := hww.2 1 (by decide)
  have w3 : h.1 (w + 3) = some (.inl (0, 8, .inl (a 2))) := hww.2 2 (by decide)
  have w4 : h.1 (w + 4) = some (.inl (0, 8, .inl (a 3))) := hww.2 3 (by decide)
  have w5 : h.1 (w + 5) = some (.inl (0, 8, .inl (a 4))) := hww.2 4 (by decide)
  have w6 : h.1 (w + 6) = some (.inl (0, 4, .inl (a 5))) := hww.2 5 (by decide)
  have w7 : h.1 (w + 7) = some (.inl (0, 4, .inl (a 6))) := hww.2 6 (by decide)
  have w8 : h.1 (w + 8) = some (.inl (0, 4, .inl (a 7))) := hww.2 7 (by decide)
  have w9 : h.1 (w + 9) = some (.inl (0, 8, .inl (a 8))) := hww.2 8 (by decide)
  have w10 : h.1 (w + 10) = some (.inl (0, 4, .inl (a 9))) := hww.2 9 (by decide)
  have w11 : h.1 (w + 11) = some (.inl (0, 4, .inl (a 10))) := hww.2 10 (by decide)
  refine Cn.of (L := [some (.ref w), some (.int (b2i (b = true))), none, none]) (by decide) (Nat.le_of_ble_eq_true rfl) rfl ?_
  refine x_iconst (v := 0) dX10_payOf_0 (by decide) ?_
  refine x_ist_2 dX10_payOf_1 (by decide) rfl ?_
  refine x_iconst (v := 0) dX10_payOf_2 (by decide) ?_
  refine x_ist_3 dX10_payOf_3 (by decide) rfl ?_
  refine lp_up (P := fun i => Ex g mX10_payOf _ 4 [some (.ref w), some (.int (b2i (b = true))), some (.int (nI (payS V b i))), some (.int (nI i))] [] h 0 0) (V.1 1) (fun i hi ih => ?_) ?_ 0 (Nat.zero_le _)
  · have hi4 : i < 4 := by omega
    have rp1 := rpw.2.1 i hi
    have ok1 := okw.2.2.2.2.1 i hi
    have q16 : V.2.2 5 i < 16 := by omega
    refine x_iload_n dX10_payOf_4 rfl ?_
    refine x_aload_n dX10_payOf_5 rfl ?_
    refine x_get fX10_67 (by assumption) rfl dX10_payOf_6 ?_
    refine x_icmp_ge_f 44 dX10_payOf_9 (by decide) (ge_f rfl hi (by omega)) ?_
    refine x_iload_n dX10_payOf_12 rfl ?_
    refine x_if_eq 29 dX10_payOf_13 (by decide) (fun c13 => ?_) (fun c13 => ?_)
    · refine x_iload_n dX10_payOf_29 rfl ?_
      refine x_aload_n dX10_payOf_30 rfl ?_
      refine x_get fX10_33 (by assumption) rfl dX10_payOf_31 ?_
      refine x_iload_n dX10_payOf_34 rfl ?_
      refine x_iald _ (by assumption) rfl (by omega) (by decide) dX10_payOf_35 ?_
      refine x_iadd dX10_payOf_36 ?_
      refine x_ist_2 dX10_payOf_37 (by decide) rfl ?_
      refine x_inc_3  dX10_payOf_38 (by decide) (nI_inc _) rfl ?_
      refine x_goto 4 dX10_payOf_41 (by decide) ?_
      rw [payS, if_pos (Or.inl (by simpa [b2i_0] using c13))] at ih; rw [rp1.2.2, nI_add]; exact ih
    · refine x_aload_n dX10_payOf_16 rfl ?_
      refine x_aload_n dX10_payOf_17 rfl ?_
      refine x_get fX10_30 (by assumption) rfl dX10_payOf_18 ?_
      refine x_iload_n dX10_payOf_21 rfl ?_
      refine x_iald _ (by assumption) rfl (by omega) (by decide) dX10_payOf_22 ?_
      refine x_rdV (c_X10_hasPath hv) (by assumption) lkX10_hasPath sX10_95 dX10_payOf_23 rfl rfl (Nat.le_of_ble_eq_true rfl) (by decide) ⟨rfl, rfl, by decide, by decide⟩ ?_
      refine x_if_eqB 38 dX10_payOf_26 (by decide) (fun c26 => ?_) (fun c26 => ?_)
      · refine x_inc_3  dX10_payOf_38 (by decide) (nI_inc _) rfl ?_
        refine x_goto 4 dX10_payOf_41 (by decide) ?_
        rw [rp1.2.1] at c26
        rw [payS, if_neg (fun q => q.elim (fun q => c13 (by rw [q]; rfl)) (fun q => c26 ((onI_in ok1.1 kwp).mpr q)))] at ih; exact ih
      · refine x_iload_n dX10_payOf_29 rfl ?_
        refine x_aload_n dX10_payOf_30 rfl ?_
        refine x_get fX10_33 (by assumption) rfl dX10_payOf_31 ?_
        refine x_iload_n dX10_payOf_34 rfl ?_
        refine x_iald _ (by assumption) rfl (by omega) (by decide) dX10_payOf_35 ?_
        refine x_iadd dX10_payOf_36 ?_
        refine x_ist_2 dX10_payOf_37 (by decide) rfl ?_
        refine x_inc_3  dX10_payOf_38 (by decide) (nI_inc _) rfl ?_
        refine x_goto 4 dX10_payOf_41 (by decide) ?_
        rw [rp1.2.1] at c26
        rw [payS, if_pos (Or.inr ((onI_in ok1.1 kwp).mp c26))] at ih; rw [rp1.2.2, nI_add]; exact ih
  · refine x_iload_n dX10_payOf_4 rfl ?_
    refine x_aload_n dX10_payOf_5 rfl ?_
    refine x_get fX10_67 (by assumption) rfl dX10_payOf_6 ?_
    refine x_icmp_ge_t 44 dX10_payOf_9 (by decide) (ge_t rfl (by omega)) ?_
    refine x_iload_n dX10_payOf_44 rfl ?_
    refine x_iret rfl dX10_payOf_45 ⟨by decide, by decide⟩ ?_
    exact ⟨rfl, rfl⟩
theorem plI_eq {q k : Nat} (hq : q < 16) (hk : k < 8) : (nI k = plI q) ↔ q = k := by
  have key : ∀ q, q < 16 → ∀ k, k < 8 → ((nI k = plI q) ↔ q = k) := by decide +kernel
  exact key q hq k hk
set_option maxRecDepth 10000 in
set_option maxHeartbeats 2000000 in
theorem c_X10_mayStep {g : gG} {h : gH} {w : Nat} {V : VS} {u p : Nat} (hv : isV h w V) (hu : u < V.1 1) (hp : p < V.1 0) : Rd g mX10_mayStep [.ref w, .int (nI u), .int (nI p)] h (.int (b2i ((V.1 3).testBit p = true ∧ (V.2.2 5 u = V.2.2 1 p ∨ V.2.2 5 u = V.2.2 2 p)))) := by
  obtain ⟨okw, a, hww, rpw⟩ := id hv
  have kwp : V.1 0 ≤ 8 := okw.1.1
  have kww : V.1 1 ≤ 4 := okw.1.2.1
  have kwr : V.1 2 ≤ 4 := okw.1.2.2
  have w0 : h.1 w = some (.inr (10, wF w (wS V))) := hww.1
  have w1 : h.1 (w + 1) = some (.inl (0, 8, .inl (a 0))) := hww.2 0 (by decide)
  have w2 : h.1 (w + 2) = some (.inl (0, 8, .inl (a 1))) := hww.2 1 (by decide)
  have w3 : h.1 (w + 3) = some (.inl (0, 8, .inl (a 2))) := hww.2 2 (by decide)
  have w4 : h.1 (w + 4) = some (.inl (0, 8, .inl (a 3))) := hww.2 3 (by decide)
  have w5 : h.1 (w + 5) = some (.inl (0, 8, .inl (a 4))) := hww.2 4 (by decide)
  have w6 : h.1 (w + 6) = some (.inl (0, 4, .inl (a 5))) := hww.2 5 (by decide)
  have w7 : h.1 (w + 7) = some (.inl (0, 4, .inl (a 6))) := hww.2 6 (by decide)
  have w8 : h.1 (w + 8) = some (.inl (0, 4, .inl (a 7))) := hww.2 7 (by decide)
  have w9 : h.1 (w + 9) = some (.inl (0, 8, .inl (a 8))) := hww.2 8 (by decide)
  have w10 : h.1 (w + 10) = some (.inl (0, 4, .inl (a 9))) := hww.2 9 (by decide)
  have w11 : h.1 (w + 11) = some (.inl (0, 4, .inl (a 10))) := hww.2 10 (by decide)
  have ok1 := okw.2.2.2.2.1 u hu
  have ok2 := okw.2.2.2.1 p hp
  have rp1 := rpw.2.1 u hu
  have q1 := plI_eq (q := V.2.2 5 u) (by omega) ok2.2.1
  have q2 := plI_eq (q := V.2.2 5 u) (by omega) ok2.2.2.1
  refine Cn.of (L := [some (.ref w), some (.int (nI u)), some (.int (nI p))]) (by decide) (Nat.le_of_ble_eq_true rfl) rfl ?_
  refine x_aload_n dX10_mayStep_0 rfl ?_
  refine x_iload_n dX10_mayStep_1 rfl ?_
  refine x_rdV (c_X10_isThere hv (by omega)) (by assumption) lkX10_isThere sX10_99 dX10_mayStep_2 rfl rfl (Nat.le_of_ble_eq_true rfl) (by decide) ⟨rfl, rfl, by decide, by decide⟩ ?_
  refine x_if_eqB 26 dX10_mayStep_5 (by decide) (fun c5 => ?_) (fun c5 => ?_)
  · refine x_iconst (v := 0) dX10_mayStep_26 (by decide) ?_
    refine x_zret rfl dX10_mayStep_27 ⟨by decide, by decide⟩ rfl ?_
    exact ⟨by rw [b2i_f (fun q => c5 q.1)], rfl⟩
  · refine x_aload_n dX10_mayStep_8 rfl ?_
    refine x_iload_n dX10_mayStep_9 rfl ?_
    refine x_aload_n dX10_mayStep_10 rfl ?_
    refine x_get fX10_27 (by assumption) rfl dX10_mayStep_11 ?_
    refine x_iload_n dX10_mayStep_14 rfl ?_
    refine x_iald _ (by assumption) rfl (by omega) (by decide) dX10_mayStep_15 ?_
    refine x_rdV (c_X10_endsAt hv hp) (by assumption) lkX10_endsAt sX10_102 dX10_mayStep_16 rfl rfl (Nat.le_of_ble_eq_true rfl) (by decide) ⟨rfl, rfl, by decide, by decide⟩ ?_
    refine x_if_eqB 26 dX10_mayStep_19 (by decide) (fun c19 => ?_) (fun c19 => ?_)
    · refine x_iconst (v := 0) dX10_mayStep_26 (by decide) ?_
      refine x_zret rfl dX10_mayStep_27 ⟨by decide, by decide⟩ rfl ?_
      rw [rp1.1, q1, q2] at c19
      exact ⟨by rw [b2i_f (fun q => c19 q.2)], rfl⟩
    · refine x_iconst (v := 1) dX10_mayStep_22 (by decide) ?_
      refine x_goto 27 dX10_mayStep_23 (by decide) ?_
      refine x_zret rfl dX10_mayStep_27 ⟨by decide, by decide⟩ rfl ?_
      rw [rp1.1, q1, q2] at c19
      exact ⟨by rw [b2i_t ⟨c5, c19⟩], rfl⟩
set_option maxRecDepth 10000 in
set_option maxHeartbeats 2000000 in
theorem c_X10_someoneAtEnd {g : gG} {h : gH} {w : Nat} {V : VS} {p : Nat} (hv : isV h w V) (hp : p < V.1 0) : Rd g mX10_someoneAtEnd [.ref w, .int (nI p)] h (.int (b2i (atE V p (V.1 1) = true))) := by
  obtain ⟨okw, a, hww, rpw⟩ := id hv
  have kwp : V.1 0 ≤ 8 := okw.1.1
  have kww : V.1 1 ≤ 4 := okw.1.2.1
  have kwr : V.1 2 ≤ 4 := okw.1.2.2
  have w0 : h.1 w = some (.inr (10, wF w (wS V))) := hww.1
  have w1 : h.1 (w + 1) = some (.inl (0, 8, .inl (a 0))) := hww.2 0 (by decide)
  have w2 : h.1 (w + 2) = some (.inl (0, 8, .inl (a 1))) := hww.2 1 (by decide)
  have w3 : h.1 (w + 3) = some (.inl (0, 8, .inl (a 2))) := hww.2 2 (by decide)
  have w4 : h.1 (w + 4) = some (.inl (0, 8, .inl (a 3))) := hww.2 3 (by decide)
  have w5 : h.1 (w + 5) = some (.inl (0, 8, .inl (a 4))) := hww.2 4 (by decide)
  have w6 : h.1 (w + 6) = some (.inl (0, 4, .inl (a 5))) := hww.2 5 (by decide)
  have w7 : h.1 (w + 7) = some (.inl (0, 4, .inl (a 6))) := hww.2 6 (by decide)
  have w8 : h.1 (w + 8) = some (.inl (0, 4, .inl (a 7))) := hww.2 7 (by decide)
  have w9 : h.1 (w + 9) = some (.inl (0, 8, .inl (a 8))) := hww.2 8 (by decide)
  have w10 : h.1 (w + 10) = some (.inl (0, 4, .inl (a 9))) := hww.2 9 (by decide)
  have w11 : h.1 (w + 11) = some (.inl (0, 4, .inl (a 10))) := hww.2 10 (by decide)
  have ok2 := okw.2.2.2.1 p hp
  have e1 := rpw.1 1 p (by decide) hp
  have e2 := rpw.1 2 p (by decide) hp
  refine Cn.of (L := [some (.ref w), some (.int (nI p)), none]) (by decide) (Nat.le_of_ble_eq_true rfl) rfl ?_
  refine x_iconst (v := 0) dX10_someoneAtEnd_0 (by decide) ?_
  refine x_ist_2 dX10_someoneAtEnd_1 (by decide) rfl ?_
  refine lp_up (P := fun i => atE V p i = false → Ex g mX10_someoneAtEnd _ 2 [some (.ref w), some (.int (nI p)), some (.int (nI i))] [] h 0 0) (V.1 1) (fun i hi ih hf => ?_) (fun hf => ?_) 0 (Nat.zero_le _) rfl
  · have hi4 : i < 4 := by omega
    have rp1 := rpw.2.1 i hi
    have ok1 := okw.2.2.2.2.1 i hi
    have q16 : V.2.2 5 i < 16 := by omega
    have q1 := plI_eq (q := V.2.2 5 i) q16 ok2.2.1
    have q2 := plI_eq (q := V.2.2 5 i) q16 ok2.2.2.1
    have mono : ∀ m j, atE V p j = true → atE V p (j + m) = true := by
      intro m
      induction m with
      | zero => intro j h; exact h
      | succ m im => intro j h; have := im j h; show (atE V p (j + m) || _) = true; rw [this]; rfl
    have up : atE V p (i + 1) = true → atE V p (V.1 1) = true := fun q => by have := mono (V.1 1 - (i + 1)) (i + 1) q; rwa [show i + 1 + (V.1 1 - (i + 1)) = V.1 1 by omega] at this
    refine x_iload_n dX10_someoneAtEnd_2 rfl ?_
    refine x_aload_n dX10_someoneAtEnd_3 rfl ?_
    refine x_get fX10_67 (by assumption) rfl dX10_someoneAtEnd_4 ?_
    refine x_icmp_ge_f 48 dX10_someoneAtEnd_7 (by decide) (ge_f rfl hi (by omega)) ?_
    refine x_aload_n dX10_someoneAtEnd_10 rfl ?_
    refine x_get fX10_27 (by assumption) rfl dX10_someoneAtEnd_11 ?_
    refine x_iload_n dX10_someoneAtEnd_14 rfl ?_
    refine x_iald _ (by assumption) rfl (by omega) (by decide) dX10_someoneAtEnd_15 ?_
    refine x_aload_n dX10_someoneAtEnd_16 rfl ?_
    refine x_get fX10_15 (by assumption) rfl dX10_someoneAtEnd_17 ?_
    refine x_iload_n dX10_someoneAtEnd_20 rfl ?_
    refine x_iald _ (by assumption) rfl (by omega) (by decide) dX10_someoneAtEnd_21 ?_
    refine x_icmp_eq 40 dX10_someoneAtEnd_22 (by decide) (fun c22 => ?_) (fun c22 => ?_)
    · refine x_iconst (v := 1) dX10_someoneAtEnd_40 (by decide) ?_
      refine x_zret rfl dX10_someoneAtEnd_41 ⟨by decide, by decide⟩ rfl ?_
      exact ⟨by rw [b2i_t (up (by simp [atE, q1.mp (e1.symm.trans (c22.symm.trans rp1.1))]))], rfl⟩
    · refine x_aload_n dX10_someoneAtEnd_25 rfl ?_
      refine x_get fX10_27 (by assumption) rfl dX10_someoneAtEnd_26 ?_
      refine x_iload_n dX10_someoneAtEnd_29 rfl ?_
      refine x_iald _ (by assumption) rfl (by omega) (by decide) dX10_someoneAtEnd_30 ?_
      refine x_aload_n dX10_someoneAtEnd_31 rfl ?_
      refine x_get fX10_18 (by assumption) rfl dX10_someoneAtEnd_32 ?_
      refine x_iload_n dX10_someoneAtEnd_35 rfl ?_
      refine x_iald _ (by assumption) rfl (by omega) (by decide) dX10_someoneAtEnd_36 ?_
      refine x_icmp_ne 42 dX10_someoneAtEnd_37 (by decide) (fun c37 => ?_) (fun c37 => ?_)
      · refine x_inc_2  dX10_someoneAtEnd_42 (by decide) (nI_inc _) rfl ?_
        refine x_goto 2 dX10_someoneAtEnd_45 (by decide) ?_
        refine ih ?_
        simp only [atE, hf, Bool.false_or, decide_eq_false_iff_not]
        rintro (q | q)
        · exact c22 (rp1.1.trans ((q1.mpr q).symm.trans e1.symm))
        · exact c37 (rp1.1.trans ((q2.mpr q).symm.trans e2.symm))
      · refine x_iconst (v := 1) dX10_someoneAtEnd_40 (by decide) ?_
        refine x_zret rfl dX10_someoneAtEnd_41 ⟨by decide, by decide⟩ rfl ?_
        exact ⟨by rw [b2i_t (up (by simp [atE, q2.mp (e2.symm.trans (c37.symm.trans rp1.1))]))], rfl⟩
  · refine x_iload_n dX10_someoneAtEnd_2 rfl ?_
    refine x_aload_n dX10_someoneAtEnd_3 rfl ?_
    refine x_get fX10_67 (by assumption) rfl dX10_someoneAtEnd_4 ?_
    refine x_icmp_ge_t 48 dX10_someoneAtEnd_7 (by decide) (ge_t rfl (by omega)) ?_
    refine x_iconst (v := 0) dX10_someoneAtEnd_48 (by decide) ?_
    refine x_zret rfl dX10_someoneAtEnd_49 ⟨by decide, by decide⟩ rfl ?_
    exact ⟨by rw [b2i_f (by rw [hf]; decide)], rfl⟩
