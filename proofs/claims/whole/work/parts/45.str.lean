/-! STRINGS: constants of the class Tape, length and charAt as the JDK's code -/
section STR
variable {g : gG} {M M' : gM} {Z : gZt} {pc : Nat} {L : List (Option Value)} {st rest av : List Value} {h : gH} {k n k' n' : Nat} {Q' : Option Value → gH → Prop}
theorem x_sF {idx q : Nat} {nm ds : String} {v : Value} (hE : ∀ U, gSC g U → va_OF "java/lang/String" nm ds v q (gF g) U g.2.2.2.1) (hl : Cond.fieldLink M.1.cls idx "java/lang/String" nm ds ∈ gT) (d : decode M.2.1 pc = .ok (.getfield idx, 3)) (kk : Ex g M Z (pc + 3) L (v :: st) h k n) : Ex g M Z pc L (.ref q :: st) h k n := by
  intro p e s m args below meth c H locs ls C R F Lh
  obtain ⟨cf, kc, i, f, cell, h1, h2, h3, h4, h5, h6⟩ := va_OF.kept (H1 := H) (hE s C.2.2.2.2.2.2.2.2) (fun a ha _ => R.2.2.2 a ha)
  exact W.getf C.1 C.2.1 C.2.2.2.2.1 (C.2.2.2.2.2.1 _ hl) h1 h2 h3 h4 (v := v) h5 rfl rfl d (kk p e s m args below meth c H locs ls C R F Lh)
theorem x_sG {idx : Nat} {cn nm ds : String} {v : Value} (hE : ∀ U, gSC g U → va_Z cn nm ds v (gF g) U g.2.2.2.1) (hl : Cond.fieldLink M.1.cls idx cn nm ds ∈ gT) (d : decode M.2.1 pc = .ok (.getstatic idx, 3)) (kk : Ex g M Z (pc + 3) L (v :: st) h k n) : Ex g M Z pc L st h k n := by
  intro p e s m args below meth c H locs ls C R F Lh
  obtain ⟨cf, kf, fi, f, a, cell, h1, h2, h3, h4, h5, h6, h7, h8⟩ := hE s C.2.2.2.2.2.2.2.2
  exact W.gets C.1 C.2.1 C.2.2.2.2.1 (C.2.2.2.2.2.1 _ hl) h1 h2 h3 h4 (by rw [R.2.2.2 a (Array.getElem?_eq_some_iff.mp h5).1]; exact h5) (fun e => by rw [e] at h6; cases h6) h7 rfl d (kk p e s m args below meth c H locs ls C R F Lh)
theorem x_sQ {idx : Nat} {cn nm ds : String} (hE : ∀ U, gSC g U → va_Zq cn nm ds (gF g) U g.2.2.2.1) (hl : Cond.fieldLink M.1.cls idx cn nm ds ∈ gT) (d : decode M.2.1 pc = .ok (.getstatic idx, 3)) (kk : ∀ v, (v = .null ∨ ∃ t, v = .ref t) → Ex g M Z (pc + 3) L (v :: st) h k n) : Ex g M Z pc L st h k n := by
  intro p e s m args below meth c H locs ls C R F Lh
  have go : ∀ v, (v = Value.null ∨ ∃ t, v = .ref t) → va_Z cn nm ds v (gF g) s g.2.2.2.1 → W p g.1 e M.2.2.2.2 s m args below meth c H locs k n (Z below args s) (F0 m pc ls st) := by
    intro v hv hz
    obtain ⟨cf, kf, fi, f, a, cell, h1, h2, h3, h4, h5, h6, h7, h8⟩ := hz
    exact W.gets C.1 C.2.1 C.2.2.2.2.1 (C.2.2.2.2.2.1 _ hl) h1 h2 h3 h4 (by rw [R.2.2.2 a (Array.getElem?_eq_some_iff.mp h5).1]; exact h5) (fun e => by rw [e] at h6; cases h6) h7 rfl d (kk v hv p e s m args below meth c H locs ls C R F Lh)
  rcases hE s C.2.2.2.2.2.2.2.2 with z | ⟨t, z⟩
  · exact go _ (.inl rfl) z
  · exact go _ (.inr ⟨t, rfl⟩) z
theorem x_sL {j : Nat} (hj : j < 13) (d : decode M.2.1 pc = .ok (.arraylength, 1)) (kk : Ex g M Z (pc + 1) L (.int (nI (sk_len.getD j 0)) :: st) h k n) : Ex g M Z pc L (.ref (g.2.2.2.2.2 j) :: st) h k n := by
  intro p e s m args below meth c H locs ls C R F Lh
  obtain ⟨cell, h1, h2, h3, h4, h5, h6, h7⟩ := va_T.kept (H1 := H) (C.2.2.2.2.2.2.2.2.2.2.2.1.1 j hj).2.2.2 (fun a ha _ => R.2.2.2 a ha)
  exact W.alen (n := nI (sk_len.getD j 0)) C.1 C.2.1 h1 h2 h5 rfl rfl d (kk p e s m args below meth c H locs ls C R F Lh)
theorem sk_6 : ∀ j, j < 13 → sk_len.getD j 0 ≤ 6 := by decide
theorem x_sB {j i : Nat} (hj : j < 13) (hi : i < sk_len.getD j 0) (d : decode M.2.1 pc = .ok (.baload, 1)) (kk : Ex g M Z (pc + 1) L (.int ((sk_byt.getD j []).getD i 0) :: st) h k n) : Ex g M Z pc L (.int (nI i) :: .ref (g.2.2.2.2.2 j) :: st) h k n := by
  intro p e s m args below meth c H locs ls C R F Lh
  obtain ⟨cell, h1, h2, h3, h4, h5, h6, h7⟩ := va_T.kept (H1 := H) (C.2.2.2.2.2.2.2.2.2.2.2.1.1 j hj).2.2.2 (fun a ha _ => R.2.2.2 a ha)
  have h31 : i < 2 ^ 31 := by have := sk_6 j hj; omega
  exact W.bald (v := .int ((sk_byt.getD j []).getD i 0)) C.1 C.2.1 h1 h2 h3 (fun q => q.elim (nI_pos h31) (fun z => by rw [nI_clamp h31] at z; omega)) (by rw [nI_clamp h31]; exact h6 i hi) rfl rfl d (kk p e s m args below meth c H locs ls C R F Lh)
theorem gPreW {s : State} {H : Heap} {j : Nat} (hsc : gSC g s) (R : gRl g h H) (hj : j < 13) : PreV s H "java/lang/String" (g.2.2.2.2.1 j) (gPc g (.ref (g.2.2.2.2.1 j) :: av) h) av :=
  ⟨gPc.blind g _ h, by
    obtain ⟨cell, h1, h2, h3, -⟩ := va_O.kept (H1 := H) (hsc.2.2.2.1.1 j hj).1 (fun a ha _ => R.2.2.2 a ha)
    exact ⟨cell, h1, h2, h3⟩, fun U hU hW => ⟨rfl, hsc.warm hW, by rw [hU]; exact R⟩⟩
theorem x_callW {idx na j : Nat} (hj : j < 13) (hcl : M'.1.cls = "java/lang/String") (hc : Cn g M' (.ref (g.2.2.2.2.1 j) :: av) h Q') (lk : gLk M' na) (hl : Cond.methodLink M.1.cls idx M'.1 ∈ gT ∧ Cond.instanceMethod M'.1 ∈ gT ∧ Cond.selects M'.1.cls M'.1 M'.1 ∈ gT) (d : decode M.2.1 pc = .ok (.invokevirtual idx, 3)) (hn : av.length = na) (hst : st = av.reverse ++ .ref (g.2.2.2.2.1 j) :: rest) (hw : (rest.map fun v => v.category).sum ≤ 8) (hR : gRm M M')
    (hk : k + M'.2.2.2.2.cells = k' ∧ n + M'.2.2.2.2.slots = n' ∧ k' ≤ M.2.2.2.2.cells ∧ n' ≤ M.2.2.2.2.slots) (kk : ∀ r h', Q' r h' → Ex g M Z (pc + 3) L (r.toList ++ rest) h' k' n') : Ex g M Z pc L st h k n := by
  intro p e s m args below meth c H locs ls C R Fr Lh
  obtain ⟨rfl, rfl, hk1, hk2⟩ := hk
  obtain ⟨hx, hbb, hml, hrt, hown, hts, hlc, hname, hsc⟩ := id C
  have P := gPreW (av := av) hsc R hj
  rw [← hcl] at P
  refine x_after (va_runV ⟨hx, hbb, hml, hown, hts⟩ hc ⟨gCallB hts lk (hts _ hl.1) hR, hts _ hl.2.1, hts _ hl.2.2⟩ P rfl hn Lh.1 hst (lv_room hw) d ⟨hk1, hk2⟩) Fr fun r h' q H1 locs1 R1 Fr1 => ?_
  exact kk r h' q p e s m args below meth c H1 locs1 ls C R1 Fr1 Lh
theorem x_rdW {idx na j : Nat} {v : Value} (hj : j < 13) (hcl : M'.1.cls = "java/lang/String") (hc : Rd g M' (.ref (g.2.2.2.2.1 j) :: av) h v) (lk : gLk M' na) (hl : Cond.methodLink M.1.cls idx M'.1 ∈ gT ∧ Cond.instanceMethod M'.1 ∈ gT ∧ Cond.selects M'.1.cls M'.1 M'.1 ∈ gT) (d : decode M.2.1 pc = .ok (.invokevirtual idx, 3)) (hn : av.length = na) (hst : st = av.reverse ++ .ref (g.2.2.2.2.1 j) :: rest) (hw : (rest.map fun v => v.category).sum ≤ 8) (hR : gRm M M')
    (hk : M'.2.2.2.2.cells = 0 ∧ M'.2.2.2.2.slots = 0 ∧ k ≤ M.2.2.2.2.cells ∧ n ≤ M.2.2.2.2.slots) (kk : Ex g M Z (pc + 3) L (v :: rest) h k n) : Ex g M Z pc L st h k n :=
  x_callW hj hcl hc lk hl d hn hst hw hR ⟨by rw [hk.1]; rfl, by rw [hk.2.1]; rfl, hk.2.2.1, hk.2.2.2⟩ fun r h' q => by obtain ⟨rfl, rfl⟩ := q; exact kk
end STR
theorem cs_on {g : gG} : ∀ U, gSC g U → va_Z "java/lang/String" "COMPACT_STRINGS" "Z" (.int 1) (gF g) U g.2.2.2.1 := fun U q => q.2.2.2.2.1.1
theorem fm_q {g : gG} : ∀ U, gSC g U → va_Zq "jdk/internal/util/Preconditions" "SIOOBE_FORMATTER" "Ljava/util/function/BiFunction;" (gF g) U g.2.2.2.1 := fun U q => q.2.2.2.2.1.2
theorem cd_0 {g : gG} {j : Nat} (hj : j < 13) : ∀ U, gSC g U → va_OF "java/lang/String" "coder" "B" (.int 0) (g.2.2.2.2.1 j) (gF g) U g.2.2.2.1 := fun U q => (q.2.2.2.1.1 j hj).2.1
theorem vl_r {g : gG} {j : Nat} (hj : j < 13) : ∀ U, gSC g U → va_OF "java/lang/String" "value" "[B" (.ref (g.2.2.2.2.2 j)) (g.2.2.2.2.1 j) (gF g) U g.2.2.2.1 := fun U q => (q.2.2.2.1.1 j hj).2.2.1
theorem sk_sh : ∀ j, j < 13 → nI (sk_len.getD j 0) >>> ((0 : Int32) &&& 31) = nI (sk_len.getD j 0) := by decide +kernel
theorem sk_ch : ∀ j, j < 13 → ∀ i, i < 6 → (((sk_byt.getD j []).getD i 0 &&& 255).toUInt32 % 65536).toInt32 = (sk_byt.getD j []).getD i 0 ∧ narrow .char (.int ((((sk_byt.getD j []).getD i 0 &&& 255).toUInt32 % 65536).toInt32)) = .int ((((sk_byt.getD j []).getD i 0 &&& 255).toUInt32 % 65536).toInt32) := by decide +kernel
set_option maxRecDepth 10000 in
set_option maxHeartbeats 2000000 in
theorem c_J0_coder_7d493 {g : gG} {h : gH} {j : Nat} (hj : j < 13) : Rd g mJ0_coder_7d493 [.ref (g.2.2.2.2.1 j)] h (.int 0) := by
  refine Cn.of (L := [some (.ref (g.2.2.2.2.1 j))]) (by decide) (Nat.le_of_ble_eq_true rfl) rfl ?_
  refine x_sG cs_on (gT_in 377 (by decide +kernel) rfl) dJ0_coder_7d493_0 ?_
  refine x_if_eq_f 13 dJ0_coder_7d493_3 (by decide) (by decide) ?_
  refine x_aload_n dJ0_coder_7d493_6 rfl ?_
  refine x_sF (cd_0 hj) (gT_in 1702 (by decide +kernel) rfl) dJ0_coder_7d493_7 ?_
  refine x_goto 14 dJ0_coder_7d493_10 (by decide) ?_
  refine x_zret rfl dJ0_coder_7d493_14 ⟨by decide, by decide⟩ rfl ?_
  exact ⟨rfl, rfl⟩
set_option maxRecDepth 10000 in
set_option maxHeartbeats 2000000 in
theorem c_J0_isLatin1_aae02 {g : gG} {h : gH} {j : Nat} (hj : j < 13) : Rd g mJ0_isLatin1_aae02 [.ref (g.2.2.2.2.1 j)] h (.int 1) := by
  refine Cn.of (L := [some (.ref (g.2.2.2.2.1 j))]) (by decide) (Nat.le_of_ble_eq_true rfl) rfl ?_
  refine x_sG cs_on (gT_in 377 (by decide +kernel) rfl) dJ0_isLatin1_aae02_0 ?_
  refine x_if_eq_f 17 dJ0_isLatin1_aae02_3 (by decide) (by decide) ?_
  refine x_aload_n dJ0_isLatin1_aae02_6 rfl ?_
  refine x_sF (cd_0 hj) (gT_in 1702 (by decide +kernel) rfl) dJ0_isLatin1_aae02_7 ?_
  refine x_if_ne_f 17 dJ0_isLatin1_aae02_10 (by decide) (by decide) ?_
  refine x_iconst (v := 1) dJ0_isLatin1_aae02_13 (by decide) ?_
  refine x_goto 18 dJ0_isLatin1_aae02_14 (by decide) ?_
  refine x_zret rfl dJ0_isLatin1_aae02_18 ⟨by decide, by decide⟩ rfl ?_
  exact ⟨rfl, rfl⟩
set_option maxRecDepth 10000 in
set_option maxHeartbeats 2000000 in
theorem c_J0_length_8abf5 {g : gG} {h : gH} {j : Nat} (hj : j < 13) : Rd g mJ0_length_8abf5 [.ref (g.2.2.2.2.1 j)] h (.int (nI (sk_len.getD j 0))) := by
  refine Cn.of (L := [some (.ref (g.2.2.2.2.1 j))]) (by decide) (Nat.le_of_ble_eq_true rfl) rfl ?_
  refine x_aload_n dJ0_length_8abf5_0 rfl ?_
  refine x_sF (vl_r hj) (gT_in 1701 (by decide +kernel) rfl) dJ0_length_8abf5_1 ?_
  refine x_sL hj dJ0_length_8abf5_4 ?_
  refine x_aload_n dJ0_length_8abf5_5 rfl ?_
  refine x_rdW hj rfl (c_J0_coder_7d493 hj) lkJ0_coder_7d493 ⟨gT_in 373 (by decide +kernel) rfl, gT_in 374 (by decide +kernel) rfl, gT_in 375 (by decide +kernel) rfl⟩ dJ0_length_8abf5_6 rfl rfl (Nat.le_of_ble_eq_true rfl) (by decide) ⟨rfl, rfl, by decide, by decide⟩ ?_
  refine x_ishr dJ0_length_8abf5_9 ?_
  refine x_iret rfl dJ0_length_8abf5_10 ⟨by decide, by decide⟩ ?_
  exact ⟨by rw [sk_sh j hj], rfl⟩
set_option maxRecDepth 10000 in
set_option maxHeartbeats 2000000 in
theorem c_J3_checkIndex_8e157 {g : gG} {h : gH} {i N : Nat} {v : Value} (hi : i < N) (hN : N < 2 ^ 31) (hv : v = .null ∨ ∃ t, v = .ref t) : Rd g mJ3_checkIndex_8e157 [.int (nI i), .int (nI N), v] h (.int (nI i)) := by
  rcases hv with rfl | ⟨t, rfl⟩
  · refine Cn.of (L := [some (.int (nI i)), some (.int (nI N)), some (.null)]) (by decide) (Nat.le_of_ble_eq_true rfl) rfl ?_
    refine x_iload_n dJ3_checkIndex_8e157_0 rfl ?_
    refine x_if_lt_f 9 dJ3_checkIndex_8e157_1 (by decide) (nI_pos (by omega)) ?_
    refine x_iload_n dJ3_checkIndex_8e157_4 rfl ?_
    refine x_iload_n dJ3_checkIndex_8e157_5 rfl ?_
    refine x_icmp_lt_t 16 dJ3_checkIndex_8e157_6 (by decide) (nI_lt hi (by omega)) ?_
    refine x_iload_n dJ3_checkIndex_8e157_16 rfl ?_
    refine x_iret rfl dJ3_checkIndex_8e157_17 ⟨by decide, by decide⟩ ?_
    exact ⟨rfl, rfl⟩
  · refine Cn.of (L := [some (.int (nI i)), some (.int (nI N)), some (.ref t)]) (by decide) (Nat.le_of_ble_eq_true rfl) rfl ?_
    refine x_iload_n dJ3_checkIndex_8e157_0 rfl ?_
    refine x_if_lt_f 9 dJ3_checkIndex_8e157_1 (by decide) (nI_pos (by omega)) ?_
    refine x_iload_n dJ3_checkIndex_8e157_4 rfl ?_
    refine x_iload_n dJ3_checkIndex_8e157_5 rfl ?_
    refine x_icmp_lt_t 16 dJ3_checkIndex_8e157_6 (by decide) (nI_lt hi (by omega)) ?_
    refine x_iload_n dJ3_checkIndex_8e157_16 rfl ?_
    refine x_iret rfl dJ3_checkIndex_8e157_17 ⟨by decide, by decide⟩ ?_
    exact ⟨rfl, rfl⟩
set_option maxRecDepth 10000 in
set_option maxHeartbeats 2000000 in
theorem c_J0_checkIndex_df160 {g : gG} {h : gH} {i N : Nat} (hi : i < N) (hN : N < 2 ^ 31) : Ct g mJ0_checkIndex_df160 [.int (nI i), .int (nI N)] h none (fun h' => h' = h) := by
  refine Cn.of (L := [some (.int (nI i)), some (.int (nI N))]) (by decide) (Nat.le_of_ble_eq_true rfl) rfl ?_
  refine x_iload_n dJ0_checkIndex_df160_0 rfl ?_
  refine x_iload_n dJ0_checkIndex_df160_1 rfl ?_
  refine x_sQ fm_q (gT_in 393 (by decide +kernel) rfl) dJ0_checkIndex_df160_2 (fun v hv => ?_)
  refine x_rdS (rest := []) (av := [.int (nI i), .int (nI N), v]) (c_J3_checkIndex_8e157 hi hN hv) lkJ3_checkIndex_8e157 sJ0_1059 dJ0_checkIndex_df160_5 rfl rfl (Nat.le_of_ble_eq_true rfl) (by decide) ⟨rfl, rfl, by decide, by decide⟩ ?_
  refine x_pop dJ0_checkIndex_df160_8 rfl ?_
  refine x_vret rfl dJ0_checkIndex_df160_9 ⟨by decide, by decide⟩ ?_
  exact ⟨rfl, rfl⟩
set_option maxRecDepth 10000 in
set_option maxHeartbeats 2000000 in
theorem c_J1_charAt_3b067 {g : gG} {h : gH} {i j : Nat} (hj : j < 13) (hi : i < sk_len.getD j 0) : Rd g mJ1_charAt_3b067 [.ref (g.2.2.2.2.2 j), .int (nI i)] h (.int ((sk_byt.getD j []).getD i 0)) := by
  have h6 := sk_6 j hj
  refine Cn.of (L := [some (.ref (g.2.2.2.2.2 j)), some (.int (nI i))]) (by decide) (Nat.le_of_ble_eq_true rfl) rfl ?_
  refine x_iload_n dJ1_charAt_3b067_0 rfl ?_
  refine x_aload_n dJ1_charAt_3b067_1 rfl ?_
  refine x_sL hj dJ1_charAt_3b067_2 ?_
  refine x_cnS (c_J0_checkIndex_df160 hi (by omega)) lkJ0_checkIndex_df160 sJ1_9 dJ1_charAt_3b067_3 rfl rfl (Nat.le_of_ble_eq_true rfl) (by decide) ⟨rfl, rfl, by decide, by decide⟩ ?_
  rintro h1 rfl
  refine x_aload_n dJ1_charAt_3b067_6 rfl ?_
  refine x_iload_n dJ1_charAt_3b067_7 rfl ?_
  refine x_sB hj hi dJ1_charAt_3b067_8 ?_
  refine x_sipush (v := 255) dJ1_charAt_3b067_9 (by decide) ?_
  refine x_iand dJ1_charAt_3b067_12 ?_
  refine x_i2c dJ1_charAt_3b067_13 ?_
  refine x_zret rfl dJ1_charAt_3b067_14 ⟨by decide, by decide⟩ (sk_ch j hj i (by omega)).2 ?_
  exact ⟨by rw [(sk_ch j hj i (by omega)).1], rfl⟩
set_option maxRecDepth 10000 in
set_option maxHeartbeats 2000000 in
theorem c_J0_charAt_5068e {g : gG} {h : gH} {i j : Nat} (hj : j < 13) (hi : i < sk_len.getD j 0) : Rd g mJ0_charAt_5068e [.ref (g.2.2.2.2.1 j), .int (nI i)] h (.int ((sk_byt.getD j []).getD i 0)) := by
  have h6 := sk_6 j hj
  have e1 := sk_ch j hj i (by omega)
  rw [e1.1] at e1
  refine Cn.of (L := [some (.ref (g.2.2.2.2.1 j)), some (.int (nI i))]) (by decide) (Nat.le_of_ble_eq_true rfl) rfl ?_
  refine x_aload_n dJ0_charAt_5068e_0 rfl ?_
  refine x_rdW hj rfl (c_J0_isLatin1_aae02 hj) lkJ0_isLatin1_aae02 ⟨gT_in 383 (by decide +kernel) rfl, gT_in 384 (by decide +kernel) rfl, gT_in 385 (by decide +kernel) rfl⟩ dJ0_charAt_5068e_1 rfl rfl (Nat.le_of_ble_eq_true rfl) (by decide) ⟨rfl, rfl, by decide, by decide⟩ ?_
  refine x_if_eq_f 16 dJ0_charAt_5068e_4 (by decide) (by decide) ?_
  refine x_aload_n dJ0_charAt_5068e_7 rfl ?_
  refine x_sF (vl_r hj) (gT_in 1701 (by decide +kernel) rfl) dJ0_charAt_5068e_8 ?_
  refine x_iload_n dJ0_charAt_5068e_11 rfl ?_
  refine x_rdS (c_J1_charAt_3b067 hj hi) lkJ1_charAt_3b067 sJ0_495 dJ0_charAt_5068e_12 rfl rfl (Nat.le_of_ble_eq_true rfl) (by decide) ⟨rfl, rfl, by decide, by decide⟩ ?_
  refine x_zret rfl dJ0_charAt_5068e_15 ⟨by decide, by decide⟩ e1.2 ?_
  exact ⟨rfl, rfl⟩
