/-! MADE NEW -/
theorem mkA {h : gH} {q p p' ci : Nat} {e : va_E} {fs : List Value} (hz : h.2 = p) (hq : q < p) (hp : p + 1 = p') : ∃ h', h' = hset (hnew h e) q (.inr (ci, fs)) ∧ h'.2 = p' ∧ h'.1 q = some (.inr (ci, fs)) ∧ h'.1 p = some e ∧ ∀ a, a ≠ q → a < p → h'.1 a = h.1 a := by
  subst hz
  subst hp
  exact ⟨_, rfl, rfl, hset_s, (hset_n (by omega)).trans hnew_s, fun a h1 h2 => (hset_n h1).trans (hnew_n (by omega))⟩
theorem mkP {h : gH} {q p ci : Nat} {fs : List Value} (hz : h.2 = p) : ∃ h', h' = hset h q (.inr (ci, fs)) ∧ h'.2 = p ∧ h'.1 q = some (.inr (ci, fs)) ∧ ∀ a, a ≠ q → a < p → h'.1 a = h.1 a :=
  ⟨_, rfl, hz, hset_s, fun a h1 _ => hset_n h1⟩
theorem nzq {h : gH} {q p : Nat} (z : h.2 = q + p) (hp : 0 < p) : q ≠ h.2 := by omega
theorem l0 {q p : Nat} (hp : 0 < p) : q < q + p := by omega
theorem lk {a q b c : Nat} (h : a < q + b) (hc : b ≤ c) : a < q + c := by omega
theorem lk2 {q a b : Nat} (h : a < b) : q + a < q + b := by omega
theorem lk3 {q a b : Nat} (h : a ≤ b) : q + a ≤ q + b := by omega
theorem nk {q p : Nat} (h : 0 < p) : q + p ≠ q := by omega
theorem nk2 {q a b : Nat} (h : a ≠ b) : q + a ≠ q + b := by omega
theorem nk3 {q b : Nat} (h : 0 < b) : q ≠ q + b := by omega
theorem ar1 {a q p : Nat} (h : q + p ≤ a) (hp : 0 < p) : a ≠ q := by omega
theorem ar2 {a q p z c : Nat} (h : a < q + p + z) (hc : p + z ≤ c) : a < q + c := by omega
theorem ar3 {a q p z c : Nat} (h1 : q + p ≤ a) (h : a < q + p + z) (hc : p + z ≤ c ∨ c < p) : a ≠ q + c := by omega
theorem lo1 {a q : Nat} (h : a < q) : a ≠ q := by omega
theorem lo2 {a q c : Nat} (h : a < q) : a < q + c := by omega
theorem lo3 {a q c : Nat} (h : a < q) : a ≠ q + c := by omega
def V0 : VS := (fun _ => 0, 1, fun i _ => if i = 7 then 1 else 0)
theorem V0_ok : okV V0 := by
  refine ⟨⟨Nat.zero_le _, Nat.zero_le _, Nat.zero_le _⟩, by show 0 < 2 ^ 0; decide, Nat.zero_le _, fun p hp => absurd hp (Nat.not_lt_zero p), fun p hp => absurd hp (Nat.not_lt_zero p), fun c hc => by show (if (7 : Nat) = 7 then 1 else 0) ≤ 9; decide, fun p hp => absurd hp (Nat.not_lt_zero p)⟩
set_option maxRecDepth 10000 in
set_option maxHeartbeats 2000000 in
theorem c_X6_init {g : gG} {h0 : gH} {q : Nat} (q0 : h0.1 q = some (.inr (6, [.null, .int 0, .int 0, .int 0, .int 0, .int 0, .int 0]))) (z0 : h0.2 = q + 1) : Ct g mX6_init [.ref q] h0 none (fun h' => h'.2 = q + 2 ∧ isT h' q (0, fun _ => 0) ∧ ∀ a, a < q → h'.1 a = h0.1 a) := by
  refine Cn.of (L := [some (.ref q)]) (by decide) (Nat.le_of_ble_eq_true rfl) rfl ?_
  refine x_aload_n dX6_init_0 rfl ?_
  refine x_objI sO_X6 dX6_init_1 (by decide) (Nat.le_of_ble_eq_true rfl) ?_
  refine x_aload_n dX6_init_4 rfl ?_
  refine x_sipush (v := 240) dX6_init_5 (by decide) ?_
  refine x_newb 240 rfl (by decide) ka_byte (by decide) (by decide) dX6_init_8 ?_
  rw [z0]
  refine x_putF (fs' := [.ref (q + 1), .int 0, .int 0, .int 0, .int 0, .int 0, .int 0]) fX6_9 rfl ((hnew_n (nzq z0 (by decide))).trans q0) (Nat.le_of_ble_eq_true rfl) rfl rfl rfl dX6_init_10 ?_
  obtain ⟨h1, e1, z1, q1, a1, k1⟩ := mkA (h := h0) (q := q) (ci := 6) (e := (.inl (2, 240, .inl fun _ => 0))) (fs := [.ref (q + 1), .int 0, .int 0, .int 0, .int 0, .int 0, .int 0]) (p := q + 1) (p' := q + 2) z0 (l0 (by decide)) rfl
  rw [← e1]
  clear e1
  refine x_vret rfl dX6_init_13 ⟨by decide, by decide⟩ ?_
  have K1 : ∀ a, a ≠ q → a < q + 2 → h1.1 a = h1.1 a := fun _ _ _ => rfl
  have K0 : ∀ a, a ≠ q → a < q + 1 → h1.1 a = h0.1 a := fun a l1 l2 => (K1 a l1 (lk l2 (by decide))).trans (k1 a l1 l2)
  exact ⟨rfl, z1, ⟨Nat.zero_le _, ⟨0, 0, 0, 0, 0, q1⟩, _, a1, fun i q => absurd q (Nat.not_lt_zero i)⟩, fun a l => K0 a (lo1 l) (lo2 l)⟩
set_option maxRecDepth 10000 in
set_option maxHeartbeats 2000000 in
theorem c_X7_init {g : gG} {h0 : gH} {q : Nat} (q0 : h0.1 q = some (.inr (7, [.null, .int 0, .int 0]))) (z0 : h0.2 = q + 1) : Ct g mX7_init [.ref q] h0 none (fun h' => h'.2 = q + 2 ∧ isR h' q (0, fun _ => 0) 0 ∧ ∀ a, a < q → h'.1 a = h0.1 a) := by
  refine Cn.of (L := [some (.ref q)]) (by decide) (Nat.le_of_ble_eq_true rfl) rfl ?_
  refine x_aload_n dX7_init_0 rfl ?_
  refine x_objI sO_X7 dX7_init_1 (by decide) (Nat.le_of_ble_eq_true rfl) ?_
  refine x_aload_n dX7_init_4 rfl ?_
  refine x_bipush (v := 30) dX7_init_5 (by decide) ?_
  refine x_newi 30 rfl (by decide) ka_int (by decide) (by decide) dX7_init_7 ?_
  rw [z0]
  refine x_putF (fs' := [.ref (q + 1), .int 0, .int 0]) fX7_9 rfl ((hnew_n (nzq z0 (by decide))).trans q0) (Nat.le_of_ble_eq_true rfl) rfl rfl rfl dX7_init_9 ?_
  obtain ⟨h1, e1, z1, q1, a1, k1⟩ := mkA (h := h0) (q := q) (ci := 7) (e := (.inl (0, 30, .inl fun _ => 0))) (fs := [.ref (q + 1), .int 0, .int 0]) (p := q + 1) (p' := q + 2) z0 (l0 (by decide)) rfl
  rw [← e1]
  clear e1
  refine x_vret rfl dX7_init_12 ⟨by decide, by decide⟩ ?_
  have K1 : ∀ a, a ≠ q → a < q + 2 → h1.1 a = h1.1 a := fun _ _ _ => rfl
  have K0 : ∀ a, a ≠ q → a < q + 1 → h1.1 a = h0.1 a := fun a l1 l2 => (K1 a l1 (lk l2 (by decide))).trans (k1 a l1 l2)
  exact ⟨rfl, z1, ⟨Nat.zero_le _, q1, _, a1, fun i q => absurd q (Nat.not_lt_zero i)⟩, fun a l => K0 a (lo1 l) (lo2 l)⟩
set_option maxRecDepth 10000 in
set_option maxHeartbeats 2000000 in
theorem c_X1_init {g : gG} {h0 : gH} {q : Nat} (q0 : h0.1 q = some (.inr (1, [.null, .null, .null, .int 0, .long 0]))) (z0 : h0.2 = q + 1) : Ct g mX1_init [.ref q] h0 none (fun h' => h'.2 = q + 4 ∧ (∃ J K X s wh, isC h' q J K X s wh) ∧ ∀ a, a < q → h'.1 a = h0.1 a) := by
  refine Cn.of (L := [some (.ref q)]) (by decide) (Nat.le_of_ble_eq_true rfl) rfl ?_
  refine x_aload_n dX1_init_0 rfl ?_
  refine x_objI sO_X1 dX1_init_1 (by decide) (Nat.le_of_ble_eq_true rfl) ?_
  refine x_aload_n dX1_init_4 rfl ?_
  refine x_sipush (v := 256) dX1_init_5 (by decide) ?_
  refine x_newl 256 rfl (by decide) ka_long (by decide) (by decide) dX1_init_8 ?_
  rw [z0]
  refine x_putF (fs' := [.ref (q + 1), .null, .null, .int 0, .long 0]) fX1_9 rfl ((hnew_n (nzq z0 (by decide))).trans q0) (Nat.le_of_ble_eq_true rfl) rfl rfl rfl dX1_init_10 ?_
  obtain ⟨h1, e1, z1, q1, a1, k1⟩ := mkA (h := h0) (q := q) (ci := 1) (e := (.inl (1, 256, .inr (.inl fun _ => 0)))) (fs := [.ref (q + 1), .null, .null, .int 0, .long 0]) (p := q + 1) (p' := q + 2) z0 (l0 (by decide)) rfl
  rw [← e1]
  clear e1
  refine x_aload_n dX1_init_13 rfl ?_
  refine x_sipush (v := 256) dX1_init_14 (by decide) ?_
  refine x_newl 256 rfl (by decide) ka_long (by decide) (by decide) dX1_init_17 ?_
  rw [z1]
  refine x_putF (fs' := [.ref (q + 1), .ref (q + 2), .null, .int 0, .long 0]) fX1_15 rfl ((hnew_n (nzq z1 (by decide))).trans q1) (Nat.le_of_ble_eq_true rfl) rfl rfl rfl dX1_init_19 ?_
  obtain ⟨h2, e2, z2, q2, a2, k2⟩ := mkA (h := h1) (q := q) (ci := 1) (e := (.inl (1, 256, .inr (.inl fun _ => 0)))) (fs := [.ref (q + 1), .ref (q + 2), .null, .int 0, .long 0]) (p := q + 2) (p' := q + 3) z1 (l0 (by decide)) rfl
  rw [← e2]
  clear e2
  refine x_aload_n dX1_init_22 rfl ?_
  refine x_sipush (v := 2048) dX1_init_23 (by decide) ?_
  refine x_newl 2048 rfl (by decide) ka_long (by decide) (by decide) dX1_init_26 ?_
  rw [z2]
  refine x_putF (fs' := [.ref (q + 1), .ref (q + 2), .ref (q + 3), .int 0, .long 0]) fX1_18 rfl ((hnew_n (nzq z2 (by decide))).trans q2) (Nat.le_of_ble_eq_true rfl) rfl rfl rfl dX1_init_28 ?_
  obtain ⟨h3, e3, z3, q3, a3, k3⟩ := mkA (h := h2) (q := q) (ci := 1) (e := (.inl (1, 2048, .inr (.inl fun _ => 0)))) (fs := [.ref (q + 1), .ref (q + 2), .ref (q + 3), .int 0, .long 0]) (p := q + 3) (p' := q + 4) z2 (l0 (by decide)) rfl
  rw [← e3]
  clear e3
  refine x_vret rfl dX1_init_31 ⟨by decide, by decide⟩ ?_
  have K3 : ∀ a, a ≠ q → a < q + 4 → h3.1 a = h3.1 a := fun _ _ _ => rfl
  have K2 : ∀ a, a ≠ q → a < q + 3 → h3.1 a = h2.1 a := fun a l1 l2 => (K3 a l1 (lk l2 (by decide))).trans (k3 a l1 l2)
  have K1 : ∀ a, a ≠ q → a < q + 2 → h3.1 a = h1.1 a := fun a l1 l2 => (K2 a l1 (lk l2 (by decide))).trans (k2 a l1 l2)
  have K0 : ∀ a, a ≠ q → a < q + 1 → h3.1 a = h0.1 a := fun a l1 l2 => (K1 a l1 (lk l2 (by decide))).trans (k1 a l1 l2)
  exact ⟨rfl, z3, ⟨_, _, _, 0, 0, q3, (K1 _ (nk (by decide)) (lk2 (by decide))).trans a1, (K2 _ (nk (by decide)) (lk2 (by decide))).trans a2, a3⟩, fun a l => K0 a (lo1 l) (lo2 l)⟩
set_option maxRecDepth 10000 in
set_option maxHeartbeats 2000000 in
theorem c_X10_init {g : gG} {h0 : gH} {q : Nat} (q0 : h0.1 q = some (.inr (10, [.null, .null, .null, .null, .null, .int 0, .int 0, .null, .null, .null, .int 0, .null, .int 0, .int 0, .int 0, .null, .null, .int 0]))) (z0 : h0.2 = q + 1) : Ct g mX10_init [.ref q] h0 none (fun h' => h'.2 = q + 12 ∧ isV h' q V0 ∧ ∀ a, a < q → h'.1 a = h0.1 a) := by
  refine Cn.of (L := [some (.ref q)]) (by decide) (Nat.le_of_ble_eq_true rfl) rfl ?_
  refine x_aload_n dX10_init_0 rfl ?_
  refine x_objI sO_X10 dX10_init_1 (by decide) (Nat.le_of_ble_eq_true rfl) ?_
  refine x_aload_n dX10_init_4 rfl ?_
  refine x_bipush (v := 8) dX10_init_5 (by decide) ?_
  refine x_newi 8 rfl (by decide) ka_int (by decide) (by decide) dX10_init_7 ?_
  rw [z0]
  refine x_putF (fs' := [.ref (q + 1), .null, .null, .null, .null, .int 0, .int 0, .null, .null, .null, .int 0, .null, .int 0, .int 0, .int 0, .null, .null, .int 0]) fX10_9 rfl ((hnew_n (nzq z0 (by decide))).trans q0) (Nat.le_of_ble_eq_true rfl) rfl rfl rfl dX10_init_9 ?_
  obtain ⟨h1, e1, z1, q1, a1, k1⟩ := mkA (h := h0) (q := q) (ci := 10) (e := (.inl (0, 8, .inl fun _ => 0))) (fs := [.ref (q + 1), .null, .null, .null, .null, .int 0, .int 0, .null, .null, .null, .int 0, .null, .int 0, .int 0, .int 0, .null, .null, .int 0]) (p := q + 1) (p' := q + 2) z0 (l0 (by decide)) rfl
  rw [← e1]
  clear e1
  refine x_aload_n dX10_init_12 rfl ?_
  refine x_bipush (v := 8) dX10_init_13 (by decide) ?_
  refine x_newi 8 rfl (by decide) ka_int (by decide) (by decide) dX10_init_15 ?_
  rw [z1]
  refine x_putF (fs' := [.ref (q + 1), .ref (q + 2), .null, .null, .null, .int 0, .int 0, .null, .null, .null, .int 0, .null, .int 0, .int 0, .int 0, .null, .null, .int 0]) fX10_15 rfl ((hnew_n (nzq z1 (by decide))).trans q1) (Nat.le_of_ble_eq_true rfl) rfl rfl rfl dX10_init_17 ?_
  obtain ⟨h2, e2, z2, q2, a2, k2⟩ := mkA (h := h1) (q := q) (ci := 10) (e := (.inl (0, 8, .inl fun _ => 0))) (fs := [.ref (q + 1), .ref (q + 2), .null, .null, .null, .int 0, .int 0, .null, .null, .null, .int 0, .null, .int 0, .int 0, .int 0, .null, .null, .int 0]) (p := q + 2) (p' := q + 3) z1 (l0 (by decide)) rfl
  rw [← e2]
  clear e2
  refine x_aload_n dX10_init_20 rfl ?_
  refine x_bipush (v := 8) dX10_init_21 (by decide) ?_
  refine x_newi 8 rfl (by decide) ka_int (by decide) (by decide) dX10_init_23 ?_
  rw [z2]
  refine x_putF (fs' := [.ref (q + 1), .ref (q + 2), .ref (q + 3), .null, .null, .int 0, .int 0, .null, .null, .null, .int 0, .null, .int 0, .int 0, .int 0, .null, .null, .int 0]) fX10_18 rfl ((hnew_n (nzq z2 (by decide))).trans q2) (Nat.le_of_ble_eq_true rfl) rfl rfl rfl dX10_init_25 ?_
  obtain ⟨h3, e3, z3, q3, a3, k3⟩ := mkA (h := h2) (q := q) (ci := 10) (e := (.inl (0, 8, .inl fun _ => 0))) (fs := [.ref (q + 1), .ref (q + 2), .ref (q + 3), .null, .null, .int 0, .int 0, .null, .null, .null, .int 0, .null, .int 0, .int 0, .int 0, .null, .null, .int 0]) (p := q + 3) (p' := q + 4) z2 (l0 (by decide)) rfl
  rw [← e3]
  clear e3
  refine x_aload_n dX10_init_28 rfl ?_
  refine x_bipush (v := 8) dX10_init_29 (by decide) ?_
  refine x_newi 8 rfl (by decide) ka_int (by decide) (by decide) dX10_init_31 ?_
  rw [z3]
  refine x_putF (fs' := [.ref (q + 1), .ref (q + 2), .ref (q + 3), .ref (q + 4), .null, .int 0, .int 0, .null, .null, .null, .int 0, .null, .int 0, .int 0, .int 0, .null, .null, .int 0]) fX10_21 rfl ((hnew_n (nzq z3 (by decide))).trans q3) (Nat.le_of_ble_eq_true rfl) rfl rfl rfl dX10_init_33 ?_
  obtain ⟨h4, e4, z4, q4, a4, k4⟩ := mkA (h := h3) (q := q) (ci := 10) (e := (.inl (0, 8, .inl fun _ => 0))) (fs := [.ref (q + 1), .ref (q + 2), .ref (q + 3), .ref (q + 4), .null, .int 0, .int 0, .null, .null, .null, .int 0, .null, .int 0, .int 0, .int 0, .null, .null, .int 0]) (p := q + 4) (p' := q + 5) z3 (l0 (by decide)) rfl
  rw [← e4]
  clear e4
  refine x_aload_n dX10_init_36 rfl ?_
  refine x_bipush (v := 8) dX10_init_37 (by decide) ?_
  refine x_newi 8 rfl (by decide) ka_int (by decide) (by decide) dX10_init_39 ?_
  rw [z4]
  refine x_putF (fs' := [.ref (q + 1), .ref (q + 2), .ref (q + 3), .ref (q + 4), .ref (q + 5), .int 0, .int 0, .null, .null, .null, .int 0, .null, .int 0, .int 0, .int 0, .null, .null, .int 0]) fX10_24 rfl ((hnew_n (nzq z4 (by decide))).trans q4) (Nat.le_of_ble_eq_true rfl) rfl rfl rfl dX10_init_41 ?_
  obtain ⟨h5, e5, z5, q5, a5, k5⟩ := mkA (h := h4) (q := q) (ci := 10) (e := (.inl (0, 8, .inl fun _ => 0))) (fs := [.ref (q + 1), .ref (q + 2), .ref (q + 3), .ref (q + 4), .ref (q + 5), .int 0, .int 0, .null, .null, .null, .int 0, .null, .int 0, .int 0, .int 0, .null, .null, .int 0]) (p := q + 5) (p' := q + 6) z4 (l0 (by decide)) rfl
  rw [← e5]
  clear e5
  refine x_aload_n dX10_init_44 rfl ?_
  refine x_iconst (v := 4) dX10_init_45 (by decide) ?_
  refine x_newi 4 rfl (by decide) ka_int (by decide) (by decide) dX10_init_46 ?_
  rw [z5]
  refine x_putF (fs' := [.ref (q + 1), .ref (q + 2), .ref (q + 3), .ref (q + 4), .ref (q + 5), .int 0, .int 0, .ref (q + 6), .null, .null, .int 0, .null, .int 0, .int 0, .int 0, .null, .null, .int 0]) fX10_27 rfl ((hnew_n (nzq z5 (by decide))).trans q5) (Nat.le_of_ble_eq_true rfl) rfl rfl rfl dX10_init_48 ?_
  obtain ⟨h6, e6, z6, q6, a6, k6⟩ := mkA (h := h5) (q := q) (ci := 10) (e := (.inl (0, 4, .inl fun _ => 0))) (fs := [.ref (q + 1), .ref (q + 2), .ref (q + 3), .ref (q + 4), .ref (q + 5), .int 0, .int 0, .ref (q + 6), .null, .null, .int 0, .null, .int 0, .int 0, .int 0, .null, .null, .int 0]) (p := q + 6) (p' := q + 7) z5 (l0 (by decide)) rfl
  rw [← e6]
  clear e6
  refine x_aload_n dX10_init_51 rfl ?_
  refine x_iconst (v := 4) dX10_init_52 (by decide) ?_
  refine x_newi 4 rfl (by decide) ka_int (by decide) (by decide) dX10_init_53 ?_
  rw [z6]
  refine x_putF (fs' := [.ref (q + 1), .ref (q + 2), .ref (q + 3), .ref (q + 4), .ref (q + 5), .int 0, .int 0, .ref (q + 6), .ref (q + 7), .null, .int 0, .null, .int 0, .int 0, .int 0, .null, .null, .int 0]) fX10_30 rfl ((hnew_n (nzq z6 (by decide))).trans q6) (Nat.le_of_ble_eq_true rfl) rfl rfl rfl dX10_init_55 ?_
  obtain ⟨h7, e7, z7, q7, a7, k7⟩ := mkA (h := h6) (q := q) (ci := 10) (e := (.inl (0, 4, .inl fun _ => 0))) (fs := [.ref (q + 1), .ref (q + 2), .ref (q + 3), .ref (q + 4), .ref (q + 5), .int 0, .int 0, .ref (q + 6), .ref (q + 7), .null, .int 0, .null, .int 0, .int 0, .int 0, .null, .null, .int 0]) (p := q + 7) (p' := q + 8) z6 (l0 (by decide)) rfl
  rw [← e7]
  clear e7
  refine x_aload_n dX10_init_58 rfl ?_
  refine x_iconst (v := 4) dX10_init_59 (by decide) ?_
  refine x_newi 4 rfl (by decide) ka_int (by decide) (by decide) dX10_init_60 ?_
  rw [z7]
  refine x_putF (fs' := [.ref (q + 1), .ref (q + 2), .ref (q + 3), .ref (q + 4), .ref (q + 5), .int 0, .int 0, .ref (q + 6), .ref (q + 7), .ref (q + 8), .int 0, .null, .int 0, .int 0, .int 0, .null, .null, .int 0]) fX10_33 rfl ((hnew_n (nzq z7 (by decide))).trans q7) (Nat.le_of_ble_eq_true rfl) rfl rfl rfl dX10_init_62 ?_
  obtain ⟨h8, e8, z8, q8, a8, k8⟩ := mkA (h := h7) (q := q) (ci := 10) (e := (.inl (0, 4, .inl fun _ => 0))) (fs := [.ref (q + 1), .ref (q + 2), .ref (q + 3), .ref (q + 4), .ref (q + 5), .int 0, .int 0, .ref (q + 6), .ref (q + 7), .ref (q + 8), .int 0, .null, .int 0, .int 0, .int 0, .null, .null, .int 0]) (p := q + 8) (p' := q + 9) z7 (l0 (by decide)) rfl
  rw [← e8]
  clear e8
  refine x_aload_n dX10_init_65 rfl ?_
  refine x_bipush (v := 8) dX10_init_66 (by decide) ?_
  refine x_newi 8 rfl (by decide) ka_int (by decide) (by decide) dX10_init_68 ?_
  rw [z8]
  refine x_putF (fs' := [.ref (q + 1), .ref (q + 2), .ref (q + 3), .ref (q + 4), .ref (q + 5), .int 0, .int 0, .ref (q + 6), .ref (q + 7), .ref (q + 8), .int 0, .ref (q + 9), .int 0, .int 0, .int 0, .null, .null, .int 0]) fX10_36 rfl ((hnew_n (nzq z8 (by decide))).trans q8) (Nat.le_of_ble_eq_true rfl) rfl rfl rfl dX10_init_70 ?_
  obtain ⟨h9, e9, z9, q9, a9, k9⟩ := mkA (h := h8) (q := q) (ci := 10) (e := (.inl (0, 8, .inl fun _ => 0))) (fs := [.ref (q + 1), .ref (q + 2), .ref (q + 3), .ref (q + 4), .ref (q + 5), .int 0, .int 0, .ref (q + 6), .ref (q + 7), .ref (q + 8), .int 0, .ref (q + 9), .int 0, .int 0, .int 0, .null, .null, .int 0]) (p := q + 9) (p' := q + 10) z8 (l0 (by decide)) rfl
  rw [← e9]
  clear e9
  refine x_aload_n dX10_init_73 rfl ?_
  refine x_iconst (v := 1) dX10_init_74 (by decide) ?_
  refine x_put (fs' := [.ref (q + 1), .ref (q + 2), .ref (q + 3), .ref (q + 4), .ref (q + 5), .int 0, .int 0, .ref (q + 6), .ref (q + 7), .ref (q + 8), .int 0, .ref (q + 9), .int 0, .int 0, .int 1, .null, .null, .int 0]) fX10_39 q9 (Nat.le_of_ble_eq_true rfl) rfl rfl rfl dX10_init_75 ?_
  obtain ⟨h10, e10, z10, q10, k10⟩ := mkP (h := h9) (q := q) (ci := 10) (fs := [.ref (q + 1), .ref (q + 2), .ref (q + 3), .ref (q + 4), .ref (q + 5), .int 0, .int 0, .ref (q + 6), .ref (q + 7), .ref (q + 8), .int 0, .ref (q + 9), .int 0, .int 0, .int 1, .null, .null, .int 0]) z9
  rw [← e10]
  clear e10
  refine x_aload_n dX10_init_78 rfl ?_
  refine x_iconst (v := 4) dX10_init_79 (by decide) ?_
  refine x_newi 4 rfl (by decide) ka_int (by decide) (by decide) dX10_init_80 ?_
  rw [z10]
  refine x_putF (fs' := [.ref (q + 1), .ref (q + 2), .ref (q + 3), .ref (q + 4), .ref (q + 5), .int 0, .int 0, .ref (q + 6), .ref (q + 7), .ref (q + 8), .int 0, .ref (q + 9), .int 0, .int 0, .int 1, .ref (q + 10), .null, .int 0]) fX10_43 rfl ((hnew_n (nzq z10 (by decide))).trans q10) (Nat.le_of_ble_eq_true rfl) rfl rfl rfl dX10_init_82 ?_
  obtain ⟨h11, e11, z11, q11, a10, k11⟩ := mkA (h := h10) (q := q) (ci := 10) (e := (.inl (0, 4, .inl fun _ => 0))) (fs := [.ref (q + 1), .ref (q + 2), .ref (q + 3), .ref (q + 4), .ref (q + 5), .int 0, .int 0, .ref (q + 6), .ref (q + 7), .ref (q + 8), .int 0, .ref (q + 9), .int 0, .int 0, .int 1, .ref (q + 10), .null, .int 0]) (p := q + 10) (p' := q + 11) z10 (l0 (by decide)) rfl
  rw [← e11]
  clear e11
  refine x_aload_n dX10_init_85 rfl ?_
  refine x_iconst (v := 4) dX10_init_86 (by decide) ?_
  refine x_newi 4 rfl (by decide) ka_int (by decide) (by decide) dX10_init_87 ?_
  rw [z11]
  refine x_putF (fs' := [.ref (q + 1), .ref (q + 2), .ref (q + 3), .ref (q + 4), .ref (q + 5), .int 0, .int 0, .ref (q + 6), .ref (q + 7), .ref (q + 8), .int 0, .ref (q + 9), .int 0, .int 0, .int 1, .ref (q + 10), .ref (q + 11), .int 0]) fX10_46 rfl ((hnew_n (nzq z11 (by decide))).trans q11) (Nat.le_of_ble_eq_true rfl) rfl rfl rfl dX10_init_89 ?_
  obtain ⟨h12, e12, z12, q12, a11, k12⟩ := mkA (h := h11) (q := q) (ci := 10) (e := (.inl (0, 4, .inl fun _ => 0))) (fs := [.ref (q + 1), .ref (q + 2), .ref (q + 3), .ref (q + 4), .ref (q + 5), .int 0, .int 0, .ref (q + 6), .ref (q + 7), .ref (q + 8), .int 0, .ref (q + 9), .int 0, .int 0, .int 1, .ref (q + 10), .ref (q + 11), .int 0]) (p := q + 11) (p' := q + 12) z11 (l0 (by decide)) rfl
  rw [← e12]
  clear e12
  refine x_aload_n dX10_init_92 rfl ?_
  refine x_get fX10_36 q12 rfl dX10_init_93 ?_
  refine x_iconst (v := 1) dX10_init_96 (by decide) ?_
  have K12 : ∀ a, a ≠ q → a < q + 12 → h12.1 a = h12.1 a := fun _ _ _ => rfl
  have K11 : ∀ a, a ≠ q → a < q + 11 → h12.1 a = h11.1 a := fun a l1 l2 => (K12 a l1 (lk l2 (by decide))).trans (k12 a l1 l2)
  have K10 : ∀ a, a ≠ q → a < q + 10 → h12.1 a = h10.1 a := fun a l1 l2 => (K11 a l1 (lk l2 (by decide))).trans (k11 a l1 l2)
  have K9 : ∀ a, a ≠ q → a < q + 10 → h12.1 a = h9.1 a := fun a l1 l2 => (K10 a l1 (lk l2 (by decide))).trans (k10 a l1 l2)
  have K8 : ∀ a, a ≠ q → a < q + 9 → h12.1 a = h8.1 a := fun a l1 l2 => (K9 a l1 (lk l2 (by decide))).trans (k9 a l1 l2)
  have K7 : ∀ a, a ≠ q → a < q + 8 → h12.1 a = h7.1 a := fun a l1 l2 => (K8 a l1 (lk l2 (by decide))).trans (k8 a l1 l2)
  have K6 : ∀ a, a ≠ q → a < q + 7 → h12.1 a = h6.1 a := fun a l1 l2 => (K7 a l1 (lk l2 (by decide))).trans (k7 a l1 l2)
  have K5 : ∀ a, a ≠ q → a < q + 6 → h12.1 a = h5.1 a := fun a l1 l2 => (K6 a l1 (lk l2 (by decide))).trans (k6 a l1 l2)
  have K4 : ∀ a, a ≠ q → a < q + 5 → h12.1 a = h4.1 a := fun a l1 l2 => (K5 a l1 (lk l2 (by decide))).trans (k5 a l1 l2)
  have K3 : ∀ a, a ≠ q → a < q + 4 → h12.1 a = h3.1 a := fun a l1 l2 => (K4 a l1 (lk l2 (by decide))).trans (k4 a l1 l2)
  have K2 : ∀ a, a ≠ q → a < q + 3 → h12.1 a = h2.1 a := fun a l1 l2 => (K3 a l1 (lk l2 (by decide))).trans (k3 a l1 l2)
  have K1 : ∀ a, a ≠ q → a < q + 2 → h12.1 a = h1.1 a := fun a l1 l2 => (K2 a l1 (lk l2 (by decide))).trans (k2 a l1 l2)
  have K0 : ∀ a, a ≠ q → a < q + 1 → h12.1 a = h0.1 a := fun a l1 l2 => (K1 a l1 (lk l2 (by decide))).trans (k1 a l1 l2)
  have w9 : h12.1 (q + 9) = some (.inl (0, 8, .inl fun _ => 0)) := (K9 _ (nk (by decide)) (lk2 (by decide))).trans a9
  refine x_cnS (c_J7_fill_53178 w9 (by decide)) lkJ7_fill_53178 sX10_49 dX10_init_97 rfl rfl (Nat.le_of_ble_eq_true rfl) (by decide) ⟨rfl, rfl, by decide, by decide⟩ ?_
  rintro h' rfl
  refine x_vret rfl dX10_init_100 ⟨by decide, by decide⟩ ?_
  refine ⟨rfl, z12, ⟨V0_ok, fun i => if i = 8 then fa_fill (fun _ => 1) (fun _ => 0) 8 else fun _ => 0, ⟨(hset_n (nk3 (by decide))).trans q12, fun i hi => ?_⟩, fun f p _ hp => absurd hp (Nat.not_lt_zero p), fun u hu => absurd hu (Nat.not_lt_zero u), ?_, fun r hr => absurd hr (Nat.not_lt_zero r)⟩, fun a l => (hset_n (lo3 l)).trans (K0 a (lo1 l) (lo2 l))⟩
  · by_cases e : i = 8
    · subst e; exact hset_s
    · refine (hset_n (by rw [Nat.add_assoc]; exact nk2 (fun z => e (Nat.add_left_cancel (n := 1) z)))).trans ?_
      rcases (show i = 0 ∨ i = 1 ∨ i = 2 ∨ i = 3 ∨ i = 4 ∨ i = 5 ∨ i = 6 ∨ i = 7 ∨ i = 9 ∨ i = 10 by omega) with rfl | rfl | rfl | rfl | rfl | rfl | rfl | rfl | rfl | rfl
      · exact (K1 _ (nk (by decide)) (lk2 (by decide))).trans a1
      · exact (K2 _ (nk (by decide)) (lk2 (by decide))).trans a2
      · exact (K3 _ (nk (by decide)) (lk2 (by decide))).trans a3
      · exact (K4 _ (nk (by decide)) (lk2 (by decide))).trans a4
      · exact (K5 _ (nk (by decide)) (lk2 (by decide))).trans a5
      · exact (K6 _ (nk (by decide)) (lk2 (by decide))).trans a6
      · exact (K7 _ (nk (by decide)) (lk2 (by decide))).trans a7
      · exact (K8 _ (nk (by decide)) (lk2 (by decide))).trans a8
      · exact (K11 _ (nk (by decide)) (lk2 (by decide))).trans a10
      · exact (K12 _ (nk (by decide)) (lk2 (by decide))).trans a11
  · have key : ∀ c, c < 8 → fa_fill (fun _ => (1 : Int32)) (fun _ => 0) 8 c = nI (if (7 : Nat) = 7 then 1 else 0) := by decide
    exact key
theorem gd10 : gdef 10 [.null, .null, .null, .null, .null, .int 0, .int 0, .null, .null, .null, .int 0, .null, .int 0, .int 0, .int 0, .null, .null, .int 0] := gd_of (ty := tyX10) rfl tyX10_ok (by decide)
theorem gd6 : gdef 6 [.null, .int 0, .int 0, .int 0, .int 0, .int 0, .int 0] := gd_of (ty := tyX6) rfl tyX6_ok (by decide)
theorem gd7 : gdef 7 [.null, .int 0, .int 0] := gd_of (ty := tyX7) rfl tyX7_ok (by decide)
theorem gd1 : gdef 1 [.null, .null, .null, .int 0, .long 0] := gd_of (ty := tyX1) rfl tyX1_ok (by decide)
theorem gd11 : gdef 11 [.null, .null, .null, .int 0, .null, .null, .null, .null, .int 0, .null, .null, .null, .null] := gd_of (ty := tyX11) rfl tyX11_ok (by decide)
theorem mkS {h h1 : gH} {q p p2 ci : Nat} {e : va_E} {fs : List Value} (hz : h.2 = p) (hq : q < p) (z1 : h1.2 = p2) (hp : p ≤ p2) (k1 : ∀ a, a < p → h1.1 a = (hnew h e).1 a) : ∃ h', h' = hset h1 q (.inr (ci, fs)) ∧ h'.2 = p2 ∧ h'.1 q = some (.inr (ci, fs)) ∧ (∀ a, a ≠ q → h'.1 a = h1.1 a) ∧ ∀ a, a ≠ q → a < p → h'.1 a = h.1 a := by
  subst hz
  exact ⟨_, rfl, z1, hset_s, fun a l => hset_n l, fun a l1 l2 => (hset_n l1).trans ((k1 a l2).trans (hnew_n (by omega)))⟩
def S0 : AS := (V0, (0, V0), (0, fun _ => 0), (0, fun _ => 0, fun _ => 0), fun _ => (0, 0, fun _ => 0), fun _ => (0, 0, 0), (0, fun _ => 0))
set_option maxRecDepth 10000 in
set_option maxHeartbeats 2000000 in
theorem c_X11_init {g : gG} {h0 : gH} {q : Nat} (q0 : h0.1 q = some (.inr (11, [.null, .null, .null, .int 0, .null, .null, .null, .null, .int 0, .null, .null, .null, .null]))) (z0 : h0.2 = q + 1) : Ct g mX11_init [.ref q] h0 none (fun h' => h'.2 = q + 50 ∧ isX h' q (fun _ => False) S0 ∧ ∀ a, a < q → h'.1 a = h0.1 a) := by
  refine Cn.of (L := [some (.ref q)]) (by decide) (Nat.le_of_ble_eq_true rfl) rfl ?_
  refine x_aload_n dX11_init_0 rfl ?_
  refine x_objI sO_X11 dX11_init_1 (by decide) (Nat.le_of_ble_eq_true rfl) ?_
  refine x_aload_n dX11_init_4 rfl ?_
  refine x_new nX11_9 gd10 (by decide) (by decide) dX11_init_5 ?_
  rw [show (.ref h0.2 : Value) = .ref (q + 1) by rw [z0]]
  refine x_dup dX11_init_8 rfl ?_
  refine x_cnI (k' := 12) (n' := 86) rfl (c_X10_init (h0 := hnew h0 (.inr (10, [.null, .null, .null, .null, .null, .int 0, .int 0, .null, .null, .null, .int 0, .null, .int 0, .int 0, .int 0, .null, .null, .int 0]))) (q := q + 1) (by rw [← z0]; exact hnew_s) (show h0.2 + 1 = _ by rw [z0])) lkX10_init sX11_11 dX11_init_9 rfl rfl (Nat.le_of_ble_eq_true rfl) (by decide) ⟨rfl, rfl, by decide, by decide⟩ ?_
  rintro g0 ⟨y0, m0, b0⟩
  refine x_putF (fs' := [.ref (q + 1), .null, .null, .int 0, .null, .null, .null, .null, .int 0, .null, .null, .null, .null]) fX11_12 rfl ((b0 q (l0 (by decide))).trans ((hnew_n (nzq z0 (by decide))).trans q0)) (Nat.le_of_ble_eq_true rfl) rfl rfl rfl dX11_init_12 ?_
  obtain ⟨h1, e1, z1, q1, r1, k1⟩ := mkS (h := h0) (h1 := g0) (q := q) (p := q + 1) (p2 := q + 13) (ci := 11) (fs := [.ref (q + 1), .null, .null, .int 0, .null, .null, .null, .null, .int 0, .null, .null, .null, .null]) z0 (l0 (by decide)) y0 (lk3 (by decide)) b0
  rw [← e1]
  clear e1
  refine x_aload_n dX11_init_15 rfl ?_
  refine x_new nX11_9 gd10 (by decide) (by decide) dX11_init_16 ?_
  rw [show (.ref h1.2 : Value) = .ref (q + 13) by rw [z1]]
  refine x_dup dX11_init_19 rfl ?_
  refine x_cnI (k' := 24) (n' := 172) rfl (c_X10_init (h0 := hnew h1 (.inr (10, [.null, .null, .null, .null, .null, .int 0, .int 0, .null, .null, .null, .int 0, .null, .int 0, .int 0, .int 0, .null, .null, .int 0]))) (q := q + 13) (by rw [← z1]; exact hnew_s) (show h1.2 + 1 = _ by rw [z1])) lkX10_init sX11_11 dX11_init_20 rfl rfl (Nat.le_of_ble_eq_true rfl) (by decide) ⟨rfl, rfl, by decide, by decide⟩ ?_
  rintro g1 ⟨y1, m1, b1⟩
  refine x_putF (fs' := [.ref (q + 1), .ref (q + 13), .null, .int 0, .null, .null, .null, .null, .int 0, .null, .null, .null, .null]) fX11_16 rfl ((b1 q (l0 (by decide))).trans ((hnew_n (nzq z1 (by decide))).trans q1)) (Nat.le_of_ble_eq_true rfl) rfl rfl rfl dX11_init_23 ?_
  obtain ⟨h2, e2, z2, q2, r2, k2⟩ := mkS (h := h1) (h1 := g1) (q := q) (p := q + 13) (p2 := q + 25) (ci := 11) (fs := [.ref (q + 1), .ref (q + 13), .null, .int 0, .null, .null, .null, .null, .int 0, .null, .null, .null, .null]) z1 (l0 (by decide)) y1 (lk3 (by decide)) b1
  rw [← e2]
  clear e2
  refine x_aload_n dX11_init_26 rfl ?_
  refine x_new nX11_9 gd10 (by decide) (by decide) dX11_init_27 ?_
  rw [show (.ref h2.2 : Value) = .ref (q + 25) by rw [z2]]
  refine x_dup dX11_init_30 rfl ?_
  refine x_cnI (k' := 36) (n' := 258) rfl (c_X10_init (h0 := hnew h2 (.inr (10, [.null, .null, .null, .null, .null, .int 0, .int 0, .null, .null, .null, .int 0, .null, .int 0, .int 0, .int 0, .null, .null, .int 0]))) (q := q + 25) (by rw [← z2]; exact hnew_s) (show h2.2 + 1 = _ by rw [z2])) lkX10_init sX11_11 dX11_init_31 rfl rfl (Nat.le_of_ble_eq_true rfl) (by decide) ⟨rfl, rfl, by decide, by decide⟩ ?_
  rintro g2 ⟨y2, m2, b2⟩
  refine x_putF (fs' := [.ref (q + 1), .ref (q + 13), .ref (q + 25), .int 0, .null, .null, .null, .null, .int 0, .null, .null, .null, .null]) fX11_19 rfl ((b2 q (l0 (by decide))).trans ((hnew_n (nzq z2 (by decide))).trans q2)) (Nat.le_of_ble_eq_true rfl) rfl rfl rfl dX11_init_34 ?_
  obtain ⟨h3, e3, z3, q3, r3, k3⟩ := mkS (h := h2) (h1 := g2) (q := q) (p := q + 25) (p2 := q + 37) (ci := 11) (fs := [.ref (q + 1), .ref (q + 13), .ref (q + 25), .int 0, .null, .null, .null, .null, .int 0, .null, .null, .null, .null]) z2 (l0 (by decide)) y2 (lk3 (by decide)) b2
  rw [← e3]
  clear e3
  refine x_aload_n dX11_init_37 rfl ?_
  refine x_new nX11_22 gd6 (by decide) (by decide) dX11_init_38 ?_
  rw [show (.ref h3.2 : Value) = .ref (q + 37) by rw [z3]]
  refine x_dup dX11_init_41 rfl ?_
  refine x_cnIN (k' := 38) (n' := 505) rfl (c_X6_init (h0 := hnew h3 (.inr (6, [.null, .int 0, .int 0, .int 0, .int 0, .int 0, .int 0]))) (q := q + 37) (by rw [← z3]; exact hnew_s) (show h3.2 + 1 = _ by rw [z3])) lkX6_init sNX11_24 dX11_init_42 rfl rfl (Nat.le_of_ble_eq_true rfl) (by decide) ⟨rfl, rfl, by decide, by decide⟩ ?_
  rintro g3 ⟨y3, m3, b3⟩
  refine x_putF (fs' := [.ref (q + 1), .ref (q + 13), .ref (q + 25), .int 0, .ref (q + 37), .null, .null, .null, .int 0, .null, .null, .null, .null]) fX11_25 rfl ((b3 q (l0 (by decide))).trans ((hnew_n (nzq z3 (by decide))).trans q3)) (Nat.le_of_ble_eq_true rfl) rfl rfl rfl dX11_init_45 ?_
  obtain ⟨h4, e4, z4, q4, r4, k4⟩ := mkS (h := h3) (h1 := g3) (q := q) (p := q + 37) (p2 := q + 39) (ci := 11) (fs := [.ref (q + 1), .ref (q + 13), .ref (q + 25), .int 0, .ref (q + 37), .null, .null, .null, .int 0, .null, .null, .null, .null]) z3 (l0 (by decide)) y3 (lk3 (by decide)) b3
  rw [← e4]
  clear e4
  refine x_aload_n dX11_init_48 rfl ?_
  refine x_new nX11_29 gd1 (by decide) (by decide) dX11_init_49 ?_
  rw [show (.ref h4.2 : Value) = .ref (q + 39) by rw [z4]]
  refine x_dup dX11_init_52 rfl ?_
  refine x_cnIN (k' := 42) (n' := 3070) rfl (c_X1_init (h0 := hnew h4 (.inr (1, [.null, .null, .null, .int 0, .long 0]))) (q := q + 39) (by rw [← z4]; exact hnew_s) (show h4.2 + 1 = _ by rw [z4])) lkX1_init sNX11_31 dX11_init_53 rfl rfl (Nat.le_of_ble_eq_true rfl) (by decide) ⟨rfl, rfl, by decide, by decide⟩ ?_
  rintro g4 ⟨y4, m4, b4⟩
  refine x_putF (fs' := [.ref (q + 1), .ref (q + 13), .ref (q + 25), .int 0, .ref (q + 37), .ref (q + 39), .null, .null, .int 0, .null, .null, .null, .null]) fX11_32 rfl ((b4 q (l0 (by decide))).trans ((hnew_n (nzq z4 (by decide))).trans q4)) (Nat.le_of_ble_eq_true rfl) rfl rfl rfl dX11_init_56 ?_
  obtain ⟨h5, e5, z5, q5, r5, k5⟩ := mkS (h := h4) (h1 := g4) (q := q) (p := q + 39) (p2 := q + 43) (ci := 11) (fs := [.ref (q + 1), .ref (q + 13), .ref (q + 25), .int 0, .ref (q + 37), .ref (q + 39), .null, .null, .int 0, .null, .null, .null, .null]) z4 (l0 (by decide)) y4 (lk3 (by decide)) b4
  rw [← e5]
  clear e5
  refine x_aload_n dX11_init_59 rfl ?_
  refine x_bipush (v := 12) dX11_init_60 (by decide) ?_
  refine x_newi 12 rfl (by decide) ka_int (by decide) (by decide) dX11_init_62 ?_
  rw [z5]
  refine x_putF (fs' := [.ref (q + 1), .ref (q + 13), .ref (q + 25), .int 0, .ref (q + 37), .ref (q + 39), .ref (q + 43), .null, .int 0, .null, .null, .null, .null]) fX11_36 rfl ((hnew_n (nzq z5 (by decide))).trans q5) (Nat.le_of_ble_eq_true rfl) rfl rfl rfl dX11_init_64 ?_
  obtain ⟨h6, e6, z6, q6, a43, k6⟩ := mkA (h := h5) (q := q) (ci := 11) (e := (.inl (0, 12, .inl fun _ => 0))) (fs := [.ref (q + 1), .ref (q + 13), .ref (q + 25), .int 0, .ref (q + 37), .ref (q + 39), .ref (q + 43), .null, .int 0, .null, .null, .null, .null]) (p := q + 43) (p' := q + 44) z5 (l0 (by decide)) rfl
  rw [← e6]
  clear e6
  refine x_aload_n dX11_init_67 rfl ?_
  refine x_bipush (v := 12) dX11_init_68 (by decide) ?_
  refine x_newi 12 rfl (by decide) ka_int (by decide) (by decide) dX11_init_70 ?_
  rw [z6]
  refine x_putF (fs' := [.ref (q + 1), .ref (q + 13), .ref (q + 25), .int 0, .ref (q + 37), .ref (q + 39), .ref (q + 43), .ref (q + 44), .int 0, .null, .null, .null, .null]) fX11_40 rfl ((hnew_n (nzq z6 (by decide))).trans q6) (Nat.le_of_ble_eq_true rfl) rfl rfl rfl dX11_init_72 ?_
  obtain ⟨h7, e7, z7, q7, a44, k7⟩ := mkA (h := h6) (q := q) (ci := 11) (e := (.inl (0, 12, .inl fun _ => 0))) (fs := [.ref (q + 1), .ref (q + 13), .ref (q + 25), .int 0, .ref (q + 37), .ref (q + 39), .ref (q + 43), .ref (q + 44), .int 0, .null, .null, .null, .null]) (p := q + 44) (p' := q + 45) z6 (l0 (by decide)) rfl
  rw [← e7]
  clear e7
  refine x_aload_n dX11_init_75 rfl ?_
  refine x_iconst (v := 4) dX11_init_76 (by decide) ?_
  refine x_newq 4 rfl (by decide) (gT_in 255 (by decide +kernel) rfl) (by decide) (by decide) dX11_init_77 ?_
  rw [z7]
  refine x_putF (fs' := [.ref (q + 1), .ref (q + 13), .ref (q + 25), .int 0, .ref (q + 37), .ref (q + 39), .ref (q + 43), .ref (q + 44), .int 0, .ref (q + 45), .null, .null, .null]) fX11_45 rfl ((hnew_n (nzq z7 (by decide))).trans q7) (Nat.le_of_ble_eq_true rfl) rfl rfl rfl dX11_init_80 ?_
  obtain ⟨h8, e8, z8, q8, a45, k8⟩ := mkA (h := h7) (q := q) (ci := 11) (e := (.inl (3, 4, .inr (.inr (.inr (.inr fun _ => none)))))) (fs := [.ref (q + 1), .ref (q + 13), .ref (q + 25), .int 0, .ref (q + 37), .ref (q + 39), .ref (q + 43), .ref (q + 44), .int 0, .ref (q + 45), .null, .null, .null]) (p := q + 45) (p' := q + 46) z7 (l0 (by decide)) rfl
  rw [← e8]
  clear e8
  refine x_aload_n dX11_init_83 rfl ?_
  refine x_iconst (v := 4) dX11_init_84 (by decide) ?_
  refine x_newi 4 rfl (by decide) ka_int (by decide) (by decide) dX11_init_85 ?_
  rw [z8]
  refine x_putF (fs' := [.ref (q + 1), .ref (q + 13), .ref (q + 25), .int 0, .ref (q + 37), .ref (q + 39), .ref (q + 43), .ref (q + 44), .int 0, .ref (q + 45), .ref (q + 46), .null, .null]) fX11_49 rfl ((hnew_n (nzq z8 (by decide))).trans q8) (Nat.le_of_ble_eq_true rfl) rfl rfl rfl dX11_init_87 ?_
  obtain ⟨h9, e9, z9, q9, a46, k9⟩ := mkA (h := h8) (q := q) (ci := 11) (e := (.inl (0, 4, .inl fun _ => 0))) (fs := [.ref (q + 1), .ref (q + 13), .ref (q + 25), .int 0, .ref (q + 37), .ref (q + 39), .ref (q + 43), .ref (q + 44), .int 0, .ref (q + 45), .ref (q + 46), .null, .null]) (p := q + 46) (p' := q + 47) z8 (l0 (by decide)) rfl
  rw [← e9]
  clear e9
  refine x_aload_n dX11_init_90 rfl ?_
  refine x_iconst (v := 4) dX11_init_91 (by decide) ?_
  refine x_newq 4 rfl (by decide) (gT_in 255 (by decide +kernel) rfl) (by decide) (by decide) dX11_init_92 ?_
  rw [z9]
  refine x_putF (fs' := [.ref (q + 1), .ref (q + 13), .ref (q + 25), .int 0, .ref (q + 37), .ref (q + 39), .ref (q + 43), .ref (q + 44), .int 0, .ref (q + 45), .ref (q + 46), .ref (q + 47), .null]) fX11_52 rfl ((hnew_n (nzq z9 (by decide))).trans q9) (Nat.le_of_ble_eq_true rfl) rfl rfl rfl dX11_init_95 ?_
  obtain ⟨h10, e10, z10, q10, a47, k10⟩ := mkA (h := h9) (q := q) (ci := 11) (e := (.inl (3, 4, .inr (.inr (.inr (.inr fun _ => none)))))) (fs := [.ref (q + 1), .ref (q + 13), .ref (q + 25), .int 0, .ref (q + 37), .ref (q + 39), .ref (q + 43), .ref (q + 44), .int 0, .ref (q + 45), .ref (q + 46), .ref (q + 47), .null]) (p := q + 47) (p' := q + 48) z9 (l0 (by decide)) rfl
  rw [← e10]
  clear e10
  refine x_aload_n dX11_init_98 rfl ?_
  refine x_new nX11_55 gd7 (by decide) (by decide) dX11_init_99 ?_
  rw [show (.ref h10.2 : Value) = .ref (q + 48) by rw [z10]]
  refine x_dup dX11_init_102 rfl ?_
  refine x_cnIN (k' := 49) (n' := 3139) rfl (c_X7_init (h0 := hnew h10 (.inr (7, [.null, .int 0, .int 0]))) (q := q + 48) (by rw [← z10]; exact hnew_s) (show h10.2 + 1 = _ by rw [z10])) lkX7_init sNX11_57 dX11_init_103 rfl rfl (Nat.le_of_ble_eq_true rfl) (by decide) ⟨rfl, rfl, by decide, by decide⟩ ?_
  rintro g10 ⟨y10, m10, b10⟩
  refine x_putF (fs' := [.ref (q + 1), .ref (q + 13), .ref (q + 25), .int 0, .ref (q + 37), .ref (q + 39), .ref (q + 43), .ref (q + 44), .int 0, .ref (q + 45), .ref (q + 46), .ref (q + 47), .ref (q + 48)]) fX11_58 rfl ((b10 q (l0 (by decide))).trans ((hnew_n (nzq z10 (by decide))).trans q10)) (Nat.le_of_ble_eq_true rfl) rfl rfl rfl dX11_init_106 ?_
  obtain ⟨h11, e11, z11, q11, r11, k11⟩ := mkS (h := h10) (h1 := g10) (q := q) (p := q + 48) (p2 := q + 50) (ci := 11) (fs := [.ref (q + 1), .ref (q + 13), .ref (q + 25), .int 0, .ref (q + 37), .ref (q + 39), .ref (q + 43), .ref (q + 44), .int 0, .ref (q + 45), .ref (q + 46), .ref (q + 47), .ref (q + 48)]) z10 (l0 (by decide)) y10 (lk3 (by decide)) b10
  rw [← e11]
  clear e11
  refine x_aload_n dX11_init_109 rfl ?_
  refine x_get fX11_49 q11 rfl dX11_init_110 ?_
  refine x_bipush (v := -9) dX11_init_113 (by decide) ?_
  have K11 : ∀ a, a ≠ q → a < q + 50 → h11.1 a = h11.1 a := fun _ _ _ => rfl
  have K10 : ∀ a, a ≠ q → a < q + 48 → h11.1 a = h10.1 a := fun a l1 l2 => (K11 a l1 (lk l2 (by decide))).trans (k11 a l1 l2)
  have K9 : ∀ a, a ≠ q → a < q + 47 → h11.1 a = h9.1 a := fun a l1 l2 => (K10 a l1 (lk l2 (by decide))).trans (k10 a l1 l2)
  have K8 : ∀ a, a ≠ q → a < q + 46 → h11.1 a = h8.1 a := fun a l1 l2 => (K9 a l1 (lk l2 (by decide))).trans (k9 a l1 l2)
  have K7 : ∀ a, a ≠ q → a < q + 45 → h11.1 a = h7.1 a := fun a l1 l2 => (K8 a l1 (lk l2 (by decide))).trans (k8 a l1 l2)
  have K6 : ∀ a, a ≠ q → a < q + 44 → h11.1 a = h6.1 a := fun a l1 l2 => (K7 a l1 (lk l2 (by decide))).trans (k7 a l1 l2)
  have K5 : ∀ a, a ≠ q → a < q + 43 → h11.1 a = h5.1 a := fun a l1 l2 => (K6 a l1 (lk l2 (by decide))).trans (k6 a l1 l2)
  have K4 : ∀ a, a ≠ q → a < q + 39 → h11.1 a = h4.1 a := fun a l1 l2 => (K5 a l1 (lk l2 (by decide))).trans (k5 a l1 l2)
  have K3 : ∀ a, a ≠ q → a < q + 37 → h11.1 a = h3.1 a := fun a l1 l2 => (K4 a l1 (lk l2 (by decide))).trans (k4 a l1 l2)
  have K2 : ∀ a, a ≠ q → a < q + 25 → h11.1 a = h2.1 a := fun a l1 l2 => (K3 a l1 (lk l2 (by decide))).trans (k3 a l1 l2)
  have K1 : ∀ a, a ≠ q → a < q + 13 → h11.1 a = h1.1 a := fun a l1 l2 => (K2 a l1 (lk l2 (by decide))).trans (k2 a l1 l2)
  have K0 : ∀ a, a ≠ q → a < q + 1 → h11.1 a = h0.1 a := fun a l1 l2 => (K1 a l1 (lk l2 (by decide))).trans (k1 a l1 l2)
  have w46 : h11.1 (q + 46) = some (.inl (0, 4, .inl fun _ => 0)) := ((K9 _ (nk (by decide)) (lk2 (by decide))).trans a46)
  refine x_cnS (c_J7_fill_53178 w46 (by decide)) lkJ7_fill_53178 sX11_62 dX11_init_115 rfl rfl (Nat.le_of_ble_eq_true rfl) (by decide) ⟨rfl, rfl, by decide, by decide⟩ ?_
  rintro h' eh
  have T : ∀ a, a ≠ q + 46 → h'.1 a = h11.1 a := fun a l => by rw [eh]; exact hset_n l
  have s46 : h'.1 (q + 46) = some (.inl (0, 4, .inl (fa_fill (fun _ => -9) (fun _ => 0) 4))) := by rw [eh]; exact hset_s
  have z' : h'.2 = q + 50 := by rw [eh]; exact z11
  refine x_vret rfl dX11_init_118 ⟨by decide, by decide⟩ ?_
  have g0_ : agr (q + 1) 12 g0 h' := fun a l1 l2 => (T a (ar3 l1 l2 (by decide))).trans ((K1 a (ar1 l1 (by decide)) (ar2 l2 (by decide))).trans (r1 a (ar1 l1 (by decide))))
  have g1_ : agr (q + 13) 12 g1 h' := fun a l1 l2 => (T a (ar3 l1 l2 (by decide))).trans ((K2 a (ar1 l1 (by decide)) (ar2 l2 (by decide))).trans (r2 a (ar1 l1 (by decide))))
  have g2_ : agr (q + 25) 12 g2 h' := fun a l1 l2 => (T a (ar3 l1 l2 (by decide))).trans ((K3 a (ar1 l1 (by decide)) (ar2 l2 (by decide))).trans (r3 a (ar1 l1 (by decide))))
  have g3_ : agr (q + 37) 2 g3 h' := fun a l1 l2 => (T a (ar3 l1 l2 (by decide))).trans ((K4 a (ar1 l1 (by decide)) (ar2 l2 (by decide))).trans (r4 a (ar1 l1 (by decide))))
  have g4_ : agr (q + 39) 4 g4 h' := fun a l1 l2 => (T a (ar3 l1 l2 (by decide))).trans ((K5 a (ar1 l1 (by decide)) (ar2 l2 (by decide))).trans (r5 a (ar1 l1 (by decide))))
  have g10_ : agr (q + 48) 2 g10 h' := fun a l1 l2 => (T a (ar3 l1 l2 (by decide))).trans ((K11 a (ar1 l1 (by decide)) (ar2 l2 (by decide))).trans (r11 a (ar1 l1 (by decide))))
  refine ⟨rfl, z', ⟨⟨Nat.le_of_eq z'.symm, fun a z => z.elim⟩, (T q (nk3 (by decide))).trans q11, m0.ag g0_, ⟨Nat.zero_le _, V0, m1.ag g1_, fun z => absurd z (by decide)⟩, ⟨V0, m2.ag g2_⟩, m3.ag g3_, xC.ag (h := g4) (x := q) m4 g4_, ⟨Nat.zero_le _, _, _, (T _ (nk2 (by decide))).trans ((K6 _ (nk (by decide)) (lk2 (by decide))).trans a43), (T _ (nk2 (by decide))).trans ((K7 _ (nk (by decide)) (lk2 (by decide))).trans a44), fun i z => absurd z (Nat.not_lt_zero i)⟩, ⟨⟨_, (T _ (nk2 (by decide))).trans ((K8 _ (nk (by decide)) (lk2 (by decide))).trans a45), fun i hi => .inl ⟨rfl, rfl⟩, fun i j q h1 h2 h3 => by cases h3⟩, ⟨_, _, s46, (T _ (nk2 (by decide))).trans ((K10 _ (nk (by decide)) (lk2 (by decide))).trans a47), fun i hi => .inl ⟨rfl, ?_, rfl⟩⟩⟩, 0, m10.ag g10_⟩, fun a l => (T a (lo3 l)).trans (K0 a (lo1 l) (lo2 l))⟩
  have key : ∀ i, i < 4 → fa_fill (fun _ => (-9 : Int32)) (fun _ => 0) 4 i = -9 := by decide
  exact key i hi
