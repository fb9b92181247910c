set_option maxRecDepth 10000 in
set_option maxHeartbeats 2000000 in
theorem c_X3_init_3 {g : gG} {h : gH} {r q : Nat} {n a : Int32} (hth : h.1 q = some (.inr (3, [.int 0, .int 0, .null]))) : Ct g mX3_init [.ref q, .int n, .int a, .ref r] h none (fun h' => h'.1 q = some (.inr (3, thF n a r)) ∧ Fr q 1 h h') := by
  refine Cn.of (L := [some (.ref q), some (.int n), some (.int a), some (.ref r)]) (by decide) (Nat.le_of_ble_eq_true rfl) rfl ?_
  refine x_aload_n dX3_init_0 rfl ?_
  refine x_objI sO_X3 dX3_init_1 (by decide) (Nat.le_of_ble_eq_true rfl) ?_
  refine x_aload_n dX3_init_4 rfl ?_
  refine x_iload_n dX3_init_5 rfl ?_
  refine x_putF (fs' := [.int n, .int 0, .null]) fX3_7_3 rfl hth (Nat.le_of_ble_eq_true rfl) rfl rfl rfl dX3_init_6 ?_
  refine x_aload_n dX3_init_9 rfl ?_
  refine x_iload_n dX3_init_10 rfl ?_
  refine x_putF (fs' := [.int n, .int a, .null]) fX3_13_3 rfl hset_s (Nat.le_of_ble_eq_true rfl) rfl rfl rfl dX3_init_11 ?_
  refine x_aload_n dX3_init_14 rfl ?_
  refine x_aload_n dX3_init_15 rfl ?_
  refine x_putF (fs' := thF n a r) fX3_16_3 rfl hset_s (Nat.le_of_ble_eq_true rfl) rfl rfl rfl dX3_init_16 ?_
  refine x_vret rfl dX3_init_19 ⟨by decide, by decide⟩ ?_
  exact ⟨rfl, hset_s, ((Fr.set (by omega) (by omega)).tr (Fr.set (by omega) (by omega))).tr (Fr.set (by omega) (by omega))⟩
set_option maxRecDepth 10000 in
set_option maxHeartbeats 2000000 in
theorem c_X3_init_8 {g : gG} {h : gH} {r q : Nat} {n a : Int32} (hth : h.1 q = some (.inr (8, [.int 0, .int 0, .null]))) : Ct g mX3_init [.ref q, .int n, .int a, .ref r] h none (fun h' => h'.1 q = some (.inr (8, thF n a r)) ∧ Fr q 1 h h') := by
  refine Cn.of (L := [some (.ref q), some (.int n), some (.int a), some (.ref r)]) (by decide) (Nat.le_of_ble_eq_true rfl) rfl ?_
  refine x_aload_n dX3_init_0 rfl ?_
  refine x_objI sO_X3 dX3_init_1 (by decide) (Nat.le_of_ble_eq_true rfl) ?_
  refine x_aload_n dX3_init_4 rfl ?_
  refine x_iload_n dX3_init_5 rfl ?_
  refine x_putF (fs' := [.int n, .int 0, .null]) fX3_7_8 rfl hth (Nat.le_of_ble_eq_true rfl) rfl rfl rfl dX3_init_6 ?_
  refine x_aload_n dX3_init_9 rfl ?_
  refine x_iload_n dX3_init_10 rfl ?_
  refine x_putF (fs' := [.int n, .int a, .null]) fX3_13_8 rfl hset_s (Nat.le_of_ble_eq_true rfl) rfl rfl rfl dX3_init_11 ?_
  refine x_aload_n dX3_init_14 rfl ?_
  refine x_aload_n dX3_init_15 rfl ?_
  refine x_putF (fs' := thF n a r) fX3_16_8 rfl hset_s (Nat.le_of_ble_eq_true rfl) rfl rfl rfl dX3_init_16 ?_
  refine x_vret rfl dX3_init_19 ⟨by decide, by decide⟩ ?_
  exact ⟨rfl, hset_s, ((Fr.set (by omega) (by omega)).tr (Fr.set (by omega) (by omega))).tr (Fr.set (by omega) (by omega))⟩
set_option maxRecDepth 10000 in
set_option maxHeartbeats 2000000 in
theorem c_X3_init_9 {g : gG} {h : gH} {r q : Nat} {n a : Int32} (hth : h.1 q = some (.inr (9, [.int 0, .int 0, .null]))) : Ct g mX3_init [.ref q, .int n, .int a, .ref r] h none (fun h' => h'.1 q = some (.inr (9, thF n a r)) ∧ Fr q 1 h h') := by
  refine Cn.of (L := [some (.ref q), some (.int n), some (.int a), some (.ref r)]) (by decide) (Nat.le_of_ble_eq_true rfl) rfl ?_
  refine x_aload_n dX3_init_0 rfl ?_
  refine x_objI sO_X3 dX3_init_1 (by decide) (Nat.le_of_ble_eq_true rfl) ?_
  refine x_aload_n dX3_init_4 rfl ?_
  refine x_iload_n dX3_init_5 rfl ?_
  refine x_putF (fs' := [.int n, .int 0, .null]) fX3_7_9 rfl hth (Nat.le_of_ble_eq_true rfl) rfl rfl rfl dX3_init_6 ?_
  refine x_aload_n dX3_init_9 rfl ?_
  refine x_iload_n dX3_init_10 rfl ?_
  refine x_putF (fs' := [.int n, .int a, .null]) fX3_13_9 rfl hset_s (Nat.le_of_ble_eq_true rfl) rfl rfl rfl dX3_init_11 ?_
  refine x_aload_n dX3_init_14 rfl ?_
  refine x_aload_n dX3_init_15 rfl ?_
  refine x_putF (fs' := thF n a r) fX3_16_9 rfl hset_s (Nat.le_of_ble_eq_true rfl) rfl rfl rfl dX3_init_16 ?_
  refine x_vret rfl dX3_init_19 ⟨by decide, by decide⟩ ?_
  exact ⟨rfl, hset_s, ((Fr.set (by omega) (by omega)).tr (Fr.set (by omega) (by omega))).tr (Fr.set (by omega) (by omega))⟩
set_option maxRecDepth 10000 in
set_option maxHeartbeats 2000000 in
theorem c_X3_init_2 {g : gG} {h : gH} {r q : Nat} {n a : Int32} (hth : h.1 q = some (.inr (2, [.int 0, .int 0, .null]))) : Ct g mX3_init [.ref q, .int n, .int a, .ref r] h none (fun h' => h'.1 q = some (.inr (2, thF n a r)) ∧ Fr q 1 h h') := by
  refine Cn.of (L := [some (.ref q), some (.int n), some (.int a), some (.ref r)]) (by decide) (Nat.le_of_ble_eq_true rfl) rfl ?_
  refine x_aload_n dX3_init_0 rfl ?_
  refine x_objI sO_X3 dX3_init_1 (by decide) (Nat.le_of_ble_eq_true rfl) ?_
  refine x_aload_n dX3_init_4 rfl ?_
  refine x_iload_n dX3_init_5 rfl ?_
  refine x_putF (fs' := [.int n, .int 0, .null]) fX3_7_2 rfl hth (Nat.le_of_ble_eq_true rfl) rfl rfl rfl dX3_init_6 ?_
  refine x_aload_n dX3_init_9 rfl ?_
  refine x_iload_n dX3_init_10 rfl ?_
  refine x_putF (fs' := [.int n, .int a, .null]) fX3_13_2 rfl hset_s (Nat.le_of_ble_eq_true rfl) rfl rfl rfl dX3_init_11 ?_
  refine x_aload_n dX3_init_14 rfl ?_
  refine x_aload_n dX3_init_15 rfl ?_
  refine x_putF (fs' := thF n a r) fX3_16_2 rfl hset_s (Nat.le_of_ble_eq_true rfl) rfl rfl rfl dX3_init_16 ?_
  refine x_vret rfl dX3_init_19 ⟨by decide, by decide⟩ ?_
  exact ⟨rfl, hset_s, ((Fr.set (by omega) (by omega)).tr (Fr.set (by omega) (by omega))).tr (Fr.set (by omega) (by omega))⟩
set_option maxRecDepth 10000 in
set_option maxHeartbeats 2000000 in
theorem c_X3_init_0 {g : gG} {h : gH} {r q : Nat} {n a : Int32} (hth : h.1 q = some (.inr (0, [.int 0, .int 0, .null]))) : Ct g mX3_init [.ref q, .int n, .int a, .ref r] h none (fun h' => h'.1 q = some (.inr (0, thF n a r)) ∧ Fr q 1 h h') := by
  refine Cn.of (L := [some (.ref q), some (.int n), some (.int a), some (.ref r)]) (by decide) (Nat.le_of_ble_eq_true rfl) rfl ?_
  refine x_aload_n dX3_init_0 rfl ?_
  refine x_objI sO_X3 dX3_init_1 (by decide) (Nat.le_of_ble_eq_true rfl) ?_
  refine x_aload_n dX3_init_4 rfl ?_
  refine x_iload_n dX3_init_5 rfl ?_
  refine x_putF (fs' := [.int n, .int 0, .null]) fX3_7_0 rfl hth (Nat.le_of_ble_eq_true rfl) rfl rfl rfl dX3_init_6 ?_
  refine x_aload_n dX3_init_9 rfl ?_
  refine x_iload_n dX3_init_10 rfl ?_
  refine x_putF (fs' := [.int n, .int a, .null]) fX3_13_0 rfl hset_s (Nat.le_of_ble_eq_true rfl) rfl rfl rfl dX3_init_11 ?_
  refine x_aload_n dX3_init_14 rfl ?_
  refine x_aload_n dX3_init_15 rfl ?_
  refine x_putF (fs' := thF n a r) fX3_16_0 rfl hset_s (Nat.le_of_ble_eq_true rfl) rfl rfl rfl dX3_init_16 ?_
  refine x_vret rfl dX3_init_19 ⟨by decide, by decide⟩ ?_
  exact ⟨rfl, hset_s, ((Fr.set (by omega) (by omega)).tr (Fr.set (by omega) (by omega))).tr (Fr.set (by omega) (by omega))⟩
set_option maxRecDepth 10000 in
set_option maxHeartbeats 2000000 in
theorem c_X3_init_4 {g : gG} {h : gH} {r q : Nat} {n a : Int32} (hth : h.1 q = some (.inr (4, [.int 0, .int 0, .null]))) : Ct g mX3_init [.ref q, .int n, .int a, .ref r] h none (fun h' => h'.1 q = some (.inr (4, thF n a r)) ∧ Fr q 1 h h') := by
  refine Cn.of (L := [some (.ref q), some (.int n), some (.int a), some (.ref r)]) (by decide) (Nat.le_of_ble_eq_true rfl) rfl ?_
  refine x_aload_n dX3_init_0 rfl ?_
  refine x_objI sO_X3 dX3_init_1 (by decide) (Nat.le_of_ble_eq_true rfl) ?_
  refine x_aload_n dX3_init_4 rfl ?_
  refine x_iload_n dX3_init_5 rfl ?_
  refine x_putF (fs' := [.int n, .int 0, .null]) fX3_7_4 rfl hth (Nat.le_of_ble_eq_true rfl) rfl rfl rfl dX3_init_6 ?_
  refine x_aload_n dX3_init_9 rfl ?_
  refine x_iload_n dX3_init_10 rfl ?_
  refine x_putF (fs' := [.int n, .int a, .null]) fX3_13_4 rfl hset_s (Nat.le_of_ble_eq_true rfl) rfl rfl rfl dX3_init_11 ?_
  refine x_aload_n dX3_init_14 rfl ?_
  refine x_aload_n dX3_init_15 rfl ?_
  refine x_putF (fs' := thF n a r) fX3_16_4 rfl hset_s (Nat.le_of_ble_eq_true rfl) rfl rfl rfl dX3_init_16 ?_
  refine x_vret rfl dX3_init_19 ⟨by decide, by decide⟩ ?_
  exact ⟨rfl, hset_s, ((Fr.set (by omega) (by omega)).tr (Fr.set (by omega) (by omega))).tr (Fr.set (by omega) (by omega))⟩
set_option maxRecDepth 10000 in
set_option maxHeartbeats 2000000 in
theorem c_X8_init_8 {g : gG} {h : gH} {r q : Nat} {n a : Int32} (hth : h.1 q = some (.inr (8, [.int 0, .int 0, .null]))) : Ct g mX8_init [.ref q, .int n, .int a, .ref r] h none (fun h' => h'.1 q = some (.inr (8, thF n a r)) ∧ Fr q 1 h h') := by
  refine Cn.of (L := [some (.ref q), some (.int n), some (.int a), some (.ref r)]) (by decide) (Nat.le_of_ble_eq_true rfl) rfl ?_
  refine x_aload_n dX8_init_0 rfl ?_
  refine x_iload_n dX8_init_1 rfl ?_
  refine x_iload_n dX8_init_2 rfl ?_
  refine x_aload_n dX8_init_3 rfl ?_
  refine x_cnI rfl (c_X3_init_8 hth) lkX3_init sX8_1 dX8_init_4 rfl rfl (Nat.le_of_ble_eq_true rfl) (by decide) ⟨rfl, rfl, by decide, by decide⟩ ?_
  rintro h1 ⟨t1, F1⟩
  refine x_vret rfl dX8_init_7 ⟨by decide, by decide⟩ ?_
  exact ⟨rfl, t1, F1⟩
set_option maxRecDepth 10000 in
set_option maxHeartbeats 2000000 in
theorem c_X8_init_2 {g : gG} {h : gH} {r q : Nat} {n a : Int32} (hth : h.1 q = some (.inr (2, [.int 0, .int 0, .null]))) : Ct g mX8_init [.ref q, .int n, .int a, .ref r] h none (fun h' => h'.1 q = some (.inr (2, thF n a r)) ∧ Fr q 1 h h') := by
  refine Cn.of (L := [some (.ref q), some (.int n), some (.int a), some (.ref r)]) (by decide) (Nat.le_of_ble_eq_true rfl) rfl ?_
  refine x_aload_n dX8_init_0 rfl ?_
  refine x_iload_n dX8_init_1 rfl ?_
  refine x_iload_n dX8_init_2 rfl ?_
  refine x_aload_n dX8_init_3 rfl ?_
  refine x_cnI rfl (c_X3_init_2 hth) lkX3_init sX8_1 dX8_init_4 rfl rfl (Nat.le_of_ble_eq_true rfl) (by decide) ⟨rfl, rfl, by decide, by decide⟩ ?_
  rintro h1 ⟨t1, F1⟩
  refine x_vret rfl dX8_init_7 ⟨by decide, by decide⟩ ?_
  exact ⟨rfl, t1, F1⟩
set_option maxRecDepth 10000 in
set_option maxHeartbeats 2000000 in
theorem c_X8_init_0 {g : gG} {h : gH} {r q : Nat} {n a : Int32} (hth : h.1 q = some (.inr (0, [.int 0, .int 0, .null]))) : Ct g mX8_init [.ref q, .int n, .int a, .ref r] h none (fun h' => h'.1 q = some (.inr (0, thF n a r)) ∧ Fr q 1 h h') := by
  refine Cn.of (L := [some (.ref q), some (.int n), some (.int a), some (.ref r)]) (by decide) (Nat.le_of_ble_eq_true rfl) rfl ?_
  refine x_aload_n dX8_init_0 rfl ?_
  refine x_iload_n dX8_init_1 rfl ?_
  refine x_iload_n dX8_init_2 rfl ?_
  refine x_aload_n dX8_init_3 rfl ?_
  refine x_cnI rfl (c_X3_init_0 hth) lkX3_init sX8_1 dX8_init_4 rfl rfl (Nat.le_of_ble_eq_true rfl) (by decide) ⟨rfl, rfl, by decide, by decide⟩ ?_
  rintro h1 ⟨t1, F1⟩
  refine x_vret rfl dX8_init_7 ⟨by decide, by decide⟩ ?_
  exact ⟨rfl, t1, F1⟩
set_option maxRecDepth 10000 in
set_option maxHeartbeats 2000000 in
theorem c_X9_init_9 {g : gG} {h : gH} {r q : Nat} {n a : Int32} (hth : h.1 q = some (.inr (9, [.int 0, .int 0, .null]))) : Ct g mX9_init [.ref q, .int n, .int a, .ref r] h none (fun h' => h'.1 q = some (.inr (9, thF n a r)) ∧ Fr q 1 h h') := by
  refine Cn.of (L := [some (.ref q), some (.int n), some (.int a), some (.ref r)]) (by decide) (Nat.le_of_ble_eq_true rfl) rfl ?_
  refine x_aload_n dX9_init_0 rfl ?_
  refine x_iload_n dX9_init_1 rfl ?_
  refine x_iload_n dX9_init_2 rfl ?_
  refine x_aload_n dX9_init_3 rfl ?_
  refine x_cnI rfl (c_X3_init_9 hth) lkX3_init sX9_1 dX9_init_4 rfl rfl (Nat.le_of_ble_eq_true rfl) (by decide) ⟨rfl, rfl, by decide, by decide⟩ ?_
  rintro h1 ⟨t1, F1⟩
  refine x_vret rfl dX9_init_7 ⟨by decide, by decide⟩ ?_
  exact ⟨rfl, t1, F1⟩
set_option maxRecDepth 10000 in
set_option maxHeartbeats 2000000 in
theorem c_X4_init_4 {g : gG} {h : gH} {r q : Nat} {n a : Int32} (hth : h.1 q = some (.inr (4, [.int 0, .int 0, .null]))) : Ct g mX4_init [.ref q, .int n, .int a, .ref r] h none (fun h' => h'.1 q = some (.inr (4, thF n a r)) ∧ Fr q 1 h h') := by
  refine Cn.of (L := [some (.ref q), some (.int n), some (.int a), some (.ref r)]) (by decide) (Nat.le_of_ble_eq_true rfl) rfl ?_
  refine x_aload_n dX4_init_0 rfl ?_
  refine x_iload_n dX4_init_1 rfl ?_
  refine x_iload_n dX4_init_2 rfl ?_
  refine x_aload_n dX4_init_3 rfl ?_
  refine x_cnI rfl (c_X3_init_4 hth) lkX3_init sX4_1 dX4_init_4 rfl rfl (Nat.le_of_ble_eq_true rfl) (by decide) ⟨rfl, rfl, by decide, by decide⟩ ?_
  rintro h1 ⟨t1, F1⟩
  refine x_vret rfl dX4_init_7 ⟨by decide, by decide⟩ ?_
  exact ⟨rfl, t1, F1⟩
set_option maxRecDepth 10000 in
set_option maxHeartbeats 2000000 in
theorem c_X2_init_2 {g : gG} {h : gH} {r q : Nat} {n a : Int32} (hth : h.1 q = some (.inr (2, [.int 0, .int 0, .null]))) : Ct g mX2_init [.ref q, .int n, .int a, .ref r] h none (fun h' => h'.1 q = some (.inr (2, thF n a r)) ∧ Fr q 1 h h') := by
  refine Cn.of (L := [some (.ref q), some (.int n), some (.int a), some (.ref r)]) (by decide) (Nat.le_of_ble_eq_true rfl) rfl ?_
  refine x_aload_n dX2_init_0 rfl ?_
  refine x_iload_n dX2_init_1 rfl ?_
  refine x_iload_n dX2_init_2 rfl ?_
  refine x_aload_n dX2_init_3 rfl ?_
  refine x_cnI rfl (c_X8_init_2 hth) lkX8_init sX2_1 dX2_init_4 rfl rfl (Nat.le_of_ble_eq_true rfl) (by decide) ⟨rfl, rfl, by decide, by decide⟩ ?_
  rintro h1 ⟨t1, F1⟩
  refine x_vret rfl dX2_init_7 ⟨by decide, by decide⟩ ?_
  exact ⟨rfl, t1, F1⟩
set_option maxRecDepth 10000 in
set_option maxHeartbeats 2000000 in
theorem c_X0_init_0 {g : gG} {h : gH} {r q : Nat} {n a : Int32} (hth : h.1 q = some (.inr (0, [.int 0, .int 0, .null]))) : Ct g mX0_init [.ref q, .int n, .int a, .ref r] h none (fun h' => h'.1 q = some (.inr (0, thF n a r)) ∧ Fr q 1 h h') := by
  refine Cn.of (L := [some (.ref q), some (.int n), some (.int a), some (.ref r)]) (by decide) (Nat.le_of_ble_eq_true rfl) rfl ?_
  refine x_aload_n dX0_init_0 rfl ?_
  refine x_iload_n dX0_init_1 rfl ?_
  refine x_iload_n dX0_init_2 rfl ?_
  refine x_aload_n dX0_init_3 rfl ?_
  refine x_cnI rfl (c_X8_init_0 hth) lkX8_init sX0_1 dX0_init_4 rfl rfl (Nat.le_of_ble_eq_true rfl) (by decide) ⟨rfl, rfl, by decide, by decide⟩ ?_
  rintro h1 ⟨t1, F1⟩
  refine x_vret rfl dX0_init_7 ⟨by decide, by decide⟩ ?_
  exact ⟨rfl, t1, F1⟩
def clsOf (k : Nat) : Nat := if k = 1 then 8 else if k = 2 then 9 else if k = 3 then 2 else if k = 4 then 0 else if k = 5 then 4 else 3
theorem gd3 : gdef 3 [.int 0, .int 0, .null] := gd_of (ty := tyX3) rfl tyX3_ok (by decide)
theorem gd8 : gdef 8 [.int 0, .int 0, .null] := gd_of (ty := tyX8) rfl tyX8_ok (by decide)
theorem gd9 : gdef 9 [.int 0, .int 0, .null] := gd_of (ty := tyX9) rfl tyX9_ok (by decide)
theorem gd2 : gdef 2 [.int 0, .int 0, .null] := gd_of (ty := tyX2) rfl tyX2_ok (by decide)
theorem gd0 : gdef 0 [.int 0, .int 0, .null] := gd_of (ty := tyX0) rfl tyX0_ok (by decide)
theorem gd4 : gdef 4 [.int 0, .int 0, .null] := gd_of (ty := tyX4) rfl tyX4_ok (by decide)
set_option maxRecDepth 10000 in
set_option maxHeartbeats 2000000 in
theorem c_X11_thingOf {g : gG} {h : gH} {x : Nat} {D : Nat → Prop} {S : AS} (hx : isX h x D S) {p1 : Nat} (hp : p1 < S.1.1 0) : Ct g mX11_thingOf [.ref x, .int (nI p1)] h (some (.ref h.2)) (fun h' => h'.2 = h.2 + 1 ∧ h'.1 h.2 = some (.inr (clsOf (S.1.2.2 0 p1), thF (nI p1) (nI (S.1.2.2 3 p1)) (x + 48))) ∧ ∀ a, a < h.2 → h'.1 a = h.1 a) := by
  have ho := hx.2.1
  have hv := hx.2.2.1
  have n0 := hv.o
  have okw := hv.1
  obtain ⟨ok0, ar, hw, rp⟩ := id hv
  have w0 : h.1 (x + 1) = some (.inr (10, wF (x + 1) (wS S.1))) := hw.1
  have w1 : h.1 ((x + 1) + 1) = some (.inl (0, 8, .inl (ar 0))) := hw.2 0 (by decide)
  have w2 : h.1 ((x + 1) + 2) = some (.inl (0, 8, .inl (ar 1))) := hw.2 1 (by decide)
  have w3 : h.1 ((x + 1) + 3) = some (.inl (0, 8, .inl (ar 2))) := hw.2 2 (by decide)
  have w4 : h.1 ((x + 1) + 4) = some (.inl (0, 8, .inl (ar 3))) := hw.2 3 (by decide)
  have w5 : h.1 ((x + 1) + 5) = some (.inl (0, 8, .inl (ar 4))) := hw.2 4 (by decide)
  have w6 : h.1 ((x + 1) + 6) = some (.inl (0, 4, .inl (ar 5))) := hw.2 5 (by decide)
  have w7 : h.1 ((x + 1) + 7) = some (.inl (0, 4, .inl (ar 6))) := hw.2 6 (by decide)
  have w8 : h.1 ((x + 1) + 8) = some (.inl (0, 4, .inl (ar 7))) := hw.2 7 (by decide)
  have w9 : h.1 ((x + 1) + 9) = some (.inl (0, 8, .inl (ar 8))) := hw.2 8 (by decide)
  have w10 : h.1 ((x + 1) + 10) = some (.inl (0, 4, .inl (ar 9))) := hw.2 9 (by decide)
  have w11 : h.1 ((x + 1) + 11) = some (.inl (0, 4, .inl (ar 10))) := hw.2 10 (by decide)
  have hp8 : p1 < 8 := by have := okw.1; omega
  have k6 := (okw.2.2.2.1 p1 hp).1
  refine Cn.of (L := [some (.ref x), some (.int (nI p1)), none]) (by decide) (Nat.le_of_ble_eq_true rfl) rfl ?_
  refine x_aload_n dX11_thingOf_0 rfl ?_
  refine x_get fX11_12 (by assumption) rfl dX11_thingOf_1 ?_
  refine x_getR fX11_117 (by assumption) rfl dX11_thingOf_4 ?_
  refine x_iload_n dX11_thingOf_7 rfl ?_
  refine x_iald p1 w4 rfl hp8 (by decide) dX11_thingOf_8 ?_
  rw [rp.1 3 p1 (by decide) hp]
  refine x_ist_2 dX11_thingOf_9 (by decide) rfl ?_
  refine x_aload_n dX11_thingOf_10 rfl ?_
  refine x_get fX11_12 (by assumption) rfl dX11_thingOf_11 ?_
  refine x_getR fX11_108 (by assumption) rfl dX11_thingOf_14 ?_
  refine x_iload_n dX11_thingOf_17 rfl ?_
  refine x_iald p1 w1 rfl hp8 (by decide) dX11_thingOf_18 ?_
  rw [rp.1 0 p1 (by decide) hp]
  refine swX11_thingOf_19 (fun c19 => ?_) (fun c19 => ?_) (fun c19 => ?_) (fun c19 => ?_) (fun c19 => ?_) (fun c19_1 c19_2 c19_3 c19_4 c19_5 => ?_)
  · have kk : S.1.2.2 0 p1 = 1 := (nI_eq (b := 1) (by omega) (by decide)).mp c19
    refine x_new nX11_340 gd8 (by decide) (by decide) dX11_thingOf_52 ?_
    refine x_dup dX11_thingOf_55 rfl ?_
    refine x_iload_n dX11_thingOf_56 rfl ?_
    refine x_iload_n dX11_thingOf_57 rfl ?_
    refine x_aload_n dX11_thingOf_58 rfl ?_
    refine x_get fX11_58 ((hnew_n (by have := hx.1.1; omega)).trans ho) rfl dX11_thingOf_59 ?_
    refine x_cnI (k' := 1) (n' := 3) rfl (c_X8_init_8 (h := hnew h (.inr (8, [.int 0, .int 0, .null]))) (q := h.2) hnew_s) lkX8_init sX11_342 dX11_thingOf_62 rfl rfl (Nat.le_of_ble_eq_true rfl) (by decide) ⟨rfl, rfl, by decide, by decide⟩ ?_
    rintro h3 ⟨t3, F3⟩
    refine x_aret rfl (Or.inl ⟨_, rfl⟩) (Or.inr ⟨_, rfl⟩) dX11_thingOf_65 ⟨by decide, by decide⟩ ?_
    exact ⟨rfl, F3.1, by rw [kk]; exact t3, fun a l => (F3.2 a (by omega)).trans (hnew_n (by omega))⟩
  · have kk : S.1.2.2 0 p1 = 2 := (nI_eq (b := 2) (by omega) (by decide)).mp c19
    refine x_new nX11_345 gd9 (by decide) (by decide) dX11_thingOf_66 ?_
    refine x_dup dX11_thingOf_69 rfl ?_
    refine x_iload_n dX11_thingOf_70 rfl ?_
    refine x_iload_n dX11_thingOf_71 rfl ?_
    refine x_aload_n dX11_thingOf_72 rfl ?_
    refine x_get fX11_58 ((hnew_n (by have := hx.1.1; omega)).trans ho) rfl dX11_thingOf_73 ?_
    refine x_cnI (k' := 1) (n' := 3) rfl (c_X9_init_9 (h := hnew h (.inr (9, [.int 0, .int 0, .null]))) (q := h.2) hnew_s) lkX9_init sX11_347 dX11_thingOf_76 rfl rfl (Nat.le_of_ble_eq_true rfl) (by decide) ⟨rfl, rfl, by decide, by decide⟩ ?_
    rintro h3 ⟨t3, F3⟩
    refine x_aret rfl (Or.inl ⟨_, rfl⟩) (Or.inr ⟨_, rfl⟩) dX11_thingOf_79 ⟨by decide, by decide⟩ ?_
    exact ⟨rfl, F3.1, by rw [kk]; exact t3, fun a l => (F3.2 a (by omega)).trans (hnew_n (by omega))⟩
  · have kk : S.1.2.2 0 p1 = 3 := (nI_eq (b := 3) (by omega) (by decide)).mp c19
    refine x_new nX11_348 gd2 (by decide) (by decide) dX11_thingOf_80 ?_
    refine x_dup dX11_thingOf_83 rfl ?_
    refine x_iload_n dX11_thingOf_84 rfl ?_
    refine x_iload_n dX11_thingOf_85 rfl ?_
    refine x_aload_n dX11_thingOf_86 rfl ?_
    refine x_get fX11_58 ((hnew_n (by have := hx.1.1; omega)).trans ho) rfl dX11_thingOf_87 ?_
    refine x_cnI (k' := 1) (n' := 3) rfl (c_X2_init_2 (h := hnew h (.inr (2, [.int 0, .int 0, .null]))) (q := h.2) hnew_s) lkX2_init sX11_350 dX11_thingOf_90 rfl rfl (Nat.le_of_ble_eq_true rfl) (by decide) ⟨rfl, rfl, by decide, by decide⟩ ?_
    rintro h3 ⟨t3, F3⟩
    refine x_aret rfl (Or.inl ⟨_, rfl⟩) (Or.inr ⟨_, rfl⟩) dX11_thingOf_93 ⟨by decide, by decide⟩ ?_
    exact ⟨rfl, F3.1, by rw [kk]; exact t3, fun a l => (F3.2 a (by omega)).trans (hnew_n (by omega))⟩
  · have kk : S.1.2.2 0 p1 = 4 := (nI_eq (b := 4) (by omega) (by decide)).mp c19
    refine x_new nX11_351 gd0 (by decide) (by decide) dX11_thingOf_94 ?_
    refine x_dup dX11_thingOf_97 rfl ?_
    refine x_iload_n dX11_thingOf_98 rfl ?_
    refine x_iload_n dX11_thingOf_99 rfl ?_
    refine x_aload_n dX11_thingOf_100 rfl ?_
    refine x_get fX11_58 ((hnew_n (by have := hx.1.1; omega)).trans ho) rfl dX11_thingOf_101 ?_
    refine x_cnI (k' := 1) (n' := 3) rfl (c_X0_init_0 (h := hnew h (.inr (0, [.int 0, .int 0, .null]))) (q := h.2) hnew_s) lkX0_init sX11_353 dX11_thingOf_104 rfl rfl (Nat.le_of_ble_eq_true rfl) (by decide) ⟨rfl, rfl, by decide, by decide⟩ ?_
    rintro h3 ⟨t3, F3⟩
    refine x_aret rfl (Or.inl ⟨_, rfl⟩) (Or.inr ⟨_, rfl⟩) dX11_thingOf_107 ⟨by decide, by decide⟩ ?_
    exact ⟨rfl, F3.1, by rw [kk]; exact t3, fun a l => (F3.2 a (by omega)).trans (hnew_n (by omega))⟩
  · have kk : S.1.2.2 0 p1 = 5 := (nI_eq (b := 5) (by omega) (by decide)).mp c19
    refine x_new nX11_354 gd4 (by decide) (by decide) dX11_thingOf_108 ?_
    refine x_dup dX11_thingOf_111 rfl ?_
    refine x_iload_n dX11_thingOf_112 rfl ?_
    refine x_iload_n dX11_thingOf_113 rfl ?_
    refine x_aload_n dX11_thingOf_114 rfl ?_
    refine x_get fX11_58 ((hnew_n (by have := hx.1.1; omega)).trans ho) rfl dX11_thingOf_115 ?_
    refine x_cnI (k' := 1) (n' := 3) rfl (c_X4_init_4 (h := hnew h (.inr (4, [.int 0, .int 0, .null]))) (q := h.2) hnew_s) lkX4_init sX11_356 dX11_thingOf_118 rfl rfl (Nat.le_of_ble_eq_true rfl) (by decide) ⟨rfl, rfl, by decide, by decide⟩ ?_
    rintro h3 ⟨t3, F3⟩
    refine x_aret rfl (Or.inl ⟨_, rfl⟩) (Or.inr ⟨_, rfl⟩) dX11_thingOf_121 ⟨by decide, by decide⟩ ?_
    exact ⟨rfl, F3.1, by rw [kk]; exact t3, fun a l => (F3.2 a (by omega)).trans (hnew_n (by omega))⟩
  · have kk : S.1.2.2 0 p1 = 0 := by have q1 : ¬ S.1.2.2 0 p1 = 1 := fun z => c19_1 (by rw [z]; rfl); have q2 : ¬ S.1.2.2 0 p1 = 2 := fun z => c19_2 (by rw [z]; rfl); have q3 : ¬ S.1.2.2 0 p1 = 3 := fun z => c19_3 (by rw [z]; rfl); have q4 : ¬ S.1.2.2 0 p1 = 4 := fun z => c19_4 (by rw [z]; rfl); have q5 : ¬ S.1.2.2 0 p1 = 5 := fun z => c19_5 (by rw [z]; rfl); omega
    refine x_new nX11_308 gd3 (by decide) (by decide) dX11_thingOf_122 ?_
    refine x_dup dX11_thingOf_125 rfl ?_
    refine x_iload_n dX11_thingOf_126 rfl ?_
    refine x_iload_n dX11_thingOf_127 rfl ?_
    refine x_aload_n dX11_thingOf_128 rfl ?_
    refine x_get fX11_58 ((hnew_n (by have := hx.1.1; omega)).trans ho) rfl dX11_thingOf_129 ?_
    refine x_cnI (k' := 1) (n' := 3) rfl (c_X3_init_3 (h := hnew h (.inr (3, [.int 0, .int 0, .null]))) (q := h.2) hnew_s) lkX3_init sX11_357 dX11_thingOf_132 rfl rfl (Nat.le_of_ble_eq_true rfl) (by decide) ⟨rfl, rfl, by decide, by decide⟩ ?_
    rintro h3 ⟨t3, F3⟩
    refine x_aret rfl (Or.inl ⟨_, rfl⟩) (Or.inr ⟨_, rfl⟩) dX11_thingOf_135 ⟨by decide, by decide⟩ ?_
    exact ⟨rfl, F3.1, by rw [kk]; exact t3, fun a l => (F3.2 a (by omega)).trans (hnew_n (by omega))⟩
