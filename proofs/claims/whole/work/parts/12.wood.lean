set_option maxRecDepth 10000 in
set_option maxHeartbeats 2000000 in
theorem c_X11_isBelow {g : gG} {h : gH} {v b : Int32} : Rd g mX11_isBelow [.int v, .int b] h (.int (b2i (0 ≤ v ∧ v < b))) := by
  refine Cn.of (by decide) (Nat.le_of_ble_eq_true rfl) rfl ?_
  refine x_iload_n dX11_isBelow_0 rfl ?_
  refine x_if_lt 13 dX11_isBelow_1 (by decide) (fun c1 => ?_) (fun c1 => ?_)
  · refine x_iconst (v := 0) dX11_isBelow_13 (by decide) ?_
    refine x_zret rfl dX11_isBelow_14 ⟨by decide, by decide⟩ rfl ?_
    exact ⟨by rw [b2i_f (fun q => absurd c1 (Int32.not_lt.mpr q.1))], rfl⟩
  · refine x_iload_n dX11_isBelow_4 rfl ?_
    refine x_iload_n dX11_isBelow_5 rfl ?_
    refine x_icmp_ge 13 dX11_isBelow_6 (by decide) (fun c6 => ?_) (fun c6 => ?_)
    · refine x_iconst (v := 0) dX11_isBelow_13 (by decide) ?_
      refine x_zret rfl dX11_isBelow_14 ⟨by decide, by decide⟩ rfl ?_
      exact ⟨by rw [b2i_f (fun q => absurd q.2 (Int32.not_lt.mpr c6))], rfl⟩
    · refine x_iconst (v := 1) dX11_isBelow_9 (by decide) ?_
      refine x_goto 14 dX11_isBelow_10 (by decide) ?_
      refine x_zret rfl dX11_isBelow_14 ⟨by decide, by decide⟩ rfl ?_
      exact ⟨by rw [b2i_t ⟨Int32.not_lt.mp c1, Int32.not_le.mp c6⟩], rfl⟩
set_option maxRecDepth 10000 in
set_option maxHeartbeats 2000000 in
theorem c_X11_isUpTo {g : gG} {h : gH} {v b : Int32} : Rd g mX11_isUpTo [.int v, .int b] h (.int (b2i (0 ≤ v ∧ v ≤ b))) := by
  refine Cn.of (by decide) (Nat.le_of_ble_eq_true rfl) rfl ?_
  refine x_iload_n dX11_isUpTo_0 rfl ?_
  refine x_if_lt 13 dX11_isUpTo_1 (by decide) (fun c1 => ?_) (fun c1 => ?_)
  · refine x_iconst (v := 0) dX11_isUpTo_13 (by decide) ?_
    refine x_zret rfl dX11_isUpTo_14 ⟨by decide, by decide⟩ rfl ?_
    exact ⟨by rw [b2i_f (fun q => absurd c1 (Int32.not_lt.mpr q.1))], rfl⟩
  · refine x_iload_n dX11_isUpTo_4 rfl ?_
    refine x_iload_n dX11_isUpTo_5 rfl ?_
    refine x_icmp_gt 13 dX11_isUpTo_6 (by decide) (fun c6 => ?_) (fun c6 => ?_)
    · refine x_iconst (v := 0) dX11_isUpTo_13 (by decide) ?_
      refine x_zret rfl dX11_isUpTo_14 ⟨by decide, by decide⟩ rfl ?_
      exact ⟨by rw [b2i_f (fun q => absurd q.2 (Int32.not_le.mpr c6))], rfl⟩
    · refine x_iconst (v := 1) dX11_isUpTo_9 (by decide) ?_
      refine x_goto 14 dX11_isUpTo_10 (by decide) ?_
      refine x_zret rfl dX11_isUpTo_14 ⟨by decide, by decide⟩ rfl ?_
      exact ⟨by rw [b2i_t ⟨Int32.not_lt.mp c1, Int32.not_lt.mp c6⟩], rfl⟩
set_option maxRecDepth 10000 in
set_option maxHeartbeats 2000000 in
theorem c_X11_isClearing {g : gG} {h : gH} {v : Int32} : Rd g mX11_isClearing [.int v] h (.int (b2i (0 ≤ v ∧ v < 8))) := by
  refine Cn.of (by decide) (Nat.le_of_ble_eq_true rfl) rfl ?_
  refine x_iload_n dX11_isClearing_0 rfl ?_
  refine x_bipush (v := 8) dX11_isClearing_1 (by decide) ?_
  refine x_rdS c_X11_isBelow lkX11_isBelow sX11_94 dX11_isClearing_3 rfl rfl (by decide) (by decide) ⟨rfl, rfl, by decide, by decide⟩ ?_
  refine x_zret rfl dX11_isClearing_6 ⟨by decide, by decide⟩ b2i_n ?_
  exact ⟨rfl, rfl⟩
set_option maxRecDepth 10000 in
set_option maxHeartbeats 2000000 in
theorem c_X11_isPart {g : gG} {h : gH} {v : Int32} : Rd g mX11_isPart [.int v] h (.int (b2i (0 ≤ v ∧ v < 2))) := by
  refine Cn.of (by decide) (Nat.le_of_ble_eq_true rfl) rfl ?_
  refine x_iload_n dX11_isPart_0 rfl ?_
  refine x_iconst (v := 2) dX11_isPart_1 (by decide) ?_
  refine x_rdS c_X11_isBelow lkX11_isBelow sX11_94 dX11_isPart_2 rfl rfl (by decide) (by decide) ⟨rfl, rfl, by decide, by decide⟩ ?_
  refine x_zret rfl dX11_isPart_5 ⟨by decide, by decide⟩ b2i_n ?_
  exact ⟨rfl, rfl⟩
/-- is a number in a set -/
def inS (j x : Int32) : Prop := ¬ ((x.toUInt32 >>> (j.toUInt32 &&& Int32.toUInt32 31)).toInt32 &&& 1) = 0
def inS_dec (j x : Int32) : Decidable (inS j x) := inferInstanceAs (Decidable (¬ _))
set_option maxRecDepth 10000 in
set_option maxHeartbeats 2000000 in
theorem c_X11_isInSet {g : gG} {h : gH} {j x : Int32} : Rd g mX11_isInSet [.int j, .int x] h (.int (@b2i (inS j x) (inS_dec j x))) := by
  refine Cn.of (by decide) (Nat.le_of_ble_eq_true rfl) rfl ?_
  refine x_iload_n dX11_isInSet_0 rfl ?_
  refine x_iload_n dX11_isInSet_1 rfl ?_
  refine x_iushr dX11_isInSet_2 ?_
  refine x_iconst (v := 1) dX11_isInSet_3 (by decide) ?_
  refine x_iand dX11_isInSet_4 ?_
  refine x_if_eq 12 dX11_isInSet_5 (by decide) (fun c5 => ?_) (fun c5 => ?_)
  · refine x_iconst (v := 0) dX11_isInSet_12 (by decide) ?_
    refine x_zret rfl dX11_isInSet_13 ⟨by decide, by decide⟩ rfl ?_
    exact ⟨by rw [@b2i_f _ (inS_dec j x) (fun q => q c5)], rfl⟩
  · refine x_iconst (v := 1) dX11_isInSet_8 (by decide) ?_
    refine x_goto 13 dX11_isInSet_9 (by decide) ?_
    refine x_zret rfl dX11_isInSet_13 ⟨by decide, by decide⟩ rfl ?_
    exact ⟨by rw [@b2i_t _ (inS_dec j x) c5], rfl⟩
