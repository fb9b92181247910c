theorem knd {V : VS} {p : Nat} {x : Int32} {v : Nat} (e : x = nI (V.2.2 0 p)) (hk : V.2.2 0 p < 6) (hv : v < 6) : x = nI v ↔ V.2.2 0 p = v := by
  rw [e]; exact nI_eq (by omega) (by omega)
theorem min8 {x : Nat} (hx : x ≤ 8) : (if nI x + 2 < 8 then nI x + 2 else (8 : Int32)) = nI (min 8 (x + 2)) := by
  have key : ∀ x, x < 9 → (if nI x + 2 < 8 then nI x + 2 else (8 : Int32)) = nI (min 8 (x + 2)) := by decide +kernel
  exact key x (by omega)
theorem half8 {x : Nat} (hx : x ≤ 8) : nI (min 8 (x + 2)) / 2 = nI (min 8 (x + 2) / 2) := by
  have key : ∀ x, x < 9 → nI (min 8 (x + 2)) / 2 = nI (min 8 (x + 2) / 2) := by decide +kernel
  exact key x (by omega)
theorem less3 {x : Nat} (hx : x ≤ 8) : (if (0 : Int32) < nI (min 8 (x + 2)) - 3 then nI (min 8 (x + 2)) - 3 else 0) = nI (min 8 (x + 2) - 3) := by
  have key : ∀ x, x < 9 → (if (0 : Int32) < nI (min 8 (x + 2)) - 3 then nI (min 8 (x + 2)) - 3 else 0) = nI (min 8 (x + 2) - 3) := by decide +kernel
  exact key x (by omega)
theorem rain0 {V : VS} (h : V.1 4 ≤ 1) : wS V 3 = 0 ↔ V.1 4 = 0 := by
  show nI (V.1 4) = nI 0 ↔ _
  exact nI_eq (by omega) (by omega)
set_option maxRecDepth 10000 in
set_option maxHeartbeats 2000000 in
theorem c_X10_staysOf {g : gG} {h : gH} {w : Nat} {V : VS} {p : Nat} (hv : isV h w V) (hp : p < V.1 0) : Rd g mX10_staysOf [.ref w, .int (nI p)] h (.int (nI (stays V p))) := by
  obtain ⟨okw, a, hww, rpw⟩ := id hv
  have kwp : V.1 0 ≤ 8 := okw.1.1
  have kww : V.1 1 ≤ 4 := okw.1.2.1
  have kwr : V.1 2 ≤ 4 := okw.1.2.2
  have w0 : h.1 w = some (.inr (10, wF w (wS V))) := hww.1
  have w1 : h.1 (w + 1) = some (.inl (0, 8, .inl (a 0))) := hww.2 0 (by decide)
  have w2 : h.1 (w + 2) = some (.inl (0, 8, .inl (a 1))) := hww.2 1 (by decide)
  have w3 : h.1 (w + 3) = some (.inl (0, 8, .inl (a 2))) := hww.2 2 (by decide)
  have w4 : h.1 (w + 4) = some (.inl (0, 8, .inl (a 3))) := hww.2 3 (by decide)
  have w5 : h.1 (w + 5) = some (.inl (0, 8, .inl (a 4))) := hww.2 4 (by decide)
  have w6 : h.1 (w + 6) = some (.inl (0, 4, .inl (a 5))) := hww.2 5 (by decide)
  have w7 : h.1 (w + 7) = some (.inl (0, 4, .inl (a 6))) := hww.2 6 (by decide)
  have w8 : h.1 (w + 8) = some (.inl (0, 4, .inl (a 7))) := hww.2 7 (by decide)
  have w9 : h.1 (w + 9) = some (.inl (0, 8, .inl (a 8))) := hww.2 8 (by decide)
  have w10 : h.1 (w + 10) = some (.inl (0, 4, .inl (a 9))) := hww.2 9 (by decide)
  have w11 : h.1 (w + 11) = some (.inl (0, 4, .inl (a 10))) := hww.2 10 (by decide)
  have ok2 := okw.2.2.2.1 p hp
  have hp8 : p < 8 := by omega
  have ek := rpw.1 0 p (by decide) hp
  have es := rpw.1 3 p (by decide) hp
  have ec := rpw.1 4 p (by decide) hp
  have hr := rain0 okw.2.2.1
  refine Cn.of (L := [some (.ref w), some (.int (nI p)), none]) (by decide) (Nat.le_of_ble_eq_true rfl) rfl ?_
  refine x_bipush (v := 8) dX10_staysOf_0 (by decide) ?_
  refine x_aload_n dX10_staysOf_2 rfl ?_
  refine x_get fX10_21 (by assumption) rfl dX10_staysOf_3 ?_
  refine x_iload_n dX10_staysOf_6 rfl ?_
  refine x_iald _ (by assumption) rfl (by omega) (by decide) dX10_staysOf_7 ?_
  refine x_iconst (v := 2) dX10_staysOf_8 (by decide) ?_
  refine x_iadd dX10_staysOf_9 ?_
  refine x_mmin sX10_109 dX10_staysOf_10 (by decide) (Nat.le_of_ble_eq_true rfl) ⟨by decide, by decide⟩ ?_
  rw [es, min8 ok2.2.2.2.2.1]
  refine x_ist_2 dX10_staysOf_13 (by decide) rfl ?_
  refine x_aload_n dX10_staysOf_14 rfl ?_
  refine x_get fX10_9 (by assumption) rfl dX10_staysOf_15 ?_
  refine x_iload_n dX10_staysOf_18 rfl ?_
  refine x_iald _ (by assumption) rfl (by omega) (by decide) dX10_staysOf_19 ?_
  refine swX10_staysOf_20 (fun c20 => ?_) (fun c20 => ?_) (fun c20 => ?_) (fun c20 => ?_) (fun c20 => ?_) (fun c20_1 c20_2 c20_3 c20_4 c20_5 => ?_)
  · refine x_iload_n dX10_staysOf_56 rfl ?_
    refine x_iret rfl dX10_staysOf_57 ⟨by decide, by decide⟩ ?_
    have q : V.2.2 0 p = 1 := (knd ek ok2.1 (by decide)).mp c20
    exact ⟨by simp [stays, q], rfl⟩
  · refine x_bipush (v := 8) dX10_staysOf_58 (by decide) ?_
    refine x_iret rfl dX10_staysOf_60 ⟨by decide, by decide⟩ ?_
    have q : V.2.2 0 p = 2 := (knd ek ok2.1 (by decide)).mp c20
    exact ⟨by simp [stays, q]; rfl, rfl⟩
  · refine x_iload_n dX10_staysOf_61 rfl ?_
    refine x_iconst (v := 2) dX10_staysOf_62 (by decide) ?_
    refine x_idiv dX10_staysOf_63 (by decide) ?_
    refine x_iret rfl dX10_staysOf_64 ⟨by decide, by decide⟩ ?_
    have q : V.2.2 0 p = 3 := (knd ek ok2.1 (by decide)).mp c20
    exact ⟨by rw [half8 ok2.2.2.2.2.1]; simp [stays, q], rfl⟩
  · refine x_aload_n dX10_staysOf_65 rfl ?_
    refine x_get fX10_70 (by assumption) rfl dX10_staysOf_66 ?_
    refine x_if_eq 82 dX10_staysOf_69 (by decide) (fun c69 => ?_) (fun c69 => ?_)
    · refine x_iload_n dX10_staysOf_82 rfl ?_
      refine x_iret rfl dX10_staysOf_83 ⟨by decide, by decide⟩ ?_
      have q : V.2.2 0 p = 4 := (knd ek ok2.1 (by decide)).mp c20
      exact ⟨by simp [stays, q, hr.mp c69], rfl⟩
    · refine x_iconst (v := 0) dX10_staysOf_72 (by decide) ?_
      refine x_iload_n dX10_staysOf_73 rfl ?_
      refine x_iconst (v := 3) dX10_staysOf_74 (by decide) ?_
      refine x_isub dX10_staysOf_75 ?_
      refine x_mmax sX10_114 dX10_staysOf_76 (by decide) (Nat.le_of_ble_eq_true rfl) ⟨by decide, by decide⟩ ?_
      refine x_goto 83 dX10_staysOf_79 (by decide) ?_
      refine x_iret rfl dX10_staysOf_83 ⟨by decide, by decide⟩ ?_
      have q : V.2.2 0 p = 4 := (knd ek ok2.1 (by decide)).mp c20
      have n0 : ¬ V.1 4 = 0 := fun z => c69 (hr.mpr z)
      exact ⟨by rw [less3 ok2.2.2.2.2.1]; simp [stays, q, n0], rfl⟩
  · refine x_aload_n dX10_staysOf_84 rfl ?_
    refine x_iload_n dX10_staysOf_85 rfl ?_
    refine x_rdV (c_X10_someoneAtEnd hv hp) (by assumption) lkX10_someoneAtEnd sX10_117 dX10_staysOf_86 rfl rfl (Nat.le_of_ble_eq_true rfl) (by decide) ⟨rfl, rfl, by decide, by decide⟩ ?_
    refine x_if_eqB 97 dX10_staysOf_89 (by decide) (fun c89 => ?_) (fun c89 => ?_)
    · refine x_aload_n dX10_staysOf_97 rfl ?_
      refine x_get fX10_21 (by assumption) rfl dX10_staysOf_98 ?_
      refine x_iload_n dX10_staysOf_101 rfl ?_
      refine x_iald _ (by assumption) rfl (by omega) (by decide) dX10_staysOf_102 ?_
      refine x_iret rfl dX10_staysOf_103 ⟨by decide, by decide⟩ ?_
      have q : V.2.2 0 p = 5 := (knd ek ok2.1 (by decide)).mp c20
      exact ⟨by rw [es]; simp [stays, q, c89], rfl⟩
    · refine x_bipush (v := 8) dX10_staysOf_92 (by decide) ?_
      refine x_goto 103 dX10_staysOf_94 (by decide) ?_
      refine x_iret rfl dX10_staysOf_103 ⟨by decide, by decide⟩ ?_
      have q : V.2.2 0 p = 5 := (knd ek ok2.1 (by decide)).mp c20
      exact ⟨by simp [stays, q, c89]; rfl, rfl⟩
  · refine x_aload_n dX10_staysOf_104 rfl ?_
    refine x_get fX10_21 (by assumption) rfl dX10_staysOf_105 ?_
    refine x_iload_n dX10_staysOf_108 rfl ?_
    refine x_iald _ (by assumption) rfl (by omega) (by decide) dX10_staysOf_109 ?_
    refine x_iret rfl dX10_staysOf_110 ⟨by decide, by decide⟩ ?_
    have n1 : ¬ V.2.2 0 p = 1 := fun z => c20_1 ((knd ek ok2.1 (by decide)).mpr z)
    have n2 : ¬ V.2.2 0 p = 2 := fun z => c20_2 ((knd ek ok2.1 (by decide)).mpr z)
    have n3 : ¬ V.2.2 0 p = 3 := fun z => c20_3 ((knd ek ok2.1 (by decide)).mpr z)
    have n4 : ¬ V.2.2 0 p = 4 := fun z => c20_4 ((knd ek ok2.1 (by decide)).mpr z)
    have n5 : ¬ V.2.2 0 p = 5 := fun z => c20_5 ((knd ek ok2.1 (by decide)).mpr z)
    exact ⟨by rw [es]; simp [stays, n1, n2, n3, n4, n5], rfl⟩
set_option maxRecDepth 10000 in
set_option maxHeartbeats 2000000 in
theorem c_X10_comesOf {g : gG} {h : gH} {w : Nat} {V : VS} {p : Nat} (hv : isV h w V) (hp : p < V.1 0) : Rd g mX10_comesOf [.ref w, .int (nI p)] h (.int (nI (comes V p))) := by
  obtain ⟨okw, a, hww, rpw⟩ := id hv
  have kwp : V.1 0 ≤ 8 := okw.1.1
  have kww : V.1 1 ≤ 4 := okw.1.2.1
  have kwr : V.1 2 ≤ 4 := okw.1.2.2
  have w0 : h.1 w = some (.inr (10, wF w (wS V))) := hww.1
  have w1 : h.1 (w + 1) = some (.inl (0, 8, .inl (a 0))) := hww.2 0 (by decide)
  have w2 : h.1 (w + 2) = some (.inl (0, 8, .inl (a 1))) := hww.2 1 (by decide)
  have w3 : h.1 (w + 3) = some (.inl (0, 8, .inl (a 2))) := hww.2 2 (by decide)
  have w4 : h.1 (w + 4) = some (.inl (0, 8, .inl (a 3))) := hww.2 3 (by decide)
  have w5 : h.1 (w + 5) = some (.inl (0, 8, .inl (a 4))) := hww.2 4 (by decide)
  have w6 : h.1 (w + 6) = some (.inl (0, 4, .inl (a 5))) := hww.2 5 (by decide)
  have w7 : h.1 (w + 7) = some (.inl (0, 4, .inl (a 6))) := hww.2 6 (by decide)
  have w8 : h.1 (w + 8) = some (.inl (0, 4, .inl (a 7))) := hww.2 7 (by decide)
  have w9 : h.1 (w + 9) = some (.inl (0, 8, .inl (a 8))) := hww.2 8 (by decide)
  have w10 : h.1 (w + 10) = some (.inl (0, 4, .inl (a 9))) := hww.2 9 (by decide)
  have w11 : h.1 (w + 11) = some (.inl (0, 4, .inl (a 10))) := hww.2 10 (by decide)
  have ok2 := okw.2.2.2.1 p hp
  have hp8 : p < 8 := by omega
  have ek := rpw.1 0 p (by decide) hp
  have es := rpw.1 3 p (by decide) hp
  have ec := rpw.1 4 p (by decide) hp
  have hr := rain0 okw.2.2.1
  refine Cn.of (L := [some (.ref w), some (.int (nI p))]) (by decide) (Nat.le_of_ble_eq_true rfl) rfl ?_
  refine x_aload_n dX10_comesOf_0 rfl ?_
  refine x_get fX10_9 (by assumption) rfl dX10_comesOf_1 ?_
  refine x_iload_n dX10_comesOf_4 rfl ?_
  refine x_iald _ (by assumption) rfl (by omega) (by decide) dX10_comesOf_5 ?_
  refine swX10_comesOf_6 (fun c6 => ?_) (fun c6 => ?_) (fun c6 => ?_) (fun c6_2 c6_3 c6_4 => ?_)
  · refine x_iconst (v := 0) dX10_comesOf_32 (by decide) ?_
    refine x_iret rfl dX10_comesOf_33 ⟨by decide, by decide⟩ ?_
    have q : V.2.2 0 p = 2 := (knd ek ok2.1 (by decide)).mp c6
    exact ⟨by simp [comes, q]; rfl, rfl⟩
  · refine x_bipush (v := 8) dX10_comesOf_34 (by decide) ?_
    refine x_aload_n dX10_comesOf_36 rfl ?_
    refine x_get fX10_24 (by assumption) rfl dX10_comesOf_37 ?_
    refine x_iload_n dX10_comesOf_40 rfl ?_
    refine x_iald _ (by assumption) rfl (by omega) (by decide) dX10_comesOf_41 ?_
    refine x_iconst (v := 2) dX10_comesOf_42 (by decide) ?_
    refine x_iadd dX10_comesOf_43 ?_
    refine x_mmin sX10_109 dX10_comesOf_44 (by decide) (Nat.le_of_ble_eq_true rfl) ⟨by decide, by decide⟩ ?_
    rw [ec, min8 ok2.2.2.2.2.2]
    refine x_iret rfl dX10_comesOf_47 ⟨by decide, by decide⟩ ?_
    have q : V.2.2 0 p = 3 := (knd ek ok2.1 (by decide)).mp c6
    exact ⟨by simp [comes, q], rfl⟩
  · refine x_aload_n dX10_comesOf_48 rfl ?_
    refine x_get fX10_70 (by assumption) rfl dX10_comesOf_49 ?_
    refine x_if_eq 59 dX10_comesOf_52 (by decide) (fun c52 => ?_) (fun c52 => ?_)
    · refine x_aload_n dX10_comesOf_59 rfl ?_
      refine x_get fX10_24 (by assumption) rfl dX10_comesOf_60 ?_
      refine x_iload_n dX10_comesOf_63 rfl ?_
      refine x_iald _ (by assumption) rfl (by omega) (by decide) dX10_comesOf_64 ?_
      refine x_iret rfl dX10_comesOf_65 ⟨by decide, by decide⟩ ?_
      have q : V.2.2 0 p = 4 := (knd ek ok2.1 (by decide)).mp c6
      exact ⟨by rw [ec]; simp [comes, q, hr.mp c52], rfl⟩
    · refine x_iconst (v := 0) dX10_comesOf_55 (by decide) ?_
      refine x_goto 65 dX10_comesOf_56 (by decide) ?_
      refine x_iret rfl dX10_comesOf_65 ⟨by decide, by decide⟩ ?_
      have q : V.2.2 0 p = 4 := (knd ek ok2.1 (by decide)).mp c6
      have n0 : ¬ V.1 4 = 0 := fun z => c52 (hr.mpr z)
      exact ⟨by simp [comes, q, n0]; rfl, rfl⟩
  · refine x_aload_n dX10_comesOf_66 rfl ?_
    refine x_get fX10_24 (by assumption) rfl dX10_comesOf_67 ?_
    refine x_iload_n dX10_comesOf_70 rfl ?_
    refine x_iald _ (by assumption) rfl (by omega) (by decide) dX10_comesOf_71 ?_
    refine x_iret rfl dX10_comesOf_72 ⟨by decide, by decide⟩ ?_
    have n2 : ¬ V.2.2 0 p = 2 := fun z => c6_2 ((knd ek ok2.1 (by decide)).mpr z)
    have n3 : ¬ V.2.2 0 p = 3 := fun z => c6_3 ((knd ek ok2.1 (by decide)).mpr z)
    have n4 : ¬ V.2.2 0 p = 4 := fun z => c6_4 ((knd ek ok2.1 (by decide)).mpr z)
    exact ⟨by rw [ec]; simp [comes, n2, n3, n4], rfl⟩
theorem nI_z {x : Nat} (h : x < 2 ^ 31) : nI x = 0 ↔ x = 0 := nI_eq (b := 0) h (by decide)
theorem on16 {V : VS} (hv : okV V) (p : Nat) : onS V p (V.1 1) < 16 := Nat.lt_of_lt_of_le (onS_lt V p _) (by have : 2 ^ V.1 1 ≤ 2 ^ 4 := Nat.pow_le_pow_right (by decide) hv.1.2.1; omega)
set_option maxRecDepth 10000 in
set_option maxHeartbeats 2000000 in
theorem c_X10_chanceOf {g : gG} {h : gH} {w : Nat} {V : VS} {p : Nat} {b : Bool} (hv : isV h w V) (hp : p < V.1 0) : Rd g mX10_chanceOf [.ref w, .int (nI p), .int (b2i (b = true))] h (.int (nI (chn V p b))) := by
  obtain ⟨okw, a, hww, rpw⟩ := id hv
  have kwp : V.1 0 ≤ 8 := okw.1.1
  have kww : V.1 1 ≤ 4 := okw.1.2.1
  have kwr : V.1 2 ≤ 4 := okw.1.2.2
  have w0 : h.1 w = some (.inr (10, wF w (wS V))) := hww.1
  have w1 : h.1 (w + 1) = some (.inl (0, 8, .inl (a 0))) := hww.2 0 (by decide)
  have w2 : h.1 (w + 2) = some (.inl (0, 8, .inl (a 1))) := hww.2 1 (by decide)
  have w3 : h.1 (w + 3) = some (.inl (0, 8, .inl (a 2))) := hww.2 2 (by decide)
  have w4 : h.1 (w + 4) = some (.inl (0, 8, .inl (a 3))) := hww.2 3 (by decide)
  have w5 : h.1 (w + 5) = some (.inl (0, 8, .inl (a 4))) := hww.2 4 (by decide)
  have w6 : h.1 (w + 6) = some (.inl (0, 4, .inl (a 5))) := hww.2 5 (by decide)
  have w7 : h.1 (w + 7) = some (.inl (0, 4, .inl (a 6))) := hww.2 6 (by decide)
  have w8 : h.1 (w + 8) = some (.inl (0, 4, .inl (a 7))) := hww.2 7 (by decide)
  have w9 : h.1 (w + 9) = some (.inl (0, 8, .inl (a 8))) := hww.2 8 (by decide)
  have w10 : h.1 (w + 10) = some (.inl (0, 4, .inl (a 9))) := hww.2 9 (by decide)
  have w11 : h.1 (w + 11) = some (.inl (0, 4, .inl (a 10))) := hww.2 10 (by decide)
  have z := nI_z (x := onS V p (V.1 1)) (by have := on16 okw p; omega)
  refine Cn.of (L := [some (.ref w), some (.int (nI p)), some (.int (b2i (b = true)))]) (by decide) (Nat.le_of_ble_eq_true rfl) rfl ?_
  refine x_aload_n dX10_chanceOf_0 rfl ?_
  refine x_iload_n dX10_chanceOf_1 rfl ?_
  refine x_rdV (c_X10_walkersOn hv (by omega)) (by assumption) lkX10_walkersOn sX10_120 dX10_chanceOf_2 rfl rfl (Nat.le_of_ble_eq_true rfl) (by decide) ⟨rfl, rfl, by decide, by decide⟩ ?_
  refine x_if_eq 11 dX10_chanceOf_5 (by decide) (fun c5 => ?_) (fun c5 => ?_)
  · refine x_iload_n dX10_chanceOf_11 rfl ?_
    refine x_if_eq 23 dX10_chanceOf_12 (by decide) (fun c12 => ?_) (fun c12 => ?_)
    · refine x_aload_n dX10_chanceOf_23 rfl ?_
      refine x_iload_n dX10_chanceOf_24 rfl ?_
      refine x_rdV (c_X10_comesOf hv hp) (by assumption) lkX10_comesOf sX10_127 dX10_chanceOf_25 rfl rfl (Nat.le_of_ble_eq_true rfl) (by decide) ⟨rfl, rfl, by decide, by decide⟩ ?_
      refine x_iret rfl dX10_chanceOf_28 ⟨by decide, by decide⟩ ?_
      have cb : b = false := by simpa [b2i_0] using c12
      exact ⟨by simp [chn, z.mp c5, cb], rfl⟩
    · refine x_aload_n dX10_chanceOf_15 rfl ?_
      refine x_iload_n dX10_chanceOf_16 rfl ?_
      refine x_rdV (c_X10_staysOf hv hp) (by assumption) lkX10_staysOf sX10_124 dX10_chanceOf_17 rfl rfl (Nat.le_of_ble_eq_true rfl) (by decide) ⟨rfl, rfl, by decide, by decide⟩ ?_
      refine x_goto 28 dX10_chanceOf_20 (by decide) ?_
      refine x_iret rfl dX10_chanceOf_28 ⟨by decide, by decide⟩ ?_
      have cb : b = true := by simpa [b2i_0] using c12
      exact ⟨by simp [chn, z.mp c5, cb], rfl⟩
  · refine x_bipush (v := 8) dX10_chanceOf_8 (by decide) ?_
    refine x_iret rfl dX10_chanceOf_10 ⟨by decide, by decide⟩ ?_
    have n0 : ¬ onS V p (V.1 1) = 0 := fun q => c5 (z.mpr q)
    exact ⟨by simp [chn, n0]; rfl, rfl⟩
theorem gr_lt {V : VS} (hv : okV V) (t S : Nat) (hS : S < 256) : ∀ n, n ≤ V.1 0 → gr V t S n < 256
  | 0, _ => hS
  | n + 1, h => by
    have ih := gr_lt hv t S hS n (by omega)
    have h1 := hv.2.2.2.1 n (by omega)
    unfold gr
    split
    · exact Nat.or_lt_two_pow (n := 8) ih (Nat.or_lt_two_pow (Nat.pow_lt_pow_right (by decide) h1.2.1) (Nat.pow_lt_pow_right (by decide) h1.2.2.1))
    · exact ih
theorem ends_and {S a b : Nat} (hS : S < 256) (ha : a < 8) (hb : b < 8) : (nI S &&& nI (2 ^ a ||| 2 ^ b)) = 0 ↔ ¬ (S.testBit a = true ∨ S.testBit b = true) := by
  rw [fa_and, nI_z (by have : S &&& (2 ^ a ||| 2 ^ b) ≤ S := Nat.and_le_left; omega)]
  constructor
  · intro h q
    have h2 := fun j => congrArg (fun z => z.testBit j) h
    simp only [Nat.testBit_and, Nat.testBit_or, Nat.testBit_two_pow, Nat.zero_testBit] at h2
    rcases q with q | q
    · have := h2 a; simp [q] at this
    · have := h2 b; simp [q] at this
  · intro h
    apply Nat.eq_of_testBit_eq
    intro j
    simp only [Nat.testBit_and, Nat.testBit_or, Nat.testBit_two_pow, Nat.zero_testBit]
    by_cases e1 : a = j
    · subst e1; simp at h ⊢; simp [h.1]
    · by_cases e2 : b = j
      · subst e2; simp at h ⊢; simp [h.2]
      · simp [e1, e2]
set_option maxRecDepth 10000 in
set_option maxHeartbeats 2000000 in
theorem c_X10_grown {g : gG} {h : gH} {w : Nat} {V : VS} {S : Nat} (hv : isV h w V) (hS : S < 256) : Rd g mX10_grown [.ref w, .int (nI S)] h (.int (nI (gr V (V.1 3) S (V.1 0)))) := by
  obtain ⟨okw, a, hww, rpw⟩ := id hv
  have kwp : V.1 0 ≤ 8 := okw.1.1
  have kww : V.1 1 ≤ 4 := okw.1.2.1
  have kwr : V.1 2 ≤ 4 := okw.1.2.2
  have w0 : h.1 w = some (.inr (10, wF w (wS V))) := hww.1
  have w1 : h.1 (w + 1) = some (.inl (0, 8, .inl (a 0))) := hww.2 0 (by decide)
  have w2 : h.1 (w + 2) = some (.inl (0, 8, .inl (a 1))) := hww.2 1 (by decide)
  have w3 : h.1 (w + 3) = some (.inl (0, 8, .inl (a 2))) := hww.2 2 (by decide)
  have w4 : h.1 (w + 4) = some (.inl (0, 8, .inl (a 3))) := hww.2 3 (by decide)
  have w5 : h.1 (w + 5) = some (.inl (0, 8, .inl (a 4))) := hww.2 4 (by decide)
  have w6 : h.1 (w + 6) = some (.inl (0, 4, .inl (a 5))) := hww.2 5 (by decide)
  have w7 : h.1 (w + 7) = some (.inl (0, 4, .inl (a 6))) := hww.2 6 (by decide)
  have w8 : h.1 (w + 8) = some (.inl (0, 4, .inl (a 7))) := hww.2 7 (by decide)
  have w9 : h.1 (w + 9) = some (.inl (0, 8, .inl (a 8))) := hww.2 8 (by decide)
  have w10 : h.1 (w + 10) = some (.inl (0, 4, .inl (a 9))) := hww.2 9 (by decide)
  have w11 : h.1 (w + 11) = some (.inl (0, 4, .inl (a 10))) := hww.2 10 (by decide)
  refine Cn.of (L := [some (.ref w), some (.int (nI S)), none, none, none]) (by decide) (Nat.le_of_ble_eq_true rfl) rfl ?_
  refine x_iload_n dX10_grown_0 rfl ?_
  refine x_ist_2 dX10_grown_1 (by decide) rfl ?_
  refine x_iconst (v := 0) dX10_grown_2 (by decide) ?_
  refine x_ist_3 dX10_grown_3 (by decide) rfl ?_
  refine lp_up (P := fun i => ∀ u, Ex g mX10_grown _ 4 [some (.ref w), some (.int (nI S)), some (.int (nI (gr V (V.1 3) S i))), some (.int (nI i)), u] [] h 0 0) (V.1 0) (fun i hi ih u => ?_) (fun u => ?_) 0 (Nat.zero_le _) none
  · have ok2 := okw.2.2.2.1 i hi
    have e1 := rpw.1 1 i (by decide) hi
    have e2 := rpw.1 2 i (by decide) hi
    have ea := ends_and hS ok2.2.1 ok2.2.2.1
    refine x_iload_n dX10_grown_4 rfl ?_
    refine x_aload_n dX10_grown_5 rfl ?_
    refine x_get fX10_61 (by assumption) rfl dX10_grown_6 ?_
    refine x_icmp_ge_f 57 dX10_grown_9 (by decide) (ge_f rfl hi (by omega)) ?_
    refine x_iconst (v := 1) dX10_grown_12 (by decide) ?_
    refine x_aload_n dX10_grown_13 rfl ?_
    refine x_get fX10_15 (by assumption) rfl dX10_grown_14 ?_
    refine x_iload_n dX10_grown_17 rfl ?_
    refine x_iald _ (by assumption) rfl (by omega) (by decide) dX10_grown_18 ?_
    refine x_ishl dX10_grown_19 ?_
    refine x_iconst (v := 1) dX10_grown_20 (by decide) ?_
    refine x_aload_n dX10_grown_21 rfl ?_
    refine x_get fX10_18 (by assumption) rfl dX10_grown_22 ?_
    refine x_iload_n dX10_grown_25 rfl ?_
    refine x_iald _ (by assumption) rfl (by omega) (by decide) dX10_grown_26 ?_
    refine x_ishl dX10_grown_27 ?_
    refine x_ior dX10_grown_28 ?_
    rw [e1, e2, sh1 _ (by omega), sh1 _ (by omega), fa_or]
    refine x_ist_4 dX10_grown_29 (by decide) rfl ?_
    refine x_aload_n dX10_grown_31 rfl ?_
    refine x_iload_n dX10_grown_32 rfl ?_
    refine x_rdV (c_X10_isThere hv (by omega)) (by assumption) lkX10_isThere sX10_99 dX10_grown_33 rfl rfl (Nat.le_of_ble_eq_true rfl) (by decide) ⟨rfl, rfl, by decide, by decide⟩ ?_
    refine x_if_eqB 51 dX10_grown_36 (by decide) (fun c36 => ?_) (fun c36 => ?_)
    · refine x_inc_3  dX10_grown_51 (by decide) (nI_inc _) rfl ?_
      refine x_goto 4 dX10_grown_54 (by decide) ?_
      have := ih (some (.int (nI (2 ^ V.2.2 1 i ||| 2 ^ V.2.2 2 i))))
      rw [gr, if_neg (fun q => c36 q.1)] at this; exact this
    · refine x_iload_n dX10_grown_39 rfl ?_
      refine x_iload dX10_grown_40 rfl ?_
      refine x_iand dX10_grown_42 ?_
      refine x_if_eq 51 dX10_grown_43 (by decide) (fun c43 => ?_) (fun c43 => ?_)
      · refine x_inc_3  dX10_grown_51 (by decide) (nI_inc _) rfl ?_
        refine x_goto 4 dX10_grown_54 (by decide) ?_
        have := ih (some (.int (nI (2 ^ V.2.2 1 i ||| 2 ^ V.2.2 2 i))))
        rw [gr, if_neg (fun q => ea.mp c43 q.2)] at this; exact this
      · refine x_iload_n dX10_grown_46 rfl ?_
        refine x_iload dX10_grown_47 rfl ?_
        refine x_ior dX10_grown_49 ?_
        refine x_ist_2 dX10_grown_50 (by decide) rfl ?_
        refine x_inc_3  dX10_grown_51 (by decide) (nI_inc _) rfl ?_
        refine x_goto 4 dX10_grown_54 (by decide) ?_
        have := ih (some (.int (nI (2 ^ V.2.2 1 i ||| 2 ^ V.2.2 2 i))))
        rw [gr, if_pos ⟨c36, Decidable.not_not.mp (fun q => c43 (ea.mpr q))⟩] at this; rw [fa_or]; exact this
  · refine x_iload_n dX10_grown_4 rfl ?_
    refine x_aload_n dX10_grown_5 rfl ?_
    refine x_get fX10_61 (by assumption) rfl dX10_grown_6 ?_
    refine x_icmp_ge_t 57 dX10_grown_9 (by decide) (ge_t rfl (by omega)) ?_
    refine x_iload_n dX10_grown_57 rfl ?_
    refine x_iret rfl dX10_grown_58 ⟨by decide, by decide⟩ ?_
    exact ⟨rfl, rfl⟩
theorem rea_lt {V : VS} (hv : okV V) (t : Nat) {c : Nat} (hc : c < 8) : ∀ d, rea V t c d < 256
  | 0 => Nat.pow_lt_pow_right (n := 8) (by decide) hc
  | d + 1 => gr_lt hv t _ (rea_lt hv t hc d) _ (Nat.le_refl _)
theorem c8 {i : Nat} (h : i < 8) : ¬ (8 : Int32) ≤ nI i := nI_ge (a := i) (b := 8) h (by decide)
set_option maxRecDepth 10000 in
set_option maxHeartbeats 2000000 in
theorem c_X10_reachFrom {g : gG} {h : gH} {w : Nat} {V : VS} {c : Nat} (hv : isV h w V) (hc : c < 8) : Rd g mX10_reachFrom [.ref w, .int (nI c)] h (.int (nI (rea V (V.1 3) c 7))) := by
  obtain ⟨okw, a, hww, rpw⟩ := id hv
  have kwp : V.1 0 ≤ 8 := okw.1.1
  have kww : V.1 1 ≤ 4 := okw.1.2.1
  have kwr : V.1 2 ≤ 4 := okw.1.2.2
  have w0 : h.1 w = some (.inr (10, wF w (wS V))) := hww.1
  have w1 : h.1 (w + 1) = some (.inl (0, 8, .inl (a 0))) := hww.2 0 (by decide)
  have w2 : h.1 (w + 2) = some (.inl (0, 8, .inl (a 1))) := hww.2 1 (by decide)
  have w3 : h.1 (w + 3) = some (.inl (0, 8, .inl (a 2))) := hww.2 2 (by decide)
  have w4 : h.1 (w + 4) = some (.inl (0, 8, .inl (a 3))) := hww.2 3 (by decide)
  have w5 : h.1 (w + 5) = some (.inl (0, 8, .inl (a 4))) := hww.2 4 (by decide)
  have w6 : h.1 (w + 6) = some (.inl (0, 4, .inl (a 5))) := hww.2 5 (by decide)
  have w7 : h.1 (w + 7) = some (.inl (0, 4, .inl (a 6))) := hww.2 6 (by decide)
  have w8 : h.1 (w + 8) = some (.inl (0, 4, .inl (a 7))) := hww.2 7 (by decide)
  have w9 : h.1 (w + 9) = some (.inl (0, 8, .inl (a 8))) := hww.2 8 (by decide)
  have w10 : h.1 (w + 10) = some (.inl (0, 4, .inl (a 9))) := hww.2 9 (by decide)
  have w11 : h.1 (w + 11) = some (.inl (0, 4, .inl (a 10))) := hww.2 10 (by decide)
  refine Cn.of (L := [some (.ref w), some (.int (nI c)), none, none]) (by decide) (Nat.le_of_ble_eq_true rfl) rfl ?_
  refine x_iconst (v := 1) dX10_reachFrom_0 (by decide) ?_
  refine x_iload_n dX10_reachFrom_1 rfl ?_
  refine x_ishl dX10_reachFrom_2 ?_
  rw [sh1 _ (by omega)]
  refine x_ist_2 dX10_reachFrom_3 (by decide) rfl ?_
  refine x_iconst (v := 1) dX10_reachFrom_4 (by decide) ?_
  refine x_ist_3 dX10_reachFrom_5 (by decide) rfl ?_
  refine lp_up (P := fun i => Ex g mX10_reachFrom _ 6 [some (.ref w), some (.int (nI c)), some (.int (nI (rea V (V.1 3) c i))), some (.int (nI (i + 1)))] [] h 0 0) 7 (fun i hi ih => ?_) ?_ 0 (by decide)
  · skip
    refine x_iload_n dX10_reachFrom_6 rfl ?_
    refine x_bipush (v := 8) dX10_reachFrom_7 (by decide) ?_
    refine x_icmp_ge_f 24 dX10_reachFrom_9 (by decide) (c8 (by omega)) ?_
    refine x_aload_n dX10_reachFrom_12 rfl ?_
    refine x_iload_n dX10_reachFrom_13 rfl ?_
    refine x_rdV (c_X10_grown hv (rea_lt okw _ hc _)) (by assumption) lkX10_grown sX10_135 dX10_reachFrom_14 rfl rfl (Nat.le_of_ble_eq_true rfl) (by decide) ⟨rfl, rfl, by decide, by decide⟩ ?_
    refine x_ist_2 dX10_reachFrom_17 (by decide) rfl ?_
    refine x_inc_3  dX10_reachFrom_18 (by decide) (nI_inc _) rfl ?_
    refine x_goto 6 dX10_reachFrom_21 (by decide) ?_
    exact ih
  · refine x_iload_n dX10_reachFrom_6 rfl ?_
    refine x_bipush (v := 8) dX10_reachFrom_7 (by decide) ?_
    refine x_icmp_ge_t 24 dX10_reachFrom_9 (by decide) (by decide) ?_
    refine x_iload_n dX10_reachFrom_24 rfl ?_
    refine x_iret rfl dX10_reachFrom_25 ⟨by decide, by decide⟩ ?_
    exact ⟨rfl, rfl⟩
set_option maxRecDepth 10000 in
set_option maxHeartbeats 2000000 in
theorem c_X10_nearFirstClearing {g : gG} {h : gH} {w : Nat} {V : VS} (hv : isV h w V) : Rd g mX10_nearFirstClearing [.ref w] h (.int (nI (bc8 (rea V (V.1 3) 0 7)))) := by
  obtain ⟨okw, a, hww, rpw⟩ := id hv
  have kwp : V.1 0 ≤ 8 := okw.1.1
  have kww : V.1 1 ≤ 4 := okw.1.2.1
  have kwr : V.1 2 ≤ 4 := okw.1.2.2
  have w0 : h.1 w = some (.inr (10, wF w (wS V))) := hww.1
  have w1 : h.1 (w + 1) = some (.inl (0, 8, .inl (a 0))) := hww.2 0 (by decide)
  have w2 : h.1 (w + 2) = some (.inl (0, 8, .inl (a 1))) := hww.2 1 (by decide)
  have w3 : h.1 (w + 3) = some (.inl (0, 8, .inl (a 2))) := hww.2 2 (by decide)
  have w4 : h.1 (w + 4) = some (.inl (0, 8, .inl (a 3))) := hww.2 3 (by decide)
  have w5 : h.1 (w + 5) = some (.inl (0, 8, .inl (a 4))) := hww.2 4 (by decide)
  have w6 : h.1 (w + 6) = some (.inl (0, 4, .inl (a 5))) := hww.2 5 (by decide)
  have w7 : h.1 (w + 7) = some (.inl (0, 4, .inl (a 6))) := hww.2 6 (by decide)
  have w8 : h.1 (w + 8) = some (.inl (0, 4, .inl (a 7))) := hww.2 7 (by decide)
  have w9 : h.1 (w + 9) = some (.inl (0, 8, .inl (a 8))) := hww.2 8 (by decide)
  have w10 : h.1 (w + 10) = some (.inl (0, 4, .inl (a 9))) := hww.2 9 (by decide)
  have w11 : h.1 (w + 11) = some (.inl (0, 4, .inl (a 10))) := hww.2 10 (by decide)
  refine Cn.of (L := [some (.ref w)]) (by decide) (Nat.le_of_ble_eq_true rfl) rfl ?_
  refine x_aload_n dX10_nearFirstClearing_0 rfl ?_
  refine x_iconst (v := 0) dX10_nearFirstClearing_1 (by decide) ?_
  refine x_rdV (c_X10_reachFrom (c := 0) hv (by decide)) (by assumption) lkX10_reachFrom sX10_138 dX10_nearFirstClearing_2 rfl rfl (Nat.le_of_ble_eq_true rfl) (by decide) ⟨rfl, rfl, by decide, by decide⟩ ?_
  refine x_rdS (c_J6_bitCount_0f7a4 (rea_lt okw _ (by decide) _)) lkJ6_bitCount_0f7a4 sX10_141 dX10_nearFirstClearing_5 rfl rfl (Nat.le_of_ble_eq_true rfl) (by decide) ⟨rfl, rfl, by decide, by decide⟩ ?_
  refine x_iret rfl dX10_nearFirstClearing_8 ⟨by decide, by decide⟩ ?_
  exact ⟨rfl, rfl⟩
