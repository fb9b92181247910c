section XB
variable {g : gG} {M : gM} {Z : gZt} {pc : Nat} {L : List (Option Value)} {st : List Value} {h : gH} {k n : Nat}
theorem x_icmp_eq_t {x y : Int32} {off : Int} (tgt : Nat) (d : decode M.2.1 pc = .ok (.if_icmp .eq off, 3)) (ht : (pc : Int) + off = (tgt : Int)) (hc : x = y) (kk : Ex g M Z tgt L st h k n) : Ex g M Z pc L (.int y :: .int x :: st) h k n := x_icmp_eq tgt d ht (fun _ => kk) (fun q => absurd hc q)
theorem x_icmp_eq_f {x y : Int32} {off : Int} (tgt : Nat) (d : decode M.2.1 pc = .ok (.if_icmp .eq off, 3)) (ht : (pc : Int) + off = (tgt : Int)) (hc : ¬ x = y) (kk : Ex g M Z (pc + 3) L st h k n) : Ex g M Z pc L (.int y :: .int x :: st) h k n := x_icmp_eq tgt d ht (fun q => absurd q hc) (fun _ => kk)
theorem x_if_eq_t {x : Int32} {off : Int} (tgt : Nat) (d : decode M.2.1 pc = .ok (.ifCond .eq off, 3)) (ht : (pc : Int) + off = (tgt : Int)) (hc : x = 0) (kk : Ex g M Z tgt L st h k n) : Ex g M Z pc L (.int x :: st) h k n := x_if_eq tgt d ht (fun _ => kk) (fun q => absurd hc q)
theorem x_if_eq_f {x : Int32} {off : Int} (tgt : Nat) (d : decode M.2.1 pc = .ok (.ifCond .eq off, 3)) (ht : (pc : Int) + off = (tgt : Int)) (hc : ¬ x = 0) (kk : Ex g M Z (pc + 3) L st h k n) : Ex g M Z pc L (.int x :: st) h k n := x_if_eq tgt d ht (fun q => absurd q hc) (fun _ => kk)
theorem x_icmp_ne_t {x y : Int32} {off : Int} (tgt : Nat) (d : decode M.2.1 pc = .ok (.if_icmp .ne off, 3)) (ht : (pc : Int) + off = (tgt : Int)) (hc : ¬ x = y) (kk : Ex g M Z tgt L st h k n) : Ex g M Z pc L (.int y :: .int x :: st) h k n := x_icmp_ne tgt d ht (fun _ => kk) (fun q => absurd q hc)
theorem x_icmp_ne_f {x y : Int32} {off : Int} (tgt : Nat) (d : decode M.2.1 pc = .ok (.if_icmp .ne off, 3)) (ht : (pc : Int) + off = (tgt : Int)) (hc : x = y) (kk : Ex g M Z (pc + 3) L st h k n) : Ex g M Z pc L (.int y :: .int x :: st) h k n := x_icmp_ne tgt d ht (fun q => absurd hc q) (fun _ => kk)
theorem x_if_ne_t {x : Int32} {off : Int} (tgt : Nat) (d : decode M.2.1 pc = .ok (.ifCond .ne off, 3)) (ht : (pc : Int) + off = (tgt : Int)) (hc : ¬ x = 0) (kk : Ex g M Z tgt L st h k n) : Ex g M Z pc L (.int x :: st) h k n := x_if_ne tgt d ht (fun _ => kk) (fun q => absurd q hc)
theorem x_if_ne_f {x : Int32} {off : Int} (tgt : Nat) (d : decode M.2.1 pc = .ok (.ifCond .ne off, 3)) (ht : (pc : Int) + off = (tgt : Int)) (hc : x = 0) (kk : Ex g M Z (pc + 3) L st h k n) : Ex g M Z pc L (.int x :: st) h k n := x_if_ne tgt d ht (fun q => absurd hc q) (fun _ => kk)
theorem x_icmp_lt_t {x y : Int32} {off : Int} (tgt : Nat) (d : decode M.2.1 pc = .ok (.if_icmp .lt off, 3)) (ht : (pc : Int) + off = (tgt : Int)) (hc : x < y) (kk : Ex g M Z tgt L st h k n) : Ex g M Z pc L (.int y :: .int x :: st) h k n := x_icmp_lt tgt d ht (fun _ => kk) (fun q => absurd hc q)
theorem x_icmp_lt_f {x y : Int32} {off : Int} (tgt : Nat) (d : decode M.2.1 pc = .ok (.if_icmp .lt off, 3)) (ht : (pc : Int) + off = (tgt : Int)) (hc : ¬ x < y) (kk : Ex g M Z (pc + 3) L st h k n) : Ex g M Z pc L (.int y :: .int x :: st) h k n := x_icmp_lt tgt d ht (fun q => absurd q hc) (fun _ => kk)
theorem x_if_lt_t {x : Int32} {off : Int} (tgt : Nat) (d : decode M.2.1 pc = .ok (.ifCond .lt off, 3)) (ht : (pc : Int) + off = (tgt : Int)) (hc : x < 0) (kk : Ex g M Z tgt L st h k n) : Ex g M Z pc L (.int x :: st) h k n := x_if_lt tgt d ht (fun _ => kk) (fun q => absurd hc q)
theorem x_if_lt_f {x : Int32} {off : Int} (tgt : Nat) (d : decode M.2.1 pc = .ok (.ifCond .lt off, 3)) (ht : (pc : Int) + off = (tgt : Int)) (hc : ¬ x < 0) (kk : Ex g M Z (pc + 3) L st h k n) : Ex g M Z pc L (.int x :: st) h k n := x_if_lt tgt d ht (fun q => absurd q hc) (fun _ => kk)
theorem x_icmp_ge_t {x y : Int32} {off : Int} (tgt : Nat) (d : decode M.2.1 pc = .ok (.if_icmp .ge off, 3)) (ht : (pc : Int) + off = (tgt : Int)) (hc : y ≤ x) (kk : Ex g M Z tgt L st h k n) : Ex g M Z pc L (.int y :: .int x :: st) h k n := x_icmp_ge tgt d ht (fun _ => kk) (fun q => absurd hc q)
theorem x_icmp_ge_f {x y : Int32} {off : Int} (tgt : Nat) (d : decode M.2.1 pc = .ok (.if_icmp .ge off, 3)) (ht : (pc : Int) + off = (tgt : Int)) (hc : ¬ y ≤ x) (kk : Ex g M Z (pc + 3) L st h k n) : Ex g M Z pc L (.int y :: .int x :: st) h k n := x_icmp_ge tgt d ht (fun q => absurd q hc) (fun _ => kk)
theorem x_if_ge_t {x : Int32} {off : Int} (tgt : Nat) (d : decode M.2.1 pc = .ok (.ifCond .ge off, 3)) (ht : (pc : Int) + off = (tgt : Int)) (hc : 0 ≤ x) (kk : Ex g M Z tgt L st h k n) : Ex g M Z pc L (.int x :: st) h k n := x_if_ge tgt d ht (fun _ => kk) (fun q => absurd hc q)
theorem x_if_ge_f {x : Int32} {off : Int} (tgt : Nat) (d : decode M.2.1 pc = .ok (.ifCond .ge off, 3)) (ht : (pc : Int) + off = (tgt : Int)) (hc : ¬ 0 ≤ x) (kk : Ex g M Z (pc + 3) L st h k n) : Ex g M Z pc L (.int x :: st) h k n := x_if_ge tgt d ht (fun q => absurd q hc) (fun _ => kk)
theorem x_icmp_gt_t {x y : Int32} {off : Int} (tgt : Nat) (d : decode M.2.1 pc = .ok (.if_icmp .gt off, 3)) (ht : (pc : Int) + off = (tgt : Int)) (hc : y < x) (kk : Ex g M Z tgt L st h k n) : Ex g M Z pc L (.int y :: .int x :: st) h k n := x_icmp_gt tgt d ht (fun _ => kk) (fun q => absurd hc q)
theorem x_icmp_gt_f {x y : Int32} {off : Int} (tgt : Nat) (d : decode M.2.1 pc = .ok (.if_icmp .gt off, 3)) (ht : (pc : Int) + off = (tgt : Int)) (hc : ¬ y < x) (kk : Ex g M Z (pc + 3) L st h k n) : Ex g M Z pc L (.int y :: .int x :: st) h k n := x_icmp_gt tgt d ht (fun q => absurd q hc) (fun _ => kk)
theorem x_if_gt_t {x : Int32} {off : Int} (tgt : Nat) (d : decode M.2.1 pc = .ok (.ifCond .gt off, 3)) (ht : (pc : Int) + off = (tgt : Int)) (hc : 0 < x) (kk : Ex g M Z tgt L st h k n) : Ex g M Z pc L (.int x :: st) h k n := x_if_gt tgt d ht (fun _ => kk) (fun q => absurd hc q)
theorem x_if_gt_f {x : Int32} {off : Int} (tgt : Nat) (d : decode M.2.1 pc = .ok (.ifCond .gt off, 3)) (ht : (pc : Int) + off = (tgt : Int)) (hc : ¬ 0 < x) (kk : Ex g M Z (pc + 3) L st h k n) : Ex g M Z pc L (.int x :: st) h k n := x_if_gt tgt d ht (fun q => absurd q hc) (fun _ => kk)
theorem x_icmp_le_t {x y : Int32} {off : Int} (tgt : Nat) (d : decode M.2.1 pc = .ok (.if_icmp .le off, 3)) (ht : (pc : Int) + off = (tgt : Int)) (hc : x ≤ y) (kk : Ex g M Z tgt L st h k n) : Ex g M Z pc L (.int y :: .int x :: st) h k n := x_icmp_le tgt d ht (fun _ => kk) (fun q => absurd hc q)
theorem x_icmp_le_f {x y : Int32} {off : Int} (tgt : Nat) (d : decode M.2.1 pc = .ok (.if_icmp .le off, 3)) (ht : (pc : Int) + off = (tgt : Int)) (hc : ¬ x ≤ y) (kk : Ex g M Z (pc + 3) L st h k n) : Ex g M Z pc L (.int y :: .int x :: st) h k n := x_icmp_le tgt d ht (fun q => absurd q hc) (fun _ => kk)
theorem x_if_le_t {x : Int32} {off : Int} (tgt : Nat) (d : decode M.2.1 pc = .ok (.ifCond .le off, 3)) (ht : (pc : Int) + off = (tgt : Int)) (hc : x ≤ 0) (kk : Ex g M Z tgt L st h k n) : Ex g M Z pc L (.int x :: st) h k n := x_if_le tgt d ht (fun _ => kk) (fun q => absurd hc q)
theorem x_if_le_f {x : Int32} {off : Int} (tgt : Nat) (d : decode M.2.1 pc = .ok (.ifCond .le off, 3)) (ht : (pc : Int) + off = (tgt : Int)) (hc : ¬ x ≤ 0) (kk : Ex g M Z (pc + 3) L st h k n) : Ex g M Z pc L (.int x :: st) h k n := x_if_le tgt d ht (fun q => absurd q hc) (fun _ => kk)
end XB
theorem swX5_narrowed_4 {g : gG} {Z : gZt} {L : List (Option Value)} {st : List Value} {h : gH} {k n : Nat} {x : Int32} (k0 : x = 0 → Ex g mX5_narrowed Z 32 L st h k n) (k1 : x = 1 → Ex g mX5_narrowed Z 36 L st h k n) (kd : ¬ x = 0 → ¬ x = 1 → Ex g mX5_narrowed Z 40 L st h k n) : Ex g mX5_narrowed Z 4 L (.int x :: st) h k n := by
  by_cases e0 : x = 0
  · subst e0; exact x_lookup (off := 28) 32 dX5_narrowed_4 (by decide +kernel) (by decide +kernel) (by decide) (k0 rfl)
  by_cases e1 : x = 1
  · subst e1; exact x_lookup (off := 32) 36 dX5_narrowed_4 (by decide +kernel) (by decide +kernel) (by decide) (k1 rfl)
  exact x_lookup (off := 36) 40 dX5_narrowed_4 (by decide +kernel) (by rw [lv_osw e0 (a := 0) (by decide), lv_osw e1 (a := 1) (by decide)]; rfl) (by decide) (kd e0 e1)
theorem swX10_staysOf_20 {g : gG} {Z : gZt} {L : List (Option Value)} {st : List Value} {h : gH} {k n : Nat} {x : Int32} (k0 : x = 1 → Ex g mX10_staysOf Z 56 L st h k n) (k1 : x = 2 → Ex g mX10_staysOf Z 58 L st h k n) (k2 : x = 3 → Ex g mX10_staysOf Z 61 L st h k n) (k3 : x = 4 → Ex g mX10_staysOf Z 65 L st h k n) (k4 : x = 5 → Ex g mX10_staysOf Z 84 L st h k n) (kd : ¬ x = 1 → ¬ x = 2 → ¬ x = 3 → ¬ x = 4 → ¬ x = 5 → Ex g mX10_staysOf Z 104 L st h k n) : Ex g mX10_staysOf Z 20 L (.int x :: st) h k n := by
  by_cases e0 : x = 1
  · subst e0; exact x_tableIn (off := 36) 56 dX10_staysOf_20 (by decide) (by decide) (by decide +kernel) (by decide) (k0 rfl)
  by_cases e1 : x = 2
  · subst e1; exact x_tableIn (off := 38) 58 dX10_staysOf_20 (by decide) (by decide) (by decide +kernel) (by decide) (k1 rfl)
  by_cases e2 : x = 3
  · subst e2; exact x_tableIn (off := 41) 61 dX10_staysOf_20 (by decide) (by decide) (by decide +kernel) (by decide) (k2 rfl)
  by_cases e3 : x = 4
  · subst e3; exact x_tableIn (off := 45) 65 dX10_staysOf_20 (by decide) (by decide) (by decide +kernel) (by decide) (k3 rfl)
  by_cases e4 : x = 5
  · subst e4; exact x_tableIn (off := 64) 84 dX10_staysOf_20 (by decide) (by decide) (by decide +kernel) (by decide) (k4 rfl)
  have n0 := lv_neT e0 (a := 1) (by decide)
  have n1 := lv_neT e1 (a := 2) (by decide)
  have n2 := lv_neT e2 (a := 3) (by decide)
  have n3 := lv_neT e3 (a := 4) (by decide)
  have n4 := lv_neT e4 (a := 5) (by decide)
  exact x_tableOut 104 dX10_staysOf_20 (by omega) (by decide) (kd e0 e1 e2 e3 e4)
theorem swX10_comesOf_6 {g : gG} {Z : gZt} {L : List (Option Value)} {st : List Value} {h : gH} {k n : Nat} {x : Int32} (k0 : x = 2 → Ex g mX10_comesOf Z 32 L st h k n) (k1 : x = 3 → Ex g mX10_comesOf Z 34 L st h k n) (k2 : x = 4 → Ex g mX10_comesOf Z 48 L st h k n) (kd : ¬ x = 2 → ¬ x = 3 → ¬ x = 4 → Ex g mX10_comesOf Z 66 L st h k n) : Ex g mX10_comesOf Z 6 L (.int x :: st) h k n := by
  by_cases e0 : x = 2
  · subst e0; exact x_tableIn (off := 26) 32 dX10_comesOf_6 (by decide) (by decide) (by decide +kernel) (by decide) (k0 rfl)
  by_cases e1 : x = 3
  · subst e1; exact x_tableIn (off := 28) 34 dX10_comesOf_6 (by decide) (by decide) (by decide +kernel) (by decide) (k1 rfl)
  by_cases e2 : x = 4
  · subst e2; exact x_tableIn (off := 42) 48 dX10_comesOf_6 (by decide) (by decide) (by decide +kernel) (by decide) (k2 rfl)
  have n0 := lv_neT e0 (a := 2) (by decide)
  have n1 := lv_neT e1 (a := 3) (by decide)
  have n2 := lv_neT e2 (a := 4) (by decide)
  exact x_tableOut 66 dX10_comesOf_6 (by omega) (by decide) (kd e0 e1 e2)
theorem swX11_pathOf_14 {g : gG} {Z : gZt} {L : List (Option Value)} {st : List Value} {h : gH} {k n : Nat} {x : Int32} (k0 : x = 0 → Ex g mX11_pathOf Z 64 L st h k n) (k1 : x = 1 → Ex g mX11_pathOf Z 74 L st h k n) (k2 : x = 2 → Ex g mX11_pathOf Z 84 L st h k n) (k3 : x = 3 → Ex g mX11_pathOf Z 94 L st h k n) (k4 : x = 4 → Ex g mX11_pathOf Z 104 L st h k n) (k5 : x = 5 → Ex g mX11_pathOf Z 114 L st h k n) (k6 : x = 6 → Ex g mX11_pathOf Z 131 L st h k n) (k7 : x = 7 → Ex g mX11_pathOf Z 140 L st h k n) (k8 : x = 8 → Ex g mX11_pathOf Z 149 L st h k n) (kd : ¬ x = 0 → ¬ x = 1 → ¬ x = 2 → ¬ x = 3 → ¬ x = 4 → ¬ x = 5 → ¬ x = 6 → ¬ x = 7 → ¬ x = 8 → Ex g mX11_pathOf Z 158 L st h k n) : Ex g mX11_pathOf Z 14 L (.int x :: st) h k n := by
  by_cases e0 : x = 0
  · subst e0; exact x_tableIn (off := 50) 64 dX11_pathOf_14 (by decide) (by decide) (by decide +kernel) (by decide) (k0 rfl)
  by_cases e1 : x = 1
  · subst e1; exact x_tableIn (off := 60) 74 dX11_pathOf_14 (by decide) (by decide) (by decide +kernel) (by decide) (k1 rfl)
  by_cases e2 : x = 2
  · subst e2; exact x_tableIn (off := 70) 84 dX11_pathOf_14 (by decide) (by decide) (by decide +kernel) (by decide) (k2 rfl)
  by_cases e3 : x = 3
  · subst e3; exact x_tableIn (off := 80) 94 dX11_pathOf_14 (by decide) (by decide) (by decide +kernel) (by decide) (k3 rfl)
  by_cases e4 : x = 4
  · subst e4; exact x_tableIn (off := 90) 104 dX11_pathOf_14 (by decide) (by decide) (by decide +kernel) (by decide) (k4 rfl)
  by_cases e5 : x = 5
  · subst e5; exact x_tableIn (off := 100) 114 dX11_pathOf_14 (by decide) (by decide) (by decide +kernel) (by decide) (k5 rfl)
  by_cases e6 : x = 6
  · subst e6; exact x_tableIn (off := 117) 131 dX11_pathOf_14 (by decide) (by decide) (by decide +kernel) (by decide) (k6 rfl)
  by_cases e7 : x = 7
  · subst e7; exact x_tableIn (off := 126) 140 dX11_pathOf_14 (by decide) (by decide) (by decide +kernel) (by decide) (k7 rfl)
  by_cases e8 : x = 8
  · subst e8; exact x_tableIn (off := 135) 149 dX11_pathOf_14 (by decide) (by decide) (by decide +kernel) (by decide) (k8 rfl)
  have n0 := lv_neT e0 (a := 0) (by decide)
  have n1 := lv_neT e1 (a := 1) (by decide)
  have n2 := lv_neT e2 (a := 2) (by decide)
  have n3 := lv_neT e3 (a := 3) (by decide)
  have n4 := lv_neT e4 (a := 4) (by decide)
  have n5 := lv_neT e5 (a := 5) (by decide)
  have n6 := lv_neT e6 (a := 6) (by decide)
  have n7 := lv_neT e7 (a := 7) (by decide)
  have n8 := lv_neT e8 (a := 8) (by decide)
  exact x_tableOut 158 dX11_pathOf_14 (by omega) (by decide) (kd e0 e1 e2 e3 e4 e5 e6 e7 e8)
theorem swX11_walkerOf_14 {g : gG} {Z : gZt} {L : List (Option Value)} {st : List Value} {h : gH} {k n : Nat} {x : Int32} (k0 : x = 0 → Ex g mX11_walkerOf Z 40 L st h k n) (k1 : x = 1 → Ex g mX11_walkerOf Z 50 L st h k n) (k2 : x = 2 → Ex g mX11_walkerOf Z 60 L st h k n) (kd : ¬ x = 0 → ¬ x = 1 → ¬ x = 2 → Ex g mX11_walkerOf Z 70 L st h k n) : Ex g mX11_walkerOf Z 14 L (.int x :: st) h k n := by
  by_cases e0 : x = 0
  · subst e0; exact x_tableIn (off := 26) 40 dX11_walkerOf_14 (by decide) (by decide) (by decide +kernel) (by decide) (k0 rfl)
  by_cases e1 : x = 1
  · subst e1; exact x_tableIn (off := 36) 50 dX11_walkerOf_14 (by decide) (by decide) (by decide +kernel) (by decide) (k1 rfl)
  by_cases e2 : x = 2
  · subst e2; exact x_tableIn (off := 46) 60 dX11_walkerOf_14 (by decide) (by decide) (by decide +kernel) (by decide) (k2 rfl)
  have n0 := lv_neT e0 (a := 0) (by decide)
  have n1 := lv_neT e1 (a := 1) (by decide)
  have n2 := lv_neT e2 (a := 2) (by decide)
  exact x_tableOut 70 dX11_walkerOf_14 (by omega) (by decide) (kd e0 e1 e2)
theorem swX11_count_1 {g : gG} {Z : gZt} {L : List (Option Value)} {st : List Value} {h : gH} {k n : Nat} {x : Int32} (k0 : x = 0 → Ex g mX11_count Z 36 L st h k n) (k1 : x = 1 → Ex g mX11_count Z 44 L st h k n) (k2 : x = 2 → Ex g mX11_count Z 52 L st h k n) (k3 : x = 3 → Ex g mX11_count Z 60 L st h k n) (k4 : x = 4 → Ex g mX11_count Z 69 L st h k n) (kd : ¬ x = 0 → ¬ x = 1 → ¬ x = 2 → ¬ x = 3 → ¬ x = 4 → Ex g mX11_count Z 78 L st h k n) : Ex g mX11_count Z 1 L (.int x :: st) h k n := by
  by_cases e0 : x = 0
  · subst e0; exact x_tableIn (off := 35) 36 dX11_count_1 (by decide) (by decide) (by decide +kernel) (by decide) (k0 rfl)
  by_cases e1 : x = 1
  · subst e1; exact x_tableIn (off := 43) 44 dX11_count_1 (by decide) (by decide) (by decide +kernel) (by decide) (k1 rfl)
  by_cases e2 : x = 2
  · subst e2; exact x_tableIn (off := 51) 52 dX11_count_1 (by decide) (by decide) (by decide +kernel) (by decide) (k2 rfl)
  by_cases e3 : x = 3
  · subst e3; exact x_tableIn (off := 59) 60 dX11_count_1 (by decide) (by decide) (by decide +kernel) (by decide) (k3 rfl)
  by_cases e4 : x = 4
  · subst e4; exact x_tableIn (off := 68) 69 dX11_count_1 (by decide) (by decide) (by decide +kernel) (by decide) (k4 rfl)
  have n0 := lv_neT e0 (a := 0) (by decide)
  have n1 := lv_neT e1 (a := 1) (by decide)
  have n2 := lv_neT e2 (a := 2) (by decide)
  have n3 := lv_neT e3 (a := 3) (by decide)
  have n4 := lv_neT e4 (a := 4) (by decide)
  exact x_tableOut 78 dX11_count_1 (by omega) (by decide) (kd e0 e1 e2 e3 e4)
theorem swX11_ruleOf_14 {g : gG} {Z : gZt} {L : List (Option Value)} {st : List Value} {h : gH} {k n : Nat} {x : Int32} (k0 : x = 0 → Ex g mX11_ruleOf Z 40 L st h k n) (k1 : x = 1 → Ex g mX11_ruleOf Z 50 L st h k n) (kd : ¬ x = 0 → ¬ x = 1 → Ex g mX11_ruleOf Z 60 L st h k n) : Ex g mX11_ruleOf Z 14 L (.int x :: st) h k n := by
  by_cases e0 : x = 0
  · subst e0; exact x_lookup (off := 26) 40 dX11_ruleOf_14 (by decide +kernel) (by decide +kernel) (by decide) (k0 rfl)
  by_cases e1 : x = 1
  · subst e1; exact x_lookup (off := 36) 50 dX11_ruleOf_14 (by decide +kernel) (by decide +kernel) (by decide) (k1 rfl)
  exact x_lookup (off := 46) 60 dX11_ruleOf_14 (by decide +kernel) (by rw [lv_osw e0 (a := 0) (by decide), lv_osw e1 (a := 1) (by decide)]; rfl) (by decide) (kd e0 e1)
theorem swX11_act_54 {g : gG} {Z : gZt} {L : List (Option Value)} {st : List Value} {h : gH} {k n : Nat} {x : Int32} (k0 : x = 0 → Ex g mX11_act Z 80 L st h k n) (k1 : x = 1 → Ex g mX11_act Z 91 L st h k n) (k2 : x = 2 → Ex g mX11_act Z 102 L st h k n) (kd : ¬ x = 0 → ¬ x = 1 → ¬ x = 2 → Ex g mX11_act Z 113 L st h k n) : Ex g mX11_act Z 54 L (.int x :: st) h k n := by
  by_cases e0 : x = 0
  · subst e0; exact x_tableIn (off := 26) 80 dX11_act_54 (by decide) (by decide) (by decide +kernel) (by decide) (k0 rfl)
  by_cases e1 : x = 1
  · subst e1; exact x_tableIn (off := 37) 91 dX11_act_54 (by decide) (by decide) (by decide +kernel) (by decide) (k1 rfl)
  by_cases e2 : x = 2
  · subst e2; exact x_tableIn (off := 48) 102 dX11_act_54 (by decide) (by decide) (by decide +kernel) (by decide) (k2 rfl)
  have n0 := lv_neT e0 (a := 0) (by decide)
  have n1 := lv_neT e1 (a := 1) (by decide)
  have n2 := lv_neT e2 (a := 2) (by decide)
  exact x_tableOut 113 dX11_act_54 (by omega) (by decide) (kd e0 e1 e2)
theorem swX11_many_1 {g : gG} {Z : gZt} {L : List (Option Value)} {st : List Value} {h : gH} {k n : Nat} {x : Int32} (k0 : x = 0 → Ex g mX11_many Z 40 L st h k n) (k1 : x = 1 → Ex g mX11_many Z 48 L st h k n) (k2 : x = 2 → Ex g mX11_many Z 56 L st h k n) (k3 : x = 3 → Ex g mX11_many Z 64 L st h k n) (k4 : x = 4 → Ex g mX11_many Z 69 L st h k n) (k5 : x = 5 → Ex g mX11_many Z 77 L st h k n) (kd : ¬ x = 0 → ¬ x = 1 → ¬ x = 2 → ¬ x = 3 → ¬ x = 4 → ¬ x = 5 → Ex g mX11_many Z 85 L st h k n) : Ex g mX11_many Z 1 L (.int x :: st) h k n := by
  by_cases e0 : x = 0
  · subst e0; exact x_tableIn (off := 39) 40 dX11_many_1 (by decide) (by decide) (by decide +kernel) (by decide) (k0 rfl)
  by_cases e1 : x = 1
  · subst e1; exact x_tableIn (off := 47) 48 dX11_many_1 (by decide) (by decide) (by decide +kernel) (by decide) (k1 rfl)
  by_cases e2 : x = 2
  · subst e2; exact x_tableIn (off := 55) 56 dX11_many_1 (by decide) (by decide) (by decide +kernel) (by decide) (k2 rfl)
  by_cases e3 : x = 3
  · subst e3; exact x_tableIn (off := 63) 64 dX11_many_1 (by decide) (by decide) (by decide +kernel) (by decide) (k3 rfl)
  by_cases e4 : x = 4
  · subst e4; exact x_tableIn (off := 68) 69 dX11_many_1 (by decide) (by decide) (by decide +kernel) (by decide) (k4 rfl)
  by_cases e5 : x = 5
  · subst e5; exact x_tableIn (off := 76) 77 dX11_many_1 (by decide) (by decide) (by decide +kernel) (by decide) (k5 rfl)
  have n0 := lv_neT e0 (a := 0) (by decide)
  have n1 := lv_neT e1 (a := 1) (by decide)
  have n2 := lv_neT e2 (a := 2) (by decide)
  have n3 := lv_neT e3 (a := 3) (by decide)
  have n4 := lv_neT e4 (a := 4) (by decide)
  have n5 := lv_neT e5 (a := 5) (by decide)
  exact x_tableOut 85 dX11_many_1 (by omega) (by decide) (kd e0 e1 e2 e3 e4 e5)
theorem swX11_thingOf_19 {g : gG} {Z : gZt} {L : List (Option Value)} {st : List Value} {h : gH} {k n : Nat} {x : Int32} (k0 : x = 1 → Ex g mX11_thingOf Z 52 L st h k n) (k1 : x = 2 → Ex g mX11_thingOf Z 66 L st h k n) (k2 : x = 3 → Ex g mX11_thingOf Z 80 L st h k n) (k3 : x = 4 → Ex g mX11_thingOf Z 94 L st h k n) (k4 : x = 5 → Ex g mX11_thingOf Z 108 L st h k n) (kd : ¬ x = 1 → ¬ x = 2 → ¬ x = 3 → ¬ x = 4 → ¬ x = 5 → Ex g mX11_thingOf Z 122 L st h k n) : Ex g mX11_thingOf Z 19 L (.int x :: st) h k n := by
  by_cases e0 : x = 1
  · subst e0; exact x_tableIn (off := 33) 52 dX11_thingOf_19 (by decide) (by decide) (by decide +kernel) (by decide) (k0 rfl)
  by_cases e1 : x = 2
  · subst e1; exact x_tableIn (off := 47) 66 dX11_thingOf_19 (by decide) (by decide) (by decide +kernel) (by decide) (k1 rfl)
  by_cases e2 : x = 3
  · subst e2; exact x_tableIn (off := 61) 80 dX11_thingOf_19 (by decide) (by decide) (by decide +kernel) (by decide) (k2 rfl)
  by_cases e3 : x = 4
  · subst e3; exact x_tableIn (off := 75) 94 dX11_thingOf_19 (by decide) (by decide) (by decide +kernel) (by decide) (k3 rfl)
  by_cases e4 : x = 5
  · subst e4; exact x_tableIn (off := 89) 108 dX11_thingOf_19 (by decide) (by decide) (by decide +kernel) (by decide) (k4 rfl)
  have n0 := lv_neT e0 (a := 1) (by decide)
  have n1 := lv_neT e1 (a := 2) (by decide)
  have n2 := lv_neT e2 (a := 3) (by decide)
  have n3 := lv_neT e3 (a := 4) (by decide)
  have n4 := lv_neT e4 (a := 5) (by decide)
  exact x_tableOut 122 dX11_thingOf_19 (by omega) (by decide) (kd e0 e1 e2 e3 e4)
theorem swX12_staysOf_22 {g : gG} {Z : gZt} {L : List (Option Value)} {st : List Value} {h : gH} {k n : Nat} {x : Int32} (k0 : x = 1 → Ex g mX12_staysOf Z 56 L st h k n) (k1 : x = 2 → Ex g mX12_staysOf Z 58 L st h k n) (k2 : x = 3 → Ex g mX12_staysOf Z 76 L st h k n) (k3 : x = 4 → Ex g mX12_staysOf Z 80 L st h k n) (k4 : x = 5 → Ex g mX12_staysOf Z 61 L st h k n) (kd : ¬ x = 1 → ¬ x = 2 → ¬ x = 3 → ¬ x = 4 → ¬ x = 5 → Ex g mX12_staysOf Z 100 L st h k n) : Ex g mX12_staysOf Z 22 L (.int x :: st) h k n := by
  by_cases e0 : x = 1
  · subst e0; exact x_tableIn (off := 34) 56 dX12_staysOf_22 (by decide) (by decide) (by decide +kernel) (by decide) (k0 rfl)
  by_cases e1 : x = 2
  · subst e1; exact x_tableIn (off := 36) 58 dX12_staysOf_22 (by decide) (by decide) (by decide +kernel) (by decide) (k1 rfl)
  by_cases e2 : x = 3
  · subst e2; exact x_tableIn (off := 54) 76 dX12_staysOf_22 (by decide) (by decide) (by decide +kernel) (by decide) (k2 rfl)
  by_cases e3 : x = 4
  · subst e3; exact x_tableIn (off := 58) 80 dX12_staysOf_22 (by decide) (by decide) (by decide +kernel) (by decide) (k3 rfl)
  by_cases e4 : x = 5
  · subst e4; exact x_tableIn (off := 39) 61 dX12_staysOf_22 (by decide) (by decide) (by decide +kernel) (by decide) (k4 rfl)
  have n0 := lv_neT e0 (a := 1) (by decide)
  have n1 := lv_neT e1 (a := 2) (by decide)
  have n2 := lv_neT e2 (a := 3) (by decide)
  have n3 := lv_neT e3 (a := 4) (by decide)
  have n4 := lv_neT e4 (a := 5) (by decide)
  exact x_tableOut 100 dX12_staysOf_22 (by omega) (by decide) (kd e0 e1 e2 e3 e4)
theorem swX12_comesOf_13 {g : gG} {Z : gZt} {L : List (Option Value)} {st : List Value} {h : gH} {k n : Nat} {x : Int32} (k0 : x = 2 → Ex g mX12_comesOf Z 40 L st h k n) (k1 : x = 3 → Ex g mX12_comesOf Z 42 L st h k n) (k2 : x = 4 → Ex g mX12_comesOf Z 51 L st h k n) (kd : ¬ x = 2 → ¬ x = 3 → ¬ x = 4 → Ex g mX12_comesOf Z 64 L st h k n) : Ex g mX12_comesOf Z 13 L (.int x :: st) h k n := by
  by_cases e0 : x = 2
  · subst e0; exact x_tableIn (off := 27) 40 dX12_comesOf_13 (by decide) (by decide) (by decide +kernel) (by decide) (k0 rfl)
  by_cases e1 : x = 3
  · subst e1; exact x_tableIn (off := 29) 42 dX12_comesOf_13 (by decide) (by decide) (by decide +kernel) (by decide) (k1 rfl)
  by_cases e2 : x = 4
  · subst e2; exact x_tableIn (off := 38) 51 dX12_comesOf_13 (by decide) (by decide) (by decide +kernel) (by decide) (k2 rfl)
  have n0 := lv_neT e0 (a := 2) (by decide)
  have n1 := lv_neT e1 (a := 3) (by decide)
  have n2 := lv_neT e2 (a := 4) (by decide)
  exact x_tableOut 64 dX12_comesOf_13 (by omega) (by decide) (kd e0 e1 e2)
theorem swX12_pathOf_21 {g : gG} {Z : gZt} {L : List (Option Value)} {st : List Value} {h : gH} {k n : Nat} {x : Int32} (k0 : x = 5 → Ex g mX12_pathOf Z 52 L st h k n) (k1 : x = 6 → Ex g mX12_pathOf Z 61 L st h k n) (k2 : x = 7 → Ex g mX12_pathOf Z 67 L st h k n) (k3 : x = 8 → Ex g mX12_pathOf Z 73 L st h k n) (kd : ¬ x = 5 → ¬ x = 6 → ¬ x = 7 → ¬ x = 8 → Ex g mX12_pathOf Z 79 L st h k n) : Ex g mX12_pathOf Z 21 L (.int x :: st) h k n := by
  by_cases e0 : x = 5
  · subst e0; exact x_tableIn (off := 31) 52 dX12_pathOf_21 (by decide) (by decide) (by decide +kernel) (by decide) (k0 rfl)
  by_cases e1 : x = 6
  · subst e1; exact x_tableIn (off := 40) 61 dX12_pathOf_21 (by decide) (by decide) (by decide +kernel) (by decide) (k1 rfl)
  by_cases e2 : x = 7
  · subst e2; exact x_tableIn (off := 46) 67 dX12_pathOf_21 (by decide) (by decide) (by decide +kernel) (by decide) (k2 rfl)
  by_cases e3 : x = 8
  · subst e3; exact x_tableIn (off := 52) 73 dX12_pathOf_21 (by decide) (by decide) (by decide +kernel) (by decide) (k3 rfl)
  have n0 := lv_neT e0 (a := 5) (by decide)
  have n1 := lv_neT e1 (a := 6) (by decide)
  have n2 := lv_neT e2 (a := 7) (by decide)
  have n3 := lv_neT e3 (a := 8) (by decide)
  exact x_tableOut 79 dX12_pathOf_21 (by omega) (by decide) (kd e0 e1 e2 e3)
theorem swX12_count_3 {g : gG} {Z : gZt} {L : List (Option Value)} {st : List Value} {h : gH} {k n : Nat} {x : Int32} (k0 : x = 0 → Ex g mX12_count Z 36 L st h k n) (k1 : x = 1 → Ex g mX12_count Z 41 L st h k n) (k2 : x = 2 → Ex g mX12_count Z 46 L st h k n) (k3 : x = 3 → Ex g mX12_count Z 51 L st h k n) (k4 : x = 4 → Ex g mX12_count Z 51 L st h k n) (kd : ¬ x = 0 → ¬ x = 1 → ¬ x = 2 → ¬ x = 3 → ¬ x = 4 → Ex g mX12_count Z 96 L st h k n) : Ex g mX12_count Z 3 L (.int x :: st) h k n := by
  by_cases e0 : x = 0
  · subst e0; exact x_tableIn (off := 33) 36 dX12_count_3 (by decide) (by decide) (by decide +kernel) (by decide) (k0 rfl)
  by_cases e1 : x = 1
  · subst e1; exact x_tableIn (off := 38) 41 dX12_count_3 (by decide) (by decide) (by decide +kernel) (by decide) (k1 rfl)
  by_cases e2 : x = 2
  · subst e2; exact x_tableIn (off := 43) 46 dX12_count_3 (by decide) (by decide) (by decide +kernel) (by decide) (k2 rfl)
  by_cases e3 : x = 3
  · subst e3; exact x_tableIn (off := 48) 51 dX12_count_3 (by decide) (by decide) (by decide +kernel) (by decide) (k3 rfl)
  by_cases e4 : x = 4
  · subst e4; exact x_tableIn (off := 48) 51 dX12_count_3 (by decide) (by decide) (by decide +kernel) (by decide) (k4 rfl)
  have n0 := lv_neT e0 (a := 0) (by decide)
  have n1 := lv_neT e1 (a := 1) (by decide)
  have n2 := lv_neT e2 (a := 2) (by decide)
  have n3 := lv_neT e3 (a := 3) (by decide)
  have n4 := lv_neT e4 (a := 4) (by decide)
  exact x_tableOut 96 dX12_count_3 (by omega) (by decide) (kd e0 e1 e2 e3 e4)
theorem swX12_goesBy_39 {g : gG} {Z : gZt} {L : List (Option Value)} {st : List Value} {h : gH} {k n : Nat} {x : Int32} (k0 : x = 0 → Ex g mX12_goesBy Z 64 L st h k n) (k1 : x = 1 → Ex g mX12_goesBy Z 64 L st h k n) (k2 : x = 2 → Ex g mX12_goesBy Z 72 L st h k n) (kd : ¬ x = 0 → ¬ x = 1 → ¬ x = 2 → Ex g mX12_goesBy Z 99 L st h k n) : Ex g mX12_goesBy Z 39 L (.int x :: st) h k n := by
  by_cases e0 : x = 0
  · subst e0; exact x_tableIn (off := 25) 64 dX12_goesBy_39 (by decide) (by decide) (by decide +kernel) (by decide) (k0 rfl)
  by_cases e1 : x = 1
  · subst e1; exact x_tableIn (off := 25) 64 dX12_goesBy_39 (by decide) (by decide) (by decide +kernel) (by decide) (k1 rfl)
  by_cases e2 : x = 2
  · subst e2; exact x_tableIn (off := 33) 72 dX12_goesBy_39 (by decide) (by decide) (by decide +kernel) (by decide) (k2 rfl)
  have n0 := lv_neT e0 (a := 0) (by decide)
  have n1 := lv_neT e1 (a := 1) (by decide)
  have n2 := lv_neT e2 (a := 2) (by decide)
  exact x_tableOut 99 dX12_goesBy_39 (by omega) (by decide) (kd e0 e1 e2)
theorem swX12_leadsIt_4 {g : gG} {Z : gZt} {L : List (Option Value)} {st : List Value} {h : gH} {k n : Nat} {x : Int32} (k0 : x = 2 → Ex g mX12_leadsIt Z 32 L st h k n) (k1 : x = 3 → Ex g mX12_leadsIt Z 46 L st h k n) (k2 : x = 4 → Ex g mX12_leadsIt Z 60 L st h k n) (kd : ¬ x = 2 → ¬ x = 3 → ¬ x = 4 → Ex g mX12_leadsIt Z 77 L st h k n) : Ex g mX12_leadsIt Z 4 L (.int x :: st) h k n := by
  by_cases e0 : x = 2
  · subst e0; exact x_tableIn (off := 28) 32 dX12_leadsIt_4 (by decide) (by decide) (by decide +kernel) (by decide) (k0 rfl)
  by_cases e1 : x = 3
  · subst e1; exact x_tableIn (off := 42) 46 dX12_leadsIt_4 (by decide) (by decide) (by decide +kernel) (by decide) (k1 rfl)
  by_cases e2 : x = 4
  · subst e2; exact x_tableIn (off := 56) 60 dX12_leadsIt_4 (by decide) (by decide) (by decide +kernel) (by decide) (k2 rfl)
  have n0 := lv_neT e0 (a := 2) (by decide)
  have n1 := lv_neT e1 (a := 3) (by decide)
  have n2 := lv_neT e2 (a := 4) (by decide)
  exact x_tableOut 77 dX12_leadsIt_4 (by omega) (by decide) (kd e0 e1 e2)
theorem swX12_many_1 {g : gG} {Z : gZt} {L : List (Option Value)} {st : List Value} {h : gH} {k n : Nat} {x : Int32} (k0 : x = 0 → Ex g mX12_many Z 40 L st h k n) (k1 : x = 1 → Ex g mX12_many Z 45 L st h k n) (k2 : x = 2 → Ex g mX12_many Z 50 L st h k n) (k3 : x = 3 → Ex g mX12_many Z 55 L st h k n) (k4 : x = 4 → Ex g mX12_many Z 60 L st h k n) (k5 : x = 5 → Ex g mX12_many Z 65 L st h k n) (kd : ¬ x = 0 → ¬ x = 1 → ¬ x = 2 → ¬ x = 3 → ¬ x = 4 → ¬ x = 5 → Ex g mX12_many Z 70 L st h k n) : Ex g mX12_many Z 1 L (.int x :: st) h k n := by
  by_cases e0 : x = 0
  · subst e0; exact x_tableIn (off := 39) 40 dX12_many_1 (by decide) (by decide) (by decide +kernel) (by decide) (k0 rfl)
  by_cases e1 : x = 1
  · subst e1; exact x_tableIn (off := 44) 45 dX12_many_1 (by decide) (by decide) (by decide +kernel) (by decide) (k1 rfl)
  by_cases e2 : x = 2
  · subst e2; exact x_tableIn (off := 49) 50 dX12_many_1 (by decide) (by decide) (by decide +kernel) (by decide) (k2 rfl)
  by_cases e3 : x = 3
  · subst e3; exact x_tableIn (off := 54) 55 dX12_many_1 (by decide) (by decide) (by decide +kernel) (by decide) (k3 rfl)
  by_cases e4 : x = 4
  · subst e4; exact x_tableIn (off := 59) 60 dX12_many_1 (by decide) (by decide) (by decide +kernel) (by decide) (k4 rfl)
  by_cases e5 : x = 5
  · subst e5; exact x_tableIn (off := 64) 65 dX12_many_1 (by decide) (by decide) (by decide +kernel) (by decide) (k5 rfl)
  have n0 := lv_neT e0 (a := 0) (by decide)
  have n1 := lv_neT e1 (a := 1) (by decide)
  have n2 := lv_neT e2 (a := 2) (by decide)
  have n3 := lv_neT e3 (a := 3) (by decide)
  have n4 := lv_neT e4 (a := 4) (by decide)
  have n5 := lv_neT e5 (a := 5) (by decide)
  exact x_tableOut 70 dX12_many_1 (by omega) (by decide) (kd e0 e1 e2 e3 e4 e5)
