/-! what the acts answer: kind k, number n, own a -/
def tL (k : Nat) (n x : Int32) (t : TR) : Int32 × TR := if k = 2 then ((x + n) * 3, bg (bg t 30) 10) else if k = 3 then (0 - (x + n), bg (bg t 40) 10) else if k = 4 then (x + n - n, bg (bg t 51) 10) else (x + n, bg t 10)
def tS0 (k : Nat) (n x : Int32) (t : TR) : Int32 × TR := ((tL k n x (bg t 11)).1 * 2, (tL k n x (bg t 11)).2)
def tS1 (k : Nat) (n a x : Int32) (t : TR) : Int32 × TR := ((tS0 k n x (bg t 20)).1 - a, (tS0 k n x (bg t 20)).2)
def tS (k : Nat) (n a x : Int32) (t : TR) : Int32 × TR := if k = 3 then ((tS1 k n a x (bg t 41)).1 + (tL k n n (tS1 k n a x (bg t 41)).2).1, (tL k n n (tS1 k n a x (bg t 41)).2).2) else if k = 1 ∨ k = 4 then tS1 k n a x t else tS0 k n x t
def tP (t : TR) : TR := (t.1, t.2.1, 1)
def tH0 (n a x : Int32) (t : TR) : Int32 × TR := if a - n = 0 then (0, tP (bg t 12)) else (x / (a - n), bg t 12)
def tH (k : Nat) (n a x : Int32) (t : TR) : Int32 × TR := if k = 4 then ((tH0 n a (x + 2) (bg t 50)).1 ^^^ 1, (tH0 n a (x + 2) (bg t 50)).2) else if k = 5 then ((tH0 n a x (bg t 61)).1 + (tL k n a (tH0 n a x (bg t 61)).2).1, (tL k n a (tH0 n a x (bg t 61)).2).2) else tH0 n a x t
def tT0 (k : Nat) (n a x : Int32) (t : TR) : Int32 × TR := ((tS k n a x (bg t 13)).1 ^^^ a, (tS k n a x (bg t 13)).2)
def tT (k : Nat) (n a x : Int32) (t : TR) : Int32 × TR := if k = 2 then ((tT0 k n a x (bg t 31)).1 + (tH k n a n (tT0 k n a x (bg t 31)).2).1, (tH k n a n (tT0 k n a x (bg t 31)).2).2) else if k = 5 then ((tT0 k n a x (bg t 60)).1 * 2, (tT0 k n a x (bg t 60)).2) else tT0 k n a x t
abbrev thF (n a : Int32) (r : Nat) : List Value := [.int n, .int a, .ref r]
def Th (r : Nat) (t : TR) (h : gH) : gH → Prop := fun h' => isQ h' r t ∧ Fr r 2 h h'
set_option maxRecDepth 10000 in
set_option maxHeartbeats 2000000 in
theorem c_X3_leads_3 {g : gG} {h : gH} {r q : Nat} {n a x : Int32} {t : TR} (hq : isQ h r t) (hth : h.1 q = some (.inr (3, thF n a r))) (hd : q < r ∨ r + 2 ≤ q) : Ct g mX3_leads [.ref q, .int x] h (some (.int ((x + n, bg t 10)).1)) (Th r ((x + n, bg t 10)).2 h) := by
  have e0 := hq.1.2.1
  refine Cn.of (L := [some (.ref q), some (.int x)]) (by decide) (Nat.le_of_ble_eq_true rfl) rfl ?_
  refine x_aload_n dX3_leads_0 rfl ?_
  refine x_get fX3_16_3 hth rfl dX3_leads_1 ?_
  refine x_bipush (v := 10) dX3_leads_4 (by decide) ?_
  refine x_cnV (c_X7_begin hq) e0 lkX7_begin sX3_20 dX3_leads_6 rfl rfl (Nat.le_of_ble_eq_true rfl) (by decide) ⟨rfl, rfl, by decide, by decide⟩ ?_
  rintro h1 ⟨q1, F1⟩
  have t1 : h1.1 q = _ := (F1.2 q hd).trans hth
  have e1 := q1.1.2.1
  refine x_iload_n dX3_leads_9 rfl ?_
  refine x_aload_n dX3_leads_10 rfl ?_
  refine x_get fX3_7_3 t1 rfl dX3_leads_11 ?_
  refine x_iadd dX3_leads_14 ?_
  refine x_iret rfl dX3_leads_15 ⟨by decide, by decide⟩ ?_
  exact ⟨rfl, q1, F1⟩
set_option maxRecDepth 10000 in
set_option maxHeartbeats 2000000 in
theorem c_X3_leads_8 {g : gG} {h : gH} {r q : Nat} {n a x : Int32} {t : TR} (hq : isQ h r t) (hth : h.1 q = some (.inr (8, thF n a r))) (hd : q < r ∨ r + 2 ≤ q) : Ct g mX3_leads [.ref q, .int x] h (some (.int ((x + n, bg t 10)).1)) (Th r ((x + n, bg t 10)).2 h) := by
  have e0 := hq.1.2.1
  refine Cn.of (L := [some (.ref q), some (.int x)]) (by decide) (Nat.le_of_ble_eq_true rfl) rfl ?_
  refine x_aload_n dX3_leads_0 rfl ?_
  refine x_get fX3_16_8 hth rfl dX3_leads_1 ?_
  refine x_bipush (v := 10) dX3_leads_4 (by decide) ?_
  refine x_cnV (c_X7_begin hq) e0 lkX7_begin sX3_20 dX3_leads_6 rfl rfl (Nat.le_of_ble_eq_true rfl) (by decide) ⟨rfl, rfl, by decide, by decide⟩ ?_
  rintro h1 ⟨q1, F1⟩
  have t1 : h1.1 q = _ := (F1.2 q hd).trans hth
  have e1 := q1.1.2.1
  refine x_iload_n dX3_leads_9 rfl ?_
  refine x_aload_n dX3_leads_10 rfl ?_
  refine x_get fX3_7_8 t1 rfl dX3_leads_11 ?_
  refine x_iadd dX3_leads_14 ?_
  refine x_iret rfl dX3_leads_15 ⟨by decide, by decide⟩ ?_
  exact ⟨rfl, q1, F1⟩
set_option maxRecDepth 10000 in
set_option maxHeartbeats 2000000 in
theorem c_X3_leads_9 {g : gG} {h : gH} {r q : Nat} {n a x : Int32} {t : TR} (hq : isQ h r t) (hth : h.1 q = some (.inr (9, thF n a r))) (hd : q < r ∨ r + 2 ≤ q) : Ct g mX3_leads [.ref q, .int x] h (some (.int ((x + n, bg t 10)).1)) (Th r ((x + n, bg t 10)).2 h) := by
  have e0 := hq.1.2.1
  refine Cn.of (L := [some (.ref q), some (.int x)]) (by decide) (Nat.le_of_ble_eq_true rfl) rfl ?_
  refine x_aload_n dX3_leads_0 rfl ?_
  refine x_get fX3_16_9 hth rfl dX3_leads_1 ?_
  refine x_bipush (v := 10) dX3_leads_4 (by decide) ?_
  refine x_cnV (c_X7_begin hq) e0 lkX7_begin sX3_20 dX3_leads_6 rfl rfl (Nat.le_of_ble_eq_true rfl) (by decide) ⟨rfl, rfl, by decide, by decide⟩ ?_
  rintro h1 ⟨q1, F1⟩
  have t1 : h1.1 q = _ := (F1.2 q hd).trans hth
  have e1 := q1.1.2.1
  refine x_iload_n dX3_leads_9 rfl ?_
  refine x_aload_n dX3_leads_10 rfl ?_
  refine x_get fX3_7_9 t1 rfl dX3_leads_11 ?_
  refine x_iadd dX3_leads_14 ?_
  refine x_iret rfl dX3_leads_15 ⟨by decide, by decide⟩ ?_
  exact ⟨rfl, q1, F1⟩
set_option maxRecDepth 10000 in
set_option maxHeartbeats 2000000 in
theorem c_X3_leads_2 {g : gG} {h : gH} {r q : Nat} {n a x : Int32} {t : TR} (hq : isQ h r t) (hth : h.1 q = some (.inr (2, thF n a r))) (hd : q < r ∨ r + 2 ≤ q) : Ct g mX3_leads [.ref q, .int x] h (some (.int ((x + n, bg t 10)).1)) (Th r ((x + n, bg t 10)).2 h) := by
  have e0 := hq.1.2.1
  refine Cn.of (L := [some (.ref q), some (.int x)]) (by decide) (Nat.le_of_ble_eq_true rfl) rfl ?_
  refine x_aload_n dX3_leads_0 rfl ?_
  refine x_get fX3_16_2 hth rfl dX3_leads_1 ?_
  refine x_bipush (v := 10) dX3_leads_4 (by decide) ?_
  refine x_cnV (c_X7_begin hq) e0 lkX7_begin sX3_20 dX3_leads_6 rfl rfl (Nat.le_of_ble_eq_true rfl) (by decide) ⟨rfl, rfl, by decide, by decide⟩ ?_
  rintro h1 ⟨q1, F1⟩
  have t1 : h1.1 q = _ := (F1.2 q hd).trans hth
  have e1 := q1.1.2.1
  refine x_iload_n dX3_leads_9 rfl ?_
  refine x_aload_n dX3_leads_10 rfl ?_
  refine x_get fX3_7_2 t1 rfl dX3_leads_11 ?_
  refine x_iadd dX3_leads_14 ?_
  refine x_iret rfl dX3_leads_15 ⟨by decide, by decide⟩ ?_
  exact ⟨rfl, q1, F1⟩
set_option maxRecDepth 10000 in
set_option maxHeartbeats 2000000 in
theorem c_X3_leads_0 {g : gG} {h : gH} {r q : Nat} {n a x : Int32} {t : TR} (hq : isQ h r t) (hth : h.1 q = some (.inr (0, thF n a r))) (hd : q < r ∨ r + 2 ≤ q) : Ct g mX3_leads [.ref q, .int x] h (some (.int ((x + n, bg t 10)).1)) (Th r ((x + n, bg t 10)).2 h) := by
  have e0 := hq.1.2.1
  refine Cn.of (L := [some (.ref q), some (.int x)]) (by decide) (Nat.le_of_ble_eq_true rfl) rfl ?_
  refine x_aload_n dX3_leads_0 rfl ?_
  refine x_get fX3_16_0 hth rfl dX3_leads_1 ?_
  refine x_bipush (v := 10) dX3_leads_4 (by decide) ?_
  refine x_cnV (c_X7_begin hq) e0 lkX7_begin sX3_20 dX3_leads_6 rfl rfl (Nat.le_of_ble_eq_true rfl) (by decide) ⟨rfl, rfl, by decide, by decide⟩ ?_
  rintro h1 ⟨q1, F1⟩
  have t1 : h1.1 q = _ := (F1.2 q hd).trans hth
  have e1 := q1.1.2.1
  refine x_iload_n dX3_leads_9 rfl ?_
  refine x_aload_n dX3_leads_10 rfl ?_
  refine x_get fX3_7_0 t1 rfl dX3_leads_11 ?_
  refine x_iadd dX3_leads_14 ?_
  refine x_iret rfl dX3_leads_15 ⟨by decide, by decide⟩ ?_
  exact ⟨rfl, q1, F1⟩
set_option maxRecDepth 10000 in
set_option maxHeartbeats 2000000 in
theorem c_X3_leads_4 {g : gG} {h : gH} {r q : Nat} {n a x : Int32} {t : TR} (hq : isQ h r t) (hth : h.1 q = some (.inr (4, thF n a r))) (hd : q < r ∨ r + 2 ≤ q) : Ct g mX3_leads [.ref q, .int x] h (some (.int ((x + n, bg t 10)).1)) (Th r ((x + n, bg t 10)).2 h) := by
  have e0 := hq.1.2.1
  refine Cn.of (L := [some (.ref q), some (.int x)]) (by decide) (Nat.le_of_ble_eq_true rfl) rfl ?_
  refine x_aload_n dX3_leads_0 rfl ?_
  refine x_get fX3_16_4 hth rfl dX3_leads_1 ?_
  refine x_bipush (v := 10) dX3_leads_4 (by decide) ?_
  refine x_cnV (c_X7_begin hq) e0 lkX7_begin sX3_20 dX3_leads_6 rfl rfl (Nat.le_of_ble_eq_true rfl) (by decide) ⟨rfl, rfl, by decide, by decide⟩ ?_
  rintro h1 ⟨q1, F1⟩
  have t1 : h1.1 q = _ := (F1.2 q hd).trans hth
  have e1 := q1.1.2.1
  refine x_iload_n dX3_leads_9 rfl ?_
  refine x_aload_n dX3_leads_10 rfl ?_
  refine x_get fX3_7_4 t1 rfl dX3_leads_11 ?_
  refine x_iadd dX3_leads_14 ?_
  refine x_iret rfl dX3_leads_15 ⟨by decide, by decide⟩ ?_
  exact ⟨rfl, q1, F1⟩
set_option maxRecDepth 10000 in
set_option maxHeartbeats 2000000 in
theorem c_X9_leads_9 {g : gG} {h : gH} {r q : Nat} {n a x : Int32} {t : TR} (hq : isQ h r t) (hth : h.1 q = some (.inr (9, thF n a r))) (hd : q < r ∨ r + 2 ≤ q) : Ct g mX9_leads [.ref q, .int x] h (some (.int (tL 2 n x t).1)) (Th r (tL 2 n x t).2 h) := by
  have e0 := hq.1.2.1
  refine Cn.of (L := [some (.ref q), some (.int x)]) (by decide) (Nat.le_of_ble_eq_true rfl) rfl ?_
  refine x_aload_n dX9_leads_0 rfl ?_
  refine x_getR fX9_7 hth rfl dX9_leads_1 ?_
  refine x_bipush (v := 30) dX9_leads_4 (by decide) ?_
  refine x_cnV (c_X7_begin hq) e0 lkX7_begin sX9_13 dX9_leads_6 rfl rfl (Nat.le_of_ble_eq_true rfl) (by decide) ⟨rfl, rfl, by decide, by decide⟩ ?_
  rintro h1 ⟨q1, F1⟩
  have t1 : h1.1 q = _ := (F1.2 q hd).trans hth
  have e1 := q1.1.2.1
  refine x_aload_n dX9_leads_9 rfl ?_
  refine x_iload_n dX9_leads_10 rfl ?_
  refine x_cvSU (i0 := 3) (c_X3_leads_9 q1 t1 hd) t1 lkX3_leads rfl (gT_in 925 (by decide +kernel) rfl) ⟨gT_in 996 (by decide +kernel) rfl, gT_in 974 (by decide +kernel) rfl, gT_in 933 (by decide +kernel) rfl, gT_in 972 (by decide +kernel) rfl⟩ (by decide) dX9_leads_11 rfl rfl (Nat.le_of_ble_eq_true rfl) (by decide) ⟨rfl, rfl, by decide, by decide⟩ ?_
  rintro h2 ⟨q2, F2⟩
  have t2 : h2.1 q = _ := (F2.2 q hd).trans t1
  refine x_iconst (v := 3) dX9_leads_14 (by decide) ?_
  refine x_imul dX9_leads_15 ?_
  refine x_iret rfl dX9_leads_16 ⟨by decide, by decide⟩ ?_
  exact ⟨rfl, q2, (F1.tr F2)⟩
set_option maxRecDepth 10000 in
set_option maxHeartbeats 2000000 in
theorem c_X2_leads_2 {g : gG} {h : gH} {r q : Nat} {n a x : Int32} {t : TR} (hq : isQ h r t) (hth : h.1 q = some (.inr (2, thF n a r))) (hd : q < r ∨ r + 2 ≤ q) : Ct g mX2_leads [.ref q, .int x] h (some (.int (tL 3 n x t).1)) (Th r (tL 3 n x t).2 h) := by
  have e0 := hq.1.2.1
  refine Cn.of (L := [some (.ref q), some (.int x)]) (by decide) (Nat.le_of_ble_eq_true rfl) rfl ?_
  refine x_aload_n dX2_leads_0 rfl ?_
  refine x_getR fX2_7 hth rfl dX2_leads_1 ?_
  refine x_bipush (v := 40) dX2_leads_4 (by decide) ?_
  refine x_cnV (c_X7_begin hq) e0 lkX7_begin sX2_13 dX2_leads_6 rfl rfl (Nat.le_of_ble_eq_true rfl) (by decide) ⟨rfl, rfl, by decide, by decide⟩ ?_
  rintro h1 ⟨q1, F1⟩
  have t1 : h1.1 q = _ := (F1.2 q hd).trans hth
  have e1 := q1.1.2.1
  refine x_iconst (v := 0) dX2_leads_9 (by decide) ?_
  refine x_aload_n dX2_leads_10 rfl ?_
  refine x_iload_n dX2_leads_11 rfl ?_
  refine x_cvSI (i0 := 3) (x := ⟨"HeldPaths$TrackThing", "leads", "(I)I"⟩) (c_X3_leads_2 q1 t1 hd) t1 lkX3_leads rfl (gT_in 935 (by decide +kernel) rfl) ⟨gT_in 989 (by decide +kernel) rfl, gT_in 983 (by decide +kernel) rfl, gT_in 943 (by decide +kernel) rfl, gT_in 923 (by decide +kernel) rfl, gT_in 972 (by decide +kernel) rfl⟩ rfl (by decide) dX2_leads_12 rfl rfl (Nat.le_of_ble_eq_true rfl) (by decide) ⟨rfl, rfl, by decide, by decide⟩ ?_
  rintro h2 ⟨q2, F2⟩
  have t2 : h2.1 q = _ := (F2.2 q hd).trans t1
  refine x_isub dX2_leads_15 ?_
  refine x_iret rfl dX2_leads_16 ⟨by decide, by decide⟩ ?_
  exact ⟨rfl, q2, (F1.tr F2)⟩
set_option maxRecDepth 10000 in
set_option maxHeartbeats 2000000 in
theorem c_X0_leads_0 {g : gG} {h : gH} {r q : Nat} {n a x : Int32} {t : TR} (hq : isQ h r t) (hth : h.1 q = some (.inr (0, thF n a r))) (hd : q < r ∨ r + 2 ≤ q) : Ct g mX0_leads [.ref q, .int x] h (some (.int (tL 4 n x t).1)) (Th r (tL 4 n x t).2 h) := by
  have e0 := hq.1.2.1
  refine Cn.of (L := [some (.ref q), some (.int x)]) (by decide) (Nat.le_of_ble_eq_true rfl) rfl ?_
  refine x_aload_n dX0_leads_0 rfl ?_
  refine x_getR fX0_7 hth rfl dX0_leads_1 ?_
  refine x_bipush (v := 51) dX0_leads_4 (by decide) ?_
  refine x_cnV (c_X7_begin hq) e0 lkX7_begin sX0_13 dX0_leads_6 rfl rfl (Nat.le_of_ble_eq_true rfl) (by decide) ⟨rfl, rfl, by decide, by decide⟩ ?_
  rintro h1 ⟨q1, F1⟩
  have t1 : h1.1 q = _ := (F1.2 q hd).trans hth
  have e1 := q1.1.2.1
  refine x_aload_n dX0_leads_9 rfl ?_
  refine x_iload_n dX0_leads_10 rfl ?_
  refine x_cvSI (i0 := 3) (x := ⟨"HeldPaths$TrackThing", "leads", "(I)I"⟩) (c_X3_leads_0 q1 t1 hd) t1 lkX3_leads rfl (gT_in 945 (by decide +kernel) rfl) ⟨gT_in 982 (by decide +kernel) rfl, gT_in 983 (by decide +kernel) rfl, gT_in 953 (by decide +kernel) rfl, gT_in 923 (by decide +kernel) rfl, gT_in 972 (by decide +kernel) rfl⟩ rfl (by decide) dX0_leads_11 rfl rfl (Nat.le_of_ble_eq_true rfl) (by decide) ⟨rfl, rfl, by decide, by decide⟩ ?_
  rintro h2 ⟨q2, F2⟩
  have t2 : h2.1 q = _ := (F2.2 q hd).trans t1
  refine x_aload_n dX0_leads_14 rfl ?_
  refine x_getR fX0_26 t2 rfl dX0_leads_15 ?_
  refine x_isub dX0_leads_18 ?_
  refine x_iret rfl dX0_leads_19 ⟨by decide, by decide⟩ ?_
  exact ⟨rfl, q2, (F1.tr F2)⟩
set_option maxRecDepth 10000 in
set_option maxHeartbeats 2000000 in
theorem c_X3_stays_3 {g : gG} {h : gH} {r q : Nat} {n a x : Int32} {t : TR} (hq : isQ h r t) (hth : h.1 q = some (.inr (3, thF n a r))) (hd : q < r ∨ r + 2 ≤ q) : Ct g mX3_stays [.ref q, .int x] h (some (.int (tS0 0 n x t).1)) (Th r (tS0 0 n x t).2 h) := by
  have e0 := hq.1.2.1
  refine Cn.of (L := [some (.ref q), some (.int x)]) (by decide) (Nat.le_of_ble_eq_true rfl) rfl ?_
  refine x_aload_n dX3_stays_0 rfl ?_
  refine x_get fX3_16_3 hth rfl dX3_stays_1 ?_
  refine x_bipush (v := 11) dX3_stays_4 (by decide) ?_
  refine x_cnV (c_X7_begin hq) e0 lkX7_begin sX3_20 dX3_stays_6 rfl rfl (Nat.le_of_ble_eq_true rfl) (by decide) ⟨rfl, rfl, by decide, by decide⟩ ?_
  rintro h1 ⟨q1, F1⟩
  have t1 : h1.1 q = _ := (F1.2 q hd).trans hth
  have e1 := q1.1.2.1
  refine x_aload_n dX3_stays_9 rfl ?_
  refine x_iload_n dX3_stays_10 rfl ?_
  refine x_cvU (x := ⟨"HeldPaths$PathThing", "leads", "(I)I"⟩) (owner := "HeldPaths$PathThing") (c_X3_leads_3 q1 t1 hd) t1 lkX3_leads rfl ⟨gT_in 1017 (by decide +kernel) rfl, gT_in 974 (by decide +kernel) rfl, gT_in 972 (by decide +kernel) rfl, gT_in 973 (by decide +kernel) rfl, gT_in 972 (by decide +kernel) rfl⟩ lkX3_leads.1 ⟨by decide, by decide, lkX3_leads.2.2.2⟩ dX3_stays_11 rfl rfl (Nat.le_of_ble_eq_true rfl) (by decide) ⟨rfl, rfl, by decide, by decide⟩ ?_
  rintro h2 ⟨q2, F2⟩
  have t2 : h2.1 q = _ := (F2.2 q hd).trans t1
  refine x_iconst (v := 2) dX3_stays_14 (by decide) ?_
  refine x_imul dX3_stays_15 ?_
  refine x_iret rfl dX3_stays_16 ⟨by decide, by decide⟩ ?_
  exact ⟨rfl, q2, (F1.tr F2)⟩
set_option maxRecDepth 10000 in
set_option maxHeartbeats 2000000 in
theorem c_X3_stays_8 {g : gG} {h : gH} {r q : Nat} {n a x : Int32} {t : TR} (hq : isQ h r t) (hth : h.1 q = some (.inr (8, thF n a r))) (hd : q < r ∨ r + 2 ≤ q) : Ct g mX3_stays [.ref q, .int x] h (some (.int (tS0 1 n x t).1)) (Th r (tS0 1 n x t).2 h) := by
  have e0 := hq.1.2.1
  refine Cn.of (L := [some (.ref q), some (.int x)]) (by decide) (Nat.le_of_ble_eq_true rfl) rfl ?_
  refine x_aload_n dX3_stays_0 rfl ?_
  refine x_get fX3_16_8 hth rfl dX3_stays_1 ?_
  refine x_bipush (v := 11) dX3_stays_4 (by decide) ?_
  refine x_cnV (c_X7_begin hq) e0 lkX7_begin sX3_20 dX3_stays_6 rfl rfl (Nat.le_of_ble_eq_true rfl) (by decide) ⟨rfl, rfl, by decide, by decide⟩ ?_
  rintro h1 ⟨q1, F1⟩
  have t1 : h1.1 q = _ := (F1.2 q hd).trans hth
  have e1 := q1.1.2.1
  refine x_aload_n dX3_stays_9 rfl ?_
  refine x_iload_n dX3_stays_10 rfl ?_
  refine x_cvU (x := ⟨"HeldPaths$PathThing", "leads", "(I)I"⟩) (owner := "HeldPaths$PathThing") (c_X3_leads_8 q1 t1 hd) t1 lkX3_leads rfl ⟨gT_in 1017 (by decide +kernel) rfl, gT_in 974 (by decide +kernel) rfl, gT_in 972 (by decide +kernel) rfl, gT_in 991 (by decide +kernel) rfl, gT_in 972 (by decide +kernel) rfl⟩ lkX3_leads.1 ⟨by decide, by decide, lkX3_leads.2.2.2⟩ dX3_stays_11 rfl rfl (Nat.le_of_ble_eq_true rfl) (by decide) ⟨rfl, rfl, by decide, by decide⟩ ?_
  rintro h2 ⟨q2, F2⟩
  have t2 : h2.1 q = _ := (F2.2 q hd).trans t1
  refine x_iconst (v := 2) dX3_stays_14 (by decide) ?_
  refine x_imul dX3_stays_15 ?_
  refine x_iret rfl dX3_stays_16 ⟨by decide, by decide⟩ ?_
  exact ⟨rfl, q2, (F1.tr F2)⟩
set_option maxRecDepth 10000 in
set_option maxHeartbeats 2000000 in
theorem c_X3_stays_9 {g : gG} {h : gH} {r q : Nat} {n a x : Int32} {t : TR} (hq : isQ h r t) (hth : h.1 q = some (.inr (9, thF n a r))) (hd : q < r ∨ r + 2 ≤ q) : Ct g mX3_stays [.ref q, .int x] h (some (.int (tS0 2 n x t).1)) (Th r (tS0 2 n x t).2 h) := by
  have e0 := hq.1.2.1
  refine Cn.of (L := [some (.ref q), some (.int x)]) (by decide) (Nat.le_of_ble_eq_true rfl) rfl ?_
  refine x_aload_n dX3_stays_0 rfl ?_
  refine x_get fX3_16_9 hth rfl dX3_stays_1 ?_
  refine x_bipush (v := 11) dX3_stays_4 (by decide) ?_
  refine x_cnV (c_X7_begin hq) e0 lkX7_begin sX3_20 dX3_stays_6 rfl rfl (Nat.le_of_ble_eq_true rfl) (by decide) ⟨rfl, rfl, by decide, by decide⟩ ?_
  rintro h1 ⟨q1, F1⟩
  have t1 : h1.1 q = _ := (F1.2 q hd).trans hth
  have e1 := q1.1.2.1
  refine x_aload_n dX3_stays_9 rfl ?_
  refine x_iload_n dX3_stays_10 rfl ?_
  refine x_cvU (x := ⟨"HeldPaths$PathThing", "leads", "(I)I"⟩) (owner := "HeldPaths$PathThing") (c_X9_leads_9 q1 t1 hd) t1 lkX9_leads rfl ⟨gT_in 1017 (by decide +kernel) rfl, gT_in 974 (by decide +kernel) rfl, gT_in 972 (by decide +kernel) rfl, gT_in 992 (by decide +kernel) rfl, gT_in 993 (by decide +kernel) rfl⟩ lkX3_leads.1 ⟨by decide, by decide, lkX3_leads.2.2.2⟩ dX3_stays_11 rfl rfl (Nat.le_of_ble_eq_true rfl) (by decide) ⟨rfl, rfl, by decide, by decide⟩ ?_
  rintro h2 ⟨q2, F2⟩
  have t2 : h2.1 q = _ := (F2.2 q hd).trans t1
  refine x_iconst (v := 2) dX3_stays_14 (by decide) ?_
  refine x_imul dX3_stays_15 ?_
  refine x_iret rfl dX3_stays_16 ⟨by decide, by decide⟩ ?_
  exact ⟨rfl, q2, (F1.tr F2)⟩
set_option maxRecDepth 10000 in
set_option maxHeartbeats 2000000 in
theorem c_X3_stays_2 {g : gG} {h : gH} {r q : Nat} {n a x : Int32} {t : TR} (hq : isQ h r t) (hth : h.1 q = some (.inr (2, thF n a r))) (hd : q < r ∨ r + 2 ≤ q) : Ct g mX3_stays [.ref q, .int x] h (some (.int (tS0 3 n x t).1)) (Th r (tS0 3 n x t).2 h) := by
  have e0 := hq.1.2.1
  refine Cn.of (L := [some (.ref q), some (.int x)]) (by decide) (Nat.le_of_ble_eq_true rfl) rfl ?_
  refine x_aload_n dX3_stays_0 rfl ?_
  refine x_get fX3_16_2 hth rfl dX3_stays_1 ?_
  refine x_bipush (v := 11) dX3_stays_4 (by decide) ?_
  refine x_cnV (c_X7_begin hq) e0 lkX7_begin sX3_20 dX3_stays_6 rfl rfl (Nat.le_of_ble_eq_true rfl) (by decide) ⟨rfl, rfl, by decide, by decide⟩ ?_
  rintro h1 ⟨q1, F1⟩
  have t1 : h1.1 q = _ := (F1.2 q hd).trans hth
  have e1 := q1.1.2.1
  refine x_aload_n dX3_stays_9 rfl ?_
  refine x_iload_n dX3_stays_10 rfl ?_
  refine x_cvU (x := ⟨"HeldPaths$PathThing", "leads", "(I)I"⟩) (owner := "HeldPaths$PathThing") (c_X2_leads_2 q1 t1 hd) t1 lkX2_leads rfl ⟨gT_in 1017 (by decide +kernel) rfl, gT_in 974 (by decide +kernel) rfl, gT_in 972 (by decide +kernel) rfl, gT_in 985 (by decide +kernel) rfl, gT_in 986 (by decide +kernel) rfl⟩ lkX3_leads.1 ⟨by decide, by decide, lkX3_leads.2.2.2⟩ dX3_stays_11 rfl rfl (Nat.le_of_ble_eq_true rfl) (by decide) ⟨rfl, rfl, by decide, by decide⟩ ?_
  rintro h2 ⟨q2, F2⟩
  have t2 : h2.1 q = _ := (F2.2 q hd).trans t1
  refine x_iconst (v := 2) dX3_stays_14 (by decide) ?_
  refine x_imul dX3_stays_15 ?_
  refine x_iret rfl dX3_stays_16 ⟨by decide, by decide⟩ ?_
  exact ⟨rfl, q2, (F1.tr F2)⟩
set_option maxRecDepth 10000 in
set_option maxHeartbeats 2000000 in
theorem c_X3_stays_0 {g : gG} {h : gH} {r q : Nat} {n a x : Int32} {t : TR} (hq : isQ h r t) (hth : h.1 q = some (.inr (0, thF n a r))) (hd : q < r ∨ r + 2 ≤ q) : Ct g mX3_stays [.ref q, .int x] h (some (.int (tS0 4 n x t).1)) (Th r (tS0 4 n x t).2 h) := by
  have e0 := hq.1.2.1
  refine Cn.of (L := [some (.ref q), some (.int x)]) (by decide) (Nat.le_of_ble_eq_true rfl) rfl ?_
  refine x_aload_n dX3_stays_0 rfl ?_
  refine x_get fX3_16_0 hth rfl dX3_stays_1 ?_
  refine x_bipush (v := 11) dX3_stays_4 (by decide) ?_
  refine x_cnV (c_X7_begin hq) e0 lkX7_begin sX3_20 dX3_stays_6 rfl rfl (Nat.le_of_ble_eq_true rfl) (by decide) ⟨rfl, rfl, by decide, by decide⟩ ?_
  rintro h1 ⟨q1, F1⟩
  have t1 : h1.1 q = _ := (F1.2 q hd).trans hth
  have e1 := q1.1.2.1
  refine x_aload_n dX3_stays_9 rfl ?_
  refine x_iload_n dX3_stays_10 rfl ?_
  refine x_cvU (x := ⟨"HeldPaths$PathThing", "leads", "(I)I"⟩) (owner := "HeldPaths$PathThing") (c_X0_leads_0 q1 t1 hd) t1 lkX0_leads rfl ⟨gT_in 1017 (by decide +kernel) rfl, gT_in 974 (by decide +kernel) rfl, gT_in 972 (by decide +kernel) rfl, gT_in 975 (by decide +kernel) rfl, gT_in 976 (by decide +kernel) rfl⟩ lkX3_leads.1 ⟨by decide, by decide, lkX3_leads.2.2.2⟩ dX3_stays_11 rfl rfl (Nat.le_of_ble_eq_true rfl) (by decide) ⟨rfl, rfl, by decide, by decide⟩ ?_
  rintro h2 ⟨q2, F2⟩
  have t2 : h2.1 q = _ := (F2.2 q hd).trans t1
  refine x_iconst (v := 2) dX3_stays_14 (by decide) ?_
  refine x_imul dX3_stays_15 ?_
  refine x_iret rfl dX3_stays_16 ⟨by decide, by decide⟩ ?_
  exact ⟨rfl, q2, (F1.tr F2)⟩
set_option maxRecDepth 10000 in
set_option maxHeartbeats 2000000 in
theorem c_X3_stays_4 {g : gG} {h : gH} {r q : Nat} {n a x : Int32} {t : TR} (hq : isQ h r t) (hth : h.1 q = some (.inr (4, thF n a r))) (hd : q < r ∨ r + 2 ≤ q) : Ct g mX3_stays [.ref q, .int x] h (some (.int (tS0 5 n x t).1)) (Th r (tS0 5 n x t).2 h) := by
  have e0 := hq.1.2.1
  refine Cn.of (L := [some (.ref q), some (.int x)]) (by decide) (Nat.le_of_ble_eq_true rfl) rfl ?_
  refine x_aload_n dX3_stays_0 rfl ?_
  refine x_get fX3_16_4 hth rfl dX3_stays_1 ?_
  refine x_bipush (v := 11) dX3_stays_4 (by decide) ?_
  refine x_cnV (c_X7_begin hq) e0 lkX7_begin sX3_20 dX3_stays_6 rfl rfl (Nat.le_of_ble_eq_true rfl) (by decide) ⟨rfl, rfl, by decide, by decide⟩ ?_
  rintro h1 ⟨q1, F1⟩
  have t1 : h1.1 q = _ := (F1.2 q hd).trans hth
  have e1 := q1.1.2.1
  refine x_aload_n dX3_stays_9 rfl ?_
  refine x_iload_n dX3_stays_10 rfl ?_
  refine x_cvU (x := ⟨"HeldPaths$PathThing", "leads", "(I)I"⟩) (owner := "HeldPaths$PathThing") (c_X3_leads_4 q1 t1 hd) t1 lkX3_leads rfl ⟨gT_in 1017 (by decide +kernel) rfl, gT_in 974 (by decide +kernel) rfl, gT_in 972 (by decide +kernel) rfl, gT_in 990 (by decide +kernel) rfl, gT_in 972 (by decide +kernel) rfl⟩ lkX3_leads.1 ⟨by decide, by decide, lkX3_leads.2.2.2⟩ dX3_stays_11 rfl rfl (Nat.le_of_ble_eq_true rfl) (by decide) ⟨rfl, rfl, by decide, by decide⟩ ?_
  rintro h2 ⟨q2, F2⟩
  have t2 : h2.1 q = _ := (F2.2 q hd).trans t1
  refine x_iconst (v := 2) dX3_stays_14 (by decide) ?_
  refine x_imul dX3_stays_15 ?_
  refine x_iret rfl dX3_stays_16 ⟨by decide, by decide⟩ ?_
  exact ⟨rfl, q2, (F1.tr F2)⟩
set_option maxRecDepth 10000 in
set_option maxHeartbeats 2000000 in
theorem c_X8_stays_8 {g : gG} {h : gH} {r q : Nat} {n a x : Int32} {t : TR} (hq : isQ h r t) (hth : h.1 q = some (.inr (8, thF n a r))) (hd : q < r ∨ r + 2 ≤ q) : Ct g mX8_stays [.ref q, .int x] h (some (.int (tS1 1 n a x t).1)) (Th r (tS1 1 n a x t).2 h) := by
  have e0 := hq.1.2.1
  refine Cn.of (L := [some (.ref q), some (.int x)]) (by decide) (Nat.le_of_ble_eq_true rfl) rfl ?_
  refine x_aload_n dX8_stays_0 rfl ?_
  refine x_getR fX8_7_8 hth rfl dX8_stays_1 ?_
  refine x_bipush (v := 20) dX8_stays_4 (by decide) ?_
  refine x_cnV (c_X7_begin hq) e0 lkX7_begin sX8_13 dX8_stays_6 rfl rfl (Nat.le_of_ble_eq_true rfl) (by decide) ⟨rfl, rfl, by decide, by decide⟩ ?_
  rintro h1 ⟨q1, F1⟩
  have t1 : h1.1 q = _ := (F1.2 q hd).trans hth
  have e1 := q1.1.2.1
  refine x_aload_n dX8_stays_9 rfl ?_
  refine x_iload_n dX8_stays_10 rfl ?_
  refine x_cvSU (i0 := 3) (c_X3_stays_8 q1 t1 hd) t1 lkX3_stays rfl (gT_in 886 (by decide +kernel) rfl) ⟨gT_in 1007 (by decide +kernel) rfl, gT_in 1002 (by decide +kernel) rfl, gT_in 923 (by decide +kernel) rfl, gT_in 1000 (by decide +kernel) rfl⟩ (by decide) dX8_stays_11 rfl rfl (Nat.le_of_ble_eq_true rfl) (by decide) ⟨rfl, rfl, by decide, by decide⟩ ?_
  rintro h2 ⟨q2, F2⟩
  have t2 : h2.1 q = _ := (F2.2 q hd).trans t1
  refine x_aload_n dX8_stays_14 rfl ?_
  refine x_getR fX8_23_8 t2 rfl dX8_stays_15 ?_
  refine x_isub dX8_stays_18 ?_
  refine x_iret rfl dX8_stays_19 ⟨by decide, by decide⟩ ?_
  exact ⟨rfl, q2, (F1.tr F2)⟩
set_option maxRecDepth 10000 in
set_option maxHeartbeats 2000000 in
theorem c_X8_stays_2 {g : gG} {h : gH} {r q : Nat} {n a x : Int32} {t : TR} (hq : isQ h r t) (hth : h.1 q = some (.inr (2, thF n a r))) (hd : q < r ∨ r + 2 ≤ q) : Ct g mX8_stays [.ref q, .int x] h (some (.int (tS1 3 n a x t).1)) (Th r (tS1 3 n a x t).2 h) := by
  have e0 := hq.1.2.1
  refine Cn.of (L := [some (.ref q), some (.int x)]) (by decide) (Nat.le_of_ble_eq_true rfl) rfl ?_
  refine x_aload_n dX8_stays_0 rfl ?_
  refine x_getR fX8_7_2 hth rfl dX8_stays_1 ?_
  refine x_bipush (v := 20) dX8_stays_4 (by decide) ?_
  refine x_cnV (c_X7_begin hq) e0 lkX7_begin sX8_13 dX8_stays_6 rfl rfl (Nat.le_of_ble_eq_true rfl) (by decide) ⟨rfl, rfl, by decide, by decide⟩ ?_
  rintro h1 ⟨q1, F1⟩
  have t1 : h1.1 q = _ := (F1.2 q hd).trans hth
  have e1 := q1.1.2.1
  refine x_aload_n dX8_stays_9 rfl ?_
  refine x_iload_n dX8_stays_10 rfl ?_
  refine x_cvSU (i0 := 3) (c_X3_stays_2 q1 t1 hd) t1 lkX3_stays rfl (gT_in 935 (by decide +kernel) rfl) ⟨gT_in 1007 (by decide +kernel) rfl, gT_in 1002 (by decide +kernel) rfl, gT_in 923 (by decide +kernel) rfl, gT_in 1000 (by decide +kernel) rfl⟩ (by decide) dX8_stays_11 rfl rfl (Nat.le_of_ble_eq_true rfl) (by decide) ⟨rfl, rfl, by decide, by decide⟩ ?_
  rintro h2 ⟨q2, F2⟩
  have t2 : h2.1 q = _ := (F2.2 q hd).trans t1
  refine x_aload_n dX8_stays_14 rfl ?_
  refine x_getR fX8_23_2 t2 rfl dX8_stays_15 ?_
  refine x_isub dX8_stays_18 ?_
  refine x_iret rfl dX8_stays_19 ⟨by decide, by decide⟩ ?_
  exact ⟨rfl, q2, (F1.tr F2)⟩
set_option maxRecDepth 10000 in
set_option maxHeartbeats 2000000 in
theorem c_X8_stays_0 {g : gG} {h : gH} {r q : Nat} {n a x : Int32} {t : TR} (hq : isQ h r t) (hth : h.1 q = some (.inr (0, thF n a r))) (hd : q < r ∨ r + 2 ≤ q) : Ct g mX8_stays [.ref q, .int x] h (some (.int (tS1 4 n a x t).1)) (Th r (tS1 4 n a x t).2 h) := by
  have e0 := hq.1.2.1
  refine Cn.of (L := [some (.ref q), some (.int x)]) (by decide) (Nat.le_of_ble_eq_true rfl) rfl ?_
  refine x_aload_n dX8_stays_0 rfl ?_
  refine x_getR fX8_7_0 hth rfl dX8_stays_1 ?_
  refine x_bipush (v := 20) dX8_stays_4 (by decide) ?_
  refine x_cnV (c_X7_begin hq) e0 lkX7_begin sX8_13 dX8_stays_6 rfl rfl (Nat.le_of_ble_eq_true rfl) (by decide) ⟨rfl, rfl, by decide, by decide⟩ ?_
  rintro h1 ⟨q1, F1⟩
  have t1 : h1.1 q = _ := (F1.2 q hd).trans hth
  have e1 := q1.1.2.1
  refine x_aload_n dX8_stays_9 rfl ?_
  refine x_iload_n dX8_stays_10 rfl ?_
  refine x_cvSU (i0 := 3) (c_X3_stays_0 q1 t1 hd) t1 lkX3_stays rfl (gT_in 945 (by decide +kernel) rfl) ⟨gT_in 1007 (by decide +kernel) rfl, gT_in 1002 (by decide +kernel) rfl, gT_in 923 (by decide +kernel) rfl, gT_in 1000 (by decide +kernel) rfl⟩ (by decide) dX8_stays_11 rfl rfl (Nat.le_of_ble_eq_true rfl) (by decide) ⟨rfl, rfl, by decide, by decide⟩ ?_
  rintro h2 ⟨q2, F2⟩
  have t2 : h2.1 q = _ := (F2.2 q hd).trans t1
  refine x_aload_n dX8_stays_14 rfl ?_
  refine x_getR fX8_23_0 t2 rfl dX8_stays_15 ?_
  refine x_isub dX8_stays_18 ?_
  refine x_iret rfl dX8_stays_19 ⟨by decide, by decide⟩ ?_
  exact ⟨rfl, q2, (F1.tr F2)⟩
set_option maxRecDepth 10000 in
set_option maxHeartbeats 2000000 in
theorem c_X2_stays_2 {g : gG} {h : gH} {r q : Nat} {n a x : Int32} {t : TR} (hq : isQ h r t) (hth : h.1 q = some (.inr (2, thF n a r))) (hd : q < r ∨ r + 2 ≤ q) : Ct g mX2_stays [.ref q, .int x] h (some (.int (tS 3 n a x t).1)) (Th r (tS 3 n a x t).2 h) := by
  have e0 := hq.1.2.1
  refine Cn.of (L := [some (.ref q), some (.int x)]) (by decide) (Nat.le_of_ble_eq_true rfl) rfl ?_
  refine x_aload_n dX2_stays_0 rfl ?_
  refine x_getR fX2_7 hth rfl dX2_stays_1 ?_
  refine x_bipush (v := 41) dX2_stays_4 (by decide) ?_
  refine x_cnV (c_X7_begin hq) e0 lkX7_begin sX2_13 dX2_stays_6 rfl rfl (Nat.le_of_ble_eq_true rfl) (by decide) ⟨rfl, rfl, by decide, by decide⟩ ?_
  rintro h1 ⟨q1, F1⟩
  have t1 : h1.1 q = _ := (F1.2 q hd).trans hth
  have e1 := q1.1.2.1
  refine x_aload_n dX2_stays_9 rfl ?_
  refine x_iload_n dX2_stays_10 rfl ?_
  refine x_cvSU (i0 := 3) (c_X8_stays_2 q1 t1 hd) t1 lkX8_stays rfl (gT_in 935 (by decide +kernel) rfl) ⟨gT_in 1011 (by decide +kernel) rfl, gT_in 1699 (by decide +kernel) rfl, gT_in 943 (by decide +kernel) rfl, gT_in 1004 (by decide +kernel) rfl⟩ (by decide) dX2_stays_11 rfl rfl (Nat.le_of_ble_eq_true rfl) (by decide) ⟨rfl, rfl, by decide, by decide⟩ ?_
  rintro h2 ⟨q2, F2⟩
  have t2 : h2.1 q = _ := (F2.2 q hd).trans t1
  refine x_aload_n dX2_stays_14 rfl ?_
  refine x_aload_n dX2_stays_15 rfl ?_
  refine x_getR fX2_26 t2 rfl dX2_stays_16 ?_
  refine x_cvV (c_X2_leads_2 q2 t2 hd) t2 lkX2_leads sX2_30 dX2_stays_19 rfl rfl (Nat.le_of_ble_eq_true rfl) (by decide) ⟨rfl, rfl, by decide, by decide⟩ ?_
  rintro h3 ⟨q3, F3⟩
  refine x_iadd dX2_stays_22 ?_
  refine x_iret rfl dX2_stays_23 ⟨by decide, by decide⟩ ?_
  exact ⟨rfl, q3, ((F1.tr F2).tr F3)⟩
set_option maxRecDepth 10000 in
set_option maxHeartbeats 2000000 in
theorem c_X3_shares_3 {g : gG} {h : gH} {r q : Nat} {n a x : Int32} {t : TR} (hq : isQ h r t) (hth : h.1 q = some (.inr (3, thF n a r))) (hd : q < r ∨ r + 2 ≤ q) : Ct g mX3_shares [.ref q, .int x] h (some (.int (tH0 n a x t).1)) (Th r (tH0 n a x t).2 h) := by
  have e0 := hq.1.2.1
  refine Cn.of (L := [some (.ref q), some (.int x), none]) (by decide) (Nat.le_of_ble_eq_true rfl) rfl ?_
  refine x_aload_n dX3_shares_0 rfl ?_
  refine x_get fX3_16_3 hth rfl dX3_shares_1 ?_
  refine x_bipush (v := 12) dX3_shares_4 (by decide) ?_
  refine x_cnV (c_X7_begin hq) e0 lkX7_begin sX3_20 dX3_shares_6 rfl rfl (Nat.le_of_ble_eq_true rfl) (by decide) ⟨rfl, rfl, by decide, by decide⟩ ?_
  rintro h1 ⟨q1, F1⟩
  have t1 : h1.1 q = _ := (F1.2 q hd).trans hth
  have e1 := q1.1.2.1
  refine x_aload_n dX3_shares_9 rfl ?_
  refine x_get fX3_13_3 t1 rfl dX3_shares_10 ?_
  refine x_aload_n dX3_shares_13 rfl ?_
  refine x_get fX3_7_3 t1 rfl dX3_shares_14 ?_
  refine x_isub dX3_shares_17 ?_
  refine x_ist_2 dX3_shares_18 (by decide) rfl ?_
  refine x_iload_n dX3_shares_19 rfl ?_
  refine x_if_ne 33 dX3_shares_20 (by decide) (fun c20 => ?_) (fun c20 => ?_)
  · refine x_iload_n dX3_shares_33 rfl ?_
    refine x_iload_n dX3_shares_34 rfl ?_
    refine x_idiv dX3_shares_35 c20 ?_
    refine x_iret rfl dX3_shares_36 ⟨by decide, by decide⟩ ?_
    refine ⟨by rw [tH0, if_neg c20], ?_, F1⟩
    rw [tH0, if_neg c20]
    exact q1
  · refine x_aload_n dX3_shares_23 rfl ?_
    refine x_get fX3_16_3 t1 rfl dX3_shares_24 ?_
    refine x_iconst (v := 1) dX3_shares_27 (by decide) ?_
    refine x_put (fs' := rF r (bg t 12).1 1) fX3_30 e1 (Nat.le_of_ble_eq_true rfl) rfl rfl rfl dX3_shares_28 ?_
    refine x_iconst (v := 0) dX3_shares_31 (by decide) ?_
    refine x_iret rfl dX3_shares_32 ⟨by decide, by decide⟩ ?_
    refine ⟨by rw [tH0, if_pos c20], ?_, F1.tr (Fr.set (by omega) (by omega))⟩
    rw [tH0, if_pos c20]
    obtain ⟨⟨l30, _, b, hb, eb⟩, _⟩ := q1
    exact ⟨⟨l30, hset_s, b, (hset_n (by omega)).trans hb, eb⟩, Nat.le_refl 1⟩
set_option maxRecDepth 10000 in
set_option maxHeartbeats 2000000 in
theorem c_X3_shares_8 {g : gG} {h : gH} {r q : Nat} {n a x : Int32} {t : TR} (hq : isQ h r t) (hth : h.1 q = some (.inr (8, thF n a r))) (hd : q < r ∨ r + 2 ≤ q) : Ct g mX3_shares [.ref q, .int x] h (some (.int (tH0 n a x t).1)) (Th r (tH0 n a x t).2 h) := by
  have e0 := hq.1.2.1
  refine Cn.of (L := [some (.ref q), some (.int x), none]) (by decide) (Nat.le_of_ble_eq_true rfl) rfl ?_
  refine x_aload_n dX3_shares_0 rfl ?_
  refine x_get fX3_16_8 hth rfl dX3_shares_1 ?_
  refine x_bipush (v := 12) dX3_shares_4 (by decide) ?_
  refine x_cnV (c_X7_begin hq) e0 lkX7_begin sX3_20 dX3_shares_6 rfl rfl (Nat.le_of_ble_eq_true rfl) (by decide) ⟨rfl, rfl, by decide, by decide⟩ ?_
  rintro h1 ⟨q1, F1⟩
  have t1 : h1.1 q = _ := (F1.2 q hd).trans hth
  have e1 := q1.1.2.1
  refine x_aload_n dX3_shares_9 rfl ?_
  refine x_get fX3_13_8 t1 rfl dX3_shares_10 ?_
  refine x_aload_n dX3_shares_13 rfl ?_
  refine x_get fX3_7_8 t1 rfl dX3_shares_14 ?_
  refine x_isub dX3_shares_17 ?_
  refine x_ist_2 dX3_shares_18 (by decide) rfl ?_
  refine x_iload_n dX3_shares_19 rfl ?_
  refine x_if_ne 33 dX3_shares_20 (by decide) (fun c20 => ?_) (fun c20 => ?_)
  · refine x_iload_n dX3_shares_33 rfl ?_
    refine x_iload_n dX3_shares_34 rfl ?_
    refine x_idiv dX3_shares_35 c20 ?_
    refine x_iret rfl dX3_shares_36 ⟨by decide, by decide⟩ ?_
    refine ⟨by rw [tH0, if_neg c20], ?_, F1⟩
    rw [tH0, if_neg c20]
    exact q1
  · refine x_aload_n dX3_shares_23 rfl ?_
    refine x_get fX3_16_8 t1 rfl dX3_shares_24 ?_
    refine x_iconst (v := 1) dX3_shares_27 (by decide) ?_
    refine x_put (fs' := rF r (bg t 12).1 1) fX3_30 e1 (Nat.le_of_ble_eq_true rfl) rfl rfl rfl dX3_shares_28 ?_
    refine x_iconst (v := 0) dX3_shares_31 (by decide) ?_
    refine x_iret rfl dX3_shares_32 ⟨by decide, by decide⟩ ?_
    refine ⟨by rw [tH0, if_pos c20], ?_, F1.tr (Fr.set (by omega) (by omega))⟩
    rw [tH0, if_pos c20]
    obtain ⟨⟨l30, _, b, hb, eb⟩, _⟩ := q1
    exact ⟨⟨l30, hset_s, b, (hset_n (by omega)).trans hb, eb⟩, Nat.le_refl 1⟩
set_option maxRecDepth 10000 in
set_option maxHeartbeats 2000000 in
theorem c_X3_shares_9 {g : gG} {h : gH} {r q : Nat} {n a x : Int32} {t : TR} (hq : isQ h r t) (hth : h.1 q = some (.inr (9, thF n a r))) (hd : q < r ∨ r + 2 ≤ q) : Ct g mX3_shares [.ref q, .int x] h (some (.int (tH0 n a x t).1)) (Th r (tH0 n a x t).2 h) := by
  have e0 := hq.1.2.1
  refine Cn.of (L := [some (.ref q), some (.int x), none]) (by decide) (Nat.le_of_ble_eq_true rfl) rfl ?_
  refine x_aload_n dX3_shares_0 rfl ?_
  refine x_get fX3_16_9 hth rfl dX3_shares_1 ?_
  refine x_bipush (v := 12) dX3_shares_4 (by decide) ?_
  refine x_cnV (c_X7_begin hq) e0 lkX7_begin sX3_20 dX3_shares_6 rfl rfl (Nat.le_of_ble_eq_true rfl) (by decide) ⟨rfl, rfl, by decide, by decide⟩ ?_
  rintro h1 ⟨q1, F1⟩
  have t1 : h1.1 q = _ := (F1.2 q hd).trans hth
  have e1 := q1.1.2.1
  refine x_aload_n dX3_shares_9 rfl ?_
  refine x_get fX3_13_9 t1 rfl dX3_shares_10 ?_
  refine x_aload_n dX3_shares_13 rfl ?_
  refine x_get fX3_7_9 t1 rfl dX3_shares_14 ?_
  refine x_isub dX3_shares_17 ?_
  refine x_ist_2 dX3_shares_18 (by decide) rfl ?_
  refine x_iload_n dX3_shares_19 rfl ?_
  refine x_if_ne 33 dX3_shares_20 (by decide) (fun c20 => ?_) (fun c20 => ?_)
  · refine x_iload_n dX3_shares_33 rfl ?_
    refine x_iload_n dX3_shares_34 rfl ?_
    refine x_idiv dX3_shares_35 c20 ?_
    refine x_iret rfl dX3_shares_36 ⟨by decide, by decide⟩ ?_
    refine ⟨by rw [tH0, if_neg c20], ?_, F1⟩
    rw [tH0, if_neg c20]
    exact q1
  · refine x_aload_n dX3_shares_23 rfl ?_
    refine x_get fX3_16_9 t1 rfl dX3_shares_24 ?_
    refine x_iconst (v := 1) dX3_shares_27 (by decide) ?_
    refine x_put (fs' := rF r (bg t 12).1 1) fX3_30 e1 (Nat.le_of_ble_eq_true rfl) rfl rfl rfl dX3_shares_28 ?_
    refine x_iconst (v := 0) dX3_shares_31 (by decide) ?_
    refine x_iret rfl dX3_shares_32 ⟨by decide, by decide⟩ ?_
    refine ⟨by rw [tH0, if_pos c20], ?_, F1.tr (Fr.set (by omega) (by omega))⟩
    rw [tH0, if_pos c20]
    obtain ⟨⟨l30, _, b, hb, eb⟩, _⟩ := q1
    exact ⟨⟨l30, hset_s, b, (hset_n (by omega)).trans hb, eb⟩, Nat.le_refl 1⟩
set_option maxRecDepth 10000 in
set_option maxHeartbeats 2000000 in
theorem c_X3_shares_2 {g : gG} {h : gH} {r q : Nat} {n a x : Int32} {t : TR} (hq : isQ h r t) (hth : h.1 q = some (.inr (2, thF n a r))) (hd : q < r ∨ r + 2 ≤ q) : Ct g mX3_shares [.ref q, .int x] h (some (.int (tH0 n a x t).1)) (Th r (tH0 n a x t).2 h) := by
  have e0 := hq.1.2.1
  refine Cn.of (L := [some (.ref q), some (.int x), none]) (by decide) (Nat.le_of_ble_eq_true rfl) rfl ?_
  refine x_aload_n dX3_shares_0 rfl ?_
  refine x_get fX3_16_2 hth rfl dX3_shares_1 ?_
  refine x_bipush (v := 12) dX3_shares_4 (by decide) ?_
  refine x_cnV (c_X7_begin hq) e0 lkX7_begin sX3_20 dX3_shares_6 rfl rfl (Nat.le_of_ble_eq_true rfl) (by decide) ⟨rfl, rfl, by decide, by decide⟩ ?_
  rintro h1 ⟨q1, F1⟩
  have t1 : h1.1 q = _ := (F1.2 q hd).trans hth
  have e1 := q1.1.2.1
  refine x_aload_n dX3_shares_9 rfl ?_
  refine x_get fX3_13_2 t1 rfl dX3_shares_10 ?_
  refine x_aload_n dX3_shares_13 rfl ?_
  refine x_get fX3_7_2 t1 rfl dX3_shares_14 ?_
  refine x_isub dX3_shares_17 ?_
  refine x_ist_2 dX3_shares_18 (by decide) rfl ?_
  refine x_iload_n dX3_shares_19 rfl ?_
  refine x_if_ne 33 dX3_shares_20 (by decide) (fun c20 => ?_) (fun c20 => ?_)
  · refine x_iload_n dX3_shares_33 rfl ?_
    refine x_iload_n dX3_shares_34 rfl ?_
    refine x_idiv dX3_shares_35 c20 ?_
    refine x_iret rfl dX3_shares_36 ⟨by decide, by decide⟩ ?_
    refine ⟨by rw [tH0, if_neg c20], ?_, F1⟩
    rw [tH0, if_neg c20]
    exact q1
  · refine x_aload_n dX3_shares_23 rfl ?_
    refine x_get fX3_16_2 t1 rfl dX3_shares_24 ?_
    refine x_iconst (v := 1) dX3_shares_27 (by decide) ?_
    refine x_put (fs' := rF r (bg t 12).1 1) fX3_30 e1 (Nat.le_of_ble_eq_true rfl) rfl rfl rfl dX3_shares_28 ?_
    refine x_iconst (v := 0) dX3_shares_31 (by decide) ?_
    refine x_iret rfl dX3_shares_32 ⟨by decide, by decide⟩ ?_
    refine ⟨by rw [tH0, if_pos c20], ?_, F1.tr (Fr.set (by omega) (by omega))⟩
    rw [tH0, if_pos c20]
    obtain ⟨⟨l30, _, b, hb, eb⟩, _⟩ := q1
    exact ⟨⟨l30, hset_s, b, (hset_n (by omega)).trans hb, eb⟩, Nat.le_refl 1⟩
set_option maxRecDepth 10000 in
set_option maxHeartbeats 2000000 in
theorem c_X3_shares_0 {g : gG} {h : gH} {r q : Nat} {n a x : Int32} {t : TR} (hq : isQ h r t) (hth : h.1 q = some (.inr (0, thF n a r))) (hd : q < r ∨ r + 2 ≤ q) : Ct g mX3_shares [.ref q, .int x] h (some (.int (tH0 n a x t).1)) (Th r (tH0 n a x t).2 h) := by
  have e0 := hq.1.2.1
  refine Cn.of (L := [some (.ref q), some (.int x), none]) (by decide) (Nat.le_of_ble_eq_true rfl) rfl ?_
  refine x_aload_n dX3_shares_0 rfl ?_
  refine x_get fX3_16_0 hth rfl dX3_shares_1 ?_
  refine x_bipush (v := 12) dX3_shares_4 (by decide) ?_
  refine x_cnV (c_X7_begin hq) e0 lkX7_begin sX3_20 dX3_shares_6 rfl rfl (Nat.le_of_ble_eq_true rfl) (by decide) ⟨rfl, rfl, by decide, by decide⟩ ?_
  rintro h1 ⟨q1, F1⟩
  have t1 : h1.1 q = _ := (F1.2 q hd).trans hth
  have e1 := q1.1.2.1
  refine x_aload_n dX3_shares_9 rfl ?_
  refine x_get fX3_13_0 t1 rfl dX3_shares_10 ?_
  refine x_aload_n dX3_shares_13 rfl ?_
  refine x_get fX3_7_0 t1 rfl dX3_shares_14 ?_
  refine x_isub dX3_shares_17 ?_
  refine x_ist_2 dX3_shares_18 (by decide) rfl ?_
  refine x_iload_n dX3_shares_19 rfl ?_
  refine x_if_ne 33 dX3_shares_20 (by decide) (fun c20 => ?_) (fun c20 => ?_)
  · refine x_iload_n dX3_shares_33 rfl ?_
    refine x_iload_n dX3_shares_34 rfl ?_
    refine x_idiv dX3_shares_35 c20 ?_
    refine x_iret rfl dX3_shares_36 ⟨by decide, by decide⟩ ?_
    refine ⟨by rw [tH0, if_neg c20], ?_, F1⟩
    rw [tH0, if_neg c20]
    exact q1
  · refine x_aload_n dX3_shares_23 rfl ?_
    refine x_get fX3_16_0 t1 rfl dX3_shares_24 ?_
    refine x_iconst (v := 1) dX3_shares_27 (by decide) ?_
    refine x_put (fs' := rF r (bg t 12).1 1) fX3_30 e1 (Nat.le_of_ble_eq_true rfl) rfl rfl rfl dX3_shares_28 ?_
    refine x_iconst (v := 0) dX3_shares_31 (by decide) ?_
    refine x_iret rfl dX3_shares_32 ⟨by decide, by decide⟩ ?_
    refine ⟨by rw [tH0, if_pos c20], ?_, F1.tr (Fr.set (by omega) (by omega))⟩
    rw [tH0, if_pos c20]
    obtain ⟨⟨l30, _, b, hb, eb⟩, _⟩ := q1
    exact ⟨⟨l30, hset_s, b, (hset_n (by omega)).trans hb, eb⟩, Nat.le_refl 1⟩
set_option maxRecDepth 10000 in
set_option maxHeartbeats 2000000 in
theorem c_X3_shares_4 {g : gG} {h : gH} {r q : Nat} {n a x : Int32} {t : TR} (hq : isQ h r t) (hth : h.1 q = some (.inr (4, thF n a r))) (hd : q < r ∨ r + 2 ≤ q) : Ct g mX3_shares [.ref q, .int x] h (some (.int (tH0 n a x t).1)) (Th r (tH0 n a x t).2 h) := by
  have e0 := hq.1.2.1
  refine Cn.of (L := [some (.ref q), some (.int x), none]) (by decide) (Nat.le_of_ble_eq_true rfl) rfl ?_
  refine x_aload_n dX3_shares_0 rfl ?_
  refine x_get fX3_16_4 hth rfl dX3_shares_1 ?_
  refine x_bipush (v := 12) dX3_shares_4 (by decide) ?_
  refine x_cnV (c_X7_begin hq) e0 lkX7_begin sX3_20 dX3_shares_6 rfl rfl (Nat.le_of_ble_eq_true rfl) (by decide) ⟨rfl, rfl, by decide, by decide⟩ ?_
  rintro h1 ⟨q1, F1⟩
  have t1 : h1.1 q = _ := (F1.2 q hd).trans hth
  have e1 := q1.1.2.1
  refine x_aload_n dX3_shares_9 rfl ?_
  refine x_get fX3_13_4 t1 rfl dX3_shares_10 ?_
  refine x_aload_n dX3_shares_13 rfl ?_
  refine x_get fX3_7_4 t1 rfl dX3_shares_14 ?_
  refine x_isub dX3_shares_17 ?_
  refine x_ist_2 dX3_shares_18 (by decide) rfl ?_
  refine x_iload_n dX3_shares_19 rfl ?_
  refine x_if_ne 33 dX3_shares_20 (by decide) (fun c20 => ?_) (fun c20 => ?_)
  · refine x_iload_n dX3_shares_33 rfl ?_
    refine x_iload_n dX3_shares_34 rfl ?_
    refine x_idiv dX3_shares_35 c20 ?_
    refine x_iret rfl dX3_shares_36 ⟨by decide, by decide⟩ ?_
    refine ⟨by rw [tH0, if_neg c20], ?_, F1⟩
    rw [tH0, if_neg c20]
    exact q1
  · refine x_aload_n dX3_shares_23 rfl ?_
    refine x_get fX3_16_4 t1 rfl dX3_shares_24 ?_
    refine x_iconst (v := 1) dX3_shares_27 (by decide) ?_
    refine x_put (fs' := rF r (bg t 12).1 1) fX3_30 e1 (Nat.le_of_ble_eq_true rfl) rfl rfl rfl dX3_shares_28 ?_
    refine x_iconst (v := 0) dX3_shares_31 (by decide) ?_
    refine x_iret rfl dX3_shares_32 ⟨by decide, by decide⟩ ?_
    refine ⟨by rw [tH0, if_pos c20], ?_, F1.tr (Fr.set (by omega) (by omega))⟩
    rw [tH0, if_pos c20]
    obtain ⟨⟨l30, _, b, hb, eb⟩, _⟩ := q1
    exact ⟨⟨l30, hset_s, b, (hset_n (by omega)).trans hb, eb⟩, Nat.le_refl 1⟩
set_option maxRecDepth 10000 in
set_option maxHeartbeats 2000000 in
theorem c_X0_shares_0 {g : gG} {h : gH} {r q : Nat} {n a x : Int32} {t : TR} (hq : isQ h r t) (hth : h.1 q = some (.inr (0, thF n a r))) (hd : q < r ∨ r + 2 ≤ q) : Ct g mX0_shares [.ref q, .int x] h (some (.int (tH 4 n a x t).1)) (Th r (tH 4 n a x t).2 h) := by
  have e0 := hq.1.2.1
  refine Cn.of (L := [some (.ref q), some (.int x)]) (by decide) (Nat.le_of_ble_eq_true rfl) rfl ?_
  refine x_aload_n dX0_shares_0 rfl ?_
  refine x_getR fX0_7 hth rfl dX0_shares_1 ?_
  refine x_bipush (v := 50) dX0_shares_4 (by decide) ?_
  refine x_cnV (c_X7_begin hq) e0 lkX7_begin sX0_13 dX0_shares_6 rfl rfl (Nat.le_of_ble_eq_true rfl) (by decide) ⟨rfl, rfl, by decide, by decide⟩ ?_
  rintro h1 ⟨q1, F1⟩
  have t1 : h1.1 q = _ := (F1.2 q hd).trans hth
  have e1 := q1.1.2.1
  refine x_aload_n dX0_shares_9 rfl ?_
  refine x_iload_n dX0_shares_10 rfl ?_
  refine x_iconst (v := 2) dX0_shares_11 (by decide) ?_
  refine x_iadd dX0_shares_12 ?_
  refine x_cvSI (i0 := 3) (x := ⟨"HeldPaths$TrackThing", "shares", "(I)I"⟩) (c_X3_shares_0 q1 t1 hd) t1 lkX3_shares rfl (gT_in 945 (by decide +kernel) rfl) ⟨gT_in 1025 (by decide +kernel) rfl, gT_in 1026 (by decide +kernel) rfl, gT_in 953 (by decide +kernel) rfl, gT_in 923 (by decide +kernel) rfl, gT_in 1019 (by decide +kernel) rfl⟩ rfl (by decide) dX0_shares_13 rfl rfl (Nat.le_of_ble_eq_true rfl) (by decide) ⟨rfl, rfl, by decide, by decide⟩ ?_
  rintro h2 ⟨q2, F2⟩
  have t2 : h2.1 q = _ := (F2.2 q hd).trans t1
  refine x_iconst (v := 1) dX0_shares_16 (by decide) ?_
  refine x_ixor dX0_shares_17 ?_
  refine x_iret rfl dX0_shares_18 ⟨by decide, by decide⟩ ?_
  exact ⟨rfl, q2, (F1.tr F2)⟩
set_option maxRecDepth 10000 in
set_option maxHeartbeats 2000000 in
theorem c_X4_shares_4 {g : gG} {h : gH} {r q : Nat} {n a x : Int32} {t : TR} (hq : isQ h r t) (hth : h.1 q = some (.inr (4, thF n a r))) (hd : q < r ∨ r + 2 ≤ q) : Ct g mX4_shares [.ref q, .int x] h (some (.int (tH 5 n a x t).1)) (Th r (tH 5 n a x t).2 h) := by
  have e0 := hq.1.2.1
  refine Cn.of (L := [some (.ref q), some (.int x)]) (by decide) (Nat.le_of_ble_eq_true rfl) rfl ?_
  refine x_aload_n dX4_shares_0 rfl ?_
  refine x_getR fX4_7 hth rfl dX4_shares_1 ?_
  refine x_bipush (v := 61) dX4_shares_4 (by decide) ?_
  refine x_cnV (c_X7_begin hq) e0 lkX7_begin sX4_13 dX4_shares_6 rfl rfl (Nat.le_of_ble_eq_true rfl) (by decide) ⟨rfl, rfl, by decide, by decide⟩ ?_
  rintro h1 ⟨q1, F1⟩
  have t1 : h1.1 q = _ := (F1.2 q hd).trans hth
  have e1 := q1.1.2.1
  refine x_aload_n dX4_shares_9 rfl ?_
  refine x_iload_n dX4_shares_10 rfl ?_
  refine x_cvSU (i0 := 3) (c_X3_shares_4 q1 t1 hd) t1 lkX3_shares rfl (gT_in 955 (by decide +kernel) rfl) ⟨gT_in 1033 (by decide +kernel) rfl, gT_in 1021 (by decide +kernel) rfl, gT_in 963 (by decide +kernel) rfl, gT_in 1019 (by decide +kernel) rfl⟩ (by decide) dX4_shares_11 rfl rfl (Nat.le_of_ble_eq_true rfl) (by decide) ⟨rfl, rfl, by decide, by decide⟩ ?_
  rintro h2 ⟨q2, F2⟩
  have t2 : h2.1 q = _ := (F2.2 q hd).trans t1
  refine x_aload_n dX4_shares_14 rfl ?_
  refine x_aload_n dX4_shares_15 rfl ?_
  refine x_getR fX4_26 t2 rfl dX4_shares_16 ?_
  refine x_cvU (x := ⟨"HeldPaths$RideThing", "leads", "(I)I"⟩) (owner := "HeldPaths$PathThing") (c_X3_leads_4 q2 t2 hd) t2 lkX3_leads rfl ⟨gT_in 1034 (by decide +kernel) rfl, gT_in 1035 (by decide +kernel) rfl, gT_in 972 (by decide +kernel) rfl, gT_in 1036 (by decide +kernel) rfl, gT_in 972 (by decide +kernel) rfl⟩ lkX3_leads.1 ⟨by decide, by decide, lkX3_leads.2.2.2⟩ dX4_shares_19 rfl rfl (Nat.le_of_ble_eq_true rfl) (by decide) ⟨rfl, rfl, by decide, by decide⟩ ?_
  rintro h3 ⟨q3, F3⟩
  have t3 : h3.1 q = _ := (F3.2 q hd).trans t2
  refine x_iadd dX4_shares_22 ?_
  refine x_iret rfl dX4_shares_23 ⟨by decide, by decide⟩ ?_
  exact ⟨rfl, q3, ((F1.tr F2).tr F3)⟩
set_option maxRecDepth 10000 in
set_option maxHeartbeats 2000000 in
theorem c_X3_tells_3 {g : gG} {h : gH} {r q : Nat} {n a x : Int32} {t : TR} (hq : isQ h r t) (hth : h.1 q = some (.inr (3, thF n a r))) (hd : q < r ∨ r + 2 ≤ q) : Ct g mX3_tells [.ref q, .int x] h (some (.int (tT0 0 n a x t).1)) (Th r (tT0 0 n a x t).2 h) := by
  have e0 := hq.1.2.1
  refine Cn.of (L := [some (.ref q), some (.int x)]) (by decide) (Nat.le_of_ble_eq_true rfl) rfl ?_
  refine x_aload_n dX3_tells_0 rfl ?_
  refine x_get fX3_16_3 hth rfl dX3_tells_1 ?_
  refine x_bipush (v := 13) dX3_tells_4 (by decide) ?_
  refine x_cnV (c_X7_begin hq) e0 lkX7_begin sX3_20 dX3_tells_6 rfl rfl (Nat.le_of_ble_eq_true rfl) (by decide) ⟨rfl, rfl, by decide, by decide⟩ ?_
  rintro h1 ⟨q1, F1⟩
  have t1 : h1.1 q = _ := (F1.2 q hd).trans hth
  have e1 := q1.1.2.1
  refine x_aload_n dX3_tells_9 rfl ?_
  refine x_iload_n dX3_tells_10 rfl ?_
  refine x_cvU (x := ⟨"HeldPaths$PathThing", "stays", "(I)I"⟩) (owner := "HeldPaths$PathThing") (c_X3_stays_3 q1 t1 hd) t1 lkX3_stays rfl ⟨gT_in 1059 (by decide +kernel) rfl, gT_in 1002 (by decide +kernel) rfl, gT_in 1000 (by decide +kernel) rfl, gT_in 1001 (by decide +kernel) rfl, gT_in 1000 (by decide +kernel) rfl⟩ lkX3_stays.1 ⟨by decide, by decide, lkX3_stays.2.2.2⟩ dX3_tells_11 rfl rfl (Nat.le_of_ble_eq_true rfl) (by decide) ⟨rfl, rfl, by decide, by decide⟩ ?_
  rintro h2 ⟨q2, F2⟩
  have t2 : h2.1 q = _ := (F2.2 q hd).trans t1
  refine x_aload_n dX3_tells_14 rfl ?_
  refine x_get fX3_13_3 t2 rfl dX3_tells_15 ?_
  refine x_ixor dX3_tells_18 ?_
  refine x_iret rfl dX3_tells_19 ⟨by decide, by decide⟩ ?_
  exact ⟨rfl, q2, (F1.tr F2)⟩
set_option maxRecDepth 10000 in
set_option maxHeartbeats 2000000 in
theorem c_X3_tells_8 {g : gG} {h : gH} {r q : Nat} {n a x : Int32} {t : TR} (hq : isQ h r t) (hth : h.1 q = some (.inr (8, thF n a r))) (hd : q < r ∨ r + 2 ≤ q) : Ct g mX3_tells [.ref q, .int x] h (some (.int (tT0 1 n a x t).1)) (Th r (tT0 1 n a x t).2 h) := by
  have e0 := hq.1.2.1
  refine Cn.of (L := [some (.ref q), some (.int x)]) (by decide) (Nat.le_of_ble_eq_true rfl) rfl ?_
  refine x_aload_n dX3_tells_0 rfl ?_
  refine x_get fX3_16_8 hth rfl dX3_tells_1 ?_
  refine x_bipush (v := 13) dX3_tells_4 (by decide) ?_
  refine x_cnV (c_X7_begin hq) e0 lkX7_begin sX3_20 dX3_tells_6 rfl rfl (Nat.le_of_ble_eq_true rfl) (by decide) ⟨rfl, rfl, by decide, by decide⟩ ?_
  rintro h1 ⟨q1, F1⟩
  have t1 : h1.1 q = _ := (F1.2 q hd).trans hth
  have e1 := q1.1.2.1
  refine x_aload_n dX3_tells_9 rfl ?_
  refine x_iload_n dX3_tells_10 rfl ?_
  refine x_cvU (x := ⟨"HeldPaths$PathThing", "stays", "(I)I"⟩) (owner := "HeldPaths$PathThing") (c_X8_stays_8 q1 t1 hd) t1 lkX8_stays rfl ⟨gT_in 1059 (by decide +kernel) rfl, gT_in 1002 (by decide +kernel) rfl, gT_in 1000 (by decide +kernel) rfl, gT_in 1014 (by decide +kernel) rfl, gT_in 1004 (by decide +kernel) rfl⟩ lkX3_stays.1 ⟨by decide, by decide, lkX3_stays.2.2.2⟩ dX3_tells_11 rfl rfl (Nat.le_of_ble_eq_true rfl) (by decide) ⟨rfl, rfl, by decide, by decide⟩ ?_
  rintro h2 ⟨q2, F2⟩
  have t2 : h2.1 q = _ := (F2.2 q hd).trans t1
  refine x_aload_n dX3_tells_14 rfl ?_
  refine x_get fX3_13_8 t2 rfl dX3_tells_15 ?_
  refine x_ixor dX3_tells_18 ?_
  refine x_iret rfl dX3_tells_19 ⟨by decide, by decide⟩ ?_
  exact ⟨rfl, q2, (F1.tr F2)⟩
set_option maxRecDepth 10000 in
set_option maxHeartbeats 2000000 in
theorem c_X3_tells_9 {g : gG} {h : gH} {r q : Nat} {n a x : Int32} {t : TR} (hq : isQ h r t) (hth : h.1 q = some (.inr (9, thF n a r))) (hd : q < r ∨ r + 2 ≤ q) : Ct g mX3_tells [.ref q, .int x] h (some (.int (tT0 2 n a x t).1)) (Th r (tT0 2 n a x t).2 h) := by
  have e0 := hq.1.2.1
  refine Cn.of (L := [some (.ref q), some (.int x)]) (by decide) (Nat.le_of_ble_eq_true rfl) rfl ?_
  refine x_aload_n dX3_tells_0 rfl ?_
  refine x_get fX3_16_9 hth rfl dX3_tells_1 ?_
  refine x_bipush (v := 13) dX3_tells_4 (by decide) ?_
  refine x_cnV (c_X7_begin hq) e0 lkX7_begin sX3_20 dX3_tells_6 rfl rfl (Nat.le_of_ble_eq_true rfl) (by decide) ⟨rfl, rfl, by decide, by decide⟩ ?_
  rintro h1 ⟨q1, F1⟩
  have t1 : h1.1 q = _ := (F1.2 q hd).trans hth
  have e1 := q1.1.2.1
  refine x_aload_n dX3_tells_9 rfl ?_
  refine x_iload_n dX3_tells_10 rfl ?_
  refine x_cvU (x := ⟨"HeldPaths$PathThing", "stays", "(I)I"⟩) (owner := "HeldPaths$PathThing") (c_X3_stays_9 q1 t1 hd) t1 lkX3_stays rfl ⟨gT_in 1059 (by decide +kernel) rfl, gT_in 1002 (by decide +kernel) rfl, gT_in 1000 (by decide +kernel) rfl, gT_in 1015 (by decide +kernel) rfl, gT_in 1000 (by decide +kernel) rfl⟩ lkX3_stays.1 ⟨by decide, by decide, lkX3_stays.2.2.2⟩ dX3_tells_11 rfl rfl (Nat.le_of_ble_eq_true rfl) (by decide) ⟨rfl, rfl, by decide, by decide⟩ ?_
  rintro h2 ⟨q2, F2⟩
  have t2 : h2.1 q = _ := (F2.2 q hd).trans t1
  refine x_aload_n dX3_tells_14 rfl ?_
  refine x_get fX3_13_9 t2 rfl dX3_tells_15 ?_
  refine x_ixor dX3_tells_18 ?_
  refine x_iret rfl dX3_tells_19 ⟨by decide, by decide⟩ ?_
  exact ⟨rfl, q2, (F1.tr F2)⟩
set_option maxRecDepth 10000 in
set_option maxHeartbeats 2000000 in
theorem c_X3_tells_2 {g : gG} {h : gH} {r q : Nat} {n a x : Int32} {t : TR} (hq : isQ h r t) (hth : h.1 q = some (.inr (2, thF n a r))) (hd : q < r ∨ r + 2 ≤ q) : Ct g mX3_tells [.ref q, .int x] h (some (.int (tT0 3 n a x t).1)) (Th r (tT0 3 n a x t).2 h) := by
  have e0 := hq.1.2.1
  refine Cn.of (L := [some (.ref q), some (.int x)]) (by decide) (Nat.le_of_ble_eq_true rfl) rfl ?_
  refine x_aload_n dX3_tells_0 rfl ?_
  refine x_get fX3_16_2 hth rfl dX3_tells_1 ?_
  refine x_bipush (v := 13) dX3_tells_4 (by decide) ?_
  refine x_cnV (c_X7_begin hq) e0 lkX7_begin sX3_20 dX3_tells_6 rfl rfl (Nat.le_of_ble_eq_true rfl) (by decide) ⟨rfl, rfl, by decide, by decide⟩ ?_
  rintro h1 ⟨q1, F1⟩
  have t1 : h1.1 q = _ := (F1.2 q hd).trans hth
  have e1 := q1.1.2.1
  refine x_aload_n dX3_tells_9 rfl ?_
  refine x_iload_n dX3_tells_10 rfl ?_
  refine x_cvU (x := ⟨"HeldPaths$PathThing", "stays", "(I)I"⟩) (owner := "HeldPaths$PathThing") (c_X2_stays_2 q1 t1 hd) t1 lkX2_stays rfl ⟨gT_in 1059 (by decide +kernel) rfl, gT_in 1002 (by decide +kernel) rfl, gT_in 1000 (by decide +kernel) rfl, gT_in 1008 (by decide +kernel) rfl, gT_in 1009 (by decide +kernel) rfl⟩ lkX3_stays.1 ⟨by decide, by decide, lkX3_stays.2.2.2⟩ dX3_tells_11 rfl rfl (Nat.le_of_ble_eq_true rfl) (by decide) ⟨rfl, rfl, by decide, by decide⟩ ?_
  rintro h2 ⟨q2, F2⟩
  have t2 : h2.1 q = _ := (F2.2 q hd).trans t1
  refine x_aload_n dX3_tells_14 rfl ?_
  refine x_get fX3_13_2 t2 rfl dX3_tells_15 ?_
  refine x_ixor dX3_tells_18 ?_
  refine x_iret rfl dX3_tells_19 ⟨by decide, by decide⟩ ?_
  exact ⟨rfl, q2, (F1.tr F2)⟩
set_option maxRecDepth 10000 in
set_option maxHeartbeats 2000000 in
theorem c_X3_tells_0 {g : gG} {h : gH} {r q : Nat} {n a x : Int32} {t : TR} (hq : isQ h r t) (hth : h.1 q = some (.inr (0, thF n a r))) (hd : q < r ∨ r + 2 ≤ q) : Ct g mX3_tells [.ref q, .int x] h (some (.int (tT0 4 n a x t).1)) (Th r (tT0 4 n a x t).2 h) := by
  have e0 := hq.1.2.1
  refine Cn.of (L := [some (.ref q), some (.int x)]) (by decide) (Nat.le_of_ble_eq_true rfl) rfl ?_
  refine x_aload_n dX3_tells_0 rfl ?_
  refine x_get fX3_16_0 hth rfl dX3_tells_1 ?_
  refine x_bipush (v := 13) dX3_tells_4 (by decide) ?_
  refine x_cnV (c_X7_begin hq) e0 lkX7_begin sX3_20 dX3_tells_6 rfl rfl (Nat.le_of_ble_eq_true rfl) (by decide) ⟨rfl, rfl, by decide, by decide⟩ ?_
  rintro h1 ⟨q1, F1⟩
  have t1 : h1.1 q = _ := (F1.2 q hd).trans hth
  have e1 := q1.1.2.1
  refine x_aload_n dX3_tells_9 rfl ?_
  refine x_iload_n dX3_tells_10 rfl ?_
  refine x_cvU (x := ⟨"HeldPaths$PathThing", "stays", "(I)I"⟩) (owner := "HeldPaths$PathThing") (c_X8_stays_0 q1 t1 hd) t1 lkX8_stays rfl ⟨gT_in 1059 (by decide +kernel) rfl, gT_in 1002 (by decide +kernel) rfl, gT_in 1000 (by decide +kernel) rfl, gT_in 1003 (by decide +kernel) rfl, gT_in 1004 (by decide +kernel) rfl⟩ lkX3_stays.1 ⟨by decide, by decide, lkX3_stays.2.2.2⟩ dX3_tells_11 rfl rfl (Nat.le_of_ble_eq_true rfl) (by decide) ⟨rfl, rfl, by decide, by decide⟩ ?_
  rintro h2 ⟨q2, F2⟩
  have t2 : h2.1 q = _ := (F2.2 q hd).trans t1
  refine x_aload_n dX3_tells_14 rfl ?_
  refine x_get fX3_13_0 t2 rfl dX3_tells_15 ?_
  refine x_ixor dX3_tells_18 ?_
  refine x_iret rfl dX3_tells_19 ⟨by decide, by decide⟩ ?_
  exact ⟨rfl, q2, (F1.tr F2)⟩
set_option maxRecDepth 10000 in
set_option maxHeartbeats 2000000 in
theorem c_X3_tells_4 {g : gG} {h : gH} {r q : Nat} {n a x : Int32} {t : TR} (hq : isQ h r t) (hth : h.1 q = some (.inr (4, thF n a r))) (hd : q < r ∨ r + 2 ≤ q) : Ct g mX3_tells [.ref q, .int x] h (some (.int (tT0 5 n a x t).1)) (Th r (tT0 5 n a x t).2 h) := by
  have e0 := hq.1.2.1
  refine Cn.of (L := [some (.ref q), some (.int x)]) (by decide) (Nat.le_of_ble_eq_true rfl) rfl ?_
  refine x_aload_n dX3_tells_0 rfl ?_
  refine x_get fX3_16_4 hth rfl dX3_tells_1 ?_
  refine x_bipush (v := 13) dX3_tells_4 (by decide) ?_
  refine x_cnV (c_X7_begin hq) e0 lkX7_begin sX3_20 dX3_tells_6 rfl rfl (Nat.le_of_ble_eq_true rfl) (by decide) ⟨rfl, rfl, by decide, by decide⟩ ?_
  rintro h1 ⟨q1, F1⟩
  have t1 : h1.1 q = _ := (F1.2 q hd).trans hth
  have e1 := q1.1.2.1
  refine x_aload_n dX3_tells_9 rfl ?_
  refine x_iload_n dX3_tells_10 rfl ?_
  refine x_cvU (x := ⟨"HeldPaths$PathThing", "stays", "(I)I"⟩) (owner := "HeldPaths$PathThing") (c_X3_stays_4 q1 t1 hd) t1 lkX3_stays rfl ⟨gT_in 1059 (by decide +kernel) rfl, gT_in 1002 (by decide +kernel) rfl, gT_in 1000 (by decide +kernel) rfl, gT_in 1013 (by decide +kernel) rfl, gT_in 1000 (by decide +kernel) rfl⟩ lkX3_stays.1 ⟨by decide, by decide, lkX3_stays.2.2.2⟩ dX3_tells_11 rfl rfl (Nat.le_of_ble_eq_true rfl) (by decide) ⟨rfl, rfl, by decide, by decide⟩ ?_
  rintro h2 ⟨q2, F2⟩
  have t2 : h2.1 q = _ := (F2.2 q hd).trans t1
  refine x_aload_n dX3_tells_14 rfl ?_
  refine x_get fX3_13_4 t2 rfl dX3_tells_15 ?_
  refine x_ixor dX3_tells_18 ?_
  refine x_iret rfl dX3_tells_19 ⟨by decide, by decide⟩ ?_
  exact ⟨rfl, q2, (F1.tr F2)⟩
set_option maxRecDepth 10000 in
set_option maxHeartbeats 2000000 in
theorem c_X9_tells_9 {g : gG} {h : gH} {r q : Nat} {n a x : Int32} {t : TR} (hq : isQ h r t) (hth : h.1 q = some (.inr (9, thF n a r))) (hd : q < r ∨ r + 2 ≤ q) : Ct g mX9_tells [.ref q, .int x] h (some (.int (tT 2 n a x t).1)) (Th r (tT 2 n a x t).2 h) := by
  have e0 := hq.1.2.1
  refine Cn.of (L := [some (.ref q), some (.int x)]) (by decide) (Nat.le_of_ble_eq_true rfl) rfl ?_
  refine x_aload_n dX9_tells_0 rfl ?_
  refine x_getR fX9_7 hth rfl dX9_tells_1 ?_
  refine x_bipush (v := 31) dX9_tells_4 (by decide) ?_
  refine x_cnV (c_X7_begin hq) e0 lkX7_begin sX9_13 dX9_tells_6 rfl rfl (Nat.le_of_ble_eq_true rfl) (by decide) ⟨rfl, rfl, by decide, by decide⟩ ?_
  rintro h1 ⟨q1, F1⟩
  have t1 : h1.1 q = _ := (F1.2 q hd).trans hth
  have e1 := q1.1.2.1
  refine x_aload_n dX9_tells_9 rfl ?_
  refine x_iload_n dX9_tells_10 rfl ?_
  refine x_cvSU (i0 := 3) (c_X3_tells_9 q1 t1 hd) t1 lkX3_tells rfl (gT_in 925 (by decide +kernel) rfl) ⟨gT_in 1054 (by decide +kernel) rfl, gT_in 1043 (by decide +kernel) rfl, gT_in 933 (by decide +kernel) rfl, gT_in 1041 (by decide +kernel) rfl⟩ (by decide) dX9_tells_11 rfl rfl (Nat.le_of_ble_eq_true rfl) (by decide) ⟨rfl, rfl, by decide, by decide⟩ ?_
  rintro h2 ⟨q2, F2⟩
  have t2 : h2.1 q = _ := (F2.2 q hd).trans t1
  refine x_aload_n dX9_tells_14 rfl ?_
  refine x_aload_n dX9_tells_15 rfl ?_
  refine x_getR fX9_26 t2 rfl dX9_tells_16 ?_
  refine x_cvU (x := ⟨"HeldPaths$WallThing", "shares", "(I)I"⟩) (owner := "HeldPaths$PathThing") (c_X3_shares_9 q2 t2 hd) t2 lkX3_shares rfl ⟨gT_in 1055 (by decide +kernel) rfl, gT_in 1056 (by decide +kernel) rfl, gT_in 1019 (by decide +kernel) rfl, gT_in 1057 (by decide +kernel) rfl, gT_in 1019 (by decide +kernel) rfl⟩ lkX3_shares.1 ⟨by decide, by decide, lkX3_shares.2.2.2⟩ dX9_tells_19 rfl rfl (Nat.le_of_ble_eq_true rfl) (by decide) ⟨rfl, rfl, by decide, by decide⟩ ?_
  rintro h3 ⟨q3, F3⟩
  have t3 : h3.1 q = _ := (F3.2 q hd).trans t2
  refine x_iadd dX9_tells_22 ?_
  refine x_iret rfl dX9_tells_23 ⟨by decide, by decide⟩ ?_
  exact ⟨rfl, q3, ((F1.tr F2).tr F3)⟩
set_option maxRecDepth 10000 in
set_option maxHeartbeats 2000000 in
theorem c_X4_tells_4 {g : gG} {h : gH} {r q : Nat} {n a x : Int32} {t : TR} (hq : isQ h r t) (hth : h.1 q = some (.inr (4, thF n a r))) (hd : q < r ∨ r + 2 ≤ q) : Ct g mX4_tells [.ref q, .int x] h (some (.int (tT 5 n a x t).1)) (Th r (tT 5 n a x t).2 h) := by
  have e0 := hq.1.2.1
  refine Cn.of (L := [some (.ref q), some (.int x)]) (by decide) (Nat.le_of_ble_eq_true rfl) rfl ?_
  refine x_aload_n dX4_tells_0 rfl ?_
  refine x_getR fX4_7 hth rfl dX4_tells_1 ?_
  refine x_bipush (v := 60) dX4_tells_4 (by decide) ?_
  refine x_cnV (c_X7_begin hq) e0 lkX7_begin sX4_13 dX4_tells_6 rfl rfl (Nat.le_of_ble_eq_true rfl) (by decide) ⟨rfl, rfl, by decide, by decide⟩ ?_
  rintro h1 ⟨q1, F1⟩
  have t1 : h1.1 q = _ := (F1.2 q hd).trans hth
  have e1 := q1.1.2.1
  refine x_aload_n dX4_tells_9 rfl ?_
  refine x_iload_n dX4_tells_10 rfl ?_
  refine x_cvSU (i0 := 3) (c_X3_tells_4 q1 t1 hd) t1 lkX3_tells rfl (gT_in 955 (by decide +kernel) rfl) ⟨gT_in 1049 (by decide +kernel) rfl, gT_in 1043 (by decide +kernel) rfl, gT_in 963 (by decide +kernel) rfl, gT_in 1041 (by decide +kernel) rfl⟩ (by decide) dX4_tells_11 rfl rfl (Nat.le_of_ble_eq_true rfl) (by decide) ⟨rfl, rfl, by decide, by decide⟩ ?_
  rintro h2 ⟨q2, F2⟩
  have t2 : h2.1 q = _ := (F2.2 q hd).trans t1
  refine x_iconst (v := 2) dX4_tells_14 (by decide) ?_
  refine x_imul dX4_tells_15 ?_
  refine x_iret rfl dX4_tells_16 ⟨by decide, by decide⟩ ?_
  exact ⟨rfl, q2, (F1.tr F2)⟩
