theorem lsr1 {a : Nat} (h : a < 2 ^ 63) : lN a >>> ((1 : Int32).toInt64 &&& 63) = lN (a / 2) := by
  rw [show ((1 : Int32).toInt64 &&& 63) = lN 1 from wb_c 1 (by decide)]
  apply wb_inj
  rw [Int64.toBitVec_shiftRight, BitVec.sshiftRight_eq']
  have e : ((lN 1).toBitVec.smod 64).toNat = 1 := by decide +kernel
  show (lN a).toBitVec.sshiftRight ((lN 1).toBitVec.smod 64).toNat = _
  have t := wb_tn (n := a) (by omega)
  rw [e, BitVec.sshiftRight_eq_of_msb_false (by rw [BitVec.msb_eq_false_iff_two_mul_lt, t]; omega)]
  apply BitVec.eq_of_toNat_eq
  rw [BitVec.toNat_ushiftRight, t, wb_tn (by omega), Nat.shiftRight_eq_div_pow]
/-- a over 2 to the k, in lowest terms -/
def rdN : Nat → Nat → Nat × Nat
  | a, 0 => (a, 0)
  | a, k + 1 => if a % 2 = 0 then rdN (a / 2) k else (a, k + 1)
def ptN (a k : Nat) (pt : Int32) : Int64 := if pt = 0 then lN (rdN a k).1 else lN (2 ^ (rdN a k).2)
theorem nat_dn {P : Nat → Prop} (h0 : P 0) (hs : ∀ k, P k → P (k + 1)) : ∀ k, P k
  | 0 => h0
  | k + 1 => hs k (nat_dn h0 hs k)
set_option maxRecDepth 10000 in
set_option maxHeartbeats 2000000 in
theorem c_X11_partOf {g : gG} {h : gH} {A K : Nat} {pt : Int32} (hA : A < 2 ^ 63) (hK : K ≤ 62) : Rd g mX11_partOf [.long (lN A), .long (lN (2 ^ K)), .int pt] h (.long (ptN A K pt)) := by
  refine Cn.of (L := [some (.long (lN A)), none, some (.long (lN (2 ^ K))), none, some (.int pt), none, none, none, none, none]) (by decide) (Nat.le_of_ble_eq_true rfl) rfl ?_
  refine x_lload_n dX11_partOf_0 rfl ?_
  refine x_lst_5 dX11_partOf_1 (by decide) rfl ?_
  refine x_lload_n dX11_partOf_3 rfl ?_
  refine x_lst_7 dX11_partOf_4 (by decide) rfl ?_
  refine x_iconst (v := 0) dX11_partOf_6 (by decide) ?_
  refine x_ist_9 dX11_partOf_7 (by decide) rfl ?_
  refine nat_dn (P := fun k => ∀ a i, a < 2 ^ 63 → i + k ≤ 62 → rdN a k = rdN A K → Ex g mX11_partOf _ 9 [some (.long (lN A)), none, some (.long (lN (2 ^ K))), none, some (.int pt), some (.long (lN a)), none, some (.long (lN (2 ^ k))), none, some (.int (nI i))] [] h 0 0) (fun a i ha hi hR => ?_) (fun k ih a i ha hi hR => ?_) K A 0 hA (by omega) rfl
  · refine x_iload dX11_partOf_9 rfl ?_
    refine x_bipush (v := 64) dX11_partOf_11 (by decide) ?_
    refine x_icmp_ge_f 50 dX11_partOf_13 (by decide) (ge_f (N := 64) rfl (by omega) (by decide)) ?_
    refine x_lload dX11_partOf_16 rfl ?_
    refine x_lconst (v := 1) dX11_partOf_18 (by decide) ?_
    refine x_lcmp dX11_partOf_19 ?_
    refine x_if_le_t 50 dX11_partOf_20 (by decide) (lg_le.mpr (by decide)) ?_
    refine x_iload dX11_partOf_50 rfl ?_
    refine x_if_ne 60 dX11_partOf_52 (by decide) (fun c52 => ?_) (fun c52 => ?_)
    · refine x_lload dX11_partOf_60 rfl ?_
      refine x_lret rfl dX11_partOf_62 ⟨by decide, by decide⟩ ?_
      exact ⟨by (rw [ptN, if_neg c52, ← hR]) <;> rfl, rfl⟩
    · refine x_lload dX11_partOf_55 rfl ?_
      refine x_goto 62 dX11_partOf_57 (by decide) ?_
      refine x_lret rfl dX11_partOf_62 ⟨by decide, by decide⟩ ?_
      exact ⟨by (rw [ptN, if_pos c52, ← hR]) <;> rfl, rfl⟩
  · have p1 : 2 ^ (k + 1) < 2 ^ 63 := Nat.pow_lt_pow_right (by decide) (by omega)
    have p2 : 2 ^ (k + 1) / 2 = 2 ^ k := by rw [Nat.pow_succ]; omega
    have p0 := Nat.two_pow_pos k
    have p3 : 2 ^ (k + 1) = 2 ^ k * 2 := Nat.pow_succ ..
    have g1 : (1 : Int64) < lN (2 ^ (k + 1)) := (pk_lLT (a := 1) (by decide) p1).mpr (by omega)
    have e2 : lN (a % 2) = 0 ↔ a % 2 = 0 := pk_lEQ (b := 0) (by omega) (by decide)
    refine x_iload dX11_partOf_9 rfl ?_
    refine x_bipush (v := 64) dX11_partOf_11 (by decide) ?_
    refine x_icmp_ge_f 50 dX11_partOf_13 (by decide) (ge_f (N := 64) rfl (by omega) (by decide)) ?_
    refine x_lload dX11_partOf_16 rfl ?_
    refine x_lconst (v := 1) dX11_partOf_18 (by decide) ?_
    refine x_lcmp dX11_partOf_19 ?_
    refine x_if_le_f 50 dX11_partOf_20 (by decide) (fun q => lg_le.mp q g1) ?_
    refine x_lload dX11_partOf_23 rfl ?_
    refine x_lconst (v := 1) dX11_partOf_25 (by decide) ?_
    refine x_land dX11_partOf_26 ?_
    rw [wb_a1 (by omega)]
    refine x_lconst (v := 0) dX11_partOf_27 (by decide) ?_
    refine x_lcmp dX11_partOf_28 ?_
    refine x_if_ne 50 dX11_partOf_29 (by decide) (fun c29 => ?_) (fun c29 => ?_)
    · have c29 : ¬ a % 2 = 0 := fun q => c29 (lg_0.mpr (e2.mpr q))
      rw [rdN, if_neg c29] at hR
      refine x_iload dX11_partOf_50 rfl ?_
      refine x_if_ne 60 dX11_partOf_52 (by decide) (fun c52 => ?_) (fun c52 => ?_)
      · refine x_lload dX11_partOf_60 rfl ?_
        refine x_lret rfl dX11_partOf_62 ⟨by decide, by decide⟩ ?_
        exact ⟨by (rw [ptN, if_neg c52, ← hR]) <;> rfl, rfl⟩
      · refine x_lload dX11_partOf_55 rfl ?_
        refine x_goto 62 dX11_partOf_57 (by decide) ?_
        refine x_lret rfl dX11_partOf_62 ⟨by decide, by decide⟩ ?_
        exact ⟨by (rw [ptN, if_pos c52, ← hR]) <;> rfl, rfl⟩
    · have c29 : a % 2 = 0 := e2.mp (lg_0.mp c29)
      refine x_lload dX11_partOf_32 rfl ?_
      refine x_iconst (v := 1) dX11_partOf_34 (by decide) ?_
      refine x_lshr dX11_partOf_35 ?_
      rw [lsr1 ha]
      refine x_lst_5 dX11_partOf_36 (by decide) rfl ?_
      refine x_lload dX11_partOf_38 rfl ?_
      refine x_iconst (v := 1) dX11_partOf_40 (by decide) ?_
      refine x_lshr dX11_partOf_41 ?_
      rw [lsr1 p1, p2]
      refine x_lst_7 dX11_partOf_42 (by decide) rfl ?_
      refine x_inc_9  dX11_partOf_44 (by decide) (nI_inc _) rfl ?_
      refine x_goto 9 dX11_partOf_47 (by decide) ?_
      exact ih (a / 2) (i + 1) (by omega) (by omega) (by rw [← hR, rdN, if_pos c29])
def odN (V : VS) (a b : Nat) : Nat := od V (chv V) a b (2 ^ V.1 0)
theorem odN_lt {V : VS} (hv : okV V) (a b : Nat) : odN V a b < 2 ^ 40 := od_lt hv.1.1 (fun p hp => chn_le hv hp _)
def qOdds (V : VS) (a b pt : Int32) : Int64 := if bl a 8 = true ∧ bl b 8 = true ∧ bl pt 2 = true then ptN (odN V (iN a) (iN b)) (3 * V.1 0) pt else -1
noncomputable def qHeld (V : VS) (a b n : Int32) : Int32 := if bl a 8 = true ∧ bl b 8 = true ∧ ut n 3 = true then nI (hbs (hvl V (iN a) (iN b)) (V.1 3) (iN n) (2 ^ V.1 0)) else -1
def qKeepers (V : VS) (a b w : Int32) : Int32 := if bl a 8 = true ∧ bl b 8 = true ∧ ut w 1 = true then if fk V (iN a) (iN b) (2 ^ V.1 0) = 999 then -3 else if w = 0 then nI (bc8 (fk V (iN a) (iN b) (2 ^ V.1 0))) else nI (fk V (iN a) (iN b) (2 ^ V.1 0)) else -1
def hmS (V : VS) (a e : Nat) : Nat → Nat
  | 0 => 0
  | c + 1 => if e * 8 ^ V.1 0 ≤ odN V c a * 8 then hmS V a e c ||| 2 ^ c else hmS V a e c
def qHome (V : VS) (a e : Int32) : Int32 := if bl a 8 = true ∧ ut e 8 = true then nI (hmS V (iN a) (iN e) 8) else -1
def qWithin (V : VS) (a b n pt : Int32) : Int64 := if bl a 8 = true ∧ bl b 8 = true ∧ ut n 2 = true ∧ bl pt 2 = true then ptN (wi V (iN a) (iN b) (iN n)) (3 * V.1 0 * iN n) pt else -1
def skN (V : VS) (a : Nat) : Nat → Nat × Nat
  | 0 => (99, 0)
  | c + 1 => if ¬ (rea V (V.1 3) a 7).testBit c = true ∧ (skN V a c).2 < V.2.2 7 c * odN V a c then (c, V.2.2 7 c * odN V a c) else skN V a c
def bI (r : Int32) (x : Nat) : Int32 := if x = 99 then r else nI x
def qSeek (V : VS) (a : Int32) : Int32 := if bl a 8 = true then bI (-3) (skN V (iN a) 8).1 else -1
set_option maxRecDepth 10000 in
set_option maxHeartbeats 2000000 in
theorem c_X11_odds {g : gG} {h : gH} {x : Nat} {D : Nat → Prop} {S : AS} (hx : isX h x D S) {a b pt : Int32} : Ct g mX11_odds [.ref x, .int a, .int b, .int pt] h (some (.long (qOdds S.1 a b pt))) (Px x D S h) := by
  have ho := hx.2.1
  have hv := hx.2.2.1
  have n0 := hv.o
  have okw := hv.1
  obtain ⟨J, K, X, s0, wh, hc⟩ := hx.2.2.2.2.2.2.1
  have c0 := hc.1
  have hd0 : x + 1 + 12 ≤ x + 39 ∨ x + 39 + 4 ≤ x + 1 := by omega

  refine Cn.of (L := [some (.ref x), some (.int a), some (.int b), some (.int pt)]) (by decide) (Nat.le_of_ble_eq_true rfl) rfl ?_
  refine x_iload_n dX11_odds_0 rfl ?_
  refine x_rdS c_cl lkX11_isClearing sX11_90 dX11_odds_1 rfl rfl (Nat.le_of_ble_eq_true rfl) (by decide) ⟨rfl, rfl, by decide, by decide⟩ ?_
  refine x_if_eqB 21 dX11_odds_4 (by decide) (fun c4 => ?_) (fun c4 => ?_)
  · refine x_ldc2 dX11_odds_21 kX11_216 ?_
    refine x_lret rfl dX11_odds_24 ⟨by decide, by decide⟩ ?_
    exact ⟨by simp only [qOdds, c4, eq_self, Bool.false_eq_true, reduceCtorEq, and_true, true_and, and_false, false_and, not_true_eq_false, not_false_eq_true, if_true, if_false, ne_eq, or_true, true_or, or_false, false_or], hx.rf⟩
  · refine x_iload_n dX11_odds_7 rfl ?_
    refine x_rdS c_cl lkX11_isClearing sX11_90 dX11_odds_8 rfl rfl (Nat.le_of_ble_eq_true rfl) (by decide) ⟨rfl, rfl, by decide, by decide⟩ ?_
    refine x_if_eqB 21 dX11_odds_11 (by decide) (fun c11 => ?_) (fun c11 => ?_)
    · refine x_ldc2 dX11_odds_21 kX11_216 ?_
      refine x_lret rfl dX11_odds_24 ⟨by decide, by decide⟩ ?_
      exact ⟨by simp only [qOdds, c4, c11, eq_self, Bool.false_eq_true, reduceCtorEq, and_true, true_and, and_false, false_and, not_true_eq_false, not_false_eq_true, if_true, if_false, ne_eq, or_true, true_or, or_false, false_or], hx.rf⟩
    · refine x_iload_n dX11_odds_14 rfl ?_
      refine x_rdS c_pt lkX11_isPart sX11_213 dX11_odds_15 rfl rfl (Nat.le_of_ble_eq_true rfl) (by decide) ⟨rfl, rfl, by decide, by decide⟩ ?_
      refine x_if_neB 25 dX11_odds_18 (by decide) (fun c18 => ?_) (fun c18 => ?_)
      · obtain ⟨a1, ha, rfl⟩ := bl_E (b := 8) c4 (by decide)
        obtain ⟨b1, hb, rfl⟩ := bl_E (b := 8) c11 (by decide)
        
        refine x_aload_n dX11_odds_25 rfl ?_
        refine x_get fX11_32 (by assumption) rfl dX11_odds_26 ?_
        refine x_aload_n dX11_odds_29 rfl ?_
        refine x_get fX11_12 ho rfl dX11_odds_30 ?_
        refine x_cnV (c_X1_lookAhead hv hc hd0) c0 lkX1_lookAhead sX11_218 dX11_odds_33 rfl rfl (Nat.le_of_ble_eq_true rfl) (by decide) ⟨rfl, rfl, by decide, by decide⟩ ?_
        rintro h1 ⟨J1, K1, I1, hJ1, hK1, F1⟩
        have v1 := hv.fr F1 hd0
        have o1 : h1.1 x = some (.inr (11, xF x S.2.1.1 S.2.2.2.1.1)) := by rw [F1.2 x (by omega)]; exact ho
        have nn := v1.o
        have d1 := I1.1
        refine x_aload_n dX11_odds_36 rfl ?_
        refine x_get fX11_32 o1 rfl dX11_odds_37 ?_
        refine x_iload_n dX11_odds_40 rfl ?_
        refine x_iload_n dX11_odds_41 rfl ?_
        refine x_rdV (c_X1_oddsOf okw I1 hJ1 hK1 ha hb) d1 lkX1_oddsOf sX11_221 dX11_odds_42 rfl rfl (Nat.le_of_ble_eq_true rfl) (by decide) ⟨rfl, rfl, by decide, by decide⟩ ?_
        refine x_aload_n dX11_odds_45 rfl ?_
        refine x_get fX11_32 o1 rfl dX11_odds_46 ?_
        refine x_get fX11_225 d1 rfl dX11_odds_49 ?_
        refine x_iload_n dX11_odds_52 rfl ?_
        refine x_rdS (c_X11_partOf (A := odN S.1 a1 b1) (K := 3 * S.1.1 0) (by have := odN_lt okw a1 b1; omega) (by have := okw.1.1; omega)) lkX11_partOf sX11_229 dX11_odds_53 rfl rfl (Nat.le_of_ble_eq_true rfl) (by decide) ⟨rfl, rfl, by decide, by decide⟩ ?_
        refine x_lret rfl dX11_odds_56 ⟨by decide, by decide⟩ ?_
        exact ⟨by simp only [qOdds, c4, c11, c18, eq_self, Bool.false_eq_true, reduceCtorEq, and_true, true_and, and_false, false_and, not_true_eq_false, not_false_eq_true, if_true, if_false, ne_eq, or_true, true_or, or_false, false_or, iN_nI (show a1 < 2 ^ 31 by omega), iN_nI (show b1 < 2 ^ 31 by omega)], hx.ch I1 F1⟩
      · refine x_ldc2 dX11_odds_21 kX11_216 ?_
        refine x_lret rfl dX11_odds_24 ⟨by decide, by decide⟩ ?_
        exact ⟨by simp only [qOdds, c4, c11, c18, eq_self, Bool.false_eq_true, reduceCtorEq, and_true, true_and, and_false, false_and, not_true_eq_false, not_false_eq_true, if_true, if_false, ne_eq, or_true, true_or, or_false, false_or], hx.rf⟩
set_option maxRecDepth 10000 in
set_option maxHeartbeats 2000000 in
theorem c_X11_held {g : gG} {h : gH} {x : Nat} {D : Nat → Prop} {S : AS} (hx : isX h x D S) {a b n : Int32} : Ct g mX11_held [.ref x, .int a, .int b, .int n] h (some (.int (qHeld S.1 a b n))) (Px x D S h) := by
  have ho := hx.2.1
  have hv := hx.2.2.1
  have n0 := hv.o
  have okw := hv.1
  obtain ⟨J, K, X, s0, wh, hc⟩ := hx.2.2.2.2.2.2.1
  have c0 := hc.1
  have hd0 : x + 1 + 12 ≤ x + 39 ∨ x + 39 + 4 ≤ x + 1 := by omega

  refine Cn.of (L := [some (.ref x), some (.int a), some (.int b), some (.int n)]) (by decide) (Nat.le_of_ble_eq_true rfl) rfl ?_
  refine x_iload_n dX11_held_0 rfl ?_
  refine x_rdS c_cl lkX11_isClearing sX11_90 dX11_held_1 rfl rfl (Nat.le_of_ble_eq_true rfl) (by decide) ⟨rfl, rfl, by decide, by decide⟩ ?_
  refine x_if_eqB 22 dX11_held_4 (by decide) (fun c4 => ?_) (fun c4 => ?_)
  · refine x_iconst (v := -1) dX11_held_22 (by decide) ?_
    refine x_iret rfl dX11_held_23 ⟨by decide, by decide⟩ ?_
    exact ⟨by simp only [qHeld, c4, eq_self, Bool.false_eq_true, reduceCtorEq, and_true, true_and, and_false, false_and, not_true_eq_false, not_false_eq_true, if_true, if_false, ne_eq, or_true, true_or, or_false, false_or], hx.rf⟩
  · refine x_iload_n dX11_held_7 rfl ?_
    refine x_rdS c_cl lkX11_isClearing sX11_90 dX11_held_8 rfl rfl (Nat.le_of_ble_eq_true rfl) (by decide) ⟨rfl, rfl, by decide, by decide⟩ ?_
    refine x_if_eqB 22 dX11_held_11 (by decide) (fun c11 => ?_) (fun c11 => ?_)
    · refine x_iconst (v := -1) dX11_held_22 (by decide) ?_
      refine x_iret rfl dX11_held_23 ⟨by decide, by decide⟩ ?_
      exact ⟨by simp only [qHeld, c4, c11, eq_self, Bool.false_eq_true, reduceCtorEq, and_true, true_and, and_false, false_and, not_true_eq_false, not_false_eq_true, if_true, if_false, ne_eq, or_true, true_or, or_false, false_or], hx.rf⟩
    · refine x_iload_n dX11_held_14 rfl ?_
      refine x_iconst (v := 3) dX11_held_15 (by decide) ?_
      refine x_rdS c_ut lkX11_isUpTo sX11_98 dX11_held_16 rfl rfl (Nat.le_of_ble_eq_true rfl) (by decide) ⟨rfl, rfl, by decide, by decide⟩ ?_
      refine x_if_neB 24 dX11_held_19 (by decide) (fun c19 => ?_) (fun c19 => ?_)
      · obtain ⟨a1, ha, rfl⟩ := bl_E (b := 8) c4 (by decide)
        obtain ⟨b1, hb, rfl⟩ := bl_E (b := 8) c11 (by decide)
        obtain ⟨n1, hn, rfl⟩ := ut_E (b := 3) c19 (by decide)
        refine x_aload_n dX11_held_24 rfl ?_
        refine x_get fX11_32 (by assumption) rfl dX11_held_25 ?_
        refine x_aload_n dX11_held_28 rfl ?_
        refine x_get fX11_12 (by assumption) rfl dX11_held_29 ?_
        refine x_iload_n dX11_held_32 rfl ?_
        refine x_iload_n dX11_held_33 rfl ?_
        refine x_iload_n dX11_held_34 rfl ?_
        refine x_cvV (c_X1_bestHeld hv hc hd0 ha hb hn) (by assumption) lkX1_bestHeld sX11_233 dX11_held_35 rfl rfl (Nat.le_of_ble_eq_true rfl) (by decide) ⟨rfl, rfl, by decide, by decide⟩ ?_
        rintro h1 ⟨⟨J1, X1, I1⟩, F1⟩
        refine x_iret rfl dX11_held_38 ⟨by decide, by decide⟩ ?_
        exact ⟨by simp only [qHeld, c4, c11, c19, eq_self, Bool.false_eq_true, reduceCtorEq, and_true, true_and, and_false, false_and, not_true_eq_false, not_false_eq_true, if_true, if_false, ne_eq, or_true, true_or, or_false, false_or, iN_nI (show a1 < 2 ^ 31 by omega), iN_nI (show b1 < 2 ^ 31 by omega), iN_nI (show n1 < 2 ^ 31 by omega)], hx.ch I1 F1⟩
      · refine x_iconst (v := -1) dX11_held_22 (by decide) ?_
        refine x_iret rfl dX11_held_23 ⟨by decide, by decide⟩ ?_
        exact ⟨by simp only [qHeld, c4, c11, c19, eq_self, Bool.false_eq_true, reduceCtorEq, and_true, true_and, and_false, false_and, not_true_eq_false, not_false_eq_true, if_true, if_false, ne_eq, or_true, true_or, or_false, false_or], hx.rf⟩
theorem fk_8 {V : VS} (hv : okV V) (a b : Nat) (h : ¬ fk V a b (2 ^ V.1 0) = 999) : fk V a b (2 ^ V.1 0) < 256 := by
  have := p256 hv.1.1
  rcases fk_lt V a b (2 ^ V.1 0) with q | q
  · exact absurd q h
  · omega
theorem fkI_0 {V : VS} (hv : okV V) (a b : Nat) : 0 ≤ fkI (fk V a b (2 ^ V.1 0)) ↔ ¬ fk V a b (2 ^ V.1 0) = 999 := by
  unfold fkI
  by_cases h : fk V a b (2 ^ V.1 0) = 999
  · rw [if_pos h]; exact ⟨fun q => absurd q (by decide), fun q => absurd h q⟩
  · have := fk_8 hv a b h
    rw [if_neg h]
    exact ⟨fun _ => h, fun _ => nI_le (a := 0) (Nat.zero_le _) (by omega)⟩
set_option maxRecDepth 10000 in
set_option maxHeartbeats 2000000 in
theorem c_X11_keepers {g : gG} {h : gH} {x : Nat} {D : Nat → Prop} {S : AS} (hx : isX h x D S) {a b w : Int32} : Ct g mX11_keepers [.ref x, .int a, .int b, .int w] h (some (.int (qKeepers S.1 a b w))) (Px x D S h) := by
  have ho := hx.2.1
  have hv := hx.2.2.1
  have n0 := hv.o
  have okw := hv.1
  obtain ⟨J, K, X, s0, wh, hc⟩ := hx.2.2.2.2.2.2.1
  have c0 := hc.1
  have hd0 : x + 1 + 12 ≤ x + 39 ∨ x + 39 + 4 ≤ x + 1 := by omega

  refine Cn.of (L := [some (.ref x), some (.int a), some (.int b), some (.int w), none]) (by decide) (Nat.le_of_ble_eq_true rfl) rfl ?_
  refine x_iload_n dX11_keepers_0 rfl ?_
  refine x_rdS c_cl lkX11_isClearing sX11_90 dX11_keepers_1 rfl rfl (Nat.le_of_ble_eq_true rfl) (by decide) ⟨rfl, rfl, by decide, by decide⟩ ?_
  refine x_if_eqB 22 dX11_keepers_4 (by decide) (fun c4 => ?_) (fun c4 => ?_)
  · refine x_iconst (v := -1) dX11_keepers_22 (by decide) ?_
    refine x_iret rfl dX11_keepers_23 ⟨by decide, by decide⟩ ?_
    exact ⟨by simp only [qKeepers, c4, eq_self, Bool.false_eq_true, reduceCtorEq, and_true, true_and, and_false, false_and, not_true_eq_false, not_false_eq_true, if_true, if_false, ne_eq, or_true, true_or, or_false, false_or], hx.rf⟩
  · refine x_iload_n dX11_keepers_7 rfl ?_
    refine x_rdS c_cl lkX11_isClearing sX11_90 dX11_keepers_8 rfl rfl (Nat.le_of_ble_eq_true rfl) (by decide) ⟨rfl, rfl, by decide, by decide⟩ ?_
    refine x_if_eqB 22 dX11_keepers_11 (by decide) (fun c11 => ?_) (fun c11 => ?_)
    · refine x_iconst (v := -1) dX11_keepers_22 (by decide) ?_
      refine x_iret rfl dX11_keepers_23 ⟨by decide, by decide⟩ ?_
      exact ⟨by simp only [qKeepers, c4, c11, eq_self, Bool.false_eq_true, reduceCtorEq, and_true, true_and, and_false, false_and, not_true_eq_false, not_false_eq_true, if_true, if_false, ne_eq, or_true, true_or, or_false, false_or], hx.rf⟩
    · refine x_iload_n dX11_keepers_14 rfl ?_
      refine x_iconst (v := 1) dX11_keepers_15 (by decide) ?_
      refine x_rdS c_ut lkX11_isUpTo sX11_98 dX11_keepers_16 rfl rfl (Nat.le_of_ble_eq_true rfl) (by decide) ⟨rfl, rfl, by decide, by decide⟩ ?_
      refine x_if_neB 24 dX11_keepers_19 (by decide) (fun c19 => ?_) (fun c19 => ?_)
      · obtain ⟨a1, ha, rfl⟩ := bl_E (b := 8) c4 (by decide)
        obtain ⟨b1, hb, rfl⟩ := bl_E (b := 8) c11 (by decide)
        
        refine x_aload_n dX11_keepers_24 rfl ?_
        refine x_get fX11_32 (by assumption) rfl dX11_keepers_25 ?_
        refine x_aload_n dX11_keepers_28 rfl ?_
        refine x_get fX11_12 (by assumption) rfl dX11_keepers_29 ?_
        refine x_iload_n dX11_keepers_32 rfl ?_
        refine x_iload_n dX11_keepers_33 rfl ?_
        refine x_cvV (c_X1_fewestKept hv hc hd0 ha hb) (by assumption) lkX1_fewestKept sX11_237 dX11_keepers_34 rfl rfl (Nat.le_of_ble_eq_true rfl) (by decide) ⟨rfl, rfl, by decide, by decide⟩ ?_
        rintro h1 ⟨⟨J1, I1⟩, F1⟩
        refine x_ist_4 dX11_keepers_37 (by decide) rfl ?_
        refine x_iload dX11_keepers_39 rfl ?_
        refine x_if_ge 47 dX11_keepers_41 (by decide) (fun c41 => ?_) (fun c41 => ?_)
        · have c41 := (fkI_0 okw a1 b1).mp c41
          have f8 := fk_8 okw a1 b1 c41
          rw [show fkI (fk S.1 a1 b1 (2 ^ S.1.1 0)) = nI (fk S.1 a1 b1 (2 ^ S.1.1 0)) from if_neg c41]
          refine x_iload_n dX11_keepers_47 rfl ?_
          refine x_if_ne 59 dX11_keepers_48 (by decide) (fun c48 => ?_) (fun c48 => ?_)
          · refine x_iload dX11_keepers_59 rfl ?_
            refine x_iret rfl dX11_keepers_61 ⟨by decide, by decide⟩ ?_
            exact ⟨by simp only [qKeepers, c4, c11, c19, c41, c48, eq_self, Bool.false_eq_true, reduceCtorEq, and_true, true_and, and_false, false_and, not_true_eq_false, not_false_eq_true, if_true, if_false, ne_eq, or_true, true_or, or_false, false_or, iN_nI (show a1 < 2 ^ 31 by omega), iN_nI (show b1 < 2 ^ 31 by omega)], hx.ch I1 F1⟩
          · refine x_iload dX11_keepers_51 rfl ?_
            refine x_rdS (c_J6_bitCount_0f7a4 (x := fk S.1 a1 b1 (2 ^ S.1.1 0)) f8) lkJ6_bitCount_0f7a4 sX11_176 dX11_keepers_53 rfl rfl (Nat.le_of_ble_eq_true rfl) (by decide) ⟨rfl, rfl, by decide, by decide⟩ ?_
            refine x_goto 61 dX11_keepers_56 (by decide) ?_
            refine x_iret rfl dX11_keepers_61 ⟨by decide, by decide⟩ ?_
            obtain rfl := c48
            exact ⟨by simp only [qKeepers, c4, c11, c19, c41, eq_self, Bool.false_eq_true, reduceCtorEq, and_true, true_and, and_false, false_and, not_true_eq_false, not_false_eq_true, if_true, if_false, ne_eq, or_true, true_or, or_false, false_or, iN_nI (show a1 < 2 ^ 31 by omega), iN_nI (show b1 < 2 ^ 31 by omega)], hx.ch I1 F1⟩
        · refine x_bipush (v := -3) dX11_keepers_44 (by decide) ?_
          refine x_iret rfl dX11_keepers_46 ⟨by decide, by decide⟩ ?_
          have c41 := fun q => c41 ((fkI_0 okw a1 b1).mpr q)
          have c41 := Classical.not_not.mp c41
          exact ⟨by simp only [qKeepers, c4, c11, c19, c41, eq_self, Bool.false_eq_true, reduceCtorEq, and_true, true_and, and_false, false_and, not_true_eq_false, not_false_eq_true, if_true, if_false, ne_eq, or_true, true_or, or_false, false_or, iN_nI (show a1 < 2 ^ 31 by omega), iN_nI (show b1 < 2 ^ 31 by omega)], hx.ch I1 F1⟩
      · refine x_iconst (v := -1) dX11_keepers_22 (by decide) ?_
        refine x_iret rfl dX11_keepers_23 ⟨by decide, by decide⟩ ?_
        exact ⟨by simp only [qKeepers, c4, c11, c19, eq_self, Bool.false_eq_true, reduceCtorEq, and_true, true_and, and_false, false_and, not_true_eq_false, not_false_eq_true, if_true, if_false, ne_eq, or_true, true_or, or_false, false_or], hx.rf⟩
set_option maxRecDepth 10000 in
set_option maxHeartbeats 2000000 in
theorem c_X11_home {g : gG} {h : gH} {x : Nat} {D : Nat → Prop} {S : AS} (hx : isX h x D S) {a e : Int32} : Ct g mX11_home [.ref x, .int a, .int e] h (some (.int (qHome S.1 a e))) (Px x D S h) := by
  have ho := hx.2.1
  have hv := hx.2.2.1
  have n0 := hv.o
  have okw := hv.1
  obtain ⟨J, K, X, s0, wh, hc⟩ := hx.2.2.2.2.2.2.1
  have c0 := hc.1
  have hd0 : x + 1 + 12 ≤ x + 39 ∨ x + 39 + 4 ≤ x + 1 := by omega

  refine Cn.of (L := [some (.ref x), some (.int a), some (.int e), none, none]) (by decide) (Nat.le_of_ble_eq_true rfl) rfl ?_
  refine x_iload_n dX11_home_0 rfl ?_
  refine x_rdS c_cl lkX11_isClearing sX11_90 dX11_home_1 rfl rfl (Nat.le_of_ble_eq_true rfl) (by decide) ⟨rfl, rfl, by decide, by decide⟩ ?_
  refine x_if_eqB 16 dX11_home_4 (by decide) (fun c4 => ?_) (fun c4 => ?_)
  · refine x_iconst (v := -1) dX11_home_16 (by decide) ?_
    refine x_iret rfl dX11_home_17 ⟨by decide, by decide⟩ ?_
    exact ⟨by simp only [qHome, c4, eq_self, Bool.false_eq_true, reduceCtorEq, and_true, true_and, and_false, false_and, not_true_eq_false, not_false_eq_true, if_true, if_false, ne_eq, or_true, true_or, or_false, false_or], hx.rf⟩
  · refine x_iload_n dX11_home_7 rfl ?_
    refine x_bipush (v := 8) dX11_home_8 (by decide) ?_
    refine x_rdS c_ut lkX11_isUpTo sX11_98 dX11_home_10 rfl rfl (Nat.le_of_ble_eq_true rfl) (by decide) ⟨rfl, rfl, by decide, by decide⟩ ?_
    refine x_if_neB 18 dX11_home_13 (by decide) (fun c13 => ?_) (fun c13 => ?_)
    · obtain ⟨a1, ha, rfl⟩ := bl_E (b := 8) c4 (by decide)
      obtain ⟨e1, he, rfl⟩ := ut_E (b := 8) c13 (by decide)
      refine x_aload_n dX11_home_18 rfl ?_
      refine x_get fX11_32 (by assumption) rfl dX11_home_19 ?_
      refine x_aload_n dX11_home_22 rfl ?_
      refine x_get fX11_12 ho rfl dX11_home_23 ?_
      refine x_cnV (c_X1_lookAhead hv hc hd0) c0 lkX1_lookAhead sX11_218 dX11_home_26 rfl rfl (Nat.le_of_ble_eq_true rfl) (by decide) ⟨rfl, rfl, by decide, by decide⟩ ?_
      rintro h1 ⟨J1, K1, I1, hJ1, hK1, F1⟩
      have v1 := hv.fr F1 hd0
      have o1 : h1.1 x = some (.inr (11, xF x S.2.1.1 S.2.2.2.1.1)) := by rw [F1.2 x (by omega)]; exact ho
      have nn := v1.o
      have d1 := I1.1
      refine x_iconst (v := 0) dX11_home_29 (by decide) ?_
      refine x_ist_3 dX11_home_30 (by decide) rfl ?_
      refine x_iconst (v := 0) dX11_home_31 (by decide) ?_
      refine x_ist_4 dX11_home_32 (by decide) rfl ?_
      refine lp_up (P := fun i => Ex g mX11_home _ 34 [some (.ref x), some (.int (nI a1)), some (.int (nI e1)), some (.int (nI (hmS S.1 a1 e1 i))), some (.int (nI i))] [] h1 0 0) 8 (fun i hi ih => ?_) ?_ 0 (Nat.zero_le _)
      · refine x_iload dX11_home_34 rfl ?_
        refine x_bipush (v := 8) dX11_home_36 (by decide) ?_
        refine x_icmp_ge_f 68 dX11_home_38 (by decide) (c8 hi) ?_
        refine x_aload_n dX11_home_41 rfl ?_
        refine x_get fX11_32 o1 rfl dX11_home_42 ?_
        refine x_iload dX11_home_45 rfl ?_
        refine x_iload_n dX11_home_47 rfl ?_
        refine x_iload_n dX11_home_48 rfl ?_
        refine x_rdV (c_X1_oddsReach okw I1 hJ1 hK1 hi ha he) d1 lkX1_oddsReach sX11_241 dX11_home_49 rfl rfl (Nat.le_of_ble_eq_true rfl) (by decide) ⟨rfl, rfl, by decide, by decide⟩ ?_
        refine x_if_eqB 62 dX11_home_52 (by decide) (fun c52 => ?_) (fun c52 => ?_)
        · refine x_inc_4  dX11_home_62 (by decide) (nI_inc _) rfl ?_
          refine x_goto 34 dX11_home_65 (by decide) ?_
          rw [show hmS S.1 a1 e1 (i + 1) = hmS S.1 a1 e1 i from if_neg c52] at ih; exact ih
        · refine x_iload_n dX11_home_55 rfl ?_
          refine x_iconst (v := 1) dX11_home_56 (by decide) ?_
          refine x_iload dX11_home_57 rfl ?_
          refine x_ishl dX11_home_59 ?_
          rw [sh1 _ (by omega)]
          refine x_ior dX11_home_60 ?_
          rw [fa_or]
          refine x_ist_3 dX11_home_61 (by decide) rfl ?_
          refine x_inc_4  dX11_home_62 (by decide) (nI_inc _) rfl ?_
          refine x_goto 34 dX11_home_65 (by decide) ?_
          rw [show hmS S.1 a1 e1 (i + 1) = hmS S.1 a1 e1 i ||| 2 ^ i from if_pos c52] at ih; exact ih
      · refine x_iload dX11_home_34 rfl ?_
        refine x_bipush (v := 8) dX11_home_36 (by decide) ?_
        refine x_icmp_ge_t 68 dX11_home_38 (by decide) (by decide) ?_
        refine x_iload_n dX11_home_68 rfl ?_
        refine x_iret rfl dX11_home_69 ⟨by decide, by decide⟩ ?_
        exact ⟨by simp only [qHome, c4, c13, eq_self, Bool.false_eq_true, reduceCtorEq, and_true, true_and, and_false, false_and, not_true_eq_false, not_false_eq_true, if_true, if_false, ne_eq, or_true, true_or, or_false, false_or, iN_nI (show a1 < 2 ^ 31 by omega), iN_nI (show e1 < 2 ^ 31 by omega)], hx.ch I1 F1⟩
    · refine x_iconst (v := -1) dX11_home_16 (by decide) ?_
      refine x_iret rfl dX11_home_17 ⟨by decide, by decide⟩ ?_
      exact ⟨by simp only [qHome, c4, c13, eq_self, Bool.false_eq_true, reduceCtorEq, and_true, true_and, and_false, false_and, not_true_eq_false, not_false_eq_true, if_true, if_false, ne_eq, or_true, true_or, or_false, false_or], hx.rf⟩
theorem wi_lt {V : VS} (hv : okV V) (a b n : Nat) : wi V a b n < 2 ^ 63 := by
  have hj : ∀ e s, jv V e b s ≤ 16777216 := fun e s => by have := jv_le V e b s; omega
  unfold wi
  split
  · have := jv_le V a b (V.1 3); show jv V a b (V.1 3) < _; omega
  · have := bwt_le (V := V) (t := V.1 3) (a := a) (fun c => vow_le hv (hj c)) 8; show bwt _ _ _ _ _ < _; omega
  · have := bwt_le (V := V) (t := V.1 3) (a := a) (fun c => vow_le hv (x := wx2 V b c) (fun s => bwt_le (fun i => wx_le hv b i s) 8)) 8; show bwt _ _ _ _ _ < _; omega

set_option maxRecDepth 10000 in
set_option maxHeartbeats 2000000 in
theorem c_X1_bestWithin {g : gG} {h : gH} {c : Nat} {J K X : Nat → Int64} {s0 : Int32} {wh : Int64} {w : Nat} {V : VS} {a b n : Nat} (hv : isV h w V) (hi0 : isC h c J K X s0 wh) (hd : w + 12 ≤ c ∨ c + 4 ≤ w) (ha : a < 8) (hb : b < 8) (hn : n ≤ 2) : Ct g mX1_bestWithin [.ref c, .ref w, .int (nI a), .int (nI b), .int (nI n)] h (some (.long (lN (wi V a b n)))) (fun h' => (∃ J' K' X', isC h' c J' K' X' (nI (2 ^ V.1 0)) (lN (2 ^ (3 * V.1 0)))) ∧ Fr c 4 h h') := by
  rcases n with _ | _ | _ | n
  · exact c_X1_bestWithin0 hv hi0 hd ha hb
  · exact c_X1_bestWithin1 hv hi0 hd ha hb
  · exact c_X1_bestWithin2 hv hi0 hd ha hb
  · omega
set_option maxRecDepth 10000 in
set_option maxHeartbeats 2000000 in
theorem c_X11_within {g : gG} {h : gH} {x : Nat} {D : Nat → Prop} {S : AS} (hx : isX h x D S) {a b n pt : Int32} : Ct g mX11_within [.ref x, .int a, .int b, .int n, .int pt] h (some (.long (qWithin S.1 a b n pt))) (Px x D S h) := by
  have ho := hx.2.1
  have hv := hx.2.2.1
  have n0 := hv.o
  have okw := hv.1
  obtain ⟨J, K, X, s0, wh, hc⟩ := hx.2.2.2.2.2.2.1
  have c0 := hc.1
  have hd0 : x + 1 + 12 ≤ x + 39 ∨ x + 39 + 4 ≤ x + 1 := by omega

  refine Cn.of (L := [some (.ref x), some (.int a), some (.int b), some (.int n), some (.int pt), none, none, none, none, none]) (by decide) (Nat.le_of_ble_eq_true rfl) rfl ?_
  refine x_iload_n dX11_within_0 rfl ?_
  refine x_rdS c_cl lkX11_isClearing sX11_90 dX11_within_1 rfl rfl (Nat.le_of_ble_eq_true rfl) (by decide) ⟨rfl, rfl, by decide, by decide⟩ ?_
  refine x_if_eqB 30 dX11_within_4 (by decide) (fun c4 => ?_) (fun c4 => ?_)
  · refine x_ldc2 dX11_within_30 kX11_216 ?_
    refine x_lret rfl dX11_within_33 ⟨by decide, by decide⟩ ?_
    exact ⟨by simp only [qWithin, c4, eq_self, Bool.false_eq_true, reduceCtorEq, and_true, true_and, and_false, false_and, not_true_eq_false, not_false_eq_true, if_true, if_false, ne_eq, or_true, true_or, or_false, false_or], hx.rf⟩
  · refine x_iload_n dX11_within_7 rfl ?_
    refine x_rdS c_cl lkX11_isClearing sX11_90 dX11_within_8 rfl rfl (Nat.le_of_ble_eq_true rfl) (by decide) ⟨rfl, rfl, by decide, by decide⟩ ?_
    refine x_if_eqB 30 dX11_within_11 (by decide) (fun c11 => ?_) (fun c11 => ?_)
    · refine x_ldc2 dX11_within_30 kX11_216 ?_
      refine x_lret rfl dX11_within_33 ⟨by decide, by decide⟩ ?_
      exact ⟨by simp only [qWithin, c4, c11, eq_self, Bool.false_eq_true, reduceCtorEq, and_true, true_and, and_false, false_and, not_true_eq_false, not_false_eq_true, if_true, if_false, ne_eq, or_true, true_or, or_false, false_or], hx.rf⟩
    · refine x_iload_n dX11_within_14 rfl ?_
      refine x_iconst (v := 2) dX11_within_15 (by decide) ?_
      refine x_rdS c_ut lkX11_isUpTo sX11_98 dX11_within_16 rfl rfl (Nat.le_of_ble_eq_true rfl) (by decide) ⟨rfl, rfl, by decide, by decide⟩ ?_
      refine x_if_eqB 30 dX11_within_19 (by decide) (fun c19 => ?_) (fun c19 => ?_)
      · refine x_ldc2 dX11_within_30 kX11_216 ?_
        refine x_lret rfl dX11_within_33 ⟨by decide, by decide⟩ ?_
        exact ⟨by simp only [qWithin, c4, c11, c19, eq_self, Bool.false_eq_true, reduceCtorEq, and_true, true_and, and_false, false_and, not_true_eq_false, not_false_eq_true, if_true, if_false, ne_eq, or_true, true_or, or_false, false_or], hx.rf⟩
      · refine x_iload dX11_within_22 rfl ?_
        refine x_rdS c_pt lkX11_isPart sX11_213 dX11_within_24 rfl rfl (Nat.le_of_ble_eq_true rfl) (by decide) ⟨rfl, rfl, by decide, by decide⟩ ?_
        refine x_if_neB 34 dX11_within_27 (by decide) (fun c27 => ?_) (fun c27 => ?_)
        · obtain ⟨a1, ha, rfl⟩ := bl_E (b := 8) c4 (by decide)
          obtain ⟨b1, hb, rfl⟩ := bl_E (b := 8) c11 (by decide)
          obtain ⟨n1, hn, rfl⟩ := ut_E (b := 2) c19 (by decide)
          refine x_aload_n dX11_within_34 rfl ?_
          refine x_get fX11_32 (by assumption) rfl dX11_within_35 ?_
          refine x_aload_n dX11_within_38 rfl ?_
          refine x_get fX11_12 (by assumption) rfl dX11_within_39 ?_
          refine x_iload_n dX11_within_42 rfl ?_
          refine x_iload_n dX11_within_43 rfl ?_
          refine x_iload_n dX11_within_44 rfl ?_
          refine x_cvV (c_X1_bestWithin hv hc hd0 ha hb hn) (by assumption) lkX1_bestWithin sX11_245 dX11_within_45 rfl rfl (Nat.le_of_ble_eq_true rfl) (by decide) ⟨rfl, rfl, by decide, by decide⟩ ?_
          rintro h1 ⟨⟨J1, K1, X1, I1⟩, F1⟩
          have v1 := hv.fr F1 hd0
          have o1 : h1.1 x = some (.inr (11, xF x S.2.1.1 S.2.2.2.1.1)) := by rw [F1.2 x (by omega)]; exact ho
          have nn := v1.o
          have d1 := I1.1
          have k62 : 3 * S.1.1 0 * n1 ≤ 62 := Nat.le_trans (Nat.mul_le_mul (Nat.mul_le_mul_left 3 okw.1.1) hn) (by decide)
          refine x_lst_5 dX11_within_48 (by decide) rfl ?_
          refine x_lconst (v := 1) dX11_within_50 (by decide) ?_
          refine x_lst_7 dX11_within_51 (by decide) rfl ?_
          refine x_iconst (v := 0) dX11_within_53 (by decide) ?_
          refine x_ist_9 dX11_within_54 (by decide) rfl ?_
          refine lp_up (P := fun i => Ex g mX11_within _ 56 [some (.ref x), some (.int (nI a1)), some (.int (nI b1)), some (.int (nI n1)), some (.int pt), some (.long (lN (wi S.1 a1 b1 n1))), none, some (.long (lN (2 ^ (3 * S.1.1 0 * i)))), none, some (.int (nI i))] [] h1 0 0) n1 (fun i hi ih => ?_) ?_ 0 (Nat.zero_le _)
          · refine x_iload dX11_within_56 rfl ?_
            refine x_iload_n dX11_within_58 rfl ?_
            refine x_icmp_ge_f 80 dX11_within_59 (by decide) (ge_f rfl hi (by omega)) ?_
            refine x_lload dX11_within_62 rfl ?_
            refine x_aload_n dX11_within_64 rfl ?_
            refine x_get fX11_32 o1 rfl dX11_within_65 ?_
            refine x_get fX11_225 d1 rfl dX11_within_68 ?_
            refine x_lmul dX11_within_71 ?_
            rw [lN_mul, ← Nat.pow_add]
            refine x_lst_7 dX11_within_72 (by decide) rfl ?_
            refine x_inc_9  dX11_within_74 (by decide) (nI_inc _) rfl ?_
            refine x_goto 56 dX11_within_77 (by decide) ?_
            exact ih
          · refine x_iload dX11_within_56 rfl ?_
            refine x_iload_n dX11_within_58 rfl ?_
            refine x_icmp_ge_t 80 dX11_within_59 (by decide) (ge_t rfl (by omega)) ?_
            refine x_lload dX11_within_80 rfl ?_
            refine x_lload dX11_within_82 rfl ?_
            refine x_iload dX11_within_84 rfl ?_
            refine x_rdS (c_X11_partOf (A := wi S.1 a1 b1 n1) (K := 3 * S.1.1 0 * n1) (wi_lt okw a1 b1 n1) k62) lkX11_partOf sX11_229 dX11_within_86 rfl rfl (Nat.le_of_ble_eq_true rfl) (by decide) ⟨rfl, rfl, by decide, by decide⟩ ?_
            refine x_lret rfl dX11_within_89 ⟨by decide, by decide⟩ ?_
            exact ⟨by simp only [qWithin, c4, c11, c19, c27, eq_self, Bool.false_eq_true, reduceCtorEq, and_true, true_and, and_false, false_and, not_true_eq_false, not_false_eq_true, if_true, if_false, ne_eq, or_true, true_or, or_false, false_or, iN_nI (show a1 < 2 ^ 31 by omega), iN_nI (show b1 < 2 ^ 31 by omega), iN_nI (show n1 < 2 ^ 31 by omega)], hx.ch I1 F1⟩
        · refine x_ldc2 dX11_within_30 kX11_216 ?_
          refine x_lret rfl dX11_within_33 ⟨by decide, by decide⟩ ?_
          exact ⟨by simp only [qWithin, c4, c11, c19, c27, eq_self, Bool.false_eq_true, reduceCtorEq, and_true, true_and, and_false, false_and, not_true_eq_false, not_false_eq_true, if_true, if_false, ne_eq, or_true, true_or, or_false, false_or], hx.rf⟩
theorem lg_le2 {x y : Int64} : ¬ lg_cmp x y ≤ 0 ↔ y < x := by rw [lg_le]; exact Classical.not_not
theorem skN_b {V : VS} (hv : okV V) (a : Nat) : ∀ n, n ≤ 8 → (skN V a n).2 < 2 ^ 44
  | 0, _ => show (0 : Nat) < 2 ^ 44 by decide
  | n + 1, h => by
    have ih := skN_b hv a n (by omega)
    unfold skN
    split
    · have := odN_lt hv a n
      have h9 := hv.2.2.2.2.2.1 n (by omega)
      have : V.2.2 7 n * odN V a n ≤ 9 * odN V a n := Nat.mul_le_mul_right _ h9
      show V.2.2 7 n * odN V a n < _
      omega
    · exact ih
set_option maxRecDepth 10000 in
set_option maxHeartbeats 2000000 in
theorem c_X11_seek {g : gG} {h : gH} {x : Nat} {D : Nat → Prop} {S : AS} (hx : isX h x D S) {a : Int32} : Ct g mX11_seek [.ref x, .int a] h (some (.int (qSeek S.1 a))) (Px x D S h) := by
  have ho := hx.2.1
  have hv := hx.2.2.1
  have n0 := hv.o
  have okw := hv.1
  obtain ⟨J, K, X, s0, wh, hc⟩ := hx.2.2.2.2.2.2.1
  have c0 := hc.1
  have hd0 : x + 1 + 12 ≤ x + 39 ∨ x + 39 + 4 ≤ x + 1 := by omega

  refine Cn.of (L := [some (.ref x), some (.int a), none, none, none, none, none, none, none]) (by decide) (Nat.le_of_ble_eq_true rfl) rfl ?_
  refine x_iload_n dX11_seek_0 rfl ?_
  refine x_rdS c_cl lkX11_isClearing sX11_90 dX11_seek_1 rfl rfl (Nat.le_of_ble_eq_true rfl) (by decide) ⟨rfl, rfl, by decide, by decide⟩ ?_
  refine x_if_neB 9 dX11_seek_4 (by decide) (fun c4 => ?_) (fun c4 => ?_)
  · obtain ⟨a1, ha, rfl⟩ := bl_E (b := 8) c4 (by decide)
    refine x_aload_n dX11_seek_9 rfl ?_
    refine x_get fX11_32 (by assumption) rfl dX11_seek_10 ?_
    refine x_aload_n dX11_seek_13 rfl ?_
    refine x_get fX11_12 ho rfl dX11_seek_14 ?_
    refine x_cnV (c_X1_lookAhead hv hc hd0) c0 lkX1_lookAhead sX11_218 dX11_seek_17 rfl rfl (Nat.le_of_ble_eq_true rfl) (by decide) ⟨rfl, rfl, by decide, by decide⟩ ?_
    rintro h1 ⟨J1, K1, I1, hJ1, hK1, F1⟩
    have v1 := hv.fr F1 hd0
    have o1 : h1.1 x = some (.inr (11, xF x S.2.1.1 S.2.2.2.1.1)) := by rw [F1.2 x (by omega)]; exact ho
    have nn := v1.o
    have d1 := I1.1
    refine x_aload_n dX11_seek_20 rfl ?_
    refine x_get fX11_12 o1 rfl dX11_seek_21 ?_
    refine x_iload_n dX11_seek_24 rfl ?_
    refine x_rdV (c_X10_reachFrom v1 ha) nn lkX10_reachFrom sX11_210 dX11_seek_25 rfl rfl (Nat.le_of_ble_eq_true rfl) (by decide) ⟨rfl, rfl, by decide, by decide⟩ ?_
    refine x_ist_2 dX11_seek_28 (by decide) rfl ?_
    refine x_bipush (v := -3) dX11_seek_29 (by decide) ?_
    refine x_ist_3 dX11_seek_31 (by decide) rfl ?_
    refine x_lconst (v := 0) dX11_seek_32 (by decide) ?_
    refine x_lst_4 dX11_seek_33 (by decide) rfl ?_
    refine x_iconst (v := 0) dX11_seek_35 (by decide) ?_
    refine x_ist_6 dX11_seek_36 (by decide) rfl ?_
    obtain ⟨ok1, ar1, hw1, rp1⟩ := id v1
    have z9 : h1.1 ((x + 1) + 9) = some (.inl (0, 8, .inl (ar1 8))) := hw1.2 8 (by decide)
    refine lp_up (P := fun i => ∀ r r2, Ex g mX11_seek _ 38 [some (.ref x), some (.int (nI a1)), some (.int (nI (rea S.1 (S.1.1 3) a1 7))), some (.int (bI (-3) (skN S.1 a1 i).1)), some (.long (lN (skN S.1 a1 i).2)), none, some (.int (nI i)), r, r2] [] h1 0 0) 8 (fun i hi ih r r2 => ?_) (fun r r2 => ?_) 0 (Nat.zero_le _) _ _
    · refine x_iload dX11_seek_38 rfl ?_
      refine x_bipush (v := 8) dX11_seek_40 (by decide) ?_
      refine x_icmp_ge_f 99 dX11_seek_42 (by decide) (c8 hi) ?_
      refine x_iload dX11_seek_45 rfl ?_
      refine x_iload_n dX11_seek_47 rfl ?_
      refine x_rdS c_X11_isInSet lkX11_isInSet sX11_249 dX11_seek_48 rfl rfl (Nat.le_of_ble_eq_true rfl) (by decide) ⟨rfl, rfl, by decide, by decide⟩ ?_
      refine x_if_neB 93 dX11_seek_51 (by decide) (fun c51 => ?_) (fun c51 => ?_)
      · refine x_inc_6  dX11_seek_93 (by decide) (nI_inc _) rfl ?_
        refine x_goto 38 dX11_seek_96 (by decide) ?_
        rw [show skN S.1 a1 (i + 1) = skN S.1 a1 i from if_neg (fun q => q.1 ((inS_iff (by have := rea_lt okw (S.1.1 3) ha 7; omega) (by omega)).mp c51))] at ih; exact ih _ _
      · have c51 : ¬ (rea S.1 (S.1.1 3) a1 7).testBit i = true := fun q => c51 ((inS_iff (by have := rea_lt okw (S.1.1 3) ha 7; omega) (by omega)).mpr q)
        have od40 := odN_lt okw a1 i
        have h9 := okw.2.2.2.2.2.1 i hi
        have m9 : S.1.2.2 7 i * odN S.1 a1 i ≤ 9 * odN S.1 a1 i := Nat.mul_le_mul_right _ h9
        have sb := skN_b okw a1 i (by omega)
        have gl : lN (skN S.1 a1 i).2 < lN (S.1.2.2 7 i * odN S.1 a1 i) ↔ (skN S.1 a1 i).2 < S.1.2.2 7 i * odN S.1 a1 i := pk_lLT (by omega) (by omega)
        refine x_aload_n dX11_seek_54 rfl ?_
        refine x_get fX11_12 o1 rfl dX11_seek_55 ?_
        refine x_getR fX11_144 nn rfl dX11_seek_58 ?_
        refine x_iload dX11_seek_61 rfl ?_
        refine x_iald i z9 rfl hi (by decide) dX11_seek_63 ?_
        rw [rp1.2.2.1 i hi]
        refine x_i2l dX11_seek_64 ?_
        rw [nI_l (by omega)]
        refine x_aload_n dX11_seek_65 rfl ?_
        refine x_get fX11_32 o1 rfl dX11_seek_66 ?_
        refine x_iload_n dX11_seek_69 rfl ?_
        refine x_iload dX11_seek_70 rfl ?_
        refine x_rdV (c_X1_oddsOf okw I1 hJ1 hK1 ha hi) d1 lkX1_oddsOf sX11_221 dX11_seek_72 rfl rfl (Nat.le_of_ble_eq_true rfl) (by decide) ⟨rfl, rfl, by decide, by decide⟩ ?_
        refine x_lmul dX11_seek_75 ?_
        rw [lN_mul]
        refine x_lst_7 dX11_seek_76 (by decide) rfl ?_
        refine x_lload dX11_seek_78 rfl ?_
        refine x_lload dX11_seek_80 rfl ?_
        refine x_lcmp dX11_seek_82 ?_
        refine x_if_le 93 dX11_seek_83 (by decide) (fun c83 => ?_) (fun c83 => ?_)
        · refine x_inc_6  dX11_seek_93 (by decide) (nI_inc _) rfl ?_
          refine x_goto 38 dX11_seek_96 (by decide) ?_
          rw [show skN S.1 a1 (i + 1) = skN S.1 a1 i from if_neg (fun q => lg_le.mp c83 (gl.mpr q.2))] at ih; exact ih _ _
        · refine x_lload dX11_seek_86 rfl ?_
          refine x_lst_4 dX11_seek_88 (by decide) rfl ?_
          refine x_iload dX11_seek_90 rfl ?_
          refine x_ist_3 dX11_seek_92 (by decide) rfl ?_
          refine x_inc_6  dX11_seek_93 (by decide) (nI_inc _) rfl ?_
          refine x_goto 38 dX11_seek_96 (by decide) ?_
          have q := gl.mp (lg_le2.mp c83)
          have e : skN S.1 a1 (i + 1) = (i, S.1.2.2 7 i * odN S.1 a1 i) := if_pos ⟨c51, q⟩
          have ih := ih (some (.long (lN (S.1.2.2 7 i * odN S.1 a1 i)))) none
          rw [e, show bI (-3) (i, S.1.2.2 7 i * odN S.1 a1 i).1 = nI i from if_neg (by show ¬ i = 99; omega)] at ih
          exact ih
    · refine x_iload dX11_seek_38 rfl ?_
      refine x_bipush (v := 8) dX11_seek_40 (by decide) ?_
      refine x_icmp_ge_t 99 dX11_seek_42 (by decide) (by decide) ?_
      refine x_iload_n dX11_seek_99 rfl ?_
      refine x_iret rfl dX11_seek_100 ⟨by decide, by decide⟩ ?_
      exact ⟨by simp only [qSeek, c4, eq_self, Bool.false_eq_true, reduceCtorEq, and_true, true_and, and_false, false_and, not_true_eq_false, not_false_eq_true, if_true, if_false, ne_eq, or_true, true_or, or_false, false_or, iN_nI (show a1 < 2 ^ 31 by omega)], hx.ch I1 F1⟩
  · refine x_iconst (v := -1) dX11_seek_7 (by decide) ?_
    refine x_iret rfl dX11_seek_8 ⟨by decide, by decide⟩ ?_
    exact ⟨by simp only [qSeek, c4, eq_self, Bool.false_eq_true, reduceCtorEq, and_true, true_and, and_false, false_and, not_true_eq_false, not_false_eq_true, if_true, if_false, ne_eq, or_true, true_or, or_false, false_or], hx.rf⟩
