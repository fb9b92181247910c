/-- the most of f over the clearings below n that a reaches by t -/
def bwt (V : VS) (t a : Nat) (f : Nat → Nat) : Nat → Nat
  | 0 => 0
  | c + 1 => if (rea V t a 7).testBit c then max (bwt V t a f c) (f c) else bwt V t a f c
theorem bwt_le {V : VS} {t a B : Nat} {f : Nat → Nat} (hf : ∀ c, f c ≤ B) : ∀ n, bwt V t a f n ≤ B
  | 0 => Nat.zero_le _
  | n + 1 => by
    have ih := bwt_le (V := V) (t := t) (a := a) hf n
    have := hf n
    unfold bwt
    split
    · exact Nat.max_le.mpr ⟨ih, this⟩
    · exact ih
def vow (V : VS) (x : Nat → Nat) : Nat := fb_sm (fun s => cwt (chv V) s (V.1 0) * x s) (2 ^ V.1 0)
theorem vow_le {V : VS} (hv : okV V) {x : Nat → Nat} (hx : ∀ s, x s ≤ 16777216) : vow V x ≤ 72057594037927936 := by
  have h1 : vow V x ≤ 2 ^ V.1 0 * (16777216 * 16777216) := fb_sm_bound fun s _ => Nat.mul_le_mul (Nat.le_trans (cwt_le _ (fun p hp => chn_le hv hp _)) (pow8 hv.1.1)) (hx s)
  have h2 := p256 hv.1.1
  have h3 : 2 ^ V.1 0 * (16777216 * 16777216) ≤ 256 * (16777216 * 16777216) := Nat.mul_le_mul_right _ h2
  omega
theorem maxL {b v : Nat} (hb : b < 2 ^ 63) (hv : v < 2 ^ 63) : (if lN v < lN b then lN b else lN v) = lN (max b v) := by
  by_cases h : v < b
  · rw [if_pos ((pk_lLT hv hb).mpr h), Nat.max_eq_left (by omega)]
  · rw [if_neg (fun q => h ((pk_lLT hv hb).mp q)), Nat.max_eq_right (by omega)]
def okXX (X : Nat → Int64) (n : Nat) (x : Nat → Nat → Nat) : Prop := ∀ c, c < 8 → okX X (c * 256) n (x c)
theorem m256 (c : Nat) : nI c * 256 = nI (c * 256) := pk_mul c 256
theorem m256b (c s : Nat) : nI c * 256 + nI s = nI (c * 256 + s) := by rw [m256, nI_add]
set_option maxRecDepth 10000 in
set_option maxHeartbeats 2000000 in
theorem c_X1_valueOfWaiting {g : gG} {h : gH} {c : Nat} {J K X : Nat → Int64} {wh : Int64} {V : VS} {x : Nat → Nat → Nat} {e : Nat} (hv : okV V) (hi0 : isC h c J K X (nI (2 ^ V.1 0)) wh) (hK : okK (chv V) K (V.1 0)) (hX : okXX X (2 ^ V.1 0) x) (he : e < 8) : Rd g mX1_valueOfWaiting [.ref c, .int (nI e)] h (.long (lN (vow V (x e)))) := by
  have c0 := hi0.1
  have c1 := hi0.2.1
  have c2 := hi0.2.2.1
  have c3 := hi0.2.2.2
  have p8 := p256 hv.1.1
  refine Cn.of (L := [some (.ref c), some (.int (nI e)), none, none, none]) (by decide) (Nat.le_of_ble_eq_true rfl) rfl ?_
  refine x_lconst (v := 0) dX1_valueOfWaiting_0 (by decide) ?_
  refine x_lst_2 dX1_valueOfWaiting_1 (by decide) rfl ?_
  refine x_iconst (v := 0) dX1_valueOfWaiting_2 (by decide) ?_
  refine x_ist_4 dX1_valueOfWaiting_3 (by decide) rfl ?_
  refine lp_up (P := fun i => Ex g mX1_valueOfWaiting _ 5 [some (.ref c), some (.int (nI e)), some (.long (lN (fb_sm (fun s => cwt (chv V) s (V.1 0) * x e s) i))), none, some (.int (nI i))] [] h 0 0) (2 ^ V.1 0) (fun i hi ih => ?_) ?_ 0 (Nat.zero_le _)
  · refine x_iload dX1_valueOfWaiting_5 rfl ?_
    refine x_aload_n dX1_valueOfWaiting_7 rfl ?_
    refine x_get fX1_27 (by assumption) rfl dX1_valueOfWaiting_8 ?_
    refine x_icmp_ge_f 44 dX1_valueOfWaiting_11 (by decide) (ge_f rfl hi (by omega)) ?_
    refine x_lload_n dX1_valueOfWaiting_14 rfl ?_
    refine x_aload_n dX1_valueOfWaiting_15 rfl ?_
    refine x_get fX1_15 (by assumption) rfl dX1_valueOfWaiting_16 ?_
    refine x_iload dX1_valueOfWaiting_19 rfl ?_
    refine x_lald _ (by assumption) rfl (by omega) (by decide) dX1_valueOfWaiting_21 ?_
    rw [hK i hi]
    refine x_aload_n dX1_valueOfWaiting_22 rfl ?_
    refine x_get fX1_18 (by assumption) rfl dX1_valueOfWaiting_23 ?_
    refine x_iload_n dX1_valueOfWaiting_26 rfl ?_
    refine x_sipush (v := 256) dX1_valueOfWaiting_27 (by decide) ?_
    refine x_imul dX1_valueOfWaiting_30 ?_
    refine x_iload dX1_valueOfWaiting_31 rfl ?_
    refine x_iadd dX1_valueOfWaiting_33 ?_
    rw [m256b]
    refine x_lald (e * 256 + i) c3 rfl (by omega) (by decide) dX1_valueOfWaiting_34 ?_
    rw [hX e he i hi]
    refine x_lmul dX1_valueOfWaiting_35 ?_
    refine x_ladd dX1_valueOfWaiting_36 ?_
    refine x_lst_2 dX1_valueOfWaiting_37 (by decide) rfl ?_
    refine x_inc_4  dX1_valueOfWaiting_38 (by decide) (nI_inc _) rfl ?_
    refine x_goto 5 dX1_valueOfWaiting_41 (by decide) ?_
    rw [fb_sm_succ] at ih; rw [lN_mul, lN_add]; exact ih
  · refine x_iload dX1_valueOfWaiting_5 rfl ?_
    refine x_aload_n dX1_valueOfWaiting_7 rfl ?_
    refine x_get fX1_27 (by assumption) rfl dX1_valueOfWaiting_8 ?_
    refine x_icmp_ge_t 44 dX1_valueOfWaiting_11 (by decide) (ge_t rfl (by omega)) ?_
    refine x_lload_n dX1_valueOfWaiting_44 rfl ?_
    refine x_lret rfl dX1_valueOfWaiting_45 ⟨by decide, by decide⟩ ?_
    exact ⟨rfl, rfl⟩
set_option maxRecDepth 10000 in
set_option maxHeartbeats 2000000 in
theorem c_X1_bestWait {g : gG} {h : gH} {c : Nat} {J K X : Nat → Int64} {wh : Int64} {V : VS} {x : Nat → Nat → Nat} {t a : Nat} (hv : okV V) (hi0 : isC h c J K X (nI (2 ^ V.1 0)) wh) (hJ : okJ V J (2 ^ V.1 0)) (hK : okK (chv V) K (V.1 0)) (hX : okXX X (2 ^ V.1 0) x) (hB : ∀ c s, x c s ≤ 16777216) (ht : t < 2 ^ V.1 0) (ha : a < 8) : Rd g mX1_bestWait [.ref c, .int (nI t), .int (nI a)] h (.long (lN (bwt V t a (fun e => vow V (x e)) 8))) := by
  have c0 := hi0.1
  have c1 := hi0.2.1
  have c2 := hi0.2.2.1
  have c3 := hi0.2.2.2
  have p8 := p256 hv.1.1
  have hb : ∀ e, vow V (x e) ≤ 72057594037927936 := fun e => vow_le hv (hB e)
  refine Cn.of (L := [some (.ref c), some (.int (nI t)), some (.int (nI a)), none, none, none]) (by decide) (Nat.le_of_ble_eq_true rfl) rfl ?_
  refine x_lconst (v := 0) dX1_bestWait_0 (by decide) ?_
  refine x_lst_3 dX1_bestWait_1 (by decide) rfl ?_
  refine x_iconst (v := 0) dX1_bestWait_2 (by decide) ?_
  refine x_ist_5 dX1_bestWait_3 (by decide) rfl ?_
  refine lp_up (P := fun i => Ex g mX1_bestWait _ 5 [some (.ref c), some (.int (nI t)), some (.int (nI a)), some (.long (lN (bwt V t a (fun e => vow V (x e)) i))), none, some (.int (nI i))] [] h 0 0) 8 (fun i hi ih => ?_) ?_ 0 (Nat.zero_le _)
  · have ej := hJ t ht a i ha hi
    have b1 := bwt_le (V := V) (t := t) (a := a) hb i
    have b2 := hb i
    refine x_iload dX1_bestWait_5 rfl ?_
    refine x_bipush (v := 8) dX1_bestWait_7 (by decide) ?_
    refine x_icmp_ge_f 40 dX1_bestWait_9 (by decide) (c8 hi) ?_
    refine x_aload_n dX1_bestWait_12 rfl ?_
    refine x_iload_n dX1_bestWait_13 rfl ?_
    refine x_iload_n dX1_bestWait_14 rfl ?_
    refine x_iload dX1_bestWait_15 rfl ?_
    refine x_rdV (c_X1_joins hi0 (by omega) ha hi) (by assumption) lkX1_joins sX1_61 dX1_bestWait_17 rfl rfl (Nat.le_of_ble_eq_true rfl) (by decide) ⟨rfl, rfl, by decide, by decide⟩ ?_
    refine x_if_eqB 34 dX1_bestWait_20 (by decide) (fun c20 => ?_) (fun c20 => ?_)
    · refine x_inc_5  dX1_bestWait_34 (by decide) (nI_inc _) rfl ?_
      refine x_goto 5 dX1_bestWait_37 (by decide) ?_
      rw [ej] at c20
      rw [show bwt V t a (fun e => vow V (x e)) (i + 1) = bwt V t a (fun e => vow V (x e)) i from if_neg c20] at ih; exact ih
    · refine x_lload_n dX1_bestWait_23 rfl ?_
      refine x_aload_n dX1_bestWait_24 rfl ?_
      refine x_iload dX1_bestWait_25 rfl ?_
      refine x_rdV (c_X1_valueOfWaiting hv hi0 hK hX hi) (by assumption) lkX1_valueOfWaiting sX1_108 dX1_bestWait_27 rfl rfl (Nat.le_of_ble_eq_true rfl) (by decide) ⟨rfl, rfl, by decide, by decide⟩ ?_
      refine x_mmaxL sX1_112 dX1_bestWait_30 (by decide) (Nat.le_of_ble_eq_true rfl) ⟨by decide, by decide⟩ ?_
      rw [maxL (by omega) (by omega)]
      refine x_lst_3 dX1_bestWait_33 (by decide) rfl ?_
      refine x_inc_5  dX1_bestWait_34 (by decide) (nI_inc _) rfl ?_
      refine x_goto 5 dX1_bestWait_37 (by decide) ?_
      rw [ej] at c20
      rw [show bwt V t a (fun e => vow V (x e)) (i + 1) = max (bwt V t a (fun e => vow V (x e)) i) (vow V (x i)) from if_pos c20] at ih; exact ih
  · refine x_iload dX1_bestWait_5 rfl ?_
    refine x_bipush (v := 8) dX1_bestWait_7 (by decide) ?_
    refine x_icmp_ge_t 40 dX1_bestWait_9 (by decide) (by decide) ?_
    refine x_lload_n dX1_bestWait_40 rfl ?_
    refine x_lret rfl dX1_bestWait_41 ⟨by decide, by decide⟩ ?_
    exact ⟨rfl, rfl⟩
def cF0 (V : VS) (p : Nat) : Nat := chn V p false
def cT0 (V : VS) (p : Nat) : Nat := chn V p true
set_option maxRecDepth 10000 in
set_option maxHeartbeats 2000000 in
theorem c_X1_waitOneNight {g : gG} {h : gH} {c : Nat} {J K X : Nat → Int64} {wh : Int64} {V : VS} {w : Nat} {x : Nat → Nat → Nat} (hv : isV h w V) (hi0 : isC h c J K X (nI (2 ^ V.1 0)) wh) (hX : okXX X (2 ^ V.1 0) x) (hd : w + 12 ≤ c ∨ c + 4 ≤ w) : Ct g mX1_waitOneNight [.ref c, .ref w] h none (fun h' => ∃ X', isC h' c J K X' (nI (2 ^ V.1 0)) wh ∧ okXX X' (2 ^ V.1 0) (fun e => mxs (cF0 V) (cT0 V) (x e) (V.1 0)) ∧ Fr c 4 h h') := by
  obtain ⟨okw, a, hww, rpw⟩ := id hv
  have kwp : V.1 0 ≤ 8 := okw.1.1
  have kww : V.1 1 ≤ 4 := okw.1.2.1
  have kwr : V.1 2 ≤ 4 := okw.1.2.2
  have w0 : h.1 w = some (.inr (10, wF w (wS V))) := hww.1
  have w1 : h.1 (w + 1) = some (.inl (0, 8, .inl (a 0))) := hww.2 0 (by decide)
  have w2 : h.1 (w + 2) = some (.inl (0, 8, .inl (a 1))) := hww.2 1 (by decide)
  have w3 : h.1 (w + 3) = some (.inl (0, 8, .inl (a 2))) := hww.2 2 (by decide)
  have w4 : h.1 (w + 4) = some (.inl (0, 8, .inl (a 3))) := hww.2 3 (by decide)
  have w5 : h.1 (w + 5) = some (.inl (0, 8, .inl (a 4))) := hww.2 4 (by decide)
  have w6 : h.1 (w + 6) = some (.inl (0, 4, .inl (a 5))) := hww.2 5 (by decide)
  have w7 : h.1 (w + 7) = some (.inl (0, 4, .inl (a 6))) := hww.2 6 (by decide)
  have w8 : h.1 (w + 8) = some (.inl (0, 4, .inl (a 7))) := hww.2 7 (by decide)
  have w9 : h.1 (w + 9) = some (.inl (0, 8, .inl (a 8))) := hww.2 8 (by decide)
  have w10 : h.1 (w + 10) = some (.inl (0, 4, .inl (a 9))) := hww.2 9 (by decide)
  have w11 : h.1 (w + 11) = some (.inl (0, 4, .inl (a 10))) := hww.2 10 (by decide)
  have c0 := hi0.1
  have c1 := hi0.2.1
  have c2 := hi0.2.2.1
  have c3 := hi0.2.2.2
  have p8 := p256 okw.1.1
  refine Cn.of (L := [some (.ref c), some (.ref w), none, none, none, none]) (by decide) (Nat.le_of_ble_eq_true rfl) rfl ?_
  refine x_iconst (v := 0) dX1_waitOneNight_0 (by decide) ?_
  refine x_ist_2 dX1_waitOneNight_1 (by decide) rfl ?_
  refine lp_up (P := fun i => ∀ h1 X1 u v z, isC h1 c J K X1 (nI (2 ^ V.1 0)) wh → okXX X1 (2 ^ V.1 0) (fun e => mxs (cF0 V) (cT0 V) (x e) i) → Fr c 4 h h1 → Ex g mX1_waitOneNight _ 2 [some (.ref c), some (.ref w), some (.int (nI i)), u, v, z] [] h1 0 0) (V.1 0) (fun i hi ih h1 X1 u v z hi1 hx1 hf1 => ?_) (fun h1 X1 u v z hi1 hx1 hf1 => ?_) 0 (Nat.zero_le _) h X none none none hi0 hX Fr.rf
  · have v1 := hv.fr hf1 hd
    have m0 := v1.o
    refine x_iload_n dX1_waitOneNight_2 rfl ?_
    refine x_aload_n dX1_waitOneNight_3 rfl ?_
    refine x_get fX1_21 m0 rfl dX1_waitOneNight_4 ?_
    refine x_icmp_ge_f 61 dX1_waitOneNight_7 (by decide) (ge_f rfl hi (by omega)) ?_
    refine x_aload_n dX1_waitOneNight_10 rfl ?_
    refine x_iload_n dX1_waitOneNight_11 rfl ?_
    refine x_iconst (v := 0) dX1_waitOneNight_12 (by decide) ?_
    refine x_rdV (c_X10_chanceOf (b := false) v1 hi) m0 lkX10_chanceOf sX1_57 dX1_waitOneNight_13 rfl rfl (Nat.le_of_ble_eq_true rfl) (by decide) ⟨rfl, rfl, by decide, by decide⟩ ?_
    refine x_ist_3 dX1_waitOneNight_16 (by decide) rfl ?_
    refine x_aload_n dX1_waitOneNight_17 rfl ?_
    refine x_iload_n dX1_waitOneNight_18 rfl ?_
    refine x_iconst (v := 1) dX1_waitOneNight_19 (by decide) ?_
    refine x_rdV (c_X10_chanceOf (b := true) v1 hi) m0 lkX10_chanceOf sX1_57 dX1_waitOneNight_20 rfl rfl (Nat.le_of_ble_eq_true rfl) (by decide) ⟨rfl, rfl, by decide, by decide⟩ ?_
    refine x_ist_4 dX1_waitOneNight_23 (by decide) rfl ?_
    refine x_iconst (v := 0) dX1_waitOneNight_25 (by decide) ?_
    refine x_ist_5 dX1_waitOneNight_26 (by decide) rfl ?_
    refine lp_up (P := fun j => ∀ h2 X2, isC h2 c J K X2 (nI (2 ^ V.1 0)) wh → okXX X2 (2 ^ V.1 0) (fun e => mxs (cF0 V) (cT0 V) (x e) (if e < j then i + 1 else i)) → Fr c 4 h h2 → Ex g mX1_waitOneNight _ 28 [some (.ref c), some (.ref w), some (.int (nI i)), some (.int (nI (cF0 V i))), some (.int (nI (cT0 V i))), some (.int (nI j))] [] h2 0 0) 8 (fun j hj ihj h2 X2 hi2 hx2 hf2 => ?_) (fun h2 X2 hi2 hx2 hf2 => ?_) 0 (Nat.zero_le _) h1 X1 hi1 (fun e he => by simpa using hx1 e he) hf1
    · have d2 := hi2.1
      have hxj := hx2 j hj
      simp only [if_neg (Nat.lt_irrefl j)] at hxj
      refine x_iload dX1_waitOneNight_28 rfl ?_
      refine x_bipush (v := 8) dX1_waitOneNight_30 (by decide) ?_
      refine x_icmp_ge_f 55 dX1_waitOneNight_32 (by decide) (c8 hj) ?_
      refine x_aload_n dX1_waitOneNight_35 rfl ?_
      refine x_iload dX1_waitOneNight_36 rfl ?_
      refine x_sipush (v := 256) dX1_waitOneNight_38 (by decide) ?_
      refine x_imul dX1_waitOneNight_41 ?_
      rw [m256]
      refine x_iload_n dX1_waitOneNight_42 rfl ?_
      refine x_iload_n dX1_waitOneNight_43 rfl ?_
      refine x_iload dX1_waitOneNight_44 rfl ?_
      refine x_cnV (c_X1_mix okw hi2 (by omega) hi (chn_le okw hi _) (chn_le okw hi _) hxj) (by assumption) lkX1_mix sX1_75 dX1_waitOneNight_46 rfl rfl (Nat.le_of_ble_eq_true rfl) (by decide) ⟨rfl, rfl, by decide, by decide⟩ ?_
      rintro h3 ⟨X3, I3, hX3, e3, F3⟩
      refine x_inc_5  dX1_waitOneNight_49 (by decide) (nI_inc _) rfl ?_
      refine x_goto 28 dX1_waitOneNight_52 (by decide) ?_
      refine ihj h3 X3 I3 (fun e he s hs => ?_) (hf2.tr F3)
      by_cases ej : e = j
      · subst ej; simp only [if_pos (Nat.lt_succ_self e)]; exact hX3 s hs
      · rw [e3 (e * 256 + s) (by omega), hx2 e he s hs]
        by_cases l : e < j
        · simp only [if_pos l, if_pos (show e < j + 1 by omega)]
        · simp only [if_neg l, if_neg (show ¬ e < j + 1 by omega)]
    · refine x_iload dX1_waitOneNight_28 rfl ?_
      refine x_bipush (v := 8) dX1_waitOneNight_30 (by decide) ?_
      refine x_icmp_ge_t 55 dX1_waitOneNight_32 (by decide) (by decide) ?_
      refine x_inc_2  dX1_waitOneNight_55 (by decide) (nI_inc _) rfl ?_
      refine x_goto 2 dX1_waitOneNight_58 (by decide) ?_
      refine ih h2 X2 _ _ _ hi2 (fun e he => ?_) hf2
      have := hx2 e he
      simp only [if_pos he] at this
      exact this
  · have v1 := hv.fr hf1 hd
    have m0 := v1.o
    refine x_iload_n dX1_waitOneNight_2 rfl ?_
    refine x_aload_n dX1_waitOneNight_3 rfl ?_
    refine x_get fX1_21 m0 rfl dX1_waitOneNight_4 ?_
    refine x_icmp_ge_t 61 dX1_waitOneNight_7 (by decide) (ge_t rfl (by omega)) ?_
    refine x_vret rfl dX1_waitOneNight_61 ⟨by decide, by decide⟩ ?_
    exact ⟨rfl, X1, hi1, hx1, hf1⟩
theorem bwt_0 {V : VS} {t a : Nat} {f : Nat → Nat} : ∀ n, (∀ j, j < n → ¬ (rea V t a 7).testBit j = true) → bwt V t a f n = 0
  | 0, _ => rfl
  | n + 1, h => by rw [bwt, if_neg (h n (by omega)), bwt_0 n (fun j hj => h j (by omega))]
set_option maxRecDepth 10000 in
set_option maxHeartbeats 2000000 in
theorem c_X1_bestReached {g : gG} {h : gH} {c : Nat} {J K X : Nat → Int64} {wh : Int64} {V : VS} {z : Nat → Nat} {s e m : Nat} (hv : okV V) (hi0 : isC h c J K X (nI (2 ^ V.1 0)) wh) (hJ : okJ V J (2 ^ V.1 0)) (hz : ∀ i, i < 8 → X (i * 256 + s) = lN (z i)) (hB : ∀ i, z i ≤ 16777216) (hs : s < 2 ^ V.1 0) (he : e < 8) (h1 : ∀ i, i < e → (rea V s e 7).testBit i = true → z i = m) (h2 : (∀ i, i < e → ¬ (rea V s e 7).testBit i = true) → bwt V s e z 8 = m) : Rd g mX1_bestReached [.ref c, .int (nI s), .int (nI e)] h (.long (lN m)) := by
  have c0 := hi0.1
  have c1 := hi0.2.1
  have c2 := hi0.2.2.1
  have c3 := hi0.2.2.2
  have p8 := p256 hv.1.1
  refine Cn.of (L := [some (.ref c), some (.int (nI s)), some (.int (nI e)), none, none, none]) (by decide) (Nat.le_of_ble_eq_true rfl) rfl ?_
  refine x_lconst (v := 0) dX1_bestReached_0 (by decide) ?_
  refine x_lst_3 dX1_bestReached_1 (by decide) rfl ?_
  refine x_iconst (v := 0) dX1_bestReached_2 (by decide) ?_
  refine x_ist_5 dX1_bestReached_3 (by decide) rfl ?_
  refine lp_up (P := fun i => (∀ j, j < i → j < e → ¬ (rea V s e 7).testBit j = true) → Ex g mX1_bestReached _ 5 [some (.ref c), some (.int (nI s)), some (.int (nI e)), some (.long (lN (bwt V s e z i))), none, some (.int (nI i))] [] h 0 0) 8 (fun i hi ih hn => ?_) (fun hn => ?_) 0 (Nat.zero_le _) (fun j q => absurd q (Nat.not_lt_zero j))
  · have ej := hJ s hs e i he hi
    have b1 := bwt_le (V := V) (t := s) (a := e) hB i
    have b2 := hB i
    have gI : nI e ≤ nI i ↔ e ≤ i := nI_leI (by omega) (by omega)
    refine x_iload dX1_bestReached_5 rfl ?_
    refine x_bipush (v := 8) dX1_bestReached_7 (by decide) ?_
    refine x_icmp_ge_f 55 dX1_bestReached_9 (by decide) (c8 hi) ?_
    refine x_aload_n dX1_bestReached_12 rfl ?_
    refine x_iload_n dX1_bestReached_13 rfl ?_
    refine x_iload_n dX1_bestReached_14 rfl ?_
    refine x_iload dX1_bestReached_15 rfl ?_
    refine x_rdV (c_X1_joins hi0 (by omega) he hi) (by assumption) lkX1_joins sX1_61 dX1_bestReached_17 rfl rfl (Nat.le_of_ble_eq_true rfl) (by decide) ⟨rfl, rfl, by decide, by decide⟩ ?_
    refine x_if_eqB 49 dX1_bestReached_20 (by decide) (fun c20 => ?_) (fun c20 => ?_)
    · refine x_inc_5  dX1_bestReached_49 (by decide) (nI_inc _) rfl ?_
      refine x_goto 5 dX1_bestReached_52 (by decide) ?_
      rw [ej] at c20
      have := ih (fun j hj hl => (Nat.lt_or_ge j i).elim (fun q => hn j q hl) (fun q => by rw [show j = i by omega]; exact c20))
      rw [show bwt V s e z (i + 1) = bwt V s e z i from if_neg c20] at this; exact this
    · refine x_lload_n dX1_bestReached_23 rfl ?_
      refine x_aload_n dX1_bestReached_24 rfl ?_
      refine x_get fX1_18 (by assumption) rfl dX1_bestReached_25 ?_
      refine x_iload dX1_bestReached_28 rfl ?_
      refine x_sipush (v := 256) dX1_bestReached_30 (by decide) ?_
      refine x_imul dX1_bestReached_33 ?_
      refine x_iload_n dX1_bestReached_34 rfl ?_
      refine x_iadd dX1_bestReached_35 ?_
      rw [m256b]
      refine x_lald (i * 256 + s) c3 rfl (by omega) (by decide) dX1_bestReached_36 ?_
      rw [hz i hi]
      refine x_mmaxL sX1_112 dX1_bestReached_37 (by decide) (Nat.le_of_ble_eq_true rfl) ⟨by decide, by decide⟩ ?_
      rw [maxL (by omega) (by omega)]
      refine x_lst_3 dX1_bestReached_40 (by decide) rfl ?_
      refine x_iload dX1_bestReached_41 rfl ?_
      refine x_iload_n dX1_bestReached_43 rfl ?_
      refine x_icmp_ge 49 dX1_bestReached_44 (by decide) (fun c44 => ?_) (fun c44 => ?_)
      · refine x_inc_5  dX1_bestReached_49 (by decide) (nI_inc _) rfl ?_
        refine x_goto 5 dX1_bestReached_52 (by decide) ?_
        rw [ej] at c20
        have := ih (fun j hj hl => hn j (by have := gI.mp c44; omega) hl)
        rw [show bwt V s e z (i + 1) = max (bwt V s e z i) (z i) from if_pos c20] at this; exact this
      · refine x_lload_n dX1_bestReached_47 rfl ?_
        refine x_lret rfl dX1_bestReached_48 ⟨by decide, by decide⟩ ?_
        rw [ej] at c20
        have l : i < e := by have : ¬ e ≤ i := fun q => c44 (gI.mpr q); omega
        exact ⟨by rw [bwt_0 i (fun j hj => hn j hj (by omega)), Nat.max_eq_right (Nat.zero_le _), h1 i l c20], rfl⟩
  · refine x_iload dX1_bestReached_5 rfl ?_
    refine x_bipush (v := 8) dX1_bestReached_7 (by decide) ?_
    refine x_icmp_ge_t 55 dX1_bestReached_9 (by decide) (by decide) ?_
    refine x_lload_n dX1_bestReached_55 rfl ?_
    refine x_lret rfl dX1_bestReached_56 ⟨by decide, by decide⟩ ?_
    exact ⟨by rw [h2 (fun i hi => hn i (by omega) hi)], rfl⟩
theorem rea_eq {V : VS} (hv : okV V) {t a b : Nat} (ha : a < 8) (hb : b < 8) (h : (rea V t a 7).testBit b = true) : rea V t a 7 = rea V t b 7 := by
  have c := (con_7 hv t ha).mpr h
  apply Nat.eq_of_testBit_eq
  intro j
  rw [Bool.eq_iff_iff, ← con_7 hv t ha, ← con_7 hv t hb]
  exact ⟨fun q => c.sy.tr q, fun q => c.tr q⟩
theorem bwt_cg {V : VS} {t a b : Nat} {f : Nat → Nat} (h : rea V t a 7 = rea V t b 7) : ∀ n, bwt V t a f n = bwt V t b f n
  | 0 => rfl
  | n + 1 => by rw [bwt, bwt, h, bwt_cg h n]
theorem bwt_ext {V : VS} {t a : Nat} {f g : Nat → Nat} : ∀ n, (∀ j, j < n → (rea V t a 7).testBit j = true → f j = g j) → bwt V t a f n = bwt V t a g n
  | 0, _ => rfl
  | n + 1, h => by
    have ih := bwt_ext (V := V) (t := t) (a := a) (f := f) (g := g) n (fun j hj => h j (by omega))
    by_cases q : (rea V t a 7).testBit n = true
    · rw [bwt, bwt, if_pos q, if_pos q, ih, h n (by omega) q]
    · rw [bwt, bwt, if_neg q, if_neg q, ih]
def gbs (V : VS) (x : Nat → Nat → Nat) (e s : Nat) : Nat := bwt V s e (fun i => x i s) 8
set_option maxRecDepth 10000 in
set_option maxHeartbeats 2000000 in
theorem c_X1_goWhereBest {g : gG} {h : gH} {c : Nat} {J K X : Nat → Int64} {wh : Int64} {V : VS} {x : Nat → Nat → Nat} (hv : okV V) (hi0 : isC h c J K X (nI (2 ^ V.1 0)) wh) (hJ : okJ V J (2 ^ V.1 0)) (hX : okXX X (2 ^ V.1 0) x) (hB : ∀ c s, x c s ≤ 16777216) : Ct g mX1_goWhereBest [.ref c] h none (fun h' => ∃ X', isC h' c J K X' (nI (2 ^ V.1 0)) wh ∧ okXX X' (2 ^ V.1 0) (gbs V x) ∧ Fr c 4 h h') := by
  have c0 := hi0.1
  have c1 := hi0.2.1
  have c2 := hi0.2.2.1
  have c3 := hi0.2.2.2
  have p8 := p256 hv.1.1
  refine Cn.of (L := [some (.ref c), none, none]) (by decide) (Nat.le_of_ble_eq_true rfl) rfl ?_
  refine x_iconst (v := 0) dX1_goWhereBest_0 (by decide) ?_
  refine x_ist_1 dX1_goWhereBest_1 (by decide) rfl ?_
  refine lp_up (P := fun i => ∀ h1 X1 u, isC h1 c J K X1 (nI (2 ^ V.1 0)) wh → okXX X1 (2 ^ V.1 0) (fun e s => if s < i then gbs V x e s else x e s) → Fr c 4 h h1 → Ex g mX1_goWhereBest _ 2 [some (.ref c), some (.int (nI i)), u] [] h1 0 0) (2 ^ V.1 0) (fun i hi ih h1 X1 u hi1 hx1 hf1 => ?_) (fun h1 X1 u hi1 hx1 hf1 => ?_) 0 (Nat.zero_le _) h X none hi0 (fun e he s hs => by simpa using hX e he s hs) Fr.rf
  · have d1 := hi1.1
    refine x_iload_n dX1_goWhereBest_2 rfl ?_
    refine x_aload_n dX1_goWhereBest_3 rfl ?_
    refine x_get fX1_27 (by assumption) rfl dX1_goWhereBest_4 ?_
    refine x_icmp_ge_f 48 dX1_goWhereBest_7 (by decide) (ge_f rfl hi (by omega)) ?_
    refine x_iconst (v := 0) dX1_goWhereBest_10 (by decide) ?_
    refine x_ist_2 dX1_goWhereBest_11 (by decide) rfl ?_
    refine lp_up (P := fun j => ∀ h2 X2, isC h2 c J K X2 (nI (2 ^ V.1 0)) wh → okXX X2 (2 ^ V.1 0) (fun e s => if s < i ∨ (s = i ∧ e < j) then gbs V x e s else x e s) → Fr c 4 h h2 → Ex g mX1_goWhereBest _ 12 [some (.ref c), some (.int (nI i)), some (.int (nI j))] [] h2 0 0) 8 (fun j hj ihj h2 X2 hi2 hx2 hf2 => ?_) (fun h2 X2 hi2 hx2 hf2 => ?_) 0 (Nat.zero_le _) h1 X1 hi1 (fun e he s hs => by simpa using hx1 e he s hs) hf1
    · have d2 := hi2.1
      have gb : ∀ e, gbs V x e i ≤ 16777216 := fun e => bwt_le (fun c => hB c i) 8
      refine x_iload_n dX1_goWhereBest_12 rfl ?_
      refine x_bipush (v := 8) dX1_goWhereBest_13 (by decide) ?_
      refine x_icmp_ge_f 42 dX1_goWhereBest_15 (by decide) (c8 hj) ?_
      refine x_aload_n dX1_goWhereBest_18 rfl ?_
      refine x_get fX1_18 (by assumption) rfl dX1_goWhereBest_19 ?_
      refine x_iload_n dX1_goWhereBest_22 rfl ?_
      refine x_sipush (v := 256) dX1_goWhereBest_23 (by decide) ?_
      refine x_imul dX1_goWhereBest_26 ?_
      refine x_iload_n dX1_goWhereBest_27 rfl ?_
      refine x_iadd dX1_goWhereBest_28 ?_
      rw [m256b]
      refine x_aload_n dX1_goWhereBest_29 rfl ?_
      refine x_iload_n dX1_goWhereBest_30 rfl ?_
      refine x_iload_n dX1_goWhereBest_31 rfl ?_
      refine x_rdV (c_X1_bestReached (z := fun e => if e < j then gbs V x e i else x e i) (m := gbs V x j i) hv hi2 hJ (fun e he => by rw [hx2 e he i hi]; by_cases l : e < j <;> simp [l]) (fun e => by show (if e < j then gbs V x e i else x e i) ≤ _; split; exact gb e; exact hB e i) hi hj (fun e he q => by show (if e < j then gbs V x e i else x e i) = _; rw [if_pos he]; exact bwt_cg (rea_eq hv hj (by omega) q).symm 8) (fun q => bwt_ext 8 (fun e he z => by show (if e < j then gbs V x e i else x e i) = _; rw [if_neg (fun y => q e y z)]))) (by assumption) lkX1_bestReached sX1_118 dX1_goWhereBest_32 rfl rfl (Nat.le_of_ble_eq_true rfl) (by decide) ⟨rfl, rfl, by decide, by decide⟩ ?_
      refine x_last (j * 256 + i) hi2.2.2.2 rfl (by omega) (by decide) dX1_goWhereBest_35 ?_
      refine x_inc_2  dX1_goWhereBest_36 (by decide) (nI_inc _) rfl ?_
      refine x_goto 12 dX1_goWhereBest_39 (by decide) ?_
      refine ihj _ _ (isC.rX hi2) (fun e he s hs => ?_) (hf2.tr (Fr.set (by omega) (by omega)))
      have hx : X2 (e * 256 + s) = lN (if s < i ∨ (s = i ∧ e < j) then gbs V x e s else x e s) := hx2 e he s hs
      show va_up X2 (j * 256 + i) (lN (gbs V x j i)) (e * 256 + s) = lN (if s < i ∨ (s = i ∧ e < j + 1) then gbs V x e s else x e s)
      by_cases both : s = i ∧ e = j
      · obtain ⟨rfl, rfl⟩ := both
        rw [if_pos (Or.inr ⟨rfl, Nat.lt_succ_self e⟩)]; simp only [va_up, if_true]
      · rw [show va_up X2 (j * 256 + i) (lN (gbs V x j i)) (e * 256 + s) = X2 (e * 256 + s) from if_neg (by omega), hx]
        by_cases q : s < i ∨ (s = i ∧ e < j)
        · rw [if_pos q, if_pos (by omega)]
        · rw [if_neg q, if_neg (by omega)]
    · have d2 := hi2.1
      refine x_iload_n dX1_goWhereBest_12 rfl ?_
      refine x_bipush (v := 8) dX1_goWhereBest_13 (by decide) ?_
      refine x_icmp_ge_t 42 dX1_goWhereBest_15 (by decide) (by decide) ?_
      refine x_inc_1  dX1_goWhereBest_42 (by decide) (nI_inc _) rfl ?_
      refine x_goto 2 dX1_goWhereBest_45 (by decide) ?_
      refine ih h2 X2 _ hi2 (fun e he s hs => ?_) hf2
      have hx : X2 (e * 256 + s) = lN (if s < i ∨ (s = i ∧ e < 8) then gbs V x e s else x e s) := hx2 e he s hs
      show X2 (e * 256 + s) = lN (if s < i + 1 then gbs V x e s else x e s)
      rw [hx]
      by_cases q : s < i + 1
      · rw [if_pos q, if_pos (by omega)]
      · rw [if_neg q, if_neg (by omega)]
  · have d1 := hi1.1
    refine x_iload_n dX1_goWhereBest_2 rfl ?_
    refine x_aload_n dX1_goWhereBest_3 rfl ?_
    refine x_get fX1_27 (by assumption) rfl dX1_goWhereBest_4 ?_
    refine x_icmp_ge_t 48 dX1_goWhereBest_7 (by decide) (ge_t rfl (by omega)) ?_
    refine x_vret rfl dX1_goWhereBest_48 ⟨by decide, by decide⟩ ?_
    exact ⟨rfl, X1, hi1, fun e he s hs => (hx1 e he s hs).trans (congrArg lN (if_pos hs)), hf1⟩
def wi0 (V : VS) (a b : Nat) : Nat := jv V a b (V.1 3)
def wi1 (V : VS) (a b : Nat) : Nat := bwt V (V.1 3) a (fun e => vow V (jv V e b)) 8
def wx2 (V : VS) (b : Nat) : Nat → Nat → Nat := gbs V (fun e => mxs (cF0 V) (cT0 V) (jv V e b) (V.1 0))
def wi2 (V : VS) (a b : Nat) : Nat := bwt V (V.1 3) a (fun e => vow V (wx2 V b e)) 8
def wi (V : VS) (a b : Nat) : Nat → Nat
  | 0 => wi0 V a b
  | 1 => wi1 V a b
  | _ => wi2 V a b
theorem wx_le {V : VS} (hv : okV V) (b e s : Nat) : mxs (cF0 V) (cT0 V) (jv V e b) (V.1 0) s ≤ 16777216 := by
  have h1 := mxs_le (g := cF0 V) (t := cT0 V) (jv_le V e b) (V.1 0) (fun p hp => ⟨chn_le hv hp _, chn_le hv hp _⟩) s
  have := pow8 hv.1.1
  omega
set_option maxRecDepth 10000 in
set_option maxHeartbeats 2000000 in
theorem c_X1_bestWithin0 {g : gG} {h : gH} {c : Nat} {J K X : Nat → Int64} {s0 : Int32} {wh : Int64} {w : Nat} {V : VS} {a b : Nat} (hv : isV h w V) (hi0 : isC h c J K X s0 wh) (hd : w + 12 ≤ c ∨ c + 4 ≤ w) (ha : a < 8) (hb : b < 8) : Ct g mX1_bestWithin [.ref c, .ref w, .int (nI a), .int (nI b), .int (nI 0)] h (some (.long (lN (wi V a b 0)))) (fun h' => (∃ J' K' X', isC h' c J' K' X' (nI (2 ^ V.1 0)) (lN (2 ^ (3 * V.1 0)))) ∧ Fr c 4 h h') := by
  obtain ⟨okw, ar, hww, rpw⟩ := id hv
  have kwp : V.1 0 ≤ 8 := okw.1.1
  have kww : V.1 1 ≤ 4 := okw.1.2.1
  have kwr : V.1 2 ≤ 4 := okw.1.2.2
  have w0 : h.1 w = some (.inr (10, wF w (wS V))) := hww.1
  have w1 : h.1 (w + 1) = some (.inl (0, 8, .inl (ar 0))) := hww.2 0 (by decide)
  have w2 : h.1 (w + 2) = some (.inl (0, 8, .inl (ar 1))) := hww.2 1 (by decide)
  have w3 : h.1 (w + 3) = some (.inl (0, 8, .inl (ar 2))) := hww.2 2 (by decide)
  have w4 : h.1 (w + 4) = some (.inl (0, 8, .inl (ar 3))) := hww.2 3 (by decide)
  have w5 : h.1 (w + 5) = some (.inl (0, 8, .inl (ar 4))) := hww.2 4 (by decide)
  have w6 : h.1 (w + 6) = some (.inl (0, 4, .inl (ar 5))) := hww.2 5 (by decide)
  have w7 : h.1 (w + 7) = some (.inl (0, 4, .inl (ar 6))) := hww.2 6 (by decide)
  have w8 : h.1 (w + 8) = some (.inl (0, 4, .inl (ar 7))) := hww.2 7 (by decide)
  have w9 : h.1 (w + 9) = some (.inl (0, 8, .inl (ar 8))) := hww.2 8 (by decide)
  have w10 : h.1 (w + 10) = some (.inl (0, 4, .inl (ar 9))) := hww.2 9 (by decide)
  have w11 : h.1 (w + 11) = some (.inl (0, 4, .inl (ar 10))) := hww.2 10 (by decide)
  have c0 := hi0.1
  have c1 := hi0.2.1
  have c2 := hi0.2.2.1
  have c3 := hi0.2.2.2
  have p8 := p256 okw.1.1
  have t8 := okw.2.1
  refine Cn.of (L := [some (.ref c), some (.ref w), some (.int (nI a)), some (.int (nI b)), some (.int (nI 0)), none]) (by decide) (Nat.le_of_ble_eq_true rfl) rfl ?_
  refine x_aload_n dX1_bestWithin_0 rfl ?_
  refine x_aload_n dX1_bestWithin_1 rfl ?_
  refine x_cnV (c_X1_lookAhead hv hi0 hd) (by assumption) lkX1_lookAhead sX1_96 dX1_bestWithin_2 rfl rfl (Nat.le_of_ble_eq_true rfl) (by decide) ⟨rfl, rfl, by decide, by decide⟩ ?_
  rintro hA ⟨J1, K1, I1, hJ1, hK1, F1⟩
  have v1 := hv.fr F1 hd
  have m0 := v1.o
  have d1 := I1.1
  refine x_iload dX1_bestWithin_5 rfl ?_
  refine x_if_ne_f 29 dX1_bestWithin_7 (by decide) rfl ?_
  refine x_aload_n dX1_bestWithin_10 rfl ?_
  refine x_aload_n dX1_bestWithin_11 rfl ?_
  refine x_get fX1_79 m0 rfl dX1_bestWithin_12 ?_
  refine x_iload_n dX1_bestWithin_15 rfl ?_
  refine x_iload_n dX1_bestWithin_16 rfl ?_
  refine x_rdV (c_X1_joins I1 (by omega) ha hb) d1 lkX1_joins sX1_61 dX1_bestWithin_17 rfl rfl (Nat.le_of_ble_eq_true rfl) (by decide) ⟨rfl, rfl, by decide, by decide⟩ ?_
  refine x_if_eqB 27 dX1_bestWithin_20 (by decide) (fun c20 => ?_) (fun c20 => ?_)
  · refine x_lconst (v := 0) dX1_bestWithin_27 (by decide) ?_
    refine x_lret rfl dX1_bestWithin_28 ⟨by decide, by decide⟩ ?_
    rw [hJ1 _ okw.2.1 a b ha hb] at c20
    exact ⟨by rw [show wi V a b 0 = 0 from if_neg c20]; rfl, ⟨J1, K1, X, I1⟩, F1⟩
  · refine x_lconst (v := 1) dX1_bestWithin_23 (by decide) ?_
    refine x_goto 28 dX1_bestWithin_24 (by decide) ?_
    refine x_lret rfl dX1_bestWithin_28 ⟨by decide, by decide⟩ ?_
    rw [hJ1 _ okw.2.1 a b ha hb] at c20
    exact ⟨by rw [show wi V a b 0 = 1 from if_pos c20]; rfl, ⟨J1, K1, X, I1⟩, F1⟩
set_option maxRecDepth 10000 in
set_option maxHeartbeats 2000000 in
theorem c_X1_bestWithin1 {g : gG} {h : gH} {c : Nat} {J K X : Nat → Int64} {s0 : Int32} {wh : Int64} {w : Nat} {V : VS} {a b : Nat} (hv : isV h w V) (hi0 : isC h c J K X s0 wh) (hd : w + 12 ≤ c ∨ c + 4 ≤ w) (ha : a < 8) (hb : b < 8) : Ct g mX1_bestWithin [.ref c, .ref w, .int (nI a), .int (nI b), .int (nI 1)] h (some (.long (lN (wi V a b 1)))) (fun h' => (∃ J' K' X', isC h' c J' K' X' (nI (2 ^ V.1 0)) (lN (2 ^ (3 * V.1 0)))) ∧ Fr c 4 h h') := by
  obtain ⟨okw, ar, hww, rpw⟩ := id hv
  have kwp : V.1 0 ≤ 8 := okw.1.1
  have kww : V.1 1 ≤ 4 := okw.1.2.1
  have kwr : V.1 2 ≤ 4 := okw.1.2.2
  have w0 : h.1 w = some (.inr (10, wF w (wS V))) := hww.1
  have w1 : h.1 (w + 1) = some (.inl (0, 8, .inl (ar 0))) := hww.2 0 (by decide)
  have w2 : h.1 (w + 2) = some (.inl (0, 8, .inl (ar 1))) := hww.2 1 (by decide)
  have w3 : h.1 (w + 3) = some (.inl (0, 8, .inl (ar 2))) := hww.2 2 (by decide)
  have w4 : h.1 (w + 4) = some (.inl (0, 8, .inl (ar 3))) := hww.2 3 (by decide)
  have w5 : h.1 (w + 5) = some (.inl (0, 8, .inl (ar 4))) := hww.2 4 (by decide)
  have w6 : h.1 (w + 6) = some (.inl (0, 4, .inl (ar 5))) := hww.2 5 (by decide)
  have w7 : h.1 (w + 7) = some (.inl (0, 4, .inl (ar 6))) := hww.2 6 (by decide)
  have w8 : h.1 (w + 8) = some (.inl (0, 4, .inl (ar 7))) := hww.2 7 (by decide)
  have w9 : h.1 (w + 9) = some (.inl (0, 8, .inl (ar 8))) := hww.2 8 (by decide)
  have w10 : h.1 (w + 10) = some (.inl (0, 4, .inl (ar 9))) := hww.2 9 (by decide)
  have w11 : h.1 (w + 11) = some (.inl (0, 4, .inl (ar 10))) := hww.2 10 (by decide)
  have c0 := hi0.1
  have c1 := hi0.2.1
  have c2 := hi0.2.2.1
  have c3 := hi0.2.2.2
  have p8 := p256 okw.1.1
  refine Cn.of (L := [some (.ref c), some (.ref w), some (.int (nI a)), some (.int (nI b)), some (.int (nI 1)), none]) (by decide) (Nat.le_of_ble_eq_true rfl) rfl ?_
  refine x_aload_n dX1_bestWithin_0 rfl ?_
  refine x_aload_n dX1_bestWithin_1 rfl ?_
  refine x_cnV (c_X1_lookAhead hv hi0 hd) (by assumption) lkX1_lookAhead sX1_96 dX1_bestWithin_2 rfl rfl (Nat.le_of_ble_eq_true rfl) (by decide) ⟨rfl, rfl, by decide, by decide⟩ ?_
  rintro hA ⟨J1, K1, I1, hJ1, hK1, F1⟩
  have v1 := hv.fr F1 hd
  have m0 := v1.o
  have d1 := I1.1
  refine x_iload dX1_bestWithin_5 rfl ?_
  refine x_if_ne_t 29 dX1_bestWithin_7 (by decide) (by decide) ?_
  refine x_iconst (v := 0) dX1_bestWithin_29 (by decide) ?_
  refine x_ist_5 dX1_bestWithin_30 (by decide) rfl ?_
  refine lp_up (P := fun i => ∀ h1 X1, isC h1 c J1 K1 X1 (nI (2 ^ V.1 0)) (lN (2 ^ (3 * V.1 0))) → (∀ e, e < i → okX X1 (e * 256) (2 ^ V.1 0) (jv V e b)) → Fr c 4 h h1 → Ex g mX1_bestWithin _ 32 [some (.ref c), some (.ref w), some (.int (nI a)), some (.int (nI b)), some (.int (nI 1)), some (.int (nI i))] [] h1 0 0) 8 (fun i hi ih h1 X1 hi1 hx1 hf1 => ?_) (fun h1 X1 hi1 hx1 hf1 => ?_) 0 (Nat.zero_le _) hA X I1 (fun e q => absurd q (Nat.not_lt_zero e)) F1
  · have d2 := hi1.1
    refine x_iload dX1_bestWithin_32 rfl ?_
    refine x_bipush (v := 8) dX1_bestWithin_34 (by decide) ?_
    refine x_icmp_ge_f 58 dX1_bestWithin_36 (by decide) (c8 hi) ?_
    refine x_aload_n dX1_bestWithin_39 rfl ?_
    refine x_iload dX1_bestWithin_40 rfl ?_
    refine x_sipush (v := 256) dX1_bestWithin_42 (by decide) ?_
    refine x_imul dX1_bestWithin_45 ?_
    rw [m256]
    refine x_iload dX1_bestWithin_46 rfl ?_
    refine x_iload_n dX1_bestWithin_48 rfl ?_
    refine x_cnV (c_X1_valueWhereJoined okw hi1 hJ1 (by omega) hi hb) (by assumption) lkX1_valueWhereJoined sX1_71 dX1_bestWithin_49 rfl rfl (Nat.le_of_ble_eq_true rfl) (by decide) ⟨rfl, rfl, by decide, by decide⟩ ?_
    rintro h2 ⟨X2, I2, hX2, e2, F2⟩
    refine x_inc_5  dX1_bestWithin_52 (by decide) (nI_inc _) rfl ?_
    refine x_goto 32 dX1_bestWithin_55 (by decide) ?_
    refine ih h2 X2 I2 (fun e he s hs => ?_) (hf1.tr F2)
    by_cases q : e = i
    · subst q; exact hX2 s hs
    · rw [e2 (e * 256 + s) (by omega)]; exact hx1 e (by omega) s hs
  · have v2 := hv.fr hf1 hd
    have m2 := v2.o
    have d2 := hi1.1
    have hj : ∀ e s, jv V e b s ≤ 16777216 := fun e s => by have := jv_le V e b s; omega
    refine x_iload dX1_bestWithin_32 rfl ?_
    refine x_bipush (v := 8) dX1_bestWithin_34 (by decide) ?_
    refine x_icmp_ge_t 58 dX1_bestWithin_36 (by decide) (by decide) ?_
    refine x_iconst (v := 1) dX1_bestWithin_58 (by decide) ?_
    refine x_ist_5 dX1_bestWithin_59 (by decide) rfl ?_
    refine x_iload dX1_bestWithin_61 rfl ?_
    refine x_iload dX1_bestWithin_63 rfl ?_
    refine x_icmp_ge_t 83 dX1_bestWithin_65 (by decide) (by decide) ?_
    refine x_aload_n dX1_bestWithin_83 rfl ?_
    refine x_aload_n dX1_bestWithin_84 rfl ?_
    refine x_get fX1_79 m2 rfl dX1_bestWithin_85 ?_
    refine x_iload_n dX1_bestWithin_88 rfl ?_
    refine x_rdV (c_X1_bestWait okw hi1 hJ1 hK1 hx1 hj okw.2.1 ha) (by assumption) lkX1_bestWait sX1_105 dX1_bestWithin_89 rfl rfl (Nat.le_of_ble_eq_true rfl) (by decide) ⟨rfl, rfl, by decide, by decide⟩ ?_
    refine x_lret rfl dX1_bestWithin_92 ⟨by decide, by decide⟩ ?_
    exact ⟨rfl, ⟨J1, K1, X1, hi1⟩, hf1⟩
set_option maxRecDepth 10000 in
set_option maxHeartbeats 2000000 in
theorem c_X1_bestWithin2 {g : gG} {h : gH} {c : Nat} {J K X : Nat → Int64} {s0 : Int32} {wh : Int64} {w : Nat} {V : VS} {a b : Nat} (hv : isV h w V) (hi0 : isC h c J K X s0 wh) (hd : w + 12 ≤ c ∨ c + 4 ≤ w) (ha : a < 8) (hb : b < 8) : Ct g mX1_bestWithin [.ref c, .ref w, .int (nI a), .int (nI b), .int (nI 2)] h (some (.long (lN (wi V a b 2)))) (fun h' => (∃ J' K' X', isC h' c J' K' X' (nI (2 ^ V.1 0)) (lN (2 ^ (3 * V.1 0)))) ∧ Fr c 4 h h') := by
  obtain ⟨okw, ar, hww, rpw⟩ := id hv
  have kwp : V.1 0 ≤ 8 := okw.1.1
  have kww : V.1 1 ≤ 4 := okw.1.2.1
  have kwr : V.1 2 ≤ 4 := okw.1.2.2
  have w0 : h.1 w = some (.inr (10, wF w (wS V))) := hww.1
  have w1 : h.1 (w + 1) = some (.inl (0, 8, .inl (ar 0))) := hww.2 0 (by decide)
  have w2 : h.1 (w + 2) = some (.inl (0, 8, .inl (ar 1))) := hww.2 1 (by decide)
  have w3 : h.1 (w + 3) = some (.inl (0, 8, .inl (ar 2))) := hww.2 2 (by decide)
  have w4 : h.1 (w + 4) = some (.inl (0, 8, .inl (ar 3))) := hww.2 3 (by decide)
  have w5 : h.1 (w + 5) = some (.inl (0, 8, .inl (ar 4))) := hww.2 4 (by decide)
  have w6 : h.1 (w + 6) = some (.inl (0, 4, .inl (ar 5))) := hww.2 5 (by decide)
  have w7 : h.1 (w + 7) = some (.inl (0, 4, .inl (ar 6))) := hww.2 6 (by decide)
  have w8 : h.1 (w + 8) = some (.inl (0, 4, .inl (ar 7))) := hww.2 7 (by decide)
  have w9 : h.1 (w + 9) = some (.inl (0, 8, .inl (ar 8))) := hww.2 8 (by decide)
  have w10 : h.1 (w + 10) = some (.inl (0, 4, .inl (ar 9))) := hww.2 9 (by decide)
  have w11 : h.1 (w + 11) = some (.inl (0, 4, .inl (ar 10))) := hww.2 10 (by decide)
  have c0 := hi0.1
  have c1 := hi0.2.1
  have c2 := hi0.2.2.1
  have c3 := hi0.2.2.2
  have p8 := p256 okw.1.1
  refine Cn.of (L := [some (.ref c), some (.ref w), some (.int (nI a)), some (.int (nI b)), some (.int (nI 2)), none]) (by decide) (Nat.le_of_ble_eq_true rfl) rfl ?_
  refine x_aload_n dX1_bestWithin_0 rfl ?_
  refine x_aload_n dX1_bestWithin_1 rfl ?_
  refine x_cnV (c_X1_lookAhead hv hi0 hd) (by assumption) lkX1_lookAhead sX1_96 dX1_bestWithin_2 rfl rfl (Nat.le_of_ble_eq_true rfl) (by decide) ⟨rfl, rfl, by decide, by decide⟩ ?_
  rintro hA ⟨J1, K1, I1, hJ1, hK1, F1⟩
  have v1 := hv.fr F1 hd
  have m0 := v1.o
  have d1 := I1.1
  refine x_iload dX1_bestWithin_5 rfl ?_
  refine x_if_ne_t 29 dX1_bestWithin_7 (by decide) (by decide) ?_
  refine x_iconst (v := 0) dX1_bestWithin_29 (by decide) ?_
  refine x_ist_5 dX1_bestWithin_30 (by decide) rfl ?_
  refine lp_up (P := fun i => ∀ h1 X1, isC h1 c J1 K1 X1 (nI (2 ^ V.1 0)) (lN (2 ^ (3 * V.1 0))) → (∀ e, e < i → okX X1 (e * 256) (2 ^ V.1 0) (jv V e b)) → Fr c 4 h h1 → Ex g mX1_bestWithin _ 32 [some (.ref c), some (.ref w), some (.int (nI a)), some (.int (nI b)), some (.int (nI 2)), some (.int (nI i))] [] h1 0 0) 8 (fun i hi ih h1 X1 hi1 hx1 hf1 => ?_) (fun h1 X1 hi1 hx1 hf1 => ?_) 0 (Nat.zero_le _) hA X I1 (fun e q => absurd q (Nat.not_lt_zero e)) F1
  · have d2 := hi1.1
    refine x_iload dX1_bestWithin_32 rfl ?_
    refine x_bipush (v := 8) dX1_bestWithin_34 (by decide) ?_
    refine x_icmp_ge_f 58 dX1_bestWithin_36 (by decide) (c8 hi) ?_
    refine x_aload_n dX1_bestWithin_39 rfl ?_
    refine x_iload dX1_bestWithin_40 rfl ?_
    refine x_sipush (v := 256) dX1_bestWithin_42 (by decide) ?_
    refine x_imul dX1_bestWithin_45 ?_
    rw [m256]
    refine x_iload dX1_bestWithin_46 rfl ?_
    refine x_iload_n dX1_bestWithin_48 rfl ?_
    refine x_cnV (c_X1_valueWhereJoined okw hi1 hJ1 (by omega) hi hb) (by assumption) lkX1_valueWhereJoined sX1_71 dX1_bestWithin_49 rfl rfl (Nat.le_of_ble_eq_true rfl) (by decide) ⟨rfl, rfl, by decide, by decide⟩ ?_
    rintro h2 ⟨X2, I2, hX2, e2, F2⟩
    refine x_inc_5  dX1_bestWithin_52 (by decide) (nI_inc _) rfl ?_
    refine x_goto 32 dX1_bestWithin_55 (by decide) ?_
    refine ih h2 X2 I2 (fun e he s hs => ?_) (hf1.tr F2)
    by_cases q : e = i
    · subst q; exact hX2 s hs
    · rw [e2 (e * 256 + s) (by omega)]; exact hx1 e (by omega) s hs
  · have v2 := hv.fr hf1 hd
    have m2 := v2.o
    have d2 := hi1.1
    have hj : ∀ e s, jv V e b s ≤ 16777216 := fun e s => by have := jv_le V e b s; omega
    refine x_iload dX1_bestWithin_32 rfl ?_
    refine x_bipush (v := 8) dX1_bestWithin_34 (by decide) ?_
    refine x_icmp_ge_t 58 dX1_bestWithin_36 (by decide) (by decide) ?_
    refine x_iconst (v := 1) dX1_bestWithin_58 (by decide) ?_
    refine x_ist_5 dX1_bestWithin_59 (by decide) rfl ?_
    refine x_iload dX1_bestWithin_61 rfl ?_
    refine x_iload dX1_bestWithin_63 rfl ?_
    refine x_icmp_ge_f 83 dX1_bestWithin_65 (by decide) (by decide) ?_
    refine x_aload_n dX1_bestWithin_68 rfl ?_
    refine x_aload_n dX1_bestWithin_69 rfl ?_
    refine x_cnV (c_X1_waitOneNight v2 hi1 hx1 hd) (by assumption) lkX1_waitOneNight sX1_99 dX1_bestWithin_70 rfl rfl (Nat.le_of_ble_eq_true rfl) (by decide) ⟨rfl, rfl, by decide, by decide⟩ ?_
    rintro h3 ⟨X3, I3, hX3, F3⟩
    have d3 := I3.1
    refine x_aload_n dX1_bestWithin_73 rfl ?_
    refine x_cnV (c_X1_goWhereBest okw I3 hJ1 hX3 (wx_le okw b)) (by assumption) lkX1_goWhereBest sX1_102 dX1_bestWithin_74 rfl rfl (Nat.le_of_ble_eq_true rfl) (by decide) ⟨rfl, rfl, by decide, by decide⟩ ?_
    rintro h4 ⟨X4, I4, hX4, F4⟩
    have d4 := I4.1
    have F5 := (hf1.tr F3).tr F4
    have m4 := (hv.fr F5 hd).o
    refine x_inc_5 (v := 2) dX1_bestWithin_77 (by decide) (by decide) rfl ?_
    refine x_goto 61 dX1_bestWithin_80 (by decide) ?_
    refine x_iload dX1_bestWithin_61 rfl ?_
    refine x_iload dX1_bestWithin_63 rfl ?_
    refine x_icmp_ge_t 83 dX1_bestWithin_65 (by decide) (by decide) ?_
    refine x_aload_n dX1_bestWithin_83 rfl ?_
    refine x_aload_n dX1_bestWithin_84 rfl ?_
    refine x_get fX1_79 m4 rfl dX1_bestWithin_85 ?_
    refine x_iload_n dX1_bestWithin_88 rfl ?_
    refine x_rdV (c_X1_bestWait okw I4 hJ1 hK1 hX4 (fun e s => bwt_le (fun i => wx_le okw b i s) 8) okw.2.1 ha) (by assumption) lkX1_bestWait sX1_105 dX1_bestWithin_89 rfl rfl (Nat.le_of_ble_eq_true rfl) (by decide) ⟨rfl, rfl, by decide, by decide⟩ ?_
    refine x_lret rfl dX1_bestWithin_92 ⟨by decide, by decide⟩ ?_
    exact ⟨rfl, ⟨J1, K1, X4, I4⟩, F5⟩
