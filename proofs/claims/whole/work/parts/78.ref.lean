set_option maxRecDepth 10000 in
set_option maxHeartbeats 2000000 in
theorem c_X12_odds {g : gG} {h : gH} {m : Nat} {S : AS} (hn : isN h m S) {a b pt : Int32} : Ct g mX12_odds [.ref m, .int a, .int b, .int pt] h (some (.long (qOdds S.1 a b pt))) (Pn m S h) := by
  obtain ⟨hz, s, l, A, B, hm, hv, hr⟩ := id hn
  have mo := hm.1
  have ok8 : S.1.1 0 ≤ 8 := hv.1.1.1
  have ok4 : S.1.1 1 ≤ 4 := hv.1.1.2.1
  have okr : S.1.1 2 ≤ 4 := hv.1.1.2.2
  have t256 : S.1.1 3 < 256 := lt256 hv.1.2.1 hv.1.1.1
  refine Cn.of (L := [some (.ref m), some (.int a), some (.int b), some (.int pt)]) (by decide) (Nat.le_of_ble_eq_true rfl) rfl ?_
  refine x_iload_n dX12_odds_0 rfl ?_
  refine x_rdS c_X12_isClearing lkX12_isClearing sX12_233 dX12_odds_1 rfl rfl (Nat.le_of_ble_eq_true rfl) (by decide) ⟨rfl, rfl, by decide, by decide⟩ ?_
  refine x_if_eqB 21 dX12_odds_4 (by decide) (fun c4 => ?_) (fun c4 => ?_)
  · refine x_ldc2 dX12_odds_21 kX12_146 ?_
    refine x_lret rfl dX12_odds_24 ⟨by decide, by decide⟩ ?_
    exact ⟨by rw [qOdds, if_neg (fun z => c4 z.1)] <;> rfl, hn.rf⟩
  · refine x_iload_n dX12_odds_7 rfl ?_
    refine x_rdS c_X12_isClearing lkX12_isClearing sX12_233 dX12_odds_8 rfl rfl (Nat.le_of_ble_eq_true rfl) (by decide) ⟨rfl, rfl, by decide, by decide⟩ ?_
    refine x_if_eqB 21 dX12_odds_11 (by decide) (fun c11 => ?_) (fun c11 => ?_)
    · refine x_ldc2 dX12_odds_21 kX12_146 ?_
      refine x_lret rfl dX12_odds_24 ⟨by decide, by decide⟩ ?_
      exact ⟨by rw [qOdds, if_neg (fun z => c11 z.2.1)] <;> rfl, hn.rf⟩
    · refine x_iload_n dX12_odds_14 rfl ?_
      refine x_rdS c_X12_isSide lkX12_isSide sX12_313 dX12_odds_15 rfl rfl (Nat.le_of_ble_eq_true rfl) (by decide) ⟨rfl, rfl, by decide, by decide⟩ ?_
      refine x_if_neB 25 dX12_odds_18 (by decide) (fun c18 => ?_) (fun c18 => ?_)
      · obtain ⟨a1, ha, rfl⟩ := bl_E (b := 8) c4 (by decide)
        obtain ⟨b1, hb, rfl⟩ := bl_E (b := 8) c11 (by decide)
        obtain ⟨p1, hp1, rfl⟩ := bl_E (b := 2) c18 (by decide)
        have bq := odN_lt hv.1 a1 b1
        refine x_aload_n dX12_odds_25 rfl ?_
        refine x_aload_n dX12_odds_26 rfl ?_
        refine x_iload_n dX12_odds_27 rfl ?_
        refine x_iload_n dX12_odds_28 rfl ?_
        refine x_cvV (c_X12_oddsOf (OO.rf hm) hv ha hb) mo lkX12_oddsOf sX12_316 dX12_odds_29 rfl rfl (Nat.le_of_ble_eq_true rfl) (by decide) ⟨rfl, rfl, by decide, by decide⟩ ?_
        rintro h1 ⟨O1, F1⟩
        obtain ⟨A1, hm1, e1⟩ := id O1
        have hv1 := OO.v hv e1
        refine x_aload_n dX12_odds_32 rfl ?_
        refine x_rdV (c_X12_allOdds hm1 hv1) hm1.1 lkX12_allOdds sX12_320 dX12_odds_33 rfl rfl (Nat.le_of_ble_eq_true rfl) (by decide) ⟨rfl, rfl, by decide, by decide⟩ ?_
        rw [← p3]
        refine x_cnV (c_X12_lowest (K := 3 * S.1.1 0) hm1 (by omega) (by omega)) hm1.1 lkX12_lowest sX12_324 dX12_odds_36 rfl rfl (Nat.le_of_ble_eq_true rfl) (by decide) ⟨rfl, rfl, by decide, by decide⟩ ?_
        rintro h2 ⟨hm2, F2⟩
        refine x_iload_n dX12_odds_39 rfl ?_
        refine x_if_ne 50 dX12_odds_40 (by decide) (fun c40 => ?_) (fun c40 => ?_)
        · refine x_aload_n dX12_odds_50 rfl ?_
          refine x_get fX12_298 hm2.1 rfl dX12_odds_51 ?_
          refine x_lret rfl dX12_odds_54 ⟨by decide, by decide⟩ ?_
          exact ⟨by rw [qOdds, if_pos ⟨c4, c11, c18⟩, iN_nI (by omega), iN_nI (by omega), ptN, if_neg c40] <;> rfl, isN.of hz hm2 hv1 (OO.o hr e1) (F1.tr F2)⟩
        · refine x_aload_n dX12_odds_43 rfl ?_
          refine x_get fX12_295 hm2.1 rfl dX12_odds_44 ?_
          refine x_goto 54 dX12_odds_47 (by decide) ?_
          refine x_lret rfl dX12_odds_54 ⟨by decide, by decide⟩ ?_
          exact ⟨by rw [qOdds, if_pos ⟨c4, c11, c18⟩, iN_nI (by omega), iN_nI (by omega), ptN, if_pos c40] <;> rfl, isN.of hz hm2 hv1 (OO.o hr e1) (F1.tr F2)⟩
      · refine x_ldc2 dX12_odds_21 kX12_146 ?_
        refine x_lret rfl dX12_odds_24 ⟨by decide, by decide⟩ ?_
        exact ⟨by rw [qOdds, if_neg (fun z => c18 z.2.2)] <;> rfl, hn.rf⟩
set_option maxRecDepth 10000 in
set_option maxHeartbeats 2000000 in
theorem hm24 {g : gG} {h : gH} {m : Nat} {S : AS} {s : Nat → Int32} {l : Nat → Int64} {A : Nat → Nat → Int32} {B : Nat → Nat → Int64} (hv : rpV S.1 A) {a1 x1 : Nat} {Q : Option Value → gH → Prop} (ha : a1 < 8) (he : x1 ≤ 8) (hQ : ∀ h1, OO m S.1 s l A B h1 → Fr m 27 h h1 → Q (some (.int (nI (hmS S.1 a1 x1 8)))) h1) : ∀ i, i ≤ 8 → ∀ h1, OO m S.1 s l A B h1 → Fr m 27 h h1 → Ex g mX12_home (gZm g mX12_home Q) 24 [some (.ref m), some (.int (nI a1)), some (.int (nI x1)), some (.int (nI (hmS S.1 a1 x1 i))), some (.int (nI i))] [] h1 0 0 := by
  have ok8 : S.1.1 0 ≤ 8 := hv.1.1.1
  have ok4 : S.1.1 1 ≤ 4 := hv.1.1.2.1
  have okr : S.1.1 2 ≤ 4 := hv.1.1.2.2
  have t256 : S.1.1 3 < 256 := lt256 hv.1.2.1 hv.1.1.1
  refine lp_up 8 (fun i hi ih h1 O1 F => ?_) (fun h1 O1 F => ?_)
  · obtain ⟨A1, hm1, e1⟩ := id O1
    have hv1 := OO.v hv e1
    refine x_iload dX12_home_24 rfl ?_
    refine x_bipush (v := 8) dX12_home_26 (by decide) ?_
    refine x_icmp_ge_f 70 dX12_home_28 (by decide) (ge_f (N := 8) rfl hi (by decide)) ?_
    refine x_iload_n dX12_home_31 rfl ?_
    refine x_aload_n dX12_home_32 rfl ?_
    refine x_iload dX12_home_33 rfl ?_
    refine x_iload_n dX12_home_35 rfl ?_
    refine x_cvV (c_X12_oddsOf O1 hv hi ha) hm1.1 lkX12_oddsOf sX12_316 dX12_home_36 rfl rfl (Nat.le_of_ble_eq_true rfl) (by decide) ⟨rfl, rfl, by decide, by decide⟩ ?_
    rintro h2 ⟨O2, F2⟩
    obtain ⟨A2, hm2, e2⟩ := id O2
    have hv2 := OO.v hv e2
    refine x_ldc2 dX12_home_39 kX12_328 ?_
    refine x_lmul dX12_home_42 ?_
    rw [show (8 : Int64) = lN 8 from rfl, lN_mul]
    refine x_iload_n dX12_home_43 rfl ?_
    refine x_i2l dX12_home_44 ?_
    refine x_aload_n dX12_home_45 rfl ?_
    refine x_rdV (c_X12_allOdds hm2 hv2) hm2.1 lkX12_allOdds sX12_320 dX12_home_46 rfl rfl (Nat.le_of_ble_eq_true rfl) (by decide) ⟨rfl, rfl, by decide, by decide⟩ ?_
    refine x_lmul dX12_home_49 ?_
    rw [nI_l (by omega), lN_mul]
    have bq := odN_lt hv.1 i a1
    have b8 := pow8 ok8
    have be : x1 * 8 ^ S.1.1 0 ≤ 8 * 8 ^ S.1.1 0 := Nat.mul_le_mul_right _ he
    have hc : lg_cmp (lN (odN S.1 i a1 * 8)) (lN (x1 * 8 ^ S.1.1 0)) < 0 ↔ odN S.1 i a1 * 8 < x1 * 8 ^ S.1.1 0 := lg_lt.trans (l63_lt (by omega) (by omega))
    refine x_lcmp dX12_home_50 ?_
    refine x_if_lt 61 dX12_home_51 (by decide) (fun c51 => ?_) (fun c51 => ?_)
    · refine x_iconst (v := 0) dX12_home_61 (by decide) ?_
      refine x_ior dX12_home_62 ?_
      refine x_ist_3 dX12_home_63 (by decide) rfl ?_
      refine x_inc_4  dX12_home_64 (by decide) (nI_inc _) rfl ?_
      refine x_goto 24 dX12_home_67 (by decide) ?_
      have E : nI (hmS S.1 a1 x1 (i + 1)) = nI (hmS S.1 a1 x1 i) ||| 0 := by rw [hmS, if_neg (Nat.not_le.mpr (hc.mp c51)), show (0 : Int32) = nI 0 from rfl, fa_or, Nat.or_zero]
      rw [E] at ih
      exact ih _ O2 (F.tr F2)
    · refine x_iconst (v := 1) dX12_home_54 (by decide) ?_
      refine x_iload dX12_home_55 rfl ?_
      refine x_ishl dX12_home_57 ?_
      rw [sh1 i (by omega)]
      refine x_goto 62 dX12_home_58 (by decide) ?_
      refine x_ior dX12_home_62 ?_
      refine x_ist_3 dX12_home_63 (by decide) rfl ?_
      refine x_inc_4  dX12_home_64 (by decide) (nI_inc _) rfl ?_
      refine x_goto 24 dX12_home_67 (by decide) ?_
      have E : nI (hmS S.1 a1 x1 (i + 1)) = nI (hmS S.1 a1 x1 i) ||| nI (2 ^ i) := by rw [hmS, if_pos (Nat.not_lt.mp (fun z => c51 (hc.mpr z))), fa_or]
      rw [E] at ih
      exact ih _ O2 (F.tr F2)
  · refine x_iload dX12_home_24 rfl ?_
    refine x_bipush (v := 8) dX12_home_26 (by decide) ?_
    refine x_icmp_ge_t 70 dX12_home_28 (by decide) (ge_t (N := 8) rfl (by decide)) ?_
    refine x_iload_n dX12_home_70 rfl ?_
    refine x_iret rfl dX12_home_71 ⟨by decide, by decide⟩ ?_
    exact hQ _ O1 F
set_option maxRecDepth 10000 in
set_option maxHeartbeats 2000000 in
theorem c_X12_home {g : gG} {h : gH} {m : Nat} {S : AS} (hn : isN h m S) {a e : Int32} : Ct g mX12_home [.ref m, .int a, .int e] h (some (.int (qHome S.1 a e))) (Pn m S h) := by
  obtain ⟨hz, s, l, A, B, hm, hv, hr⟩ := id hn
  have mo := hm.1
  have ok8 : S.1.1 0 ≤ 8 := hv.1.1.1
  have ok4 : S.1.1 1 ≤ 4 := hv.1.1.2.1
  have okr : S.1.1 2 ≤ 4 := hv.1.1.2.2
  have t256 : S.1.1 3 < 256 := lt256 hv.1.2.1 hv.1.1.1
  refine Cn.of (L := [some (.ref m), some (.int a), some (.int e), none, none]) (by decide) (Nat.le_of_ble_eq_true rfl) rfl ?_
  refine x_iload_n dX12_home_0 rfl ?_
  refine x_rdS c_X12_isClearing lkX12_isClearing sX12_233 dX12_home_1 rfl rfl (Nat.le_of_ble_eq_true rfl) (by decide) ⟨rfl, rfl, by decide, by decide⟩ ?_
  refine x_if_eqB 17 dX12_home_4 (by decide) (fun c4 => ?_) (fun c4 => ?_)
  · refine x_iconst (v := -1) dX12_home_17 (by decide) ?_
    refine x_iret rfl dX12_home_18 ⟨by decide, by decide⟩ ?_
    exact ⟨by rw [qHome, if_neg (fun z => c4 z.1)] <;> rfl, hn.rf⟩
  · refine x_iload_n dX12_home_7 rfl ?_
    refine x_iconst (v := 0) dX12_home_8 (by decide) ?_
    refine x_bipush (v := 8) dX12_home_9 (by decide) ?_
    refine x_rdS mc_in lkX12_in sX12_93 dX12_home_11 rfl rfl (Nat.le_of_ble_eq_true rfl) (by decide) ⟨rfl, rfl, by decide, by decide⟩ ?_
    refine x_if_neB 19 dX12_home_14 (by decide) (fun c14 => ?_) (fun c14 => ?_)
    · obtain ⟨a1, ha, rfl⟩ := bl_E (b := 8) c4 (by decide)
      have c14x := c14
      obtain ⟨x1, he, rfl⟩ := ut_E (b := 8) c14 (by decide)
      refine x_iconst (v := 0) dX12_home_19 (by decide) ?_
      refine x_ist_3 dX12_home_20 (by decide) rfl ?_
      refine x_iconst (v := 0) dX12_home_21 (by decide) ?_
      refine x_ist_4 dX12_home_22 (by decide) rfl ?_
      refine hm24 (h := h) hv ha he (fun h1 O1 F => ?_) 0 (Nat.zero_le _) h (OO.rf hm) Fr.rf
      exact ⟨by rw [qHome, if_pos ⟨c4, c14x⟩, iN_nI (by omega), iN_nI (by omega)], O1.n hz hv hr F⟩
    · refine x_iconst (v := -1) dX12_home_17 (by decide) ?_
      refine x_iret rfl dX12_home_18 ⟨by decide, by decide⟩ ?_
      exact ⟨by rw [qHome, if_neg (fun z => c14 z.2)] <;> rfl, hn.rf⟩
theorem skN_s1 {V : VS} {a c : Nat} (h : ¬ (rea V (V.1 3) a 7).testBit c = true ∧ (skN V a c).2 < V.2.2 7 c * odN V a c) : skN V a (c + 1) = (c, V.2.2 7 c * odN V a c) := if_pos h
theorem skN_s0 {V : VS} {a c : Nat} (h : ¬ (¬ (rea V (V.1 3) a 7).testBit c = true ∧ (skN V a c).2 < V.2.2 7 c * odN V a c)) : skN V a (c + 1) = skN V a c := if_neg h
set_option maxRecDepth 10000 in
set_option maxHeartbeats 2000000 in
theorem sk17 {g : gG} {h : gH} {m : Nat} {S : AS} {s : Nat → Int32} {l : Nat → Int64} {A : Nat → Nat → Int32} {B : Nat → Nat → Int64} (hv : rpV S.1 A) {a1 : Nat} {Q : Option Value → gH → Prop} (ha : a1 < 8) (hQ : ∀ h1, OO m S.1 s l A B h1 → Fr m 27 h h1 → Q (some (.int (bI (-3) (skN S.1 a1 8).1))) h1) : ∀ i, i ≤ 8 → ∀ (w6 : Option Value) h1, OO m S.1 s l A B h1 → Fr m 27 h h1 → Ex g mX12_seek (gZm g mX12_seek Q) 17 [some (.ref m), some (.int (nI a1)), some (.int (bI (-3) (skN S.1 a1 i).1)), some (.long (lN (skN S.1 a1 i).2)), none, some (.int (nI i)), w6, none] [] h1 0 0 := by
  have ok8 : S.1.1 0 ≤ 8 := hv.1.1.1
  have ok4 : S.1.1 1 ≤ 4 := hv.1.1.2.1
  have okr : S.1.1 2 ≤ 4 := hv.1.1.2.2
  have t256 : S.1.1 3 < 256 := lt256 hv.1.2.1 hv.1.1.1
  refine lp_up 8 (fun i hi ih w6 h1 O1 F => ?_) (fun w6 h1 O1 F => ?_)
  · obtain ⟨A1, hm1, e1⟩ := id O1
    have hv1 := OO.v hv e1
    have m5 : h1.1 (m + 5) = some (.inl (0, 8, .inl (A1 4))) := hm1.2 4 (by decide)
    refine x_iload dX12_seek_17 rfl ?_
    refine x_bipush (v := 8) dX12_seek_19 (by decide) ?_
    refine x_icmp_ge_f 98 dX12_seek_21 (by decide) (ge_f (N := 8) rfl hi (by decide)) ?_
    refine x_aload_n dX12_seek_24 rfl ?_
    refine x_aload_n dX12_seek_25 rfl ?_
    refine x_get fX12_103 hm1.1 rfl dX12_seek_26 ?_
    refine x_iload_n dX12_seek_29 rfl ?_
    refine x_rdV (c_X12_reachBy hm1 hv1 t256 ha) hm1.1 lkX12_reachBy sX12_292 dX12_seek_30 rfl rfl (Nat.le_of_ble_eq_true rfl) (by decide) ⟨rfl, rfl, by decide, by decide⟩ ?_
    refine x_iload dX12_seek_33 rfl ?_
    refine x_ishr dX12_seek_35 ?_
    refine x_iconst (v := 1) dX12_seek_36 (by decide) ?_
    refine x_iand dX12_seek_37 ?_
    rw [sr_bit _ (rea_lt hv.1 _ ha 7) i hi]
    refine x_iconst (v := 1) dX12_seek_38 (by decide) ?_
    refine x_icmp_ne 46 dX12_seek_39 (by decide) (fun c39 => ?_) (fun c39 => ?_)
    · refine x_aload_n dX12_seek_46 rfl ?_
      refine x_get fX12_22 hm1.1 rfl dX12_seek_47 ?_
      refine x_iload dX12_seek_50 rfl ?_
      refine x_iald i m5 rfl hi (by decide) dX12_seek_52 ?_
      rw [hv1.2.2.2.1 i hi]
      refine x_i2l dX12_seek_53 ?_
      refine x_aload_n dX12_seek_54 rfl ?_
      refine x_iload_n dX12_seek_55 rfl ?_
      refine x_iload dX12_seek_56 rfl ?_
      refine x_cvV (c_X12_oddsOf O1 hv ha hi) hm1.1 lkX12_oddsOf sX12_316 dX12_seek_58 rfl rfl (Nat.le_of_ble_eq_true rfl) (by decide) ⟨rfl, rfl, by decide, by decide⟩ ?_
      rintro h2 ⟨O2, F2⟩
      rw [nI_l (by have := hv.1.2.2.2.2.2.1 i hi; omega)]
      refine x_lmul dX12_seek_61 ?_
      rw [lN_mul]
      have w9 := hv.1.2.2.2.2.2.1 i hi
      have bq := odN_lt hv.1 a1 i
      have bw : S.1.2.2 7 i * odN S.1 a1 i ≤ 9 * odN S.1 a1 i := Nat.mul_le_mul_right _ w9
      have hc : lN (skN S.1 a1 i).2 < lN (S.1.2.2 7 i * odN S.1 a1 i) ↔ (skN S.1 a1 i).2 < S.1.2.2 7 i * odN S.1 a1 i := l63_lt (by have := skN_b hv.1 a1 i (by omega); omega) (by omega)
      refine x_lst_6 dX12_seek_62 (by decide) rfl ?_
      refine x_lload dX12_seek_64 rfl ?_
      refine x_lload_n dX12_seek_66 rfl ?_
      refine x_lcmp dX12_seek_67 ?_
      refine x_if_le 76 dX12_seek_68 (by decide) (fun c68 => ?_) (fun c68 => ?_)
      · refine x_iload_n dX12_seek_76 rfl ?_
        refine x_ist_2 dX12_seek_77 (by decide) rfl ?_
        refine x_lload dX12_seek_78 rfl ?_
        refine x_lload_n dX12_seek_80 rfl ?_
        refine x_lcmp dX12_seek_81 ?_
        refine x_if_le_t 90 dX12_seek_82 (by decide) c68 ?_
        refine x_lload_n dX12_seek_90 rfl ?_
        refine x_lst_3 dX12_seek_91 (by decide) rfl ?_
        refine x_inc_5  dX12_seek_92 (by decide) (nI_inc _) rfl ?_
        refine x_goto 17 dX12_seek_95 (by decide) ?_
        have E : skN S.1 a1 (i + 1) = skN S.1 a1 i := skN_s0 (fun z => lg_le.mp c68 (hc.mpr z.2))
        rw [E] at ih
        skip
        exact ih _ _ O2 (F.tr F2)
      · refine x_iload dX12_seek_71 rfl ?_
        refine x_goto 77 dX12_seek_73 (by decide) ?_
        refine x_ist_2 dX12_seek_77 (by decide) rfl ?_
        refine x_lload dX12_seek_78 rfl ?_
        refine x_lload_n dX12_seek_80 rfl ?_
        refine x_lcmp dX12_seek_81 ?_
        refine x_if_le_f 90 dX12_seek_82 (by decide) c68 ?_
        refine x_lload dX12_seek_85 rfl ?_
        refine x_goto 91 dX12_seek_87 (by decide) ?_
        refine x_lst_3 dX12_seek_91 (by decide) rfl ?_
        refine x_inc_5  dX12_seek_92 (by decide) (nI_inc _) rfl ?_
        refine x_goto 17 dX12_seek_95 (by decide) ?_
        have E : skN S.1 a1 (i + 1) = (i, S.1.2.2 7 i * odN S.1 a1 i) := skN_s1 ⟨fun z => c39 (b2i_t z), hc.mp (lg_le2.mp c68)⟩
        rw [E] at ih
        rw [show bI (-3) i = nI i from if_neg (by omega)] at ih
        exact ih _ _ O2 (F.tr F2)
    · refine x_lconst (v := 0) dX12_seek_42 (by decide) ?_
      refine x_goto 62 dX12_seek_43 (by decide) ?_
      refine x_lst_6 dX12_seek_62 (by decide) rfl ?_
      refine x_lload dX12_seek_64 rfl ?_
      refine x_lload_n dX12_seek_66 rfl ?_
      refine x_lcmp dX12_seek_67 ?_
      refine x_if_le_t 76 dX12_seek_68 (by decide) (lg_le.mpr (fun z => by have := (l63_lt (b := 0) (by have := skN_b hv.1 a1 i (by omega); omega) (by decide)).mp z; omega)) ?_
      refine x_iload_n dX12_seek_76 rfl ?_
      refine x_ist_2 dX12_seek_77 (by decide) rfl ?_
      refine x_lload dX12_seek_78 rfl ?_
      refine x_lload_n dX12_seek_80 rfl ?_
      refine x_lcmp dX12_seek_81 ?_
      refine x_if_le_t 90 dX12_seek_82 (by decide) (lg_le.mpr (fun z => by have := (l63_lt (b := 0) (by have := skN_b hv.1 a1 i (by omega); omega) (by decide)).mp z; omega)) ?_
      refine x_lload_n dX12_seek_90 rfl ?_
      refine x_lst_3 dX12_seek_91 (by decide) rfl ?_
      refine x_inc_5  dX12_seek_92 (by decide) (nI_inc _) rfl ?_
      refine x_goto 17 dX12_seek_95 (by decide) ?_
      have E : skN S.1 a1 (i + 1) = skN S.1 a1 i := skN_s0 (fun z => z.1 (b2i_1.mp c39))
      rw [E] at ih
      exact ih _ _ O1 F
  · refine x_iload dX12_seek_17 rfl ?_
    refine x_bipush (v := 8) dX12_seek_19 (by decide) ?_
    refine x_icmp_ge_t 98 dX12_seek_21 (by decide) (ge_t (N := 8) rfl (by decide)) ?_
    refine x_iload_n dX12_seek_98 rfl ?_
    refine x_iret rfl dX12_seek_99 ⟨by decide, by decide⟩ ?_
    exact hQ _ O1 F
set_option maxRecDepth 10000 in
set_option maxHeartbeats 2000000 in
theorem c_X12_seek {g : gG} {h : gH} {m : Nat} {S : AS} (hn : isN h m S) {a : Int32} : Ct g mX12_seek [.ref m, .int a] h (some (.int (qSeek S.1 a))) (Pn m S h) := by
  obtain ⟨hz, s, l, A, B, hm, hv, hr⟩ := id hn
  have mo := hm.1
  have ok8 : S.1.1 0 ≤ 8 := hv.1.1.1
  have ok4 : S.1.1 1 ≤ 4 := hv.1.1.2.1
  have okr : S.1.1 2 ≤ 4 := hv.1.1.2.2
  have t256 : S.1.1 3 < 256 := lt256 hv.1.2.1 hv.1.1.1
  refine Cn.of (L := [some (.ref m), some (.int a), none, none, none, none, none, none]) (by decide) (Nat.le_of_ble_eq_true rfl) rfl ?_
  refine x_iload_n dX12_seek_0 rfl ?_
  refine x_rdS c_X12_isClearing lkX12_isClearing sX12_233 dX12_seek_1 rfl rfl (Nat.le_of_ble_eq_true rfl) (by decide) ⟨rfl, rfl, by decide, by decide⟩ ?_
  refine x_if_neB 9 dX12_seek_4 (by decide) (fun c4 => ?_) (fun c4 => ?_)
  · obtain ⟨a1, ha, rfl⟩ := bl_E (b := 8) c4 (by decide)
    refine x_bipush (v := -3) dX12_seek_9 (by decide) ?_
    refine x_ist_2 dX12_seek_11 (by decide) rfl ?_
    refine x_lconst (v := 0) dX12_seek_12 (by decide) ?_
    refine x_lst_3 dX12_seek_13 (by decide) rfl ?_
    refine x_iconst (v := 0) dX12_seek_14 (by decide) ?_
    refine x_ist_5 dX12_seek_15 (by decide) rfl ?_
    refine sk17 (h := h) hv ha (fun h1 O1 F => ?_) 0 (Nat.zero_le _) _ h (OO.rf hm) Fr.rf
    exact ⟨by rw [qSeek, if_pos c4, iN_nI (by omega)], O1.n hz hv hr F⟩
  · refine x_iconst (v := -1) dX12_seek_7 (by decide) ?_
    refine x_iret rfl dX12_seek_8 ⟨by decide, by decide⟩ ?_
    exact ⟨by rw [qSeek, if_neg (fun z => c4 z)] <;> rfl, hn.rf⟩
