theorem dI_m1 : ∀ d, d ≤ 8 → ∀ x, x ≤ 8 → 0 < d ∧ d < 8 → (dI x = dI d - 1 ↔ x + 1 = d) := by decide +kernel
theorem fI_n (n : Nat) : fI n n = -9 := if_neg (Nat.lt_irrefl _)
theorem fI_lt {n x : Nat} (hn : n ≤ 8) : fI n x < 0 ↔ ¬ x < n := by
  unfold fI
  split
  · exact ⟨fun z => absurd z (nI_pos (by omega)), fun z => absurd (by assumption) z⟩
  · exact ⟨fun _ => by assumption, fun _ => by decide⟩
def fpB (V : VS) (f t p : Nat) : Bool := (V.1 3).testBit p && decide (V.2.2 1 p = f ∨ V.2.2 2 p = f) && decide (dist V (V.1 3) (oth V p f) t + 1 = dist V (V.1 3) f t)
set_option maxRecDepth 10000 in
set_option maxHeartbeats 2000000 in
theorem fp10 {g : gG} {h : gH} {m : Nat} {V : VS} {s : Nat → Int32} {l : Nat → Int64} {A : Nat → Nat → Int32} {B : Nat → Nat → Int64} (hm : MM h m V s l A B) (hv : rpV V A) {f t : Nat} (hf : f < 8) (ht : t < 8) : ∀ i, i ≤ V.1 0 → (∀ j, j < i → fpB V f t j = false) → Ex g mX12_firstPath (gZm g mX12_firstPath (fun o h' => o = some (.int (fI (V.1 0) (fst V f t))) ∧ h' = h)) 10 [some (.ref m), some (.int (nI f)), some (.int (nI t)), some (.int (dI (dist V (V.1 3) f t))), some (.int (nI i))] [] h 0 0 := by
  have mo := hm.1
  have ok8 : V.1 0 ≤ 8 := hv.1.1.1
  have ok4 : V.1 1 ≤ 4 := hv.1.1.2.1
  have okr : V.1 2 ≤ 4 := hv.1.1.2.2
  have t256 : V.1 3 < 256 := lt256 hv.1.2.1 hv.1.1.1
  refine lp_up (V.1 0) (fun i hi ih hb0 => ?_) (fun hb0 => ?_)
  · refine x_iload dX12_firstPath_10 rfl ?_
    refine x_aload_n dX12_firstPath_12 rfl ?_
    refine x_get fX12_97 mo rfl dX12_firstPath_13 ?_
    refine x_icmp_ge_f 69 dX12_firstPath_16 (by decide) (ge_f (N := V.1 0) rfl hi (by omega)) ?_
    refine x_iload_n dX12_firstPath_19 rfl ?_
    refine x_if_le 69 dX12_firstPath_20 (by decide) (fun c20 => ?_) (fun c20 => ?_)
    · refine x_bipush (v := -9) dX12_firstPath_69 (by decide) ?_
      refine x_iret rfl dX12_firstPath_71 ⟨by decide, by decide⟩ ?_
      have F : fst V f t = V.1 0 := by rw [fst, if_neg ((dI_pos (dist_le _ _ _ _)).mp c20)]
      exact ⟨by rw [F, fI_n] <;> rfl, rfl⟩
    · have dp := Classical.not_not.mp (fun z => c20 ((dI_pos (dist_le _ _ _ _)).mpr z))
      refine x_aload_n dX12_firstPath_23 rfl ?_
      refine x_iload dX12_firstPath_24 rfl ?_
      refine x_rdV (c_X12_isThere hm hv (by omega)) mo lkX12_isThere sX12_258 dX12_firstPath_26 rfl rfl (Nat.le_of_ble_eq_true rfl) (by decide) ⟨rfl, rfl, by decide, by decide⟩ ?_
      refine x_if_eqB 63 dX12_firstPath_29 (by decide) (fun c29 => ?_) (fun c29 => ?_)
      · refine x_inc_4  dX12_firstPath_63 (by decide) (nI_inc _) rfl ?_
        refine x_goto 10 dX12_firstPath_66 (by decide) ?_
        exact ih (fun j hj => by
          rcases Nat.lt_or_ge j i with z | z
          · exact hb0 j z
          · rw [show j = i by omega]; exact Bool.eq_false_iff.mpr (fun y => c29 (Bool.and_eq_true_iff.mp (Bool.and_eq_true_iff.mp y).1).1))
      · refine x_aload_n dX12_firstPath_32 rfl ?_
        refine x_iload dX12_firstPath_33 rfl ?_
        refine x_iload_n dX12_firstPath_35 rfl ?_
        refine x_rdV (c_X12_isEnd hm hv hi hf) mo lkX12_isEnd sX12_236 dX12_firstPath_36 rfl rfl (Nat.le_of_ble_eq_true rfl) (by decide) ⟨rfl, rfl, by decide, by decide⟩ ?_
        refine x_if_eqB 63 dX12_firstPath_39 (by decide) (fun c39 => ?_) (fun c39 => ?_)
        · refine x_inc_4  dX12_firstPath_63 (by decide) (nI_inc _) rfl ?_
          refine x_goto 10 dX12_firstPath_66 (by decide) ?_
          exact ih (fun j hj => by
            rcases Nat.lt_or_ge j i with z | z
            · exact hb0 j z
            · rw [show j = i by omega]; exact Bool.eq_false_iff.mpr (fun y => c39 (of_decide_eq_true (Bool.and_eq_true_iff.mp (Bool.and_eq_true_iff.mp y).1).2)))
        · refine x_aload_n dX12_firstPath_42 rfl ?_
          refine x_aload_n dX12_firstPath_43 rfl ?_
          refine x_iload dX12_firstPath_44 rfl ?_
          refine x_iload_n dX12_firstPath_46 rfl ?_
          refine x_rdV (c_X12_otherEnd hm hv hi hf) mo lkX12_otherEnd sX12_267 dX12_firstPath_47 rfl rfl (Nat.le_of_ble_eq_true rfl) (by decide) ⟨rfl, rfl, by decide, by decide⟩ ?_
          refine x_iload_n dX12_firstPath_50 rfl ?_
          refine x_rdV (c_X12_wayOf hm hv (ot_lt hv.1 hi) ht) mo lkX12_wayOf sX12_289 dX12_firstPath_51 rfl rfl (Nat.le_of_ble_eq_true rfl) (by decide) ⟨rfl, rfl, by decide, by decide⟩ ?_
          refine x_iload_n dX12_firstPath_54 rfl ?_
          refine x_iconst (v := 1) dX12_firstPath_55 (by decide) ?_
          refine x_isub dX12_firstPath_56 ?_
          refine x_icmp_ne 63 dX12_firstPath_57 (by decide) (fun c57 => ?_) (fun c57 => ?_)
          · refine x_inc_4  dX12_firstPath_63 (by decide) (nI_inc _) rfl ?_
            refine x_goto 10 dX12_firstPath_66 (by decide) ?_
            exact ih (fun j hj => by
              rcases Nat.lt_or_ge j i with z | z
              · exact hb0 j z
              · rw [show j = i by omega]; exact Bool.eq_false_iff.mpr (fun y => c57 ((dI_m1 _ (dist_le _ _ _ _) _ (dist_le _ _ _ _) dp).mpr (of_decide_eq_true (Bool.and_eq_true_iff.mp y).2))))
          · refine x_iload dX12_firstPath_60 rfl ?_
            refine x_iret rfl dX12_firstPath_62 ⟨by decide, by decide⟩ ?_
            have F : fst V f t = i := by
              rw [fst, if_pos dp]
              exact first_is hi (by rw [Bool.and_eq_true_iff, Bool.and_eq_true_iff]; exact ⟨⟨c29, decide_eq_true c39⟩, decide_eq_true ((dI_m1 _ (dist_le _ _ _ _) _ (dist_le _ _ _ _) dp).mp c57)⟩) hb0
            exact ⟨by rw [F, fI, if_pos hi], rfl⟩
  · refine x_iload dX12_firstPath_10 rfl ?_
    refine x_aload_n dX12_firstPath_12 rfl ?_
    refine x_get fX12_97 mo rfl dX12_firstPath_13 ?_
    refine x_icmp_ge_t 69 dX12_firstPath_16 (by decide) (ge_t (N := V.1 0) rfl (by omega)) ?_
    refine x_bipush (v := -9) dX12_firstPath_69 (by decide) ?_
    refine x_iret rfl dX12_firstPath_71 ⟨by decide, by decide⟩ ?_
    have F : fst V f t = V.1 0 := by
      rw [fst]
      split
      · exact first_no hb0
      · rfl
    exact ⟨by rw [F, fI_n] <;> rfl, rfl⟩
set_option maxRecDepth 10000 in
set_option maxHeartbeats 2000000 in
theorem c_X12_firstPath {g : gG} {h : gH} {m : Nat} {V : VS} {s : Nat → Int32} {l : Nat → Int64} {A : Nat → Nat → Int32} {B : Nat → Nat → Int64} (hm : MM h m V s l A B) (hv : rpV V A) {f t : Nat} (hf : f < 8) (ht : t < 8) : Rd g mX12_firstPath [.ref m, .int (nI f), .int (nI t)] h (.int (fI (V.1 0) (fst V f t))) := by
  have mo := hm.1
  refine Cn.of (L := [some (.ref m), some (.int (nI f)), some (.int (nI t)), none, none]) (by decide) (Nat.le_of_ble_eq_true rfl) rfl ?_
  refine x_aload_n dX12_firstPath_0 rfl ?_
  refine x_iload_n dX12_firstPath_1 rfl ?_
  refine x_iload_n dX12_firstPath_2 rfl ?_
  refine x_rdV (c_X12_wayOf hm hv hf ht) mo lkX12_wayOf sX12_289 dX12_firstPath_3 rfl rfl (Nat.le_of_ble_eq_true rfl) (by decide) ⟨rfl, rfl, by decide, by decide⟩ ?_
  refine x_ist_3 dX12_firstPath_6 (by decide) rfl ?_
  refine x_iconst (v := 0) dX12_firstPath_7 (by decide) ?_
  refine x_ist_4 dX12_firstPath_8 (by decide) rfl ?_
  exact fp10 hm hv hf ht 0 (Nat.zero_le _) (fun j hj => absurd hj (Nat.not_lt_zero j))
theorem fsf_y {V : VS} {f a c : Nat} (h : ((rea V (V.1 3) f 7).testBit c = true ∧ (rea V (V.1 3) a 7).testBit c = true) ∧ 4 * 8 ^ V.1 0 ≤ odN V c a * 8 ∧ (fsf V f a c).2 < dist V (V.1 3) c a + 1) : fsf V f a (c + 1) = (c, dist V (V.1 3) c a + 1) := if_pos h
theorem fsf_n {V : VS} {f a c : Nat} (h : ¬ (((rea V (V.1 3) f 7).testBit c = true ∧ (rea V (V.1 3) a 7).testBit c = true) ∧ 4 * 8 ^ V.1 0 ≤ odN V c a * 8 ∧ (fsf V f a c).2 < dist V (V.1 3) c a + 1)) : fsf V f a (c + 1) = fsf V f a c := if_neg h
theorem and256 {x y : Nat} (hx : x < 256) : x &&& y < 256 := Nat.lt_of_le_of_lt Nat.and_le_left hx
set_option maxRecDepth 10000 in
set_option maxHeartbeats 2000000 in
theorem bf30 {g : gG} {h : gH} {m : Nat} {V : VS} {s : Nat → Int32} {l : Nat → Int64} {A : Nat → Nat → Int32} {B : Nat → Nat → Int64} (hv : rpV V A) {c a : Nat} (hc : c < 8) (ha : a < 8) : ∀ i, i ≤ 8 → ∀ h1, OO m V s l A B h1 → Fr m 27 h h1 → Ex g mX12_backFrom (gZm g mX12_backFrom (fun o h' => o = some (.int (bI (-3) (fsf V c a 8).1)) ∧ OO m V s l A B h' ∧ Fr m 27 h h')) 30 [some (.ref m), some (.int (nI c)), some (.int (nI a)), some (.int (nI (rea V (V.1 3) c 7 &&& rea V (V.1 3) a 7))), some (.int (bI (-3) (fsf V c a i).1)), some (.int (nI (fsf V c a i).2 - 1)), some (.int (nI i))] [] h1 0 0 := by
  have ok8 : V.1 0 ≤ 8 := hv.1.1.1
  have ok4 : V.1 1 ≤ 4 := hv.1.1.2.1
  have okr : V.1 2 ≤ 4 := hv.1.1.2.2
  have t256 : V.1 3 < 256 := lt256 hv.1.2.1 hv.1.1.1
  have b256 : rea V (V.1 3) c 7 &&& rea V (V.1 3) a 7 < 256 := and256 (rea_lt hv.1 _ hc 7)
  refine lp_up 8 (fun i hi ih h1 O1 F => ?_) (fun h1 O1 F => ?_)
  · obtain ⟨A1, hm1, e1⟩ := id O1
    have hv1 := OO.v hv e1
    refine x_iload dX12_backFrom_30 rfl ?_
    refine x_bipush (v := 8) dX12_backFrom_32 (by decide) ?_
    refine x_icmp_ge_f 97 dX12_backFrom_34 (by decide) (ge_f (N := 8) rfl hi (by decide)) ?_
    refine x_iload_n dX12_backFrom_37 rfl ?_
    refine x_iload dX12_backFrom_38 rfl ?_
    refine x_ishr dX12_backFrom_40 ?_
    refine x_iconst (v := 1) dX12_backFrom_41 (by decide) ?_
    refine x_iand dX12_backFrom_42 ?_
    rw [sr_bit _ b256 i hi, Nat.testBit_and]
    refine x_iconst (v := 1) dX12_backFrom_43 (by decide) ?_
    refine x_icmp_ne 91 dX12_backFrom_44 (by decide) (fun c44 => ?_) (fun c44 => ?_)
    · refine x_inc_6  dX12_backFrom_91 (by decide) (nI_inc _) rfl ?_
      refine x_goto 30 dX12_backFrom_94 (by decide) ?_
      have E : fsf V c a (i + 1) = fsf V c a i := fsf_n (fun z => c44 (b2i_t (by rw [z.1.1, z.1.2]; rfl)))
      rw [E] at ih
      exact ih _ O1 (F)
    · have bb := Bool.and_eq_true_iff.mp (b2i_1.mp c44)
      have d8 := dist_con hv.1 ha hi bb.2
      refine x_aload_n dX12_backFrom_47 rfl ?_
      refine x_iload dX12_backFrom_48 rfl ?_
      refine x_iload_n dX12_backFrom_50 rfl ?_
      refine x_cvV (c_X12_oddsOf O1 hv hi ha) hm1.1 lkX12_oddsOf sX12_316 dX12_backFrom_51 rfl rfl (Nat.le_of_ble_eq_true rfl) (by decide) ⟨rfl, rfl, by decide, by decide⟩ ?_
      rintro h2 ⟨O2, F2⟩
      obtain ⟨A2, hm2, e2⟩ := id O2
      have hv2 := OO.v hv e2
      refine x_ldc2 dX12_backFrom_54 kX12_345 ?_
      refine x_lmul dX12_backFrom_57 ?_
      rw [show (2 : Int64) = lN 2 from rfl, lN_mul]
      refine x_aload_n dX12_backFrom_58 rfl ?_
      refine x_rdV (c_X12_allOdds hm2 hv2) hm2.1 lkX12_allOdds sX12_320 dX12_backFrom_59 rfl rfl (Nat.le_of_ble_eq_true rfl) (by decide) ⟨rfl, rfl, by decide, by decide⟩ ?_
      refine x_lcmp dX12_backFrom_62 ?_
      have bq := odN_lt hv.1 i a
      have b8 := pow8 ok8
      have hc2 : lg_cmp (lN (odN V i a * 2)) (lN (8 ^ V.1 0)) < 0 ↔ odN V i a * 2 < 8 ^ V.1 0 := lg_lt.trans (l63_lt (by omega) (by omega))
      refine x_if_lt 91 dX12_backFrom_63 (by decide) (fun c63 => ?_) (fun c63 => ?_)
      · refine x_inc_6  dX12_backFrom_91 (by decide) (nI_inc _) rfl ?_
        refine x_goto 30 dX12_backFrom_94 (by decide) ?_
        have E : fsf V c a (i + 1) = fsf V c a i := fsf_n (fun z => by have := hc2.mp c63; omega)
        rw [E] at ih
        exact ih _ O2 (F.tr F2)
      · refine x_aload_n dX12_backFrom_66 rfl ?_
        refine x_iload dX12_backFrom_67 rfl ?_
        refine x_iload_n dX12_backFrom_69 rfl ?_
        refine x_rdV (c_X12_wayOf hm2 hv2 hi ha) hm2.1 lkX12_wayOf sX12_289 dX12_backFrom_70 rfl rfl (Nat.le_of_ble_eq_true rfl) (by decide) ⟨rfl, rfl, by decide, by decide⟩ ?_
        rw [dI, if_pos d8]
        have hm1' := nI_m1 (fsf V c a i).2 (by have := fsf_2 (V := V) c a i; omega) (dist V (V.1 3) i a) (by omega)
        refine x_iload dX12_backFrom_73 rfl ?_
        refine x_icmp_le 91 dX12_backFrom_75 (by decide) (fun c75 => ?_) (fun c75 => ?_)
        · refine x_inc_6  dX12_backFrom_91 (by decide) (nI_inc _) rfl ?_
          refine x_goto 30 dX12_backFrom_94 (by decide) ?_
          have E : fsf V c a (i + 1) = fsf V c a i := fsf_n (fun z => hm1'.mp c75 z.2.2)
          rw [E] at ih
          exact ih _ O2 (F.tr F2)
        · refine x_iload dX12_backFrom_78 rfl ?_
          refine x_ist_4 dX12_backFrom_80 (by decide) rfl ?_
          refine x_aload_n dX12_backFrom_82 rfl ?_
          refine x_iload dX12_backFrom_83 rfl ?_
          refine x_iload_n dX12_backFrom_85 rfl ?_
          refine x_rdV (c_X12_wayOf hm2 hv2 hi ha) hm2.1 lkX12_wayOf sX12_289 dX12_backFrom_86 rfl rfl (Nat.le_of_ble_eq_true rfl) (by decide) ⟨rfl, rfl, by decide, by decide⟩ ?_
          rw [dI, if_pos d8]
          refine x_ist_5 dX12_backFrom_89 (by decide) rfl ?_
          refine x_inc_6  dX12_backFrom_91 (by decide) (nI_inc _) rfl ?_
          refine x_goto 30 dX12_backFrom_94 (by decide) ?_
          have E : fsf V c a (i + 1) = (i, dist V (V.1 3) i a + 1) := fsf_y ⟨bb, by have : ¬ odN V i a * 2 < 8 ^ V.1 0 := fun z => c63 (hc2.mpr z); omega, Classical.not_not.mp (fun z => c75 (hm1'.mpr z))⟩
          rw [E, show bI (-3) i = nI i from if_neg (by omega), show nI (dist V (V.1 3) i a + 1) - 1 = nI (dist V (V.1 3) i a) from nI_pred _] at ih
          exact ih _ O2 (F.tr F2)
  · refine x_iload dX12_backFrom_30 rfl ?_
    refine x_bipush (v := 8) dX12_backFrom_32 (by decide) ?_
    refine x_icmp_ge_t 97 dX12_backFrom_34 (by decide) (ge_t (N := 8) rfl (by decide)) ?_
    refine x_iload dX12_backFrom_97 rfl ?_
    refine x_iret rfl dX12_backFrom_99 ⟨by decide, by decide⟩ ?_
    exact ⟨rfl, O1, F⟩
set_option maxRecDepth 10000 in
set_option maxHeartbeats 2000000 in
theorem c_X12_backFrom {g : gG} {h : gH} {m : Nat} {V : VS} {s : Nat → Int32} {l : Nat → Int64} {A : Nat → Nat → Int32} {B : Nat → Nat → Int64} (hO : OO m V s l A B h) (hv : rpV V A) {c a : Nat} (hc : c < 8) (ha : a < 8) : Ct g mX12_backFrom [.ref m, .int (nI c), .int (nI a)] h (some (.int (bI (-3) (fsf V c a 8).1))) (fun h' => OO m V s l A B h' ∧ Fr m 27 h h') := by
  have hO0 := hO
  obtain ⟨A0, hm, e0⟩ := hO
  have hv0 := OO.v hv e0
  have mo := hm.1
  have ok8 : V.1 0 ≤ 8 := hv.1.1.1
  have ok4 : V.1 1 ≤ 4 := hv.1.1.2.1
  have okr : V.1 2 ≤ 4 := hv.1.1.2.2
  have t256 : V.1 3 < 256 := lt256 hv.1.2.1 hv.1.1.1
  refine Cn.of (L := [some (.ref m), some (.int (nI c)), some (.int (nI a)), none, none, none, none]) (by decide) (Nat.le_of_ble_eq_true rfl) rfl ?_
  refine x_aload_n dX12_backFrom_0 rfl ?_
  refine x_aload_n dX12_backFrom_1 rfl ?_
  refine x_get fX12_103 mo rfl dX12_backFrom_2 ?_
  refine x_iload_n dX12_backFrom_5 rfl ?_
  refine x_rdV (c_X12_reachBy hm hv0 t256 hc) mo lkX12_reachBy sX12_292 dX12_backFrom_6 rfl rfl (Nat.le_of_ble_eq_true rfl) (by decide) ⟨rfl, rfl, by decide, by decide⟩ ?_
  refine x_aload_n dX12_backFrom_9 rfl ?_
  refine x_aload_n dX12_backFrom_10 rfl ?_
  refine x_get fX12_103 mo rfl dX12_backFrom_11 ?_
  refine x_iload_n dX12_backFrom_14 rfl ?_
  refine x_rdV (c_X12_reachBy hm hv0 t256 ha) mo lkX12_reachBy sX12_292 dX12_backFrom_15 rfl rfl (Nat.le_of_ble_eq_true rfl) (by decide) ⟨rfl, rfl, by decide, by decide⟩ ?_
  refine x_iand dX12_backFrom_18 ?_
  rw [nx_and]
  refine x_ist_3 dX12_backFrom_19 (by decide) rfl ?_
  refine x_bipush (v := -3) dX12_backFrom_20 (by decide) ?_
  refine x_ist_4 dX12_backFrom_22 (by decide) rfl ?_
  refine x_iconst (v := -1) dX12_backFrom_24 (by decide) ?_
  refine x_ist_5 dX12_backFrom_25 (by decide) rfl ?_
  refine x_iconst (v := 0) dX12_backFrom_27 (by decide) ?_
  refine x_ist_6 dX12_backFrom_28 (by decide) rfl ?_
  exact bf30 hv hc ha 0 (Nat.zero_le _) h hO0 Fr.rf
theorem bI_lt {q : Nat} (h : q = 99 ∨ q < 8) : bI (-3) q < 0 ↔ ¬ q < 8 := by
  unfold bI
  split
  · exact ⟨fun _ => by omega, fun _ => by decide⟩
  · exact ⟨fun z => absurd z (nI_pos (by omega)), fun z => by omega⟩
theorem stB_y {V : VS} {r u : Nat} (h : V.2.2 5 u < 8 ∧ ¬ (V.2.2 8 r = 3 ∧ ¬ dist V (V.1 3) (V.2.2 5 u) (V.2.2 9 r) = 1) ∧ tgt V r u < 8) : stB V r u = fst V (V.2.2 5 u) (tgt V r u) := if_pos h
set_option maxRecDepth 10000 in
set_option maxHeartbeats 2000000 in
theorem c_X12_goesBy {g : gG} {h : gH} {m : Nat} {V : VS} {s : Nat → Int32} {l : Nat → Int64} {A : Nat → Nat → Int32} {B : Nat → Nat → Int64} (hO : OO m V s l A B h) (hv : rpV V A) {r1 u1 : Nat} (hr : r1 < V.1 2) (hu : u1 < V.1 1) : Ct g mX12_goesBy [.ref m, .int (nI r1), .int (nI u1)] h (some (.int (fI (V.1 0) (stB V r1 u1)))) (fun h' => OO m V s l A B h' ∧ Fr m 27 h h') := by
  have hO0 := hO
  obtain ⟨A0, hm, e0⟩ := hO
  have hv0 := OO.v hv e0
  have mo := hm.1
  have m2 : h.1 (m + 2) = some (.inl (0, 4, .inl (A0 1))) := hm.2 1 (by decide)
  have m3 : h.1 (m + 3) = some (.inl (0, 4, .inl (A0 2))) := hm.2 2 (by decide)
  have m6 : h.1 (m + 6) = some (.inl (0, 8, .inl (A0 5))) := hm.2 5 (by decide)
  have ok8 : V.1 0 ≤ 8 := hv.1.1.1
  have ok4 : V.1 1 ≤ 4 := hv.1.1.2.1
  have okr : V.1 2 ≤ 4 := hv.1.1.2.2
  have t256 : V.1 3 < 256 := lt256 hv.1.2.1 hv.1.1.1
  have hu5 := hv0.2.2.1 u1 hu
  have ol := onM_lt (wl16 hv hu)
  have rr := hv.1.2.2.2.2.2.2 r1 hr
  have rq := hv0.2.2.2.2 r1 hr
  refine Cn.of (L := [some (.ref m), some (.int (nI r1)), some (.int (nI u1)), none, none, none]) (by decide) (Nat.le_of_ble_eq_true rfl) rfl ?_
  refine x_aload_n dX12_goesBy_0 rfl ?_
  refine x_get fX12_16 mo rfl dX12_goesBy_1 ?_
  refine x_iload_n dX12_goesBy_4 rfl ?_
  refine x_iald u1 m3 rfl (by omega) (by decide) dX12_goesBy_5 ?_
  rw [hu5.2.1]
  refine x_if_lt 12 dX12_goesBy_6 (by decide) (fun c6 => ?_) (fun c6 => ?_)
  · refine x_aload_n dX12_goesBy_12 rfl ?_
    refine x_get fX12_13 mo rfl dX12_goesBy_13 ?_
    refine x_iload_n dX12_goesBy_16 rfl ?_
    refine x_iald u1 m2 rfl (by omega) (by decide) dX12_goesBy_17 ?_
    have q8 := ol.mp c6
    rw [hu5.1 q8]
    refine x_ist_3 dX12_goesBy_18 (by decide) rfl ?_
    refine x_aload_n dX12_goesBy_19 rfl ?_
    refine x_get fX12_29 mo rfl dX12_goesBy_20 ?_
    refine x_iconst (v := 2) dX12_goesBy_23 (by decide) ?_
    refine x_iload_n dX12_goesBy_24 rfl ?_
    refine x_imul dX12_goesBy_25 ?_
    refine x_iconst (v := 1) dX12_goesBy_26 (by decide) ?_
    refine x_iadd dX12_goesBy_27 ?_
    refine x_iald (2 * r1 + 1) m6 (by rw [show (2 : Int32) = nI 2 from rfl, ts_mul]; exact nI_1 _) (by omega) (by decide) dX12_goesBy_28 ?_
    rw [rq.2]
    refine x_ist_4 dX12_goesBy_29 (by decide) rfl ?_
    refine x_aload_n dX12_goesBy_31 rfl ?_
    refine x_get fX12_29 mo rfl dX12_goesBy_32 ?_
    refine x_iconst (v := 2) dX12_goesBy_35 (by decide) ?_
    refine x_iload_n dX12_goesBy_36 rfl ?_
    refine x_imul dX12_goesBy_37 ?_
    refine x_iald (2 * r1) m6 (by rw [show (2 : Int32) = nI 2 from rfl, ts_mul]) (by omega) (by decide) dX12_goesBy_38 ?_
    rw [rq.1]
    refine swX12_goesBy_39 (fun c39 => ?_) (fun c39 => ?_) (fun c39 => ?_) (fun c39_0 c39_1 c39_2 => ?_)
    · refine x_aload_n dX12_goesBy_64 rfl ?_
      refine x_iload_n dX12_goesBy_65 rfl ?_
      refine x_iload dX12_goesBy_66 rfl ?_
      refine x_rdV (c_X12_firstPath hm hv0 q8 rr.2) mo lkX12_firstPath sX12_347 dX12_goesBy_68 rfl rfl (Nat.le_of_ble_eq_true rfl) (by decide) ⟨rfl, rfl, by decide, by decide⟩ ?_
      refine x_iret rfl dX12_goesBy_71 ⟨by decide, by decide⟩ ?_
      have k0 : V.2.2 8 r1 = 0 := nI_eqn (b := 0) (by omega) (by decide) c39
      have tg : tgt V r1 u1 = V.2.2 9 r1 := if_neg (by omega)
      exact ⟨by rw [stB_y ⟨q8, fun z => by omega, by rw [tg]; exact rr.2⟩, tg], hO0, Fr.rf⟩
    · refine x_aload_n dX12_goesBy_64 rfl ?_
      refine x_iload_n dX12_goesBy_65 rfl ?_
      refine x_iload dX12_goesBy_66 rfl ?_
      refine x_rdV (c_X12_firstPath hm hv0 q8 rr.2) mo lkX12_firstPath sX12_347 dX12_goesBy_68 rfl rfl (Nat.le_of_ble_eq_true rfl) (by decide) ⟨rfl, rfl, by decide, by decide⟩ ?_
      refine x_iret rfl dX12_goesBy_71 ⟨by decide, by decide⟩ ?_
      have k0 : V.2.2 8 r1 = 1 := nI_eqn (b := 1) (by omega) (by decide) c39
      have tg : tgt V r1 u1 = V.2.2 9 r1 := if_neg (by omega)
      exact ⟨by rw [stB_y ⟨q8, fun z => by omega, by rw [tg]; exact rr.2⟩, tg], hO0, Fr.rf⟩
    · refine x_aload_n dX12_goesBy_72 rfl ?_
      refine x_iload_n dX12_goesBy_73 rfl ?_
      refine x_iload dX12_goesBy_74 rfl ?_
      refine x_cvV (c_X12_backFrom hO0 hv q8 rr.2) mo lkX12_backFrom sX12_350 dX12_goesBy_76 rfl rfl (Nat.le_of_ble_eq_true rfl) (by decide) ⟨rfl, rfl, by decide, by decide⟩ ?_
      rintro h1 ⟨O1, F1⟩
      refine x_ist_5 dX12_goesBy_79 (by decide) rfl ?_
      refine x_iload dX12_goesBy_81 rfl ?_
      refine x_if_ge 91 dX12_goesBy_83 (by decide) (fun c83 => ?_) (fun c83 => ?_)
      · have k0 : V.2.2 8 r1 = 2 := nI_eqn (b := 2) (by omega) (by decide) c39
        have tg : tgt V r1 u1 = (fsf V (V.2.2 5 u1) (V.2.2 9 r1) 8).1 := if_pos k0
        have t8 : (fsf V (V.2.2 5 u1) (V.2.2 9 r1) 8).1 < 8 := Classical.not_not.mp (fun z => absurd ((bI_lt (fsf_1 _ _ 8)).mpr z) (Int32.not_lt.mpr c83))
        obtain ⟨A1, hm1, e1⟩ := id O1
        have hv1 := OO.v hv e1
        rw [bI, if_neg (by omega)]
        refine x_aload_n dX12_goesBy_91 rfl ?_
        refine x_iload_n dX12_goesBy_92 rfl ?_
        refine x_iload dX12_goesBy_93 rfl ?_
        refine x_rdV (c_X12_firstPath hm1 hv1 q8 t8) hm1.1 lkX12_firstPath sX12_347 dX12_goesBy_95 rfl rfl (Nat.le_of_ble_eq_true rfl) (by decide) ⟨rfl, rfl, by decide, by decide⟩ ?_
        refine x_iret rfl dX12_goesBy_98 ⟨by decide, by decide⟩ ?_
        exact ⟨by rw [stB_y ⟨q8, fun z => by omega, by rw [tg]; exact t8⟩, tg], O1, F1⟩
      · refine x_bipush (v := -9) dX12_goesBy_86 (by decide) ?_
        refine x_goto 98 dX12_goesBy_88 (by decide) ?_
        refine x_iret rfl dX12_goesBy_98 ⟨by decide, by decide⟩ ?_
        have k0 : V.2.2 8 r1 = 2 := nI_eqn (b := 2) (by omega) (by decide) c39
        have tg : tgt V r1 u1 = (fsf V (V.2.2 5 u1) (V.2.2 9 r1) 8).1 := if_pos k0
        exact ⟨by rw [stB_n hv.1 (fun z => (bI_lt (fsf_1 _ _ 8)).mp (Int32.not_le.mp c83) (tg ▸ z.2.2))] <;> rfl, O1, F1⟩
    · refine x_aload_n dX12_goesBy_99 rfl ?_
      refine x_iload_n dX12_goesBy_100 rfl ?_
      refine x_iload dX12_goesBy_101 rfl ?_
      refine x_rdV (c_X12_wayOf hm hv0 q8 rr.2) mo lkX12_wayOf sX12_289 dX12_goesBy_103 rfl rfl (Nat.le_of_ble_eq_true rfl) (by decide) ⟨rfl, rfl, by decide, by decide⟩ ?_
      refine x_iconst (v := 1) dX12_goesBy_106 (by decide) ?_
      refine x_icmp_ne 120 dX12_goesBy_107 (by decide) (fun c107 => ?_) (fun c107 => ?_)
      · refine x_bipush (v := -9) dX12_goesBy_120 (by decide) ?_
        refine x_iret rfl dX12_goesBy_122 ⟨by decide, by decide⟩ ?_
        have n0 : ¬ V.2.2 8 r1 = 0 := fun z => c39_0 (by rw [z]; rfl)
        have n1 : ¬ V.2.2 8 r1 = 1 := fun z => c39_1 (by rw [z]; rfl)
        have n2 : ¬ V.2.2 8 r1 = 2 := fun z => c39_2 (by rw [z]; rfl)
        exact ⟨by rw [stB_n hv.1 (fun z => z.2.1 ⟨by omega, fun y => c107 ((dI_1 (dist_le _ _ _ _)).mpr y)⟩)] <;> rfl, hO0, Fr.rf⟩
      · refine x_aload_n dX12_goesBy_110 rfl ?_
        refine x_iload_n dX12_goesBy_111 rfl ?_
        refine x_iload dX12_goesBy_112 rfl ?_
        refine x_rdV (c_X12_firstPath hm hv0 q8 rr.2) mo lkX12_firstPath sX12_347 dX12_goesBy_114 rfl rfl (Nat.le_of_ble_eq_true rfl) (by decide) ⟨rfl, rfl, by decide, by decide⟩ ?_
        refine x_goto 122 dX12_goesBy_117 (by decide) ?_
        refine x_iret rfl dX12_goesBy_122 ⟨by decide, by decide⟩ ?_
        have d1 := (dI_1 (dist_le _ _ _ _)).mp c107
        have n2 : ¬ V.2.2 8 r1 = 2 := fun z => c39_2 (by rw [z]; rfl)
        have tg : tgt V r1 u1 = V.2.2 9 r1 := if_neg n2
        exact ⟨by rw [stB_y ⟨q8, fun z => z.2 d1, by rw [tg]; exact rr.2⟩, tg], hO0, Fr.rf⟩
  · refine x_bipush (v := -9) dX12_goesBy_9 (by decide) ?_
    refine x_iret rfl dX12_goesBy_11 ⟨by decide, by decide⟩ ?_
    exact ⟨by rw [stB_n hv.1 (fun z => by have := fun y => c6 (ol.mpr y); exact this z.1)] <;> rfl, hO0, Fr.rf⟩
set_option maxRecDepth 10000 in
set_option maxHeartbeats 2000000 in
theorem c_X12_goes {g : gG} {h : gH} {m : Nat} {S : AS} (hn : isN h m S) {r u : Int32} : Ct g mX12_goes [.ref m, .int r, .int u] h (some (.int (qGoes S.1 r u))) (Pn m S h) := by
  obtain ⟨hz, s, l, A, B, hm, hv, hr⟩ := id hn
  have mo := hm.1
  have ok8 : S.1.1 0 ≤ 8 := hv.1.1.1
  have ok4 : S.1.1 1 ≤ 4 := hv.1.1.2.1
  have okr : S.1.1 2 ≤ 4 := hv.1.1.2.2
  have t256 : S.1.1 3 < 256 := lt256 hv.1.2.1 hv.1.1.1
  refine Cn.of (L := [some (.ref m), some (.int r), some (.int u)]) (by decide) (Nat.le_of_ble_eq_true rfl) rfl ?_
  refine x_aload_n dX12_goes_0 rfl ?_
  refine x_iload_n dX12_goes_1 rfl ?_
  refine x_rdV (c_X12_isRule hm hv) mo lkX12_isRule sX12_342 dX12_goes_2 rfl rfl (Nat.le_of_ble_eq_true rfl) (by decide) ⟨rfl, rfl, by decide, by decide⟩ ?_
  refine x_if_eqB 25 dX12_goes_5 (by decide) (fun c5 => ?_) (fun c5 => ?_)
  · refine x_iconst (v := -1) dX12_goes_25 (by decide) ?_
    refine x_iret rfl dX12_goes_26 ⟨by decide, by decide⟩ ?_
    exact ⟨by rw [qGoes, if_neg (fun z => c5 z.1)] <;> rfl, hn.rf⟩
  · refine x_aload_n dX12_goes_8 rfl ?_
    refine x_iload_n dX12_goes_9 rfl ?_
    refine x_rdV (c_X12_isWalker hm hv) mo lkX12_isWalker sX12_261 dX12_goes_10 rfl rfl (Nat.le_of_ble_eq_true rfl) (by decide) ⟨rfl, rfl, by decide, by decide⟩ ?_
    refine x_if_eqB 25 dX12_goes_13 (by decide) (fun c13 => ?_) (fun c13 => ?_)
    · refine x_iconst (v := -1) dX12_goes_25 (by decide) ?_
      refine x_iret rfl dX12_goes_26 ⟨by decide, by decide⟩ ?_
      exact ⟨by rw [qGoes, if_neg (fun z => c13 z.2)] <;> rfl, hn.rf⟩
    · obtain ⟨r1, hr1, rfl⟩ := bl_E c5 (by omega)
      obtain ⟨u1, hu, rfl⟩ := bl_E c13 (by omega)
      refine x_aload_n dX12_goes_16 rfl ?_
      refine x_iload_n dX12_goes_17 rfl ?_
      refine x_iload_n dX12_goes_18 rfl ?_
      refine x_cvV (c_X12_goesBy (OO.rf hm) hv hr1 hu) mo lkX12_goesBy sX12_353 dX12_goes_19 rfl rfl (Nat.le_of_ble_eq_true rfl) (by decide) ⟨rfl, rfl, by decide, by decide⟩ ?_
      rintro h1 ⟨O1, F1⟩
      refine x_goto 26 dX12_goes_22 (by decide) ?_
      refine x_iret rfl dX12_goes_26 ⟨by decide, by decide⟩ ?_
      exact ⟨by rw [qGoes, if_pos ⟨c5, c13⟩, iN_nI (by omega), iN_nI (by omega)], O1.n hz hv hr F1⟩
set_option maxRecDepth 10000 in
set_option maxHeartbeats 2000000 in
theorem c_X12_does {g : gG} {h : gH} {m : Nat} {S : AS} (hn : isN h m S) {r u : Int32} : Ct g mX12_does [.ref m, .int r, .int u] h (some (.int (oDoes S.1 r u).1)) (Pn m ((oDoes S.1 r u).2, S.2) h) := by
  obtain ⟨hz, s, l, A, B, hm, hv, hr⟩ := id hn
  have mo := hm.1
  have ok8 : S.1.1 0 ≤ 8 := hv.1.1.1
  have ok4 : S.1.1 1 ≤ 4 := hv.1.1.2.1
  have okr : S.1.1 2 ≤ 4 := hv.1.1.2.2
  have t256 : S.1.1 3 < 256 := lt256 hv.1.2.1 hv.1.1.1
  refine Cn.of (L := [some (.ref m), some (.int r), some (.int u), none]) (by decide) (Nat.le_of_ble_eq_true rfl) rfl ?_
  refine x_aload_n dX12_does_0 rfl ?_
  refine x_iload_n dX12_does_1 rfl ?_
  refine x_rdV (c_X12_isRule hm hv) mo lkX12_isRule sX12_342 dX12_does_2 rfl rfl (Nat.le_of_ble_eq_true rfl) (by decide) ⟨rfl, rfl, by decide, by decide⟩ ?_
  refine x_if_eqB 16 dX12_does_5 (by decide) (fun c5 => ?_) (fun c5 => ?_)
  · refine x_iconst (v := -1) dX12_does_16 (by decide) ?_
    refine x_iret rfl dX12_does_17 ⟨by decide, by decide⟩ ?_
    exact fnV hn (by simp only [oDoes, c5, eq_self, Bool.false_eq_true, reduceCtorEq, and_true, true_and, and_false, false_and, not_true_eq_false, not_false_eq_true, if_true, if_false, ne_eq, or_true, true_or, or_false, false_or])
  · refine x_aload_n dX12_does_8 rfl ?_
    refine x_iload_n dX12_does_9 rfl ?_
    refine x_rdV (c_X12_isWalker hm hv) mo lkX12_isWalker sX12_261 dX12_does_10 rfl rfl (Nat.le_of_ble_eq_true rfl) (by decide) ⟨rfl, rfl, by decide, by decide⟩ ?_
    refine x_if_neB 18 dX12_does_13 (by decide) (fun c13 => ?_) (fun c13 => ?_)
    · obtain ⟨r1, hr1, rfl⟩ := bl_E c5 (by omega)
      obtain ⟨u1, hu, rfl⟩ := bl_E c13 (by omega)
      refine x_aload_n dX12_does_18 rfl ?_
      refine x_iload_n dX12_does_19 rfl ?_
      refine x_iload_n dX12_does_20 rfl ?_
      refine x_cvV (c_X12_goesBy (OO.rf hm) hv hr1 hu) mo lkX12_goesBy sX12_353 dX12_does_21 rfl rfl (Nat.le_of_ble_eq_true rfl) (by decide) ⟨rfl, rfl, by decide, by decide⟩ ?_
      rintro h1 ⟨O1, F1⟩
      refine x_ist_3 dX12_does_24 (by decide) rfl ?_
      refine x_iload_n dX12_does_25 rfl ?_
      refine x_if_ge 31 dX12_does_26 (by decide) (fun c26 => ?_) (fun c26 => ?_)
      · have pl : stB S.1 r1 u1 < S.1.1 0 := Classical.not_not.mp (fun z => absurd ((fI_lt ok8).mpr z) (Int32.not_lt.mpr c26))
        obtain ⟨tb, q8⟩ := stB_t hv.1 pl
        obtain ⟨A1, hm1, e1⟩ := id O1
        have hv1 := OO.v hv e1
        have m6 : h1.1 (m + 6) = some (.inl (0, 8, .inl (A1 5))) := hm1.2 5 (by decide)
        have m3 : h1.1 (m + 3) = some (.inl (0, 4, .inl (A1 2))) := hm1.2 2 (by decide)
        have m2 : h1.1 (m + 2) = some (.inl (0, 4, .inl (A1 1))) := hm1.2 1 (by decide)
        have hu5 := hv1.2.2.1 u1 hu
        have rq := hv1.2.2.2.2 r1 hr1
        have rr := hv.1.2.2.2.2.2.2 r1 hr1
        obtain ⟨p1, ep⟩ : ∃ p1, p1 = stB S.1 r1 u1 := ⟨_, rfl⟩
        rw [← ep] at pl tb
        rw [← ep, show fI (S.1.1 0) p1 = nI p1 from if_pos pl]
        have k1 : nI (S.1.2.2 8 r1) = 1 ↔ S.1.2.2 8 r1 = 1 := nI_eq (b := 1) (by omega) (by decide)
        refine x_aload_n dX12_does_31 rfl ?_
        refine x_get fX12_29 hm1.1 rfl dX12_does_32 ?_
        refine x_iconst (v := 2) dX12_does_35 (by decide) ?_
        refine x_iload_n dX12_does_36 rfl ?_
        refine x_imul dX12_does_37 ?_
        refine x_iald (2 * r1) m6 (by rw [show (2 : Int32) = nI 2 from rfl, ts_mul]) (by omega) (by decide) dX12_does_38 ?_
        rw [rq.1]
        refine x_iconst (v := 1) dX12_does_39 (by decide) ?_
        refine x_icmp_ne 53 dX12_does_40 (by decide) (fun c40 => ?_) (fun c40 => ?_)
        · refine x_aload_n dX12_does_53 rfl ?_
          refine x_get fX12_13 hm1.1 rfl dX12_does_54 ?_
          refine x_iload_n dX12_does_57 rfl ?_
          refine x_aload_n dX12_does_58 rfl ?_
          refine x_iload_n dX12_does_59 rfl ?_
          refine x_aload_n dX12_does_60 rfl ?_
          refine x_get fX12_13 hm1.1 rfl dX12_does_61 ?_
          refine x_iload_n dX12_does_64 rfl ?_
          refine x_iald u1 m2 rfl (by omega) (by decide) dX12_does_65 ?_
          rw [hu5.1 q8]
          refine x_rdV (c_X12_otherEnd hm1 hv1 pl q8) hm1.1 lkX12_otherEnd sX12_267 dX12_does_66 rfl rfl (Nat.le_of_ble_eq_true rfl) (by decide) ⟨rfl, rfl, by decide, by decide⟩ ?_
          refine x_iast u1 m2 rfl (by omega) (by decide) dX12_does_69 ?_
          refine x_iconst (v := 1) dX12_does_70 (by decide) ?_
          refine x_iret rfl dX12_does_71 ⟨by decide, by decide⟩ ?_
          have kh : ¬ S.1.2.2 8 r1 = 1 := fun z => c40 (k1.mpr z)
          have o8 := ot_lt (c := S.1.2.2 5 u1) hv.1 pl
          refine fnM (V' := mv S.1 u1 (oth S.1 p1 (S.1.2.2 5 u1))) hz (hm1.int (i := 1) rfl) (rp_mv hv1 (mv_ok hv.1 (by omega) (fun z => by omega)) rfl rfl rfl rfl ⟨fun _ => va_up_self _ _ _, fun w e => va_up_ne _ _ e⟩ ⟨hu5.2.1.trans (by rw [onM, onM, if_pos q8, if_pos o8]), fun w e => rfl⟩) (show rpO S s A1 B from OO.o hr e1) (F1.tr (Fr.set (by omega) (by omega))) ?_
          (rw [oDoes, if_pos ⟨c5, c13⟩, iN_nI (by omega), iN_nI (by omega), ← ep, if_pos pl, stG, if_neg kh, ← ep]) <;> rfl
        · refine x_aload_n dX12_does_43 rfl ?_
          refine x_get fX12_16 hm1.1 rfl dX12_does_44 ?_
          refine x_iload_n dX12_does_47 rfl ?_
          refine x_iload_n dX12_does_48 rfl ?_
          refine x_iast u1 m3 rfl (by omega) (by decide) dX12_does_49 ?_
          refine x_goto 70 dX12_does_50 (by decide) ?_
          refine x_iconst (v := 1) dX12_does_70 (by decide) ?_
          refine x_iret rfl dX12_does_71 ⟨by decide, by decide⟩ ?_
          have kh := k1.mp c40
          refine fnM (V' := mv S.1 u1 (8 + p1)) hz (hm1.int (i := 2) rfl) (rp_mv hv1 (mv_ok hv.1 (by omega) (fun z => by rw [Nat.add_sub_cancel_left]; exact tb)) rfl rfl rfl rfl ⟨fun z => by omega, fun w e => rfl⟩ ⟨(va_up_self _ _ _).trans (by rw [onM_ge (by omega), Nat.add_sub_cancel_left]), fun w e => va_up_ne _ _ e⟩) (show rpO S s A1 B from OO.o hr e1) (F1.tr (Fr.set (by omega) (by omega))) ?_
          (rw [oDoes, if_pos ⟨c5, c13⟩, iN_nI (by omega), iN_nI (by omega), ← ep, if_pos pl, stG, if_pos kh, ← ep]) <;> rfl
      · refine x_iconst (v := 0) dX12_does_29 (by decide) ?_
        refine x_iret rfl dX12_does_30 ⟨by decide, by decide⟩ ?_
        have np : ¬ stB S.1 r1 u1 < S.1.1 0 := (fI_lt ok8).mp (Int32.not_le.mp c26)
        have E : oDoes S.1 (nI r1) (nI u1) = (0, S.1) := by rw [oDoes, if_pos ⟨c5, c13⟩, iN_nI (by omega), iN_nI (by omega), if_neg np]
        rw [E]
        exact ⟨rfl, O1.n (S := S) hz hv hr F1⟩
    · refine x_iconst (v := -1) dX12_does_16 (by decide) ?_
      refine x_iret rfl dX12_does_17 ⟨by decide, by decide⟩ ?_
      exact fnV hn (by simp only [oDoes, c5, c13, eq_self, Bool.false_eq_true, reduceCtorEq, and_true, true_and, and_false, false_and, not_true_eq_false, not_false_eq_true, if_true, if_false, ne_eq, or_true, true_or, or_false, false_or])
