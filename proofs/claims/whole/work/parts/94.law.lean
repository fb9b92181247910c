theorem isX.wx {h h' : gH} {x : Nat} {S : AS} (hx : isX h x (fun _ => False) S) (hz : x + 50 ≤ h'.2) (e : ∀ a, a < x + 50 → h'.1 a = h.1 a) : isX h' x (fun _ => False) S := by
  have ag : ∀ p n, p + n ≤ x + 50 → agr p n h h' := fun p n hp a h1 h2 => e a (by omega)
  have dd : ∀ a, (fun _ => False) a → (fun _ => False) a ∧ h'.1 a = h.1 a := fun a q => q.elim
  obtain ⟨a1, a2, a3, a4, a5, a6, a7, a8, a9, pt, a10⟩ := id hx
  exact ⟨⟨hz, fun a q => q.elim⟩, (e x (by omega)).trans a2, a3.ag (ag _ _ (by omega)), a4.ag (ag _ _ (by omega)), a5.ag (ag _ _ (by omega)), a6.ag (ag _ _ (by omega)), a7.ag (ag _ _ (by omega)), a8.ag (ag _ _ (by omega)), ⟨a9.1.ag (e _ (by omega)) dd, a9.2.ag (ag _ _ (by omega)) dd⟩, pt, a10.ag (ag _ _ (by omega))⟩
set_option maxRecDepth 10000 in
set_option maxHeartbeats 2000000 in
theorem lw_sw {g : gG} {nm : String} {Z : gZt} {Ls : List (Option Value)} {h : gH} {k n : Nat} {v : Int32} (kd : Ex g (mLw nm) Z 1663 Ls [] h k n) (k0 : Ex g (mLw nm) Z 220 Ls [] h k n) (k1 : Ex g (mLw nm) Z 283 Ls [] h k n) (k2 : Ex g (mLw nm) Z 296 Ls [] h k n) (k3 : Ex g (mLw nm) Z 359 Ls [] h k n) (k4 : Ex g (mLw nm) Z 392 Ls [] h k n) (k5 : Ex g (mLw nm) Z 441 Ls [] h k n) (k6 : Ex g (mLw nm) Z 480 Ls [] h k n) (k7 : Ex g (mLw nm) Z 513 Ls [] h k n) (k8 : Ex g (mLw nm) Z 546 Ls [] h k n) (k9 : Ex g (mLw nm) Z 579 Ls [] h k n) (k10 : Ex g (mLw nm) Z 612 Ls [] h k n) (k11 : Ex g (mLw nm) Z 645 Ls [] h k n) (k12 : Ex g (mLw nm) Z 678 Ls [] h k n) (k13 : Ex g (mLw nm) Z 711 Ls [] h k n) (k14 : Ex g (mLw nm) Z 734 Ls [] h k n) (k15 : Ex g (mLw nm) Z 757 Ls [] h k n) (k16 : Ex g (mLw nm) Z 780 Ls [] h k n) (k17 : Ex g (mLw nm) Z 813 Ls [] h k n) (k18 : Ex g (mLw nm) Z 836 Ls [] h k n) (k19 : Ex g (mLw nm) Z 880 Ls [] h k n) (k20 : Ex g (mLw nm) Z 923 Ls [] h k n) (k21 : Ex g (mLw nm) Z 966 Ls [] h k n) (k22 : Ex g (mLw nm) Z 999 Ls [] h k n) (k23 : Ex g (mLw nm) Z 1053 Ls [] h k n) (k24 : Ex g (mLw nm) Z 1076 Ls [] h k n) (k25 : Ex g (mLw nm) Z 1109 Ls [] h k n) (k26 : Ex g (mLw nm) Z 1142 Ls [] h k n) (k27 : Ex g (mLw nm) Z 1175 Ls [] h k n) (k28 : Ex g (mLw nm) Z 1208 Ls [] h k n) (k29 : Ex g (mLw nm) Z 1231 Ls [] h k n) (k30 : Ex g (mLw nm) Z 1264 Ls [] h k n) (k31 : Ex g (mLw nm) Z 1307 Ls [] h k n) (k32 : Ex g (mLw nm) Z 1320 Ls [] h k n) (k33 : Ex g (mLw nm) Z 1343 Ls [] h k n) (k34 : Ex g (mLw nm) Z 1386 Ls [] h k n) (k35 : Ex g (mLw nm) Z 1429 Ls [] h k n) (k36 : Ex g (mLw nm) Z 1472 Ls [] h k n) (k37 : Ex g (mLw nm) Z 1515 Ls [] h k n) (k38 : Ex g (mLw nm) Z 1548 Ls [] h k n) (k39 : Ex g (mLw nm) Z 1591 Ls [] h k n) (k40 : Ex g (mLw nm) Z 1614 Ls [] h k n) (k41 : Ex g (mLw nm) Z 1637 Ls [] h k n) (k42 : Ex g (mLw nm) Z 1650 Ls [] h k n) : Ex g (mLw nm) Z 33 Ls [.int v] h k n := by
  by_cases hr : v.toInt < 0 ∨ 42 < v.toInt
  · exact x_tableOut 1663 dL_law_33 hr (by decide) kd
  · obtain ⟨j, hj, rfl⟩ : ∃ j, j < 43 ∧ v = nI j := by
      refine ⟨v.toInt.toNat, by omega, ?_⟩
      apply Int32.toInt_inj.mp
      rw [show nI v.toInt.toNat = Int32.ofInt v.toInt by rw [← Int.toNat_of_nonneg (show 0 ≤ v.toInt by omega)]; rfl, Int32.ofInt_toInt]
    match j, hj with
    | 0, _ => exact x_tableIn (off := 187) 220 dL_law_33 (by decide) (by decide) (by decide +kernel) (by decide) k0
    | 1, _ => exact x_tableIn (off := 250) 283 dL_law_33 (by decide) (by decide) (by decide +kernel) (by decide) k1
    | 2, _ => exact x_tableIn (off := 263) 296 dL_law_33 (by decide) (by decide) (by decide +kernel) (by decide) k2
    | 3, _ => exact x_tableIn (off := 326) 359 dL_law_33 (by decide) (by decide) (by decide +kernel) (by decide) k3
    | 4, _ => exact x_tableIn (off := 359) 392 dL_law_33 (by decide) (by decide) (by decide +kernel) (by decide) k4
    | 5, _ => exact x_tableIn (off := 408) 441 dL_law_33 (by decide) (by decide) (by decide +kernel) (by decide) k5
    | 6, _ => exact x_tableIn (off := 447) 480 dL_law_33 (by decide) (by decide) (by decide +kernel) (by decide) k6
    | 7, _ => exact x_tableIn (off := 480) 513 dL_law_33 (by decide) (by decide) (by decide +kernel) (by decide) k7
    | 8, _ => exact x_tableIn (off := 513) 546 dL_law_33 (by decide) (by decide) (by decide +kernel) (by decide) k8
    | 9, _ => exact x_tableIn (off := 546) 579 dL_law_33 (by decide) (by decide) (by decide +kernel) (by decide) k9
    | 10, _ => exact x_tableIn (off := 579) 612 dL_law_33 (by decide) (by decide) (by decide +kernel) (by decide) k10
    | 11, _ => exact x_tableIn (off := 612) 645 dL_law_33 (by decide) (by decide) (by decide +kernel) (by decide) k11
    | 12, _ => exact x_tableIn (off := 645) 678 dL_law_33 (by decide) (by decide) (by decide +kernel) (by decide) k12
    | 13, _ => exact x_tableIn (off := 678) 711 dL_law_33 (by decide) (by decide) (by decide +kernel) (by decide) k13
    | 14, _ => exact x_tableIn (off := 701) 734 dL_law_33 (by decide) (by decide) (by decide +kernel) (by decide) k14
    | 15, _ => exact x_tableIn (off := 724) 757 dL_law_33 (by decide) (by decide) (by decide +kernel) (by decide) k15
    | 16, _ => exact x_tableIn (off := 747) 780 dL_law_33 (by decide) (by decide) (by decide +kernel) (by decide) k16
    | 17, _ => exact x_tableIn (off := 780) 813 dL_law_33 (by decide) (by decide) (by decide +kernel) (by decide) k17
    | 18, _ => exact x_tableIn (off := 803) 836 dL_law_33 (by decide) (by decide) (by decide +kernel) (by decide) k18
    | 19, _ => exact x_tableIn (off := 847) 880 dL_law_33 (by decide) (by decide) (by decide +kernel) (by decide) k19
    | 20, _ => exact x_tableIn (off := 890) 923 dL_law_33 (by decide) (by decide) (by decide +kernel) (by decide) k20
    | 21, _ => exact x_tableIn (off := 933) 966 dL_law_33 (by decide) (by decide) (by decide +kernel) (by decide) k21
    | 22, _ => exact x_tableIn (off := 966) 999 dL_law_33 (by decide) (by decide) (by decide +kernel) (by decide) k22
    | 23, _ => exact x_tableIn (off := 1020) 1053 dL_law_33 (by decide) (by decide) (by decide +kernel) (by decide) k23
    | 24, _ => exact x_tableIn (off := 1043) 1076 dL_law_33 (by decide) (by decide) (by decide +kernel) (by decide) k24
    | 25, _ => exact x_tableIn (off := 1076) 1109 dL_law_33 (by decide) (by decide) (by decide +kernel) (by decide) k25
    | 26, _ => exact x_tableIn (off := 1109) 1142 dL_law_33 (by decide) (by decide) (by decide +kernel) (by decide) k26
    | 27, _ => exact x_tableIn (off := 1142) 1175 dL_law_33 (by decide) (by decide) (by decide +kernel) (by decide) k27
    | 28, _ => exact x_tableIn (off := 1175) 1208 dL_law_33 (by decide) (by decide) (by decide +kernel) (by decide) k28
    | 29, _ => exact x_tableIn (off := 1198) 1231 dL_law_33 (by decide) (by decide) (by decide +kernel) (by decide) k29
    | 30, _ => exact x_tableIn (off := 1231) 1264 dL_law_33 (by decide) (by decide) (by decide +kernel) (by decide) k30
    | 31, _ => exact x_tableIn (off := 1274) 1307 dL_law_33 (by decide) (by decide) (by decide +kernel) (by decide) k31
    | 32, _ => exact x_tableIn (off := 1287) 1320 dL_law_33 (by decide) (by decide) (by decide +kernel) (by decide) k32
    | 33, _ => exact x_tableIn (off := 1310) 1343 dL_law_33 (by decide) (by decide) (by decide +kernel) (by decide) k33
    | 34, _ => exact x_tableIn (off := 1353) 1386 dL_law_33 (by decide) (by decide) (by decide +kernel) (by decide) k34
    | 35, _ => exact x_tableIn (off := 1396) 1429 dL_law_33 (by decide) (by decide) (by decide +kernel) (by decide) k35
    | 36, _ => exact x_tableIn (off := 1439) 1472 dL_law_33 (by decide) (by decide) (by decide +kernel) (by decide) k36
    | 37, _ => exact x_tableIn (off := 1482) 1515 dL_law_33 (by decide) (by decide) (by decide +kernel) (by decide) k37
    | 38, _ => exact x_tableIn (off := 1515) 1548 dL_law_33 (by decide) (by decide) (by decide +kernel) (by decide) k38
    | 39, _ => exact x_tableIn (off := 1558) 1591 dL_law_33 (by decide) (by decide) (by decide +kernel) (by decide) k39
    | 40, _ => exact x_tableIn (off := 1581) 1614 dL_law_33 (by decide) (by decide) (by decide +kernel) (by decide) k40
    | 41, _ => exact x_tableIn (off := 1604) 1637 dL_law_33 (by decide) (by decide) (by decide +kernel) (by decide) k41
    | 42, _ => exact x_tableIn (off := 1617) 1650 dL_law_33 (by decide) (by decide) (by decide +kernel) (by decide) k42
    | j + 43, hj => exact absurd hj (by omega)
theorem lw_cmp {L i : Nat} (hL : L ≤ 384) (hi : i ≤ 390) : nI L - 6 < nI i ↔ L < i + 6 := by
  have e1 : (nI L).toInt = L := Int32.toInt_ofNat_of_lt (by omega)
  have e2 : (nI i).toInt = i := Int32.toInt_ofNat_of_lt (by omega)
  rw [Int32.lt_iff_toInt_lt, Int32.toInt_sub, e1, e2, show (6 : Int32).toInt = 6 from rfl, fb_bmod (by omega) (by omega)]
  omega
set_option maxRecDepth 10000 in
set_option maxHeartbeats 2000000 in
theorem lw_step {g : gG} {nm : String} {b L : Nat} {xs : Nat → Int32} {h : gH} {x i k n : Nat} {S : AS} (hL : L ≤ 384) (hi : i ≤ 390) (hI : LI h x S) (hk : k + 2 ≤ 600000) (hn : n + 42 ≤ 7302250) (kk : i + 6 ≤ L → ∀ h' S', LI h' x S' → Ex g (mLw nm) (lwZ g b L xs) 18 [some (.ref b), some (.ref x), some (.ref (x + 50)), some (.int (nI (i + 6)))] [] h' (k + 2) (n + 42)) : Ex g (mLw nm) (lwZ g b L xs) 18 [some (.ref b), some (.ref x), some (.ref (x + 50)), some (.int (nI i))] [] h k n := by
  refine x_iload_n dL_law_18 rfl ?_
  refine x_aload_n dL_law_19 rfl ?_
  refine x_slen dL_law_20 ?_
  refine x_bipush (v := 6) dL_law_21 (by decide) ?_
  refine x_isub dL_law_23 ?_
  refine x_icmp_gt 1669 dL_law_24 (by decide) (fun c24 => ?_) (fun c24 => ?_)
  · refine x_iconst (v := 1) dL_law_1669 (by decide) ?_
    exact x_lwret (by omega) (by omega) dL_law_1670
  · have hi6 : i + 6 ≤ L := Nat.not_lt.mp (fun z => c24 ((lw_cmp hL hi).mpr z))
    have KK : ∀ h1 S1, LI h1 x S1 → Ex g (mLw nm) (lwZ g b L xs) 1663 [some (.ref b), some (.ref x), some (.ref (x + 50)), some (.int (nI i))] [] h1 (k + 2) (n + 42) := fun h1 S1 hI1 => by
        refine x_inc_3  dL_law_1663 (Nat.le_of_ble_eq_true rfl) (nI_add i 6) rfl ?_
        refine x_goto 18 dL_law_1666 (by decide) ?_
        exact kk hi6 h1 S1 hI1
    refine x_aload_n dL_law_27 rfl ?_
    refine x_iload_n dL_law_28 rfl ?_
    refine x_sld i rfl (by omega) (by omega) dL_law_29 ?_
    refine x_bipush (v := 63) dL_law_30 (by decide) ?_
    refine x_iand dL_law_32 ?_
    exact lw_sw (x_widen (k' := k + 2) (n' := n + 42) (by omega) (by omega) (KK h S hI)) (lc_feed hL hi6 hI hk hn KK) (lc_wood hL hi6 hI hk hn KK) (lc_path hL hi6 hI hk hn KK) (lc_pathOf hL hi6 hI hk hn KK) (lc_open hL hi6 hI hk hn KK) (lc_rain hL hi6 hI hk hn KK) (lc_weigh hL hi6 hI hk hn KK) (lc_walker hL hi6 hI hk hn KK) (lc_walkerOf hL hi6 hI hk hn KK) (lc_walk hL hi6 hI hk hn KK) (lc_on hL hi6 hI hk hn KK) (lc_off hL hi6 hI hk hn KK) (lc_put hL hi6 hI hk hn KK) (lc_night hL hi6 hI hk hn KK) (lc_count hL hi6 hI hk hn KK) (lc_seed hL hi6 hI hk hn KK) (lc_way hL hi6 hI hk hn KK) (lc_reach hL hi6 hI hk hn KK) (lc_odds hL hi6 hI hk hn KK) (lc_held hL hi6 hI hk hn KK) (lc_keepers hL hi6 hI hk hn KK) (lc_home hL hi6 hI hk hn KK) (lc_within hL hi6 hI hk hn KK) (lc_seek hL hi6 hI hk hn KK) (lc_rule hL hi6 hI hk hn KK) (lc_ruleOf hL hi6 hI hk hn KK) (lc_does hL hi6 hI hk hn KK) (lc_goes hL hi6 hI hk hn KK) (lc_prove hL hi6 hI hk hn KK) (lc_row hL hi6 hI hk hn KK) (lc_alterRow hL hi6 hI hk hn KK) (lc_judge hL hi6 hI hk hn KK) (lc_lays hL hi6 hI hk hn KK) (lc_sheet hL hi6 hI hk hn KK) (lc_write hL hi6 hI hk hn KK) (lc_item hL hi6 hI hk hn KK) (lc_shelf hL hi6 hI hk hn KK) (lc_taken hL hi6 hI hk hn KK) (lc_act hL hi6 hI hk hn KK) (lc_trace hL hi6 hI hk hn KK) (lc_many hL hi6 hI hk hn KK) (lc_keep hL hi6 hI hk hn KK) (lc_again hL hi6 hI hk hn KK)
theorem lw_loop {g : gG} {nm : String} {b L : Nat} {xs : Nat → Int32} {x : Nat} (hL : L ≤ 384) : ∀ t i k n h S, i + 6 * t = 390 → k + 2 * t + 2 ≤ 600000 → n + 42 * t + 42 ≤ 7302250 → LI h x S → Ex g (mLw nm) (lwZ g b L xs) 18 [some (.ref b), some (.ref x), some (.ref (x + 50)), some (.int (nI i))] [] h k n := by
  intro t
  induction t with
  | zero => exact fun i k n h S e1 e2 e3 hI => lw_step hL (by omega) hI (by omega) (by omega) (fun z => absurd z (by omega))
  | succ t ih => exact fun i k n h S e1 e2 e3 hI => lw_step hL (by omega) hI (by omega) (by omega) (fun _ h' S' hI' => ih (i + 6) (k + 2) (n + 42) h' S' (by omega) (by omega) (by omega) hI')
set_option maxRecDepth 10000 in
set_option maxHeartbeats 2000000 in
theorem lw_entry {g : gG} {nm : String} {b L : Nat} {xs : Nat → Int32} {h : gH} (hL : L ≤ 384) : Ex g (mLw nm) (lwZ g b L xs) 0 [some (.ref b), none, none, none] [] h 0 0 := by
  refine x_new (k := 0) (n := 0) nL_7 gd11 (Nat.le_of_ble_eq_true rfl) (Nat.le_of_ble_eq_true rfl) dL_law_0 ?_
  refine x_dup dL_law_3 rfl ?_
  refine x_cnI (k' := 50) (n' := 3152) rfl (c_X11_init (q := h.2) hnew_s rfl) lkX11_init sL_9 dL_law_4 rfl rfl (Nat.le_of_ble_eq_true rfl) ⟨Nat.le_of_ble_eq_true rfl, Nat.le_of_ble_eq_true rfl⟩ ⟨rfl, rfl, Nat.le_of_ble_eq_true rfl, Nat.le_of_ble_eq_true rfl⟩ ?_
  rintro h1 ⟨z1, x1, -⟩
  refine x_ast_1 dL_law_7 (Nat.le_of_ble_eq_true rfl) rfl ?_
  refine x_new (k := 50) (n := 3152) nL_10 gd12 (Nat.le_of_ble_eq_true rfl) (Nat.le_of_ble_eq_true rfl) dL_law_8 ?_
  rw [z1]
  refine x_dup dL_law_11 rfl ?_
  refine x_cnI (k' := 77) (n' := 4196) rfl (c_X12_init (q := h.2 + 50) (by rw [← z1]; exact hnew_s) (by rw [← z1]; rfl)) lkX12_init sL_12 dL_law_12 rfl rfl (Nat.le_of_ble_eq_true rfl) ⟨Nat.le_of_ble_eq_true rfl, Nat.le_of_ble_eq_true rfl⟩ ⟨rfl, rfl, Nat.le_of_ble_eq_true rfl, Nat.le_of_ble_eq_true rfl⟩ ?_
  rintro h2 ⟨z2, n2, e2⟩
  refine x_ast_2 dL_law_15 (Nat.le_of_ble_eq_true rfl) rfl ?_
  refine x_iconst (v := 0) dL_law_16 (by decide) ?_
  refine x_ist_3 dL_law_17 (Nat.le_of_ble_eq_true rfl) rfl ?_
  refine lw_loop hL 65 0 77 4196 h2 S0 (by omega) (by omega) (by omega) ⟨fun _ => False, ?_, n2, fun a q => q.elim⟩
  exact x1.wx (by omega) (fun a ha => (e2 a (by omega)).trans (hnew_n (by omega)))
