theorem tpf_k (T : TT) (ts : TS) (k : Nat) : tpf T ts k 0 = k := rfl
theorem tp_g {T : TT} {ts : TS} (h : (tp6 T ts).2 = true) : (tp1 T ts).2 = true ∧ (tp2 T ts).2 = true ∧ (tp4 T ts).2 = true := by
  have a6 := tkN_t h
  have a4 := tkW_t a6.1
  have b4 := tkN_t a4
  have a2 := tkW_t b4.1
  exact ⟨(tkN_t a2).1, a2, a4⟩
theorem tkI_t {T : TT} {s : TS} {j : Nat} (h : (tkI T s j).2 = true) : s.2 = true := by
  unfold tkI at h
  split at h
  · next q => exact q.1
  · exact h
set_option maxRecDepth 10000 in
set_option maxHeartbeats 2000000 in
theorem wp68 {g : gG} {h h1 : gH} {m : Nat} {V : VS} {s s1 : Nat → Int32} {l l1 : Nat → Int64} {A : Nat → Nat → Int32} {B : Nat → Nat → Int64} {U : VS} {T : TT} (h240 : T.1 ≤ 240) (hT : ∀ i, i < T.1 → T.2 i < 256 ∧ A 6 i = nI (T.2 i)) (hs7 : s 7 = nI T.1) {ts t1 : TS} {x1 : Int32} {k : Nat} {w3 w4 w5 w6 w7 : Option Value} (hm1 : MM h1 m V s1 l1 A B) (fs1 : frS s s1) (fl1 : frL l l1) (F1 : Fr m 27 h h1) (hF : rpF U s A) (k6 : k < 6) (hz1 : TZ T t1 s1 l1) (e2 : tkN T t1 7 (-9) = tp2 T ts) (hn8 : (tp6 T ts).2 = true → U.1 0 < 8) (hA : (tp6 T ts).2 = true → x1 = nI (tpf T ts k 1)) (hB : (tp2 T ts).2 = true → vlN T t1 7 (-9) = tpf T ts k 2) : Ex g mX12_wantPath (gZm g mX12_wantPath (fun o h' => o = none ∧ CLP m V T s l A B (tkE T (tlP T ts U k).1, (tlP T ts U k).2) h h')) 68 [some (.ref m), some (.int (nI k)), some (.int x1), w3, w4, w5, w6, w7] [] h1 0 0 := by
  refine x_aload_n dX12_wantPath_68 rfl ?_
  refine x_bipush (v := 7) dX12_wantPath_69 (by decide) ?_
  refine x_cqV (c_X12_wantNumber hm1 h240 hT ((fs1 7 (by omega)).trans hs7) hz1 (q := 7) (by decide)) hm1.1 lkX12_wantNumber sX12_177 dX12_wantPath_71 rfl rfl (Nat.le_of_ble_eq_true rfl) (by decide) ⟨rfl, rfl, by decide, by decide⟩ ?_
  rintro v2 h2 ⟨s2, l2, hm2, hz2, fa2, fb2, F2, vv2, vg2⟩
  have fs2 := fs1.tr fa2
  have fl2 := fl1.tr fb2
  have mo2 := hm2.1
  rw [e2] at hz2 vg2
  refine x_ist_3 dX12_wantPath_74 (by decide) rfl ?_
  refine x_aload_n dX12_wantPath_75 rfl ?_
  refine x_ldc2 dX12_wantPath_76 kX12_180 ?_
  refine x_cnV (c_X12_wantWord hm2 h240 hT ((fs2 7 (by omega)).trans hs7) hz2 (j := 6) (by decide)) mo2 lkX12_wantWord sX12_182 dX12_wantPath_79 rfl rfl (Nat.le_of_ble_eq_true rfl) (by decide) ⟨rfl, rfl, by decide, by decide⟩ ?_
  rintro h3 ⟨s3, l3, hm3, hz3, fa3, fb3, F3⟩
  have fs3 := fs2.tr fa3
  have fl3 := fl2.tr fb3
  have mo3 := hm3.1
  have hz3 : TZ T (tp3 T ts) s3 l3 := hz3
  refine x_aload_n dX12_wantPath_82 rfl ?_
  refine x_bipush (v := 8) dX12_wantPath_83 (by decide) ?_
  refine x_cqV (c_X12_wantNumber hm3 h240 hT ((fs3 7 (by omega)).trans hs7) hz3 (q := 8) (by decide)) mo3 lkX12_wantNumber sX12_177 dX12_wantPath_85 rfl rfl (Nat.le_of_ble_eq_true rfl) (by decide) ⟨rfl, rfl, by decide, by decide⟩ ?_
  rintro v4 h4 ⟨s4, l4, hm4, hz4, fa4, fb4, F4, vv4, vg4⟩
  have fs4 := fs3.tr fa4
  have fl4 := fl3.tr fb4
  have mo4 := hm4.1
  have hz4 : TZ T (tp4 T ts) s4 l4 := hz4
  refine x_ist_4 dX12_wantPath_88 (by decide) rfl ?_
  refine x_aload_n dX12_wantPath_90 rfl ?_
  refine x_ldc2 dX12_wantPath_91 kX12_186 ?_
  refine x_cnV (c_X12_wantWord hm4 h240 hT ((fs4 7 (by omega)).trans hs7) hz4 (j := 7) (by decide)) mo4 lkX12_wantWord sX12_182 dX12_wantPath_94 rfl rfl (Nat.le_of_ble_eq_true rfl) (by decide) ⟨rfl, rfl, by decide, by decide⟩ ?_
  rintro h5 ⟨s5, l5, hm5, hz5, fa5, fb5, F5⟩
  have fs5 := fs4.tr fa5
  have fl5 := fl4.tr fb5
  have mo5 := hm5.1
  have hz5 : TZ T (tp5 T ts) s5 l5 := hz5
  refine x_aload_n dX12_wantPath_97 rfl ?_
  refine x_bipush (v := 8) dX12_wantPath_98 (by decide) ?_
  refine x_cqV (c_X12_wantNumber hm5 h240 hT ((fs5 7 (by omega)).trans hs7) hz5 (q := 8) (by decide)) mo5 lkX12_wantNumber sX12_177 dX12_wantPath_100 rfl rfl (Nat.le_of_ble_eq_true rfl) (by decide) ⟨rfl, rfl, by decide, by decide⟩ ?_
  rintro v6 h6 ⟨s6, l6, hm6, hz6, fa6, fb6, F6, vv6, vg6⟩
  have fs6 := fs5.tr fa6
  have fl6 := fl5.tr fb6
  have mo6 := hm6.1
  have hz6 : TZ T (tp6 T ts) s6 l6 := hz6
  refine x_ist_5 dX12_wantPath_103 (by decide) rfl ?_
  refine x_aload_n dX12_wantPath_105 rfl ?_
  refine x_get fX12_164 mo6 rfl dX12_wantPath_106 ?_
  rw [hz6.2]
  refine x_if_eq 126 dX12_wantPath_109 (by decide) (fun c109 => ?_) (fun c109 => ?_)
  · refine x_iconst (v := 0) dX12_wantPath_126 (by decide) ?_
    refine x_ist_6 dX12_wantPath_127 (by decide) rfl ?_
    refine x_iload dX12_wantPath_129 rfl ?_
    refine x_if_eq_t 138 dX12_wantPath_131 (by decide) rfl ?_
    have g6 : ¬ (tp6 T ts).2 = true := b2i_0.mp c109
    have Q : tlP T ts U k = (tp6 T ts, U) := if_neg g6
    rw [Q]
    exact wp138_0 (k := k) (tf_ := tpf T ts k) (U := U) (t1 := tp6 T ts) h240 hT hs7 hm6 hz6 fs6 fl6 (((((F1.tr F2).tr F3).tr F4).tr F5).tr F6) (hF.s fs6) (fun z => absurd z g6) (fun z => absurd z g6) rfl (fun z => absurd z g6) (fun z => absurd z g6)
  · have g6 : (tp6 T ts).2 = true := Decidable.not_not.mp (fun z => c109 (b2i_0.mpr z))
    refine x_aload_n dX12_wantPath_112 rfl ?_
    refine x_ldc2 dX12_wantPath_113 kX12_188 ?_
    refine x_rdV (c_X12_isWord hm6 h240 hT ((fs6 7 (by omega)).trans hs7) hz6.1 (j := 8) (by decide)) mo6 lkX12_isWord sX12_150 dX12_wantPath_116 rfl rfl (Nat.le_of_ble_eq_true rfl) (by decide) ⟨rfl, rfl, by decide, by decide⟩ ?_
    refine x_if_eqB 126 dX12_wantPath_119 (by decide) (fun c119 => ?_) (fun c119 => ?_)
    · refine x_iconst (v := 0) dX12_wantPath_126 (by decide) ?_
      refine x_ist_6 dX12_wantPath_127 (by decide) rfl ?_
      refine x_iload dX12_wantPath_129 rfl ?_
      refine x_if_eq_t 138 dX12_wantPath_131 (by decide) rfl ?_
      have Q : tlP T ts U k = (tp6 T ts, stT (stT (adP U (tpf T ts k)) (U.1 0) true) (U.1 0) true) := by rw [tlP, if_pos g6, tkI, if_neg (fun z => c119 z.2), show decide (¬ iw T (tp6 T ts).1 8) = true from decide_eq_true c119]
      rw [Q]
      exact wp138_0 (k := k) (tf_ := tpf T ts k) (U := U) (t1 := tp6 T ts) h240 hT hs7 hm6 hz6 fs6 fl6 (((((F1.tr F2).tr F3).tr F4).tr F5).tr F6) (hF.s fs6) hn8 (fun z => ⟨hA z, (vg2 (tp_g z).2.1).trans (congrArg nI (hB (tp_g z).2.1)), vg4 (tp_g z).2.2, vg6 z⟩) rfl (fun z => ⟨k6, tp_ok k z⟩) (fun _ => rfl)
    · refine x_iconst (v := 1) dX12_wantPath_122 (by decide) ?_
      refine x_goto 127 dX12_wantPath_123 (by decide) ?_
      refine x_ist_6 dX12_wantPath_127 (by decide) rfl ?_
      refine x_iload dX12_wantPath_129 rfl ?_
      refine x_if_eq_f 138 dX12_wantPath_131 (by decide) (by decide) ?_
      refine x_aload_n dX12_wantPath_134 rfl ?_
      refine x_cnV (c_X12_advance hm6 h240 hT ((fs6 7 (by omega)).trans hs7) hz6.1.1.2.2 hz6.1.2.1.2.2) mo6 lkX12_advance sX12_168 dX12_wantPath_135 rfl rfl (Nat.le_of_ble_eq_true rfl) (by decide) ⟨rfl, rfl, by decide, by decide⟩ ?_
      rintro h7 ⟨s7, l7, hm7, hk7, fa7, fb7, F7⟩
      have Q : tlP T ts U k = ((nx T (tp6 T ts).1.2.2, true), stT (stT (adP U (tpf T ts k)) (U.1 0) true) (U.1 0) false) := by rw [tlP, if_pos g6, tkI, if_pos ⟨g6, c119⟩, show decide (¬ iw T (tp6 T ts).1 8) = false from decide_eq_false (fun z => z c119)]
      rw [Q]
      have fz : frS s s7 := fun i hi => (fa7 i (by omega)).trans (fs6 i hi)
      exact wp138_1 (k := k) (tf_ := tpf T ts k) (U := U) (t1 := (nx T (tp6 T ts).1.2.2, true)) h240 hT hs7 hm7 ⟨hk7, (fa7 12 (by omega)).trans (hz6.2.trans (by rw [b2i_t g6]; rfl))⟩ fz (fl6.tr fb7) ((((((F1.tr F2).tr F3).tr F4).tr F5).tr F6).tr F7) (hF.s fz) (fun _ => hn8 g6) (fun _ => (fun z => ⟨hA z, (vg2 (tp_g z).2.1).trans (congrArg nI (hB (tp_g z).2.1)), vg4 (tp_g z).2.2, vg6 z⟩) g6) rfl (fun _ => ⟨k6, tp_ok k g6⟩) (fun _ => rfl)
theorem tkN_b {T : TT} {K : KS} {q : Nat} {u : Int32} : tkN T (K, false) q u = (K, false) := if_neg (fun z => by cases z.1)
theorem tkN_b' {T : TT} {t : TS} {q : Nat} {u : Int32} (h : ¬ t.2 = true) : tkN T t q u = (t.1, false) := if_neg (fun z => h z.1)
theorem tp_g0 {T : TT} {ts : TS} (h : (tp6 T ts).2 = true) : ts.2 = true := (tkN_t (tp_g h).1).1
set_option maxRecDepth 10000 in
set_option maxHeartbeats 2000000 in
theorem wp29 {g : gG} {h h1 : gH} {m : Nat} {V : VS} {s s1 : Nat → Int32} {l l1 : Nat → Int64} {A : Nat → Nat → Int32} {B : Nat → Nat → Int64} {U : VS} {T : TT} (h240 : T.1 ≤ 240) (hT : ∀ i, i < T.1 → T.2 i < 256 ∧ A 6 i = nI (T.2 i)) (hs7 : s 7 = nI T.1) {ts : TS} {k : Nat} {w2 w3 w4 w5 w6 w7 : Option Value} (hm1 : MM h1 m V s1 l1 A B) (fs1 : frS s s1) (fl1 : frL l l1) (F1 : Fr m 27 h h1) (hF : rpF U s A) (k6 : k < 6) (hz1 : TZ T ts s1 l1) (hn8 : ts.2 = true → U.1 0 < 8) : Ex g mX12_wantPath (gZm g mX12_wantPath (fun o h' => o = none ∧ CLP m V T s l A B (tkE T (tlP T ts U k).1, (tlP T ts U k).2) h h')) 29 [some (.ref m), some (.int (nI k)), w2, w3, w4, w5, w6, w7] [] h1 0 0 := by
  refine x_aload_n dX12_wantPath_29 rfl ?_
  refine x_bipush (v := 7) dX12_wantPath_30 (by decide) ?_
  refine x_cqV (c_X12_wantNumber hm1 h240 hT ((fs1 7 (by omega)).trans hs7) hz1 (q := 7) (by decide)) hm1.1 lkX12_wantNumber sX12_177 dX12_wantPath_32 rfl rfl (Nat.le_of_ble_eq_true rfl) (by decide) ⟨rfl, rfl, by decide, by decide⟩ ?_
  rintro v2 h2 ⟨s2, l2, hm2, hz2, fa2, fb2, F2, vv2, vg2⟩
  have fs2 := fs1.tr fa2
  have fl2 := fl1.tr fb2
  have mo2 := hm2.1
  have hz2 : TZ T (tp1 T ts) s2 l2 := hz2
  have hA : (tp6 T ts).2 = true → v2 = nI (tpf T ts k 1) := fun z => vg2 (tp_g z).1
  have fs3 : ∀ x : Int32, frS s (va_up s2 12 x) := fun x i hi => (va_up_ne _ _ (by omega)).trans (fs2 i hi)
  refine x_ist_2 dX12_wantPath_35 (by decide) rfl ?_
  refine x_aload_n dX12_wantPath_36 rfl ?_
  refine x_aload_n dX12_wantPath_37 rfl ?_
  refine x_get fX12_164 mo2 rfl dX12_wantPath_38 ?_
  rw [hz2.2]
  refine x_if_eq 64 dX12_wantPath_41 (by decide) (fun c41 => ?_) (fun c41 => ?_)
  · refine x_iconst (v := 0) dX12_wantPath_64 (by decide) ?_
    refine x_put (fs' := mF m V (va_up s2 12 0) l2) fX12_164 mo2 (Nat.le_of_ble_eq_true rfl) rfl rfl rfl dX12_wantPath_65 ?_
    exact wp68 (k := k) (ts := ts) (t1 := ((tp1 T ts).1, false)) (U := U) h240 hT hs7 hm2.num (fs3 0) fl2 ((F1.tr F2).tr (Fr.set (by omega) (by omega))) hF k6 ⟨hz2.1, va_up_self _ _ _⟩ (by rw [tkN_b]; exact (if_neg (fun z => b2i_0.mp c41 z.1)).symm) (fun z => hn8 (tp_g0 z)) hA (fun z => absurd z (fun y => by rw [tp2, tkN, if_neg (fun z => b2i_0.mp c41 z.1)] at y; cases y))
  · have g2 : (tp1 T ts).2 = true := Decidable.not_not.mp (fun z => c41 (b2i_0.mpr z))
    have va : v2 = nI (vlN T ts 7 (-9)) := vg2 g2
    refine x_aload_n dX12_wantPath_44 rfl ?_
    refine x_get fX12_132 mo2 rfl dX12_wantPath_45 ?_
    rw [hz2.1.2.1.1]
    refine x_iconst (v := 2) dX12_wantPath_48 (by decide) ?_
    refine x_icmp_ne 60 dX12_wantPath_49 (by decide) (fun c49 => ?_) (fun c49 => ?_)
    · refine x_iconst (v := 1) dX12_wantPath_60 (by decide) ?_
      refine x_goto 65 dX12_wantPath_61 (by decide) ?_
      refine x_put (fs' := mF m V (va_up s2 12 1) l2) fX12_164 mo2 (Nat.le_of_ble_eq_true rfl) rfl rfl rfl dX12_wantPath_65 ?_
      exact wp68 (k := k) (ts := ts) (t1 := tp1 T ts) (U := U) h240 hT hs7 hm2.num (fs3 1) fl2 ((F1.tr F2).tr (Fr.set (by omega) (by omega))) hF k6 ⟨hz2.1, (va_up_self _ _ _).trans (by rw [b2i_t g2])⟩ (by show _ = tkN T (tp1 T ts) 7 (nI (vlN T ts 7 (-9))); rw [tkN, tkN, if_neg (fun z => (show ¬ (tp1 T ts).1.1 = 2 from fun y => c49 (by rw [y]; rfl)) z.2.1), if_neg (fun z => (show ¬ (tp1 T ts).1.1 = 2 from fun y => c49 (by rw [y]; rfl)) z.2.1)]) (fun z => hn8 (tp_g0 z)) hA (fun z => absurd z (fun y => by rw [tp2, tkN, if_neg (fun z => (show ¬ (tp1 T ts).1.1 = 2 from fun y => c49 (by rw [y]; rfl)) z.2.1)] at y; cases y))
    · have k2 : (tp1 T ts).1.1 = 2 := nI_eqn (b := 2) (by have := hz2.1.1.1; omega) (by decide) c49
      have vi := vl_in (m := 7) (by decide) hz2.1 (fun i hi => (hT i hi).1) k2
      refine x_aload_n dX12_wantPath_52 rfl ?_
      refine x_get fX12_139 mo2 rfl dX12_wantPath_53 ?_
      refine x_iload_n dX12_wantPath_56 rfl ?_
      refine x_icmp_eq 64 dX12_wantPath_57 (by decide) (fun c57 => ?_) (fun c57 => ?_)
      · refine x_iconst (v := 0) dX12_wantPath_64 (by decide) ?_
        refine x_put (fs' := mF m V (va_up s2 12 0) l2) fX12_164 mo2 (Nat.le_of_ble_eq_true rfl) rfl rfl rfl dX12_wantPath_65 ?_
        exact wp68 (k := k) (ts := ts) (t1 := ((tp1 T ts).1, false)) (U := U) h240 hT hs7 hm2.num (fs3 0) fl2 ((F1.tr F2).tr (Fr.set (by omega) (by omega))) hF k6 ⟨hz2.1, va_up_self _ _ _⟩ (by rw [tkN_b]; exact (if_neg (fun z => z.2.2.2.2 (by rw [← va, ← c57, vi.2.1 z.2.2.1]))).symm) (fun z => hn8 (tp_g0 z)) hA (fun z => absurd z (fun y => by rw [tp2, tkN, if_neg (fun z => z.2.2.2.2 (by rw [← va, ← c57, vi.2.1 z.2.2.1]))] at y; cases y))
      · refine x_iconst (v := 1) dX12_wantPath_60 (by decide) ?_
        refine x_goto 65 dX12_wantPath_61 (by decide) ?_
        refine x_put (fs' := mF m V (va_up s2 12 1) l2) fX12_164 mo2 (Nat.le_of_ble_eq_true rfl) rfl rfl rfl dX12_wantPath_65 ?_
        exact wp68 (k := k) (ts := ts) (t1 := tp1 T ts) (U := U) h240 hT hs7 hm2.num (fs3 1) fl2 ((F1.tr F2).tr (Fr.set (by omega) (by omega))) hF k6 ⟨hz2.1, (va_up_self _ _ _).trans (by rw [b2i_t g2])⟩ (by
          show _ = tkN T (tp1 T ts) 7 (nI (vlN T ts 7 (-9)))
          unfold tkN
          by_cases gd : gdN T (tp1 T ts) 7 (-9)
          · rw [if_pos gd, if_pos ⟨gd.1, gd.2.1, gd.2.2.1, gd.2.2.2.1, fun y => c57 ((vi.2.1 gd.2.2.1).trans (y.trans va.symm))⟩]
          · rw [if_neg gd, if_neg (fun z => gd ⟨z.1, z.2.1, z.2.2.1, z.2.2.2.1, fun y => absurd (y ▸ nI_pos' (n := tv T (tp1 T ts).1) (by omega) : (0 : Int32) ≤ -9) (by decide)⟩)]) (fun z => hn8 (tp_g0 z)) hA (fun z => by
          show _ = vlN T (tp1 T ts) 7 (nI (vlN T ts 7 (-9)))
          have z : (tkN T (tp1 T ts) 7 (nI (vlN T ts 7 (-9)))).2 = true := z
          unfold tkN at z
          split at z
          · next gd => rw [vlN, if_pos ⟨gd.1, gd.2.1, gd.2.2.1, gd.2.2.2.1, fun y => absurd (y ▸ nI_pos' (n := tv T (tp1 T ts).1) (by omega) : (0 : Int32) ≤ -9) (by decide)⟩, vlN, if_pos gd]
          · cases z)
set_option maxRecDepth 10000 in
set_option maxHeartbeats 2000000 in
theorem c_X12_wantPath {g : gG} {h : gH} {m : Nat} {V : VS} {s : Nat → Int32} {l : Nat → Int64} {A : Nat → Nat → Int32} {B : Nat → Nat → Int64} {U : VS} (hm : MM h m V s l A B) {T : TT} (h240 : T.1 ≤ 240) (hT : ∀ i, i < T.1 → T.2 i < 256 ∧ A 6 i = nI (T.2 i)) (hs7 : s 7 = nI T.1) {K : KS} (hk : TKm T K s l) (hF : rpF U s A) {k : Nat} (k6 : k < 6) : Ct g mX12_wantPath [.ref m, .int (nI k)] h none (CLP m V T s l A B (tkE T (tlP T (if U.1 0 < 8 then (nx T K.2.2, true) else (K, false)) U k).1, (tlP T (if U.1 0 < 8 then (nx T K.2.2, true) else (K, false)) U k).2) h) := by
  have mo := hm.1
  have ok8 := hF.1.1.1
  have l8 : (8 : Int32) ≤ nI (U.1 0) ↔ 8 ≤ U.1 0 := nI_leI (a := 8) (by decide) (by omega)
  refine Cn.of (L := [some (.ref m), some (.int (nI k)), none, none, none, none, none, none]) (by decide) (Nat.le_of_ble_eq_true rfl) rfl ?_
  refine x_aload_n dX12_wantPath_0 rfl ?_
  refine x_aload_n dX12_wantPath_1 rfl ?_
  refine x_get fX12_174 mo rfl dX12_wantPath_2 ?_
  rw [hF.2.1.1]
  refine x_bipush (v := 8) dX12_wantPath_5 (by decide) ?_
  refine x_icmp_ge 14 dX12_wantPath_7 (by decide) (fun c7 => ?_) (fun c7 => ?_)
  · refine x_iconst (v := 0) dX12_wantPath_14 (by decide) ?_
    refine x_put (fs' := mF m V (va_up s 12 0) l) fX12_164 mo (Nat.le_of_ble_eq_true rfl) rfl rfl rfl dX12_wantPath_15 ?_
    refine x_aload_n dX12_wantPath_18 rfl ?_
    refine x_get fX12_164 hset_s rfl dX12_wantPath_19 ?_
    refine x_if_eq_t 29 dX12_wantPath_22 (by decide) rfl ?_
    have n8 : ¬ U.1 0 < 8 := by have := l8.mp c7; omega
    rw [if_neg n8]
    exact wp29 (k := k) (U := U) (ts := (K, false)) h240 hT hs7 hm.num (fun i hi => va_up_ne _ _ (by omega)) (fun _ _ => rfl) (Fr.set (by omega) (by omega)) hF k6 ⟨hk, va_up_self _ _ _⟩ (fun z => by cases z)
  · refine x_iconst (v := 1) dX12_wantPath_10 (by decide) ?_
    refine x_goto 15 dX12_wantPath_11 (by decide) ?_
    refine x_put (fs' := mF m V (va_up s 12 1) l) fX12_164 mo (Nat.le_of_ble_eq_true rfl) rfl rfl rfl dX12_wantPath_15 ?_
    refine x_aload_n dX12_wantPath_18 rfl ?_
    refine x_get fX12_164 hset_s rfl dX12_wantPath_19 ?_
    refine x_if_eq_f 29 dX12_wantPath_22 (by decide) (show ¬ (1 : Int32) = 0 by decide) ?_
    have hm1 := hm.num (V' := V) (s' := va_up s 12 1) (l' := l)
    refine x_aload_n dX12_wantPath_25 rfl ?_
    refine x_cnV (c_X12_advance hm1 h240 hT (show va_up s 12 1 7 = nI T.1 from hs7) hk.1.2.2 (show va_up s 12 1 10 = nI K.2.2 from hk.2.1.2.2)) hset_s lkX12_advance sX12_168 dX12_wantPath_26 rfl rfl (Nat.le_of_ble_eq_true rfl) (by decide) ⟨rfl, rfl, by decide, by decide⟩ ?_
    rintro h2 ⟨s2, l2, hm2, hk2, fa2, fb2, F2⟩
    have n8 : U.1 0 < 8 := by have : ¬ 8 ≤ U.1 0 := fun z => c7 (l8.mpr z); omega
    rw [if_pos n8]
    exact wp29 (k := k) (U := U) (ts := (nx T K.2.2, true)) h240 hT hs7 hm2 (fun i hi => (fa2 i (by omega)).trans (va_up_ne _ _ (by omega))) fb2 ((Fr.set (by omega) (by omega)).tr F2) hF k6 ⟨hk2, (fa2 12 (by omega)).trans (va_up_self _ _ _)⟩ (fun _ => n8)
