theorem rp_fw {U : VS} {s s1 : Nat → Int32} {A A' : Nat → Nat → Int32} {c y : Nat} (hv : rpF U s A) (hn : U.1 1 < 4) (hc : c < 8) (hy : y ≤ 99) (e13 : s1 13 = s 13) (e14 : s1 14 = s 14) (e15 : s1 15 = nI (U.1 1 + 1)) (e16 : s1 16 = s 16) (h7 : A' 7 = A 7) (h10 : A' 10 = A 10) (h8 : A' 8 = va_up (A 8) (U.1 1) (nI c)) (h9 : A' 9 = va_up (A 9) (U.1 1) (nI y)) : rpF (adW U c y) s1 A' := by
  refine ⟨adW_ok hv.1 hn hc hy, ⟨e13.trans hv.2.1.1, e14.trans hv.2.1.2.1, e15, e16.trans hv.2.1.2.2.2⟩, fun f p hf hp => ?_, fun w hw => ?_, fun d hd => ?_⟩
  · rw [h7]; simp only [adW]; rw [va_up_ne _ _ (show f ≠ 5 by omega), va_up_ne _ _ (show f ≠ 6 by omega)]; exact hv.2.2.1 f p hf hp
  · have hw : w < U.1 1 + 1 := hw
    rw [h8, h9]
    simp only [adW, va_up_self]
    rw [va_up_ne _ _ (show (6 : Nat) ≠ 5 by decide), va_up_self]
    by_cases e : w = U.1 1
    · subst e; rw [va_up_self, va_up_self, va_up_self, va_up_self]; exact ⟨hc, rfl, rfl⟩
    · rw [va_up_ne _ _ e, va_up_ne _ _ e, va_up_ne _ _ e, va_up_ne _ _ e]; exact hv.2.2.2.1 w (by omega)
  · rw [h10]; simp only [adW]; rw [va_up_ne _ _ (show (7 : Nat) ≠ 5 by decide), va_up_ne _ _ (show (7 : Nat) ≠ 6 by decide)]; exact hv.2.2.2.2 d hd
theorem rp_fg {U : VS} {s : Nat → Int32} {A : Nat → Nat → Int32} {c v : Nat} (hv : rpF U s A) (h9 : v ≤ 9) : rpF (wgV U c v) s (va_up A 10 (va_up (A 10) c (nI v))) := by
  refine ⟨wgV_ok hv.1 h9, hv.2.1, fun f p hf hp => ?_, fun w hw => ?_, fun d hd => ?_⟩
  · simp only [wgV]; rw [va_up_ne _ _ (show (7 : Nat) ≠ 10 by decide), va_up_ne _ _ (show f ≠ 7 by omega)]; exact hv.2.2.1 f p hf hp
  · simp only [wgV]; rw [va_up_ne A _ (show (8 : Nat) ≠ 10 by decide), va_up_ne A _ (show (9 : Nat) ≠ 10 by decide), va_up_ne _ _ (show (5 : Nat) ≠ 7 by decide), va_up_ne _ _ (show (6 : Nat) ≠ 7 by decide)]; exact hv.2.2.2.1 w hw
  · simp only [wgV, va_up_self]
    by_cases e : d = c
    · subst e; rw [va_up_self, va_up_self]
    · rw [va_up_ne _ _ e, va_up_ne _ _ e]; exact hv.2.2.2.2 d hd
theorem rp_fr {U : VS} {s : Nat → Int32} {A : Nat → Nat → Int32} (hv : rpF U s A) : rpF (rnV U) (va_up s 16 1) A := ⟨⟨hv.1.1, hv.1.2.1, (by decide : (1 : Nat) ≤ 1), hv.1.2.2.2⟩, ⟨hv.2.1.1, hv.2.1.2.1, hv.2.1.2.2.1, rfl⟩, hv.2.2⟩
set_option maxRecDepth 10000 in
set_option maxHeartbeats 2000000 in
theorem ww65 {g : gG} {h h1 : gH} {m : Nat} {V : VS} {s s1 : Nat → Int32} {l l1 : Nat → Int64} {A : Nat → Nat → Int32} {B : Nat → Nat → Int64} {U : VS} {T : TT} (h240 : T.1 ≤ 240) (hT : ∀ i, i < T.1 → T.2 i < 256 ∧ A 6 i = nI (T.2 i)) (hs7 : s 7 = nI T.1) {t1 : TS} {x1 x2 : Int32} {c y : Nat} {U' : VS} (hm1 : MM h1 m V s1 l1 A B) (fs1 : frS s s1) (fl1 : frL l l1) (F1 : Fr m 27 h h1) (hF : rpF U s1 A) (hz1 : TZ T t1 s1 l1) (hn4 : t1.2 = true → U.1 1 < 4) (hvv : t1.2 = true → x1 = nI c ∧ x2 = nI y ∧ c < 8 ∧ y ≤ 99) (eU : t1.2 = true → U' = adW U c y) : Ex g mX12_wantWalker (gZm g mX12_wantWalker (fun o h' => o = none ∧ CLP m V T s l A B (tkE T t1, U') h h')) 65 [some (.ref m), some (.int x1), some (.int x2)] [] h1 0 0 := by
  refine x_aload_n dX12_wantWalker_65 rfl ?_
  refine x_cnV (c_X12_wantEnd hm1 h240 hT ((fs1 7 (by omega)).trans hs7) hz1) hm1.1 lkX12_wantEnd sX12_190 dX12_wantWalker_66 rfl rfl (Nat.le_of_ble_eq_true rfl) (by decide) ⟨rfl, rfl, by decide, by decide⟩ ?_
  rintro h2 ⟨s2, l2, hm2, hz2, fa2, fb2, F2⟩
  have fs2 := fs1.tr fa2
  have fl2 := fl1.tr fb2
  have mo2 := hm2.1
  refine x_aload_n dX12_wantWalker_69 rfl ?_
  refine x_get fX12_164 mo2 rfl dX12_wantWalker_70 ?_
  rw [hz2.2]
  refine x_if_eq 106 dX12_wantWalker_73 (by decide) (fun c73 => ?_) (fun c73 => ?_)
  · refine x_vret rfl dX12_wantWalker_106 ⟨by decide, by decide⟩ ?_
    have g8 : ¬ (tkE T t1).2 = true := b2i_0.mp c73
    exact ⟨rfl, s2, l2, A, hm2, hz2, fun z => absurd z g8, fs2.c, fl2, F1.tr F2⟩
  · have g8 : (tkE T t1).2 = true := Decidable.not_not.mp (fun z => c73 (b2i_0.mpr z))
    have g1 : t1.2 = true := tkE_t g8
    have n4 := hn4 g1
    have hF2 := hF.s fa2
    obtain ⟨v1, v2, hc, hy⟩ := hvv g1
    rw [v1, v2]
    have m9 : h2.1 (m + 9) = some (.inl (0, 4, .inl (A 8))) := hm2.2 8 (by decide)
    have m10 : h2.1 (m + 10) = some (.inl (0, 4, .inl (A 9))) := hm2.2 9 (by decide)
    refine x_aload_n dX12_wantWalker_76 rfl ?_
    refine x_get fX12_38 mo2 rfl dX12_wantWalker_77 ?_
    refine x_aload_n dX12_wantWalker_80 rfl ?_
    refine x_get fX12_196 mo2 rfl dX12_wantWalker_81 ?_
    refine x_iload_n dX12_wantWalker_84 rfl ?_
    refine x_iast (U.1 1) m9 hF2.2.1.2.2.1 n4 (by decide) dX12_wantWalker_85 ?_
    refine x_aload_n dX12_wantWalker_86 rfl ?_
    refine x_get fX12_41 ((hset_n (by omega)).trans mo2) rfl dX12_wantWalker_87 ?_
    refine x_aload_n dX12_wantWalker_90 rfl ?_
    refine x_get fX12_196 ((hset_n (by omega)).trans mo2) rfl dX12_wantWalker_91 ?_
    refine x_iload_n dX12_wantWalker_94 rfl ?_
    refine x_iast (U.1 1) ((hset_n (by omega)).trans m10) hF2.2.1.2.2.1 n4 (by decide) dX12_wantWalker_95 ?_
    refine x_aload_n dX12_wantWalker_96 rfl ?_
    refine x_dup dX12_wantWalker_97 rfl ?_
    refine x_get fX12_196 ((hset_n (by omega)).trans ((hset_n (by omega)).trans mo2)) rfl dX12_wantWalker_98 ?_
    refine x_iconst (v := 1) dX12_wantWalker_101 (by decide) ?_
    refine x_iadd dX12_wantWalker_102 ?_
    rw [hF2.2.1.2.2.1, nI_1]
    refine x_put (fs' := mF m V (va_up s2 15 (nI (U.1 1 + 1))) l2) fX12_196 ((hset_n (by omega)).trans ((hset_n (by omega)).trans mo2)) (Nat.le_of_ble_eq_true rfl) rfl rfl rfl dX12_wantWalker_103 ?_
    refine x_vret rfl dX12_wantWalker_106 ⟨by decide, by decide⟩ ?_
    refine ⟨rfl, _, _, _, ((hm2.int (i := 8) rfl).int (i := 9) rfl).num, ⟨⟨hz2.1.1, hz2.1.2.1, hz2.1.2.2.1, hz2.1.2.2.2.1, hz2.1.2.2.2.2.1, hz2.1.2.2.2.2.2⟩, hz2.2⟩, fun _ => ?_, ⟨fun i hi => (va_up_ne _ _ (by omega)).trans (fs2 i (by omega)), fun i hi => (va_up_ne _ _ (by omega)).trans (va_up_ne _ _ (by omega))⟩, fl2, (((F1.tr F2).tr (Fr.set (by omega) (by omega))).tr (Fr.set (by omega) (by omega))).tr (Fr.set (by omega) (by omega))⟩
    rw [eU g1]
    exact rp_fw hF2 n4 hc hy rfl rfl (va_up_self _ _ _) rfl rfl rfl rfl rfl
set_option maxRecDepth 10000 in
set_option maxHeartbeats 2000000 in
theorem ww28 {g : gG} {h h1 : gH} {m : Nat} {V : VS} {s s1 : Nat → Int32} {l l1 : Nat → Int64} {A : Nat → Nat → Int32} {B : Nat → Nat → Int64} {U : VS} {T : TT} (h240 : T.1 ≤ 240) (hT : ∀ i, i < T.1 → T.2 i < 256 ∧ A 6 i = nI (T.2 i)) (hs7 : s 7 = nI T.1) {ts : TS} {w1 w2 : Option Value} (hm1 : MM h1 m V s1 l1 A B) (fs1 : frS s s1) (fl1 : frL l l1) (F1 : Fr m 27 h h1) (hF : rpF U s A) (hz1 : TZ T ts s1 l1) (hn4 : ts.2 = true → U.1 1 < 4) : Ex g mX12_wantWalker (gZm g mX12_wantWalker (fun o h' => o = none ∧ CLP m V T s l A B (tkE T (tlW T ts U).1, (tlW T ts U).2) h h')) 28 [some (.ref m), w1, w2] [] h1 0 0 := by
  refine x_aload_n dX12_wantWalker_28 rfl ?_
  refine x_bipush (v := 7) dX12_wantWalker_29 (by decide) ?_
  refine x_cqV (c_X12_wantNumber hm1 h240 hT ((fs1 7 (by omega)).trans hs7) hz1 (q := 7) (by decide)) hm1.1 lkX12_wantNumber sX12_177 dX12_wantWalker_31 rfl rfl (Nat.le_of_ble_eq_true rfl) (by decide) ⟨rfl, rfl, by decide, by decide⟩ ?_
  rintro v2 h2 ⟨s2, l2, hm2, hz2, fa2, fb2, F2, vv2, vg2⟩
  have fs2 := fs1.tr fa2
  have fl2 := fl1.tr fb2
  have mo2 := hm2.1
  have hz2 : TZ T (tw1 T ts) s2 l2 := hz2
  refine x_ist_1 dX12_wantWalker_34 (by decide) rfl ?_
  refine x_iconst (v := 0) dX12_wantWalker_35 (by decide) ?_
  refine x_ist_2 dX12_wantWalker_36 (by decide) rfl ?_
  refine x_aload_n dX12_wantWalker_37 rfl ?_
  refine x_get fX12_164 mo2 rfl dX12_wantWalker_38 ?_
  rw [hz2.2]
  refine x_if_eq 65 dX12_wantWalker_41 (by decide) (fun c41 => ?_) (fun c41 => ?_)
  · have g2 : ¬ (tw1 T ts).2 = true := b2i_0.mp c41
    have E2 : tw2 T ts = tw1 T ts := if_neg (fun z => g2 z.1)
    have E3 : tw3 T ts = tw1 T ts := (if_neg (fun z => g2 z.1)).trans E2
    have Q : tlW T ts U = (tw1 T ts, U) := by rw [tlW, E3, if_neg g2]
    rw [Q]
    exact ww65 (U := U) (c := 0) (y := 0) h240 hT hs7 hm2 fs2 fl2 (F1.tr F2) (hF.s fs2) hz2 (fun z => absurd z g2) (fun z => absurd z g2) (fun z => absurd z g2)
  · have g2 : (tw1 T ts).2 = true := Decidable.not_not.mp (fun z => c41 (b2i_0.mpr z))
    refine x_aload_n dX12_wantWalker_44 rfl ?_
    refine x_ldc2 dX12_wantWalker_45 kX12_199 ?_
    refine x_rdV (c_X12_isWord hm2 h240 hT ((fs2 7 (by omega)).trans hs7) hz2.1 (j := 10) (by decide)) mo2 lkX12_isWord sX12_150 dX12_wantWalker_48 rfl rfl (Nat.le_of_ble_eq_true rfl) (by decide) ⟨rfl, rfl, by decide, by decide⟩ ?_
    refine x_if_eqB 65 dX12_wantWalker_51 (by decide) (fun c51 => ?_) (fun c51 => ?_)
    · have np : ¬ twp T ts := fun z => c51 z.2
      have E2 : tw2 T ts = tw1 T ts := if_neg np
      have E3 : tw3 T ts = tw1 T ts := (if_neg np).trans E2
      have Q : tlW T ts U = (tw1 T ts, adW U (vlN T ts 7 (-9)) 0) := by rw [tlW, E3, if_pos g2, twy, if_neg np]
      rw [Q]
      exact ww65 (U := U) (c := vlN T ts 7 (-9)) (y := 0) h240 hT hs7 hm2 fs2 fl2 (F1.tr F2) (hF.s fs2) hz2 (fun z => hn4 (tkN_t (s := ts) z).1) (fun z => ⟨vg2 z, rfl, Nat.lt_succ_of_le (tkN_t (s := ts) z).2.1, Nat.zero_le _⟩) (fun _ => rfl)
    · refine x_aload_n dX12_wantWalker_54 rfl ?_
      refine x_cnV (c_X12_advance hm2 h240 hT ((fs2 7 (by omega)).trans hs7) hz2.1.1.2.2 hz2.1.2.1.2.2) mo2 lkX12_advance sX12_168 dX12_wantWalker_55 rfl rfl (Nat.le_of_ble_eq_true rfl) (by decide) ⟨rfl, rfl, by decide, by decide⟩ ?_
      rintro h3 ⟨s3, l3, hm3, hk3, fc3, fb3, F3⟩
      have fs3 : frS s s3 := fun i hi => (fc3 i (by omega)).trans (fs2 i hi)
      have fl3 := fl2.tr fb3
      have hz3 : TZ T (nx T (tw1 T ts).1.2.2, true) s3 l3 := ⟨hk3, (fc3 12 (by omega)).trans (hz2.2.trans (by rw [b2i_t g2]; rfl))⟩
      refine x_aload_n dX12_wantWalker_58 rfl ?_
      refine x_bipush (v := 99) dX12_wantWalker_59 (by decide) ?_
      refine x_cqV (c_X12_wantNumber hm3 h240 hT ((fs3 7 (by omega)).trans hs7) hz3 (q := 99) (by decide)) hm3.1 lkX12_wantNumber sX12_177 dX12_wantWalker_61 rfl rfl (Nat.le_of_ble_eq_true rfl) (by decide) ⟨rfl, rfl, by decide, by decide⟩ ?_
      rintro v4 h4 ⟨s4, l4, hm4, hz4, fa4, fb4, F4, vv4, vg4⟩
      have fs4 := fs3.tr fa4
      have fl4 := fl3.tr fb4
      have mo4 := hm4.1
      refine x_ist_2 dX12_wantWalker_64 (by decide) rfl ?_
      have pp : twp T ts := ⟨g2, c51⟩
      have E2 : tw2 T ts = (nx T (tw1 T ts).1.2.2, true) := if_pos pp
      have E3 : tw3 T ts = tkN T (nx T (tw1 T ts).1.2.2, true) 99 (-9) := by rw [tw3, if_pos pp, E2]
      have Q : tlW T ts U = (tkN T (nx T (tw1 T ts).1.2.2, true) 99 (-9), if (tkN T (nx T (tw1 T ts).1.2.2, true) 99 (-9)).2 = true then adW U (vlN T ts 7 (-9)) (vlN T (nx T (tw1 T ts).1.2.2, true) 99 (-9)) else U) := by rw [tlW, E3, twy, if_pos pp, E2]
      rw [Q]
      exact ww65 (U := U) (c := vlN T ts 7 (-9)) (y := vlN T (nx T (tw1 T ts).1.2.2, true) 99 (-9)) h240 hT hs7 hm4 fs4 fl4 (((F1.tr F2).tr F3).tr F4) (hF.s fs4) hz4 (fun z => hn4 (tkN_t (s := ts) g2).1) (fun z => ⟨vg2 g2, vg4 z, Nat.lt_succ_of_le (tkN_t (s := ts) g2).2.1, (tkN_t z).2.1⟩) (fun z => if_pos z)
set_option maxRecDepth 10000 in
set_option maxHeartbeats 2000000 in
theorem c_X12_wantWalker {g : gG} {h : gH} {m : Nat} {V : VS} {s : Nat → Int32} {l : Nat → Int64} {A : Nat → Nat → Int32} {B : Nat → Nat → Int64} {U : VS} (hm : MM h m V s l A B) {T : TT} (h240 : T.1 ≤ 240) (hT : ∀ i, i < T.1 → T.2 i < 256 ∧ A 6 i = nI (T.2 i)) (hs7 : s 7 = nI T.1) {K : KS} (hk : TKm T K s l) (hF : rpF U s A) : Ct g mX12_wantWalker [.ref m] h none (CLP m V T s l A B (tkE T (tlW T (if U.1 1 < 4 then (nx T K.2.2, true) else (K, false)) U).1, (tlW T (if U.1 1 < 4 then (nx T K.2.2, true) else (K, false)) U).2) h) := by
  have mo := hm.1
  have ok4 := hF.1.1.2.1
  have l4 : (4 : Int32) ≤ nI (U.1 1) ↔ 4 ≤ U.1 1 := nI_leI (a := 4) (by decide) (by omega)
  refine Cn.of (L := [some (.ref m), none, none]) (by decide) (Nat.le_of_ble_eq_true rfl) rfl ?_
  refine x_aload_n dX12_wantWalker_0 rfl ?_
  refine x_aload_n dX12_wantWalker_1 rfl ?_
  refine x_get fX12_196 mo rfl dX12_wantWalker_2 ?_
  rw [hF.2.1.2.2.1]
  refine x_iconst (v := 4) dX12_wantWalker_5 (by decide) ?_
  refine x_icmp_ge 13 dX12_wantWalker_6 (by decide) (fun c6 => ?_) (fun c6 => ?_)
  · refine x_iconst (v := 0) dX12_wantWalker_13 (by decide) ?_
    refine x_put (fs' := mF m V (va_up s 12 0) l) fX12_164 mo (Nat.le_of_ble_eq_true rfl) rfl rfl rfl dX12_wantWalker_14 ?_
    refine x_aload_n dX12_wantWalker_17 rfl ?_
    refine x_get fX12_164 hset_s rfl dX12_wantWalker_18 ?_
    refine x_if_eq_t 28 dX12_wantWalker_21 (by decide) rfl ?_
    have n4 : ¬ U.1 1 < 4 := by have := l4.mp c6; omega
    rw [if_neg n4]
    exact ww28 (U := U) (ts := (K, false)) h240 hT hs7 hm.num (fun i hi => va_up_ne _ _ (by omega)) (fun _ _ => rfl) (Fr.set (by omega) (by omega)) hF ⟨hk, va_up_self _ _ _⟩ (fun z => by cases z)
  · refine x_iconst (v := 1) dX12_wantWalker_9 (by decide) ?_
    refine x_goto 14 dX12_wantWalker_10 (by decide) ?_
    refine x_put (fs' := mF m V (va_up s 12 1) l) fX12_164 mo (Nat.le_of_ble_eq_true rfl) rfl rfl rfl dX12_wantWalker_14 ?_
    refine x_aload_n dX12_wantWalker_17 rfl ?_
    refine x_get fX12_164 hset_s rfl dX12_wantWalker_18 ?_
    refine x_if_eq_f 28 dX12_wantWalker_21 (by decide) (show ¬ (1 : Int32) = 0 by decide) ?_
    have hm1 := hm.num (V' := V) (s' := va_up s 12 1) (l' := l)
    refine x_aload_n dX12_wantWalker_24 rfl ?_
    refine x_cnV (c_X12_advance hm1 h240 hT (show va_up s 12 1 7 = nI T.1 from hs7) hk.1.2.2 (show va_up s 12 1 10 = nI K.2.2 from hk.2.1.2.2)) hset_s lkX12_advance sX12_168 dX12_wantWalker_25 rfl rfl (Nat.le_of_ble_eq_true rfl) (by decide) ⟨rfl, rfl, by decide, by decide⟩ ?_
    rintro h2 ⟨s2, l2, hm2, hk2, fa2, fb2, F2⟩
    have n4 : U.1 1 < 4 := by have : ¬ 4 ≤ U.1 1 := fun z => c6 (l4.mpr z); omega
    rw [if_pos n4]
    exact ww28 (U := U) (ts := (nx T K.2.2, true)) h240 hT hs7 hm2 (fun i hi => (fa2 i (by omega)).trans (va_up_ne _ _ (by omega))) fb2 ((Fr.set (by omega) (by omega)).tr F2) hF ⟨hk2, (fa2 12 (by omega)).trans (va_up_self _ _ _)⟩ (fun _ => n4)
theorem wd_ne : ∀ i, i < 13 → ∀ j, j < 13 → (sk_len.getD i 0 = sk_len.getD j 0 ∧ ∀ t, t < 6 → t < sk_len.getD i 0 → (sk_byt.getD i []).getD t 0 = (sk_byt.getD j []).getD t 0) → i = j := by decide +kernel
theorem iw_u {T : TT} {K : KS} {i j : Nat} (hi : i < 13) (hj : j < 13) (a : iw T K i) (b : iw T K j) : i = j := wd_ne i hi j hj ⟨a.2.1.symm.trans b.2.1, fun t _ ht => (a.2.2 t ht).symm.trans (b.2.2 t (by rw [← b.2.1, a.2.1]; exact ht))⟩
theorem kd_w {T : TT} {K : KS} (h : kdN T K < 6) : iw T K (kdN T K) := of_decide_eq_true (fa_first_yes (fun i => decide (iw T K i)) 6 h)
theorem mkI_lt {n : Nat} (hn : n ≤ 6) : mkI_ n < 0 ↔ ¬ n < 6 := by
  unfold mkI_
  split
  · exact ⟨fun q => absurd q (nI_pos (by omega)), fun q => absurd (by assumption) q⟩
  · exact ⟨fun _ => by assumption, fun _ => by decide⟩
theorem tlP_b {T : TT} {K : KS} {U : VS} {k : Nat} : tlP T (K, false) U k = ((K, false), U) := by
  have e1 : tp1 T (K, false) = (K, false) := tkN_b
  have e2 : tp2 T (K, false) = (K, false) := by rw [tp2, e1, tkN_b]
  have e3 : tp3 T (K, false) = (K, false) := by rw [tp3, e2]; exact if_neg (fun z => by cases z.1)
  have e4 : tp4 T (K, false) = (K, false) := by rw [tp4, e3, tkN_b]
  have e5 : tp5 T (K, false) = (K, false) := by rw [tp5, e4]; exact if_neg (fun z => by cases z.1)
  have e6 : tp6 T (K, false) = (K, false) := by rw [tp6, e5, tkN_b]
  rw [tlP, e6]
  exact if_neg (show ¬ (false = true) by decide)
theorem tlW_b {T : TT} {K : KS} {U : VS} : tlW T (K, false) U = ((K, false), U) := by
  have e1 : tw1 T (K, false) = (K, false) := tkN_b
  have np : ¬ twp T (K, false) := fun z => by rw [twp, e1] at z; cases z.1
  have e2 : tw2 T (K, false) = (K, false) := by rw [tw2, e1]; exact if_neg (fun z => by cases z.1)
  have e3 : tw3 T (K, false) = (K, false) := by rw [tw3, if_neg np, e2]
  rw [tlW, e3]
  exact congrArg (Prod.mk _) (if_neg (show ¬ (false = true) by decide))
set_option maxRecDepth 10000 in
set_option maxHeartbeats 2000000 in
theorem c_X12_wantClause {g : gG} {h : gH} {m : Nat} {V : VS} {s : Nat → Int32} {l : Nat → Int64} {A : Nat → Nat → Int32} {B : Nat → Nat → Int64} {U : VS} (hm : MM h m V s l A B) {T : TT} (h240 : T.1 ≤ 240) (hT : ∀ i, i < T.1 → T.2 i < 256 ∧ A 6 i = nI (T.2 i)) (hs7 : s 7 = nI T.1) {K : KS} (hk : TKm T K s l) (hg : s 12 = 1) (hF : rpF U s A) : Ct g mX12_wantClause [.ref m] h none (CLP m V T s l A B (tlT T K U) h) := by
  have mo := hm.1
  refine Cn.of (L := [some (.ref m), none, none]) (by decide) (Nat.le_of_ble_eq_true rfl) rfl ?_
  refine x_aload_n dX12_wantClause_0 rfl ?_
  refine x_rdV (c_X12_kindHere hm h240 hT hs7 hk) mo lkX12_kindHere sX12_201 dX12_wantClause_1 rfl rfl (Nat.le_of_ble_eq_true rfl) (by decide) ⟨rfl, rfl, by decide, by decide⟩ ?_
  refine x_if_lt 18 dX12_wantClause_4 (by decide) (fun c4 => ?_) (fun c4 => ?_)
  · refine x_aload_n dX12_wantClause_18 rfl ?_
    refine x_ldc2 dX12_wantClause_19 kX12_209 ?_
    refine x_rdV (c_X12_isWord hm h240 hT hs7 hk (j := 9) (by decide)) mo lkX12_isWord sX12_150 dX12_wantClause_22 rfl rfl (Nat.le_of_ble_eq_true rfl) (by decide) ⟨rfl, rfl, by decide, by decide⟩ ?_
    refine x_if_eqB 35 dX12_wantClause_25 (by decide) (fun c25 => ?_) (fun c25 => ?_)
    · refine x_aload_n dX12_wantClause_35 rfl ?_
      refine x_ldc2 dX12_wantClause_36 kX12_214 ?_
      refine x_rdV (c_X12_isWord hm h240 hT hs7 hk (j := 11) (by decide)) mo lkX12_isWord sX12_150 dX12_wantClause_39 rfl rfl (Nat.le_of_ble_eq_true rfl) (by decide) ⟨rfl, rfl, by decide, by decide⟩ ?_
      refine x_if_eqB 61 dX12_wantClause_42 (by decide) (fun c42 => ?_) (fun c42 => ?_)
      · refine x_aload_n dX12_wantClause_61 rfl ?_
        refine x_ldc2 dX12_wantClause_62 kX12_219 ?_
        refine x_rdV (c_X12_isWord hm h240 hT hs7 hk (j := 12) (by decide)) mo lkX12_isWord sX12_150 dX12_wantClause_65 rfl rfl (Nat.le_of_ble_eq_true rfl) (by decide) ⟨rfl, rfl, by decide, by decide⟩ ?_
        refine x_if_eqB 110 dX12_wantClause_68 (by decide) (fun c68 => ?_) (fun c68 => ?_)
        · refine x_aload_n dX12_wantClause_110 rfl ?_
          refine x_iconst (v := 0) dX12_wantClause_111 (by decide) ?_
          refine x_put (fs' := mF m V (va_up s 12 0) l) fX12_164 mo (Nat.le_of_ble_eq_true rfl) rfl rfl rfl dX12_wantClause_112 ?_
          refine x_vret rfl dX12_wantClause_115 ⟨by decide, by decide⟩ ?_
          have n6 := (mkI_lt kdN_le).mp c4
          have Q : tlQ T K U = ((K, false), U) := by rw [tlQ, if_neg (fun z => n6 z.1), if_neg (fun z => c25 z.1), if_neg c42, if_neg c68]
          refine ⟨rfl, ?_⟩
          rw [tlT, Q, show tkE T ((K, false), U).1 = (K, false) from if_neg (fun z => by cases z.1)]
          exact ⟨_, _, _, hm.num, ⟨hk, va_up_self _ _ _⟩, fun z => (by cases z), ⟨fun i hi => va_up_ne _ _ (by omega), fun _ _ => rfl⟩, fun _ _ => rfl, Fr.set (by omega) (by omega)⟩
        · refine x_aload_n dX12_wantClause_71 rfl ?_
          refine x_cnV (c_X12_advance hm h240 hT hs7 hk.1.2.2 hk.2.1.2.2) mo lkX12_advance sX12_168 dX12_wantClause_72 rfl rfl (Nat.le_of_ble_eq_true rfl) (by decide) ⟨rfl, rfl, by decide, by decide⟩ ?_
          rintro h1 ⟨s1, l1, hm1, hk1, fc1, fl1, F1⟩
          have fs1 : frS s s1 := fun i hi => fc1 i (by omega)
          have fl1 : frL l l1 := fl1
          have hz1 : TZ T (nx T K.2.2, true) s1 l1 := ⟨hk1, (fc1 12 (by omega)).trans hg⟩
          refine x_aload_n dX12_wantClause_75 rfl ?_
          refine x_bipush (v := 7) dX12_wantClause_76 (by decide) ?_
          refine x_cqV (c_X12_wantNumber hm1 h240 hT ((fs1 7 (by omega)).trans hs7) hz1 (q := 7) (by decide)) hm1.1 lkX12_wantNumber sX12_177 dX12_wantClause_78 rfl rfl (Nat.le_of_ble_eq_true rfl) (by decide) ⟨rfl, rfl, by decide, by decide⟩ ?_
          rintro v2 h2 ⟨s2, l2, hm2, hz2, fa2, fb2, F2, vv2, vg2⟩
          have fs2 := fs1.tr fa2
          have fl2 := fl1.tr fb2
          have mo2 := hm2.1
          have hz2 : TZ T (tg1 T (nx T K.2.2, true)) s2 l2 := hz2
          refine x_ist_1 dX12_wantClause_81 (by decide) rfl ?_
          refine x_aload_n dX12_wantClause_82 rfl ?_
          refine x_bipush (v := 9) dX12_wantClause_83 (by decide) ?_
          refine x_cqV (c_X12_wantNumber hm2 h240 hT ((fs2 7 (by omega)).trans hs7) hz2 (q := 9) (by decide)) mo2 lkX12_wantNumber sX12_177 dX12_wantClause_85 rfl rfl (Nat.le_of_ble_eq_true rfl) (by decide) ⟨rfl, rfl, by decide, by decide⟩ ?_
          rintro v3 h3 ⟨s3, l3, hm3, hz3, fa3, fb3, F3, vv3, vg3⟩
          have fs3 := fs2.tr fa3
          have fl3 := fl2.tr fb3
          have mo3 := hm3.1
          have hz3 : TZ T (tg2 T (nx T K.2.2, true)) s3 l3 := hz3
          refine x_ist_2 dX12_wantClause_88 (by decide) rfl ?_
          refine x_aload_n dX12_wantClause_89 rfl ?_
          refine x_cnV (c_X12_wantEnd hm3 h240 hT ((fs3 7 (by omega)).trans hs7) hz3) mo3 lkX12_wantEnd sX12_190 dX12_wantClause_90 rfl rfl (Nat.le_of_ble_eq_true rfl) (by decide) ⟨rfl, rfl, by decide, by decide⟩ ?_
          rintro h4 ⟨s4, l4, hm4, hz4, fa4, fb4, F4⟩
          have fs4 := fs3.tr fa4
          have fl4 := fl3.tr fb4
          have mo4 := hm4.1
          refine x_aload_n dX12_wantClause_93 rfl ?_
          refine x_get fX12_164 mo4 rfl dX12_wantClause_94 ?_
          rw [hz4.2]
          refine x_if_eq 107 dX12_wantClause_97 (by decide) (fun c97 => ?_) (fun c97 => ?_)
          · refine x_goto 115 dX12_wantClause_107 (by decide) ?_
            refine x_vret rfl dX12_wantClause_115 ⟨by decide, by decide⟩ ?_
            have n6 := (mkI_lt kdN_le).mp c4
            have Q : tlQ T K U = tlG T (nx T K.2.2, true) U := by rw [tlQ, if_neg (fun z => n6 z.1), if_neg (fun z => c25 z.1), if_neg c42, if_pos c68]
            have g8 : ¬ (tkE T (tg2 T (nx T K.2.2, true))).2 = true := b2i_0.mp c97
            refine ⟨rfl, ?_⟩
            rw [tlT, Q]
            exact ⟨_, _, _, hm4, hz4, fun z => absurd z g8, fs4.c, fl4, ((F1.tr F2).tr F3).tr F4⟩
          · have g8 : (tkE T (tg2 T (nx T K.2.2, true))).2 = true := Decidable.not_not.mp (fun z => c97 (b2i_0.mpr z))
            have g2 := tkE_t g8
            have t2 := tkN_t g2
            have t1 := tkN_t t2.1
            have hF4 := hF.s fs4
            rw [vg2 t2.1, vg3 g2]
            have m11 : h4.1 (m + 11) = some (.inl (0, 8, .inl (A 10))) := hm4.2 10 (by decide)
            refine x_aload_n dX12_wantClause_100 rfl ?_
            refine x_get fX12_44 mo4 rfl dX12_wantClause_101 ?_
            refine x_iload_n dX12_wantClause_104 rfl ?_
            refine x_iload_n dX12_wantClause_105 rfl ?_
            refine x_iast (vlN T (nx T K.2.2, true) 7 (-9)) m11 rfl (Nat.lt_succ_of_le t1.2.1) (by decide) dX12_wantClause_106 ?_
            refine x_goto 115 dX12_wantClause_107 (by decide) ?_
            refine x_vret rfl dX12_wantClause_115 ⟨by decide, by decide⟩ ?_
            have n6 := (mkI_lt kdN_le).mp c4
            have Q : tlQ T K U = (tg2 T (nx T K.2.2, true), wgV U (vlN T (nx T K.2.2, true) 7 (-9)) (vlN T (tg1 T (nx T K.2.2, true)) 9 (-9))) := by rw [tlQ, if_neg (fun z => n6 z.1), if_neg (fun z => c25 z.1), if_neg c42, if_pos c68, tlG, if_pos g2]
            refine ⟨rfl, ?_⟩
            rw [tlT, Q]
            exact ⟨_, _, _, hm4.int (i := 10) rfl, hz4, fun _ => rp_fg hF4 t2.2.1, ⟨fun i hi => fs4 i (by omega), fun i hi => va_up_ne _ _ (by omega)⟩, fl4, (((F1.tr F2).tr F3).tr F4).tr (Fr.set (by omega) (by omega))⟩
      · refine x_aload_n dX12_wantClause_45 rfl ?_
        refine x_cnV (c_X12_advance hm h240 hT hs7 hk.1.2.2 hk.2.1.2.2) mo lkX12_advance sX12_168 dX12_wantClause_46 rfl rfl (Nat.le_of_ble_eq_true rfl) (by decide) ⟨rfl, rfl, by decide, by decide⟩ ?_
        rintro h1 ⟨s1, l1, hm1, hk1, fc1, fl1, F1⟩
        have fs1 : frS s s1 := fun i hi => fc1 i (by omega)
        have fl1 : frL l l1 := fl1
        have hz1 : TZ T (nx T K.2.2, true) s1 l1 := ⟨hk1, (fc1 12 (by omega)).trans hg⟩
        refine x_aload_n dX12_wantClause_49 rfl ?_
        refine x_cnV (c_X12_wantEnd hm1 h240 hT ((fs1 7 (by omega)).trans hs7) hz1) hm1.1 lkX12_wantEnd sX12_190 dX12_wantClause_50 rfl rfl (Nat.le_of_ble_eq_true rfl) (by decide) ⟨rfl, rfl, by decide, by decide⟩ ?_
        rintro h2 ⟨s2, l2, hm2, hz2, fa2, fb2, F2⟩
        have fs2 := fs1.tr fa2
        have fl2 := fl1.tr fb2
        have mo2 := hm2.1
        refine x_aload_n dX12_wantClause_53 rfl ?_
        refine x_iconst (v := 1) dX12_wantClause_54 (by decide) ?_
        refine x_put (fs' := mF m V (va_up s2 16 1) l2) fX12_216 mo2 (Nat.le_of_ble_eq_true rfl) rfl rfl rfl dX12_wantClause_55 ?_
        refine x_goto 115 dX12_wantClause_58 (by decide) ?_
        refine x_vret rfl dX12_wantClause_115 ⟨by decide, by decide⟩ ?_
        have n6 := (mkI_lt kdN_le).mp c4
        have Q : tlQ T K U = ((nx T K.2.2, true), rnV U) := by rw [tlQ, if_neg (fun z => n6 z.1), if_neg (fun z => c25 z.1), if_pos c42]
        refine ⟨rfl, ?_⟩
        rw [tlT, Q]
        exact ⟨_, _, _, hm2.num, ⟨⟨hz2.1.1, hz2.1.2.1, hz2.1.2.2.1, hz2.1.2.2.2.1, hz2.1.2.2.2.2.1, hz2.1.2.2.2.2.2⟩, hz2.2⟩, fun _ => rp_fr (hF.s fs2), ⟨fun i hi => (va_up_ne _ _ (by omega)).trans (fs2 i (by omega)), fun _ _ => rfl⟩, fl2, (F1.tr F2).tr (Fr.set (by omega) (by omega))⟩
    · refine x_aload_n dX12_wantClause_28 rfl ?_
      refine x_cnV (c_X12_wantWalker hm h240 hT hs7 hk hF) mo lkX12_wantWalker sX12_211 dX12_wantClause_29 rfl rfl (Nat.le_of_ble_eq_true rfl) (by decide) ⟨rfl, rfl, by decide, by decide⟩ ?_
      rintro h1 C1
      refine x_goto 115 dX12_wantClause_32 (by decide) ?_
      refine x_vret rfl dX12_wantClause_115 ⟨by decide, by decide⟩ ?_
      have n6 := (mkI_lt kdN_le).mp c4
      have Q : tlW T (if U.1 1 < 4 then (nx T K.2.2, true) else (K, false)) U = tlQ T K U := by
        unfold tlQ
        rw [if_neg (show ¬ (kdN T K < 6 ∧ U.1 0 < 8) from fun z => n6 z.1)]
        by_cases n4 : U.1 1 < 4
        · rw [if_pos n4, if_pos ⟨c25, n4⟩]
        · rw [if_neg n4, if_neg (fun z => n4 z.2), tlW_b, if_neg (fun z => by have := iw_u (by decide) (by decide) c25 z; omega), if_neg (fun z => by have := iw_u (by decide) (by decide) c25 z; omega)]
      rw [Q] at C1
      exact ⟨rfl, C1⟩
  · have k6 : kdN T K < 6 := Decidable.not_not.mp (fun z => c4 ((mkI_lt kdN_le).mpr z))
    refine x_aload_n dX12_wantClause_7 rfl ?_
    refine x_aload_n dX12_wantClause_8 rfl ?_
    refine x_rdV (c_X12_kindHere hm h240 hT hs7 hk) mo lkX12_kindHere sX12_201 dX12_wantClause_9 rfl rfl (Nat.le_of_ble_eq_true rfl) (by decide) ⟨rfl, rfl, by decide, by decide⟩ ?_
    rw [show mkI_ (kdN T K) = nI (kdN T K) from if_pos k6]
    refine x_cnV (c_X12_wantPath hm h240 hT hs7 hk hF k6) mo lkX12_wantPath sX12_205 dX12_wantClause_12 rfl rfl (Nat.le_of_ble_eq_true rfl) (by decide) ⟨rfl, rfl, by decide, by decide⟩ ?_
    rintro h1 C1
    refine x_goto 115 dX12_wantClause_15 (by decide) ?_
    refine x_vret rfl dX12_wantClause_115 ⟨by decide, by decide⟩ ?_
    have Q : tlP T (if U.1 0 < 8 then (nx T K.2.2, true) else (K, false)) U (kdN T K) = tlQ T K U := by
      unfold tlQ
      by_cases n8 : U.1 0 < 8
      · rw [if_pos n8, if_pos ⟨k6, n8⟩]
      · rw [if_neg n8, if_neg (fun z => n8 z.2), tlP_b, if_neg (fun z => by have := iw_u (by omega) (by decide) (kd_w k6) z.1; omega), if_neg (fun z => by have := iw_u (by omega) (by decide) (kd_w k6) z; omega), if_neg (fun z => by have := iw_u (by omega) (by decide) (kd_w k6) z; omega)]
    rw [Q] at C1
    exact ⟨rfl, C1⟩
