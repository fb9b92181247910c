theorem rpO.tr {S : AS} {T' : Nat × (Nat → Int32)} {s s' : Nat → Int32} {A A' : Nat → Nat → Int32} {B : Nat → Nat → Int64} (hr : rpO S s A B) (h7 : s' 7 = s 7) (h18 : s' 18 = s 18) (h24 : s' 24 = s 24) (h : ∀ i, i ≠ 23 → A' i = A i) (hq : rpQ T' s' A') : rpO (trS S T') s' A' B := by
  obtain ⟨⟨⟨k1, k2⟩, k3⟩, ⟨t1, t2, t3⟩, ⟨r1, r2, r3⟩, hH, hL, _⟩ := hr
  refine ⟨⟨⟨k1, h24.trans k2⟩, fun z => ?_⟩, ⟨t1, h7.trans t2, by rw [h 6 (by decide)]; exact t3⟩, ⟨r1, h18.trans r2, by rw [h 15 (by decide)]; exact r3⟩, fun i hi => ?_, fun i hi => ?_, hq⟩
  · have := k3 z
    simp only [h 24 (by decide)]
    exact this
  · rw [h 17 (by decide), h 18 (by decide)]; exact hH i hi
  · rw [h 20 (by decide), h 21 (by decide), h 22 (by decide)]; exact hL i hi
set_option maxRecDepth 10000 in
set_option maxHeartbeats 2000000 in
theorem c_X12_act {g : gG} {h : gH} {m : Nat} {S : AS} (hn : isN h m S) {f cc x : Int32} : Ct g mX12_act [.ref m, .int f, .int cc, .int x] h (some (.int (oAct S f cc x).1)) (Pn m (oAct S f cc x).2 h) := by
  obtain ⟨hz, s, l, A, B, hm, hv, hr⟩ := id hn
  have mo := hm.1
  have m22 : h.1 (m + 22) = some (.inl (0, 4, .inl (A 21))) := hm.2 21 (by decide)
  have ok8 : S.1.1 0 ≤ 8 := hv.1.1.1
  have ok4 : S.1.1 1 ≤ 4 := hv.1.1.2.1
  have okr : S.1.1 2 ≤ 4 := hv.1.1.2.2
  have t256 : S.1.1 3 < 256 := lt256 hv.1.2.1 hv.1.1.1
  have hL := hr.2.2.2.2.1
  refine Cn.of (L := [some (.ref m), some (.int f), some (.int cc), some (.int x), none, none]) (by decide) (Nat.le_of_ble_eq_true rfl) rfl ?_
  refine x_aload_n dX12_act_0 rfl ?_
  refine x_iconst (v := 0) dX12_act_1 (by decide) ?_
  refine x_put (fs' := mF m S.1 (va_up s 22 (nI 0)) l) fX12_377 mo (Nat.le_of_ble_eq_true rfl) rfl rfl rfl dX12_act_2 ?_
  have hm1 := hm.num (V' := S.1) (s' := (va_up s 22 (nI 0))) (l' := l)
  refine x_iload_n dX12_act_5 rfl ?_
  refine x_rdS c_X12_isShelf lkX12_isShelf sX12_362 dX12_act_6 rfl rfl (Nat.le_of_ble_eq_true rfl) (by decide) ⟨rfl, rfl, by decide, by decide⟩ ?_
  refine x_if_eqB 20 dX12_act_9 (by decide) (fun c9 => ?_) (fun c9 => ?_)
  · refine x_iconst (v := -1) dX12_act_20 (by decide) ?_
    refine x_ist_4 dX12_act_21 (by decide) rfl ?_
    refine x_iload_n dX12_act_23 rfl ?_
    refine x_iconst (v := 0) dX12_act_24 (by decide) ?_
    refine x_iconst (v := 3) dX12_act_25 (by decide) ?_
    refine x_rdS (mc_inC 4 (by decide) (by decide)) lkX12_in sX12_93 dX12_act_26 rfl rfl (Nat.le_of_ble_eq_true rfl) (by decide) ⟨rfl, rfl, by decide, by decide⟩ ?_
    refine x_if_eqB 42 dX12_act_29 (by decide) (fun c29 => ?_) (fun c29 => ?_)
    · refine x_iconst (v := 0) dX12_act_42 (by decide) ?_
      refine x_iret rfl dX12_act_43 ⟨by decide, by decide⟩ ?_
      exact fnA (isN.of (S := trS S (0, S.2.2.2.2.2.2.2)) hz hm.num hv (hr.tr (s' := va_up s 22 (nI 0)) rfl rfl rfl (fun _ _ => rfl) ⟨Nat.zero_le _, va_up_self _ _ _, fun i q => absurd q (Nat.not_lt_zero i)⟩) (Fr.set (by omega) (by omega))) (by rw [oAct, if_neg (fun z => c9 z.1)] <;> rfl)
    · refine x_iload dX12_act_32 rfl ?_
      refine x_iconst (v := 0) dX12_act_34 (by decide) ?_
      refine x_iconst (v := 5) dX12_act_35 (by decide) ?_
      refine x_rdS (mc_inC 6 (by decide) (by decide)) lkX12_in sX12_93 dX12_act_36 rfl rfl (Nat.le_of_ble_eq_true rfl) (by decide) ⟨rfl, rfl, by decide, by decide⟩ ?_
      refine x_if_neB_f 44 dX12_act_39 (by decide) (by decide) ?_
      refine x_iconst (v := 0) dX12_act_42 (by decide) ?_
      refine x_iret rfl dX12_act_43 ⟨by decide, by decide⟩ ?_
      exact fnA (isN.of (S := trS S (0, S.2.2.2.2.2.2.2)) hz hm.num hv (hr.tr (s' := va_up s 22 (nI 0)) rfl rfl rfl (fun _ _ => rfl) ⟨Nat.zero_le _, va_up_self _ _ _, fun i q => absurd q (Nat.not_lt_zero i)⟩) (Fr.set (by omega) (by omega))) (by rw [oAct, if_neg (fun z => c9 z.1)] <;> rfl)
  · obtain ⟨f1, hf, rfl⟩ := bl_E (b := 4) c9 (by decide)
    refine x_aload_n dX12_act_12 rfl ?_
    refine x_iload_n dX12_act_13 rfl ?_
    refine x_rdV (c_X12_kindOn hm1 hv hL hf) hm1.1 lkX12_kindOn sX12_371 dX12_act_14 rfl rfl (Nat.le_of_ble_eq_true rfl) (by decide) ⟨rfl, rfl, by decide, by decide⟩ ?_
    refine x_goto 21 dX12_act_17 (by decide) ?_
    refine x_ist_4 dX12_act_21 (by decide) rfl ?_
    refine x_iload_n dX12_act_23 rfl ?_
    refine x_iconst (v := 0) dX12_act_24 (by decide) ?_
    refine x_iconst (v := 3) dX12_act_25 (by decide) ?_
    refine x_rdS (mc_inC 4 (by decide) (by decide)) lkX12_in sX12_93 dX12_act_26 rfl rfl (Nat.le_of_ble_eq_true rfl) (by decide) ⟨rfl, rfl, by decide, by decide⟩ ?_
    refine x_if_eqB 42 dX12_act_29 (by decide) (fun c29 => ?_) (fun c29 => ?_)
    · refine x_iconst (v := 0) dX12_act_42 (by decide) ?_
      refine x_iret rfl dX12_act_43 ⟨by decide, by decide⟩ ?_
      exact fnA (isN.of (S := trS S (0, S.2.2.2.2.2.2.2)) hz hm.num hv (hr.tr (s' := va_up s 22 (nI 0)) rfl rfl rfl (fun _ _ => rfl) ⟨Nat.zero_le _, va_up_self _ _ _, fun i q => absurd q (Nat.not_lt_zero i)⟩) (Fr.set (by omega) (by omega))) (by rw [oAct, if_neg (fun z => c29 z.2.1)] <;> rfl)
    · refine x_iload dX12_act_32 rfl ?_
      refine x_iconst (v := 0) dX12_act_34 (by decide) ?_
      refine x_iconst (v := 5) dX12_act_35 (by decide) ?_
      refine x_rdS (mc_inC 6 (by decide) (by decide)) lkX12_in sX12_93 dX12_act_36 rfl rfl (Nat.le_of_ble_eq_true rfl) (by decide) ⟨rfl, rfl, by decide, by decide⟩ ?_
      refine x_if_neB 44 dX12_act_39 (by decide) (fun c39 => ?_) (fun c39 => ?_)
      · obtain ⟨p1, hpe⟩ : ∃ p1, (S.2.2.2.2.2.1 f1).2.1 = p1 := ⟨_, rfl⟩
        have yk : (S.2.2.2.2.2.1 f1).1 = 1 ∧ p1 < S.1.1 0 ∧ A 21 f1 = nI p1 ∧ kOn S f1 = nI (S.1.2.2 0 p1) := by
          subst hpe
          rcases hL f1 hf with ⟨y1, y2⟩ | ⟨y1, y2, y3, y4⟩ | ⟨y1, y2, y3, y4, y5, y6⟩
          · rw [kOn, if_pos (show (onS' S f1).1 = 0 by rw [onS', if_neg (by omega)]; exact y1)] at c39
            exact absurd c39 (by decide)
          · by_cases pl : (S.2.2.2.2.2.1 f1).2.1 < S.1.1 0
            · exact ⟨y1, pl, y4, by rw [kOn, show onS' S f1 = S.2.2.2.2.2.1 f1 from if_neg (fun z => z.2 pl), if_neg (by omega), if_pos y1]⟩
            · rw [kOn, if_pos (show (onS' S f1).1 = 0 by rw [onS', if_pos ⟨y1, pl⟩])] at c39
              exact absurd c39 (by decide)
          · rw [kOn, show onS' S f1 = S.2.2.2.2.2.1 f1 from if_neg (by omega), if_neg (by omega), if_neg (by omega)] at c39
            exact absurd c39 (by decide)
        obtain ⟨y1, pl, y4, yk⟩ := yk
        obtain ⟨kd, ekd⟩ : ∃ kd, kd = S.1.2.2 0 p1 := ⟨_, rfl⟩
        obtain ⟨st, est⟩ : ∃ st, st = S.1.2.2 3 p1 := ⟨_, rfl⟩
        have k6 : kd < 6 := by rw [ekd]; exact (hv.1.2.2.2.1 p1 pl).1
        have yes : (S.2.2.2.2.2.1 (iN (nI f1))).1 = 1 ∧ (S.2.2.2.2.2.1 (iN (nI f1))).2.1 < S.1.1 0 := by rw [iN_nI (by omega), hpe]; exact ⟨y1, pl⟩
        rw [yk, ← ekd]
        refine x_aload_n dX12_act_44 rfl ?_
        refine x_iload dX12_act_45 rfl ?_
        refine x_put (fs' := mF m S.1 (va_up (va_up s 22 (nI 0)) 19 (nI kd)) l) fX12_386 hm1.1 (Nat.le_of_ble_eq_true rfl) rfl rfl rfl dX12_act_47 ?_
        refine x_aload_n dX12_act_50 rfl ?_
        refine x_aload_n dX12_act_51 rfl ?_
        refine x_get fX12_78 hset_s rfl dX12_act_52 ?_
        refine x_iload_n dX12_act_55 rfl ?_
        refine x_iald f1 ((hset_n (by omega)).trans ((hset_n (by omega)).trans m22)) rfl hf (by decide) dX12_act_56 ?_
        rw [y4]
        refine x_put (fs' := mF m S.1 (va_up (va_up (va_up s 22 (nI 0)) 19 (nI kd)) 20 (nI p1)) l) fX12_383 hset_s (Nat.le_of_ble_eq_true rfl) rfl rfl rfl dX12_act_57 ?_
        have hm3 : MM _ m S.1 (va_up (va_up (va_up s 22 (nI 0)) 19 (nI kd)) 20 (nI p1)) l A B := (hm1.num (V' := S.1) (s' := (va_up (va_up s 22 (nI 0)) 19 (nI kd))) (l' := l)).num
        refine x_aload_n dX12_act_60 rfl ?_
        refine x_aload_n dX12_act_61 rfl ?_
        refine x_aload_n dX12_act_62 rfl ?_
        refine x_get fX12_383 hset_s rfl dX12_act_63 ?_
        refine x_iconst (v := 3) dX12_act_66 (by decide) ?_
        refine x_rdV (c_X12_its (f := 3) hm3 hv pl (by decide)) hm3.1 lkX12_its sX12_106 dX12_act_67 rfl rfl (Nat.le_of_ble_eq_true rfl) (by decide) ⟨rfl, rfl, by decide, by decide⟩ ?_
        rw [← est]
        refine x_put (fs' := mF m S.1 (va_up (va_up (va_up (va_up s 22 (nI 0)) 19 (nI kd)) 20 (nI p1)) 21 (nI st)) l) fX12_398 hm3.1 (Nat.le_of_ble_eq_true rfl) rfl rfl rfl dX12_act_70 ?_
        refine x_aload_n dX12_act_73 rfl ?_
        refine x_iconst (v := 0) dX12_act_74 (by decide) ?_
        refine x_put (fs' := mF m S.1 (va_up (va_up (va_up (va_up (va_up s 22 (nI 0)) 19 (nI kd)) 20 (nI p1)) 21 (nI st)) 23 (nI 0)) l) fX12_404 hset_s (Nat.le_of_ble_eq_true rfl) rfl rfl rfl dX12_act_75 ?_
        have hm5 : MM _ m S.1 (va_up (va_up (va_up (va_up (va_up s 22 (nI 0)) 19 (nI kd)) 20 (nI p1)) 21 (nI st)) 23 (nI 0)) l A B := (hm3.num (V' := S.1) (s' := (va_up (va_up (va_up (va_up s 22 (nI 0)) 19 (nI kd)) 20 (nI p1)) 21 (nI st))) (l' := l)).num
        have U0 : UU m S.1 (va_up (va_up (va_up (va_up (va_up s 22 (nI 0)) 19 (nI kd)) 20 (nI p1)) 21 (nI st)) 23 (nI 0)) l A B (tZ S) _ := ⟨_, _, hm5, ⟨Nat.zero_le _, rfl, rfl, Nat.zero_le _, fun i q => absurd q (Nat.not_lt_zero i)⟩, fun _ _ _ => rfl, fun _ _ => rfl⟩
        have hk4 : (va_up (va_up (va_up (va_up (va_up s 22 (nI 0)) 19 (nI kd)) 20 (nI p1)) 21 (nI st)) 23 (nI 0)) 19 = nI kd := rfl
        have hn4 : (va_up (va_up (va_up (va_up (va_up s 22 (nI 0)) 19 (nI kd)) 20 (nI p1)) 21 (nI st)) 23 (nI 0)) 20 = nI p1 := rfl
        have ha4 : (va_up (va_up (va_up (va_up (va_up s 22 (nI 0)) 19 (nI kd)) 20 (nI p1)) 21 (nI st)) 23 (nI 0)) 21 = nI st := rfl
        have FA : Fr m 27 h _ := (((((Fr.set (by omega) (by omega)).tr (Fr.set (by omega) (by omega))).tr (Fr.set (by omega) (by omega))).tr (Fr.set (by omega) (by omega))).tr (Fr.set (by omega) (by omega)) : Fr m 27 h (hset (hset (hset (hset (hset h m (.inr (12, mF m S.1 (va_up s 22 (nI 0)) l))) m (.inr (12, mF m S.1 (va_up (va_up s 22 (nI 0)) 19 (nI kd)) l))) m (.inr (12, mF m S.1 (va_up (va_up (va_up s 22 (nI 0)) 19 (nI kd)) 20 (nI p1)) l))) m (.inr (12, mF m S.1 (va_up (va_up (va_up (va_up s 22 (nI 0)) 19 (nI kd)) 20 (nI p1)) 21 (nI st)) l))) m (.inr (12, mF m S.1 (va_up (va_up (va_up (va_up (va_up s 22 (nI 0)) 19 (nI kd)) 20 (nI p1)) 21 (nI st)) 23 (nI 0)) l))))
        refine x_iload_n dX12_act_78 rfl ?_
        refine x_if_ne 90 dX12_act_79 (by decide) (fun c79 => ?_) (fun c79 => ?_)
        · refine x_iload_n dX12_act_90 rfl ?_
          refine x_iconst (v := 1) dX12_act_91 (by decide) ?_
          refine x_icmp_ne 103 dX12_act_92 (by decide) (fun c92 => ?_) (fun c92 => ?_)
          · refine x_iload_n dX12_act_103 rfl ?_
            refine x_iconst (v := 2) dX12_act_104 (by decide) ?_
            refine x_icmp_ne 116 dX12_act_105 (by decide) (fun c105 => ?_) (fun c105 => ?_)
            · refine x_aload_n dX12_act_116 rfl ?_
              refine x_iload_n dX12_act_117 rfl ?_
              refine x_cqV (c_X12_tellsIt U0 rfl k6 hk4 hn4 ha4) hm5.1 lkX12_tellsIt sX12_419 dX12_act_118 rfl rfl (Nat.le_of_ble_eq_true rfl) (by decide) ⟨rfl, rfl, by decide, by decide⟩ ?_
              rintro v6 h6 ⟨e6, U6, F6⟩
              obtain ⟨rv, hrv⟩ : ∃ rv : Int32 × TR, rv = tT kd (nI p1) (nI st) x (tZ S) := ⟨_, rfl⟩
              rw [← hrv] at U6 e6
              obtain ⟨s6, A6, hm6, hu6, hs6, hA6⟩ := id U6
              have ET : tR S (nI f1) cc x = rv := by rw [hrv, tR, iN_nI (by omega), hpe, ← ekd, ← est]; rw [tA]; exact (if_neg c79).trans ((if_neg c92).trans (if_neg c105))
              have pq : nI rv.2.2.2 = 0 ↔ rv.2.2.2 = 0 := nI_z (by have := hu6.2.2.2.1; omega)
              have hval : rv.2.2.2 = 0 → rv.1 = v6 := fun z => (e6 z).symm
              refine x_ist_5 dX12_act_121 (by decide) rfl ?_
              refine x_aload_n dX12_act_123 rfl ?_
              refine x_get fX12_404 hm6.1 rfl dX12_act_124 ?_
              rw [hu6.2.2.1]
              refine x_if_eq 135 dX12_act_127 (by decide) (fun c127 => ?_) (fun c127 => ?_)
              · refine x_iload dX12_act_135 rfl ?_
                refine x_iret rfl dX12_act_137 ⟨by decide, by decide⟩ ?_
                have pz := pq.mp c127
                have W6 : rpV S.1 A6 := hv.cg (fun i hi j hj => by rw [hA6 i (by omega)])
                have O6 : rpO (trS S (rv.2.1, rv.2.2.1)) s6 A6 B := hr.tr (hs6 7 (by decide) (by decide)) (hs6 18 (by decide) (by decide)) (hs6 24 (by decide) (by decide)) hA6 ⟨hu6.1, hu6.2.1, hu6.2.2.2.2⟩
                refine fnA (isN.of (S := trS S (rv.2.1, rv.2.2.1)) hz hm6 W6 O6 (FA.tr F6)) ?_
                rw [oAct, if_pos ⟨c9, c29, yes⟩, ET, if_pos pz, hval pz]
              · refine x_bipush (v := -15) dX12_act_130 (by decide) ?_
                refine x_goto 137 dX12_act_132 (by decide) ?_
                refine x_iret rfl dX12_act_137 ⟨by decide, by decide⟩ ?_
                have np : ¬ rv.2.2.2 = 0 := fun z => c127 (pq.mpr z)
                have W6 : rpV S.1 A6 := hv.cg (fun i hi j hj => by rw [hA6 i (by omega)])
                have O6 : rpO (trS S (rv.2.1, rv.2.2.1)) s6 A6 B := hr.tr (hs6 7 (by decide) (by decide)) (hs6 18 (by decide) (by decide)) (hs6 24 (by decide) (by decide)) hA6 ⟨hu6.1, hu6.2.1, hu6.2.2.2.2⟩
                refine fnA (isN.of (S := trS S (rv.2.1, rv.2.2.1)) hz hm6 W6 O6 (FA.tr F6)) ?_
                rw [oAct, if_pos ⟨c9, c29, yes⟩, ET, if_neg np] <;> rfl
            · refine x_aload_n dX12_act_108 rfl ?_
              refine x_iload_n dX12_act_109 rfl ?_
              refine x_cqV (c_X12_sharesIt U0 rfl k6 hk4 hn4 ha4) hm5.1 lkX12_sharesIt sX12_416 dX12_act_110 rfl rfl (Nat.le_of_ble_eq_true rfl) (by decide) ⟨rfl, rfl, by decide, by decide⟩ ?_
              rintro v6 h6 ⟨e6, U6, F6⟩
              obtain ⟨rv, hrv⟩ : ∃ rv : Int32 × TR, rv = tH kd (nI p1) (nI st) x (tZ S) := ⟨_, rfl⟩
              rw [← hrv] at U6 e6
              obtain ⟨s6, A6, hm6, hu6, hs6, hA6⟩ := id U6
              have ET : tR S (nI f1) cc x = rv := by rw [hrv, tR, iN_nI (by omega), hpe, ← ekd, ← est]; rw [tA, c105]; exact (if_neg (by decide)).trans ((if_neg (by decide)).trans (if_pos rfl))
              have pq : nI rv.2.2.2 = 0 ↔ rv.2.2.2 = 0 := nI_z (by have := hu6.2.2.2.1; omega)
              have hval : rv.2.2.2 = 0 → rv.1 = v6 := fun z => (e6 z).symm
              refine x_goto 121 dX12_act_113 (by decide) ?_
              refine x_ist_5 dX12_act_121 (by decide) rfl ?_
              refine x_aload_n dX12_act_123 rfl ?_
              refine x_get fX12_404 hm6.1 rfl dX12_act_124 ?_
              rw [hu6.2.2.1]
              refine x_if_eq 135 dX12_act_127 (by decide) (fun c127 => ?_) (fun c127 => ?_)
              · refine x_iload dX12_act_135 rfl ?_
                refine x_iret rfl dX12_act_137 ⟨by decide, by decide⟩ ?_
                have pz := pq.mp c127
                have W6 : rpV S.1 A6 := hv.cg (fun i hi j hj => by rw [hA6 i (by omega)])
                have O6 : rpO (trS S (rv.2.1, rv.2.2.1)) s6 A6 B := hr.tr (hs6 7 (by decide) (by decide)) (hs6 18 (by decide) (by decide)) (hs6 24 (by decide) (by decide)) hA6 ⟨hu6.1, hu6.2.1, hu6.2.2.2.2⟩
                refine fnA (isN.of (S := trS S (rv.2.1, rv.2.2.1)) hz hm6 W6 O6 (FA.tr F6)) ?_
                rw [oAct, if_pos ⟨c9, c29, yes⟩, ET, if_pos pz, hval pz]
              · refine x_bipush (v := -15) dX12_act_130 (by decide) ?_
                refine x_goto 137 dX12_act_132 (by decide) ?_
                refine x_iret rfl dX12_act_137 ⟨by decide, by decide⟩ ?_
                have np : ¬ rv.2.2.2 = 0 := fun z => c127 (pq.mpr z)
                have W6 : rpV S.1 A6 := hv.cg (fun i hi j hj => by rw [hA6 i (by omega)])
                have O6 : rpO (trS S (rv.2.1, rv.2.2.1)) s6 A6 B := hr.tr (hs6 7 (by decide) (by decide)) (hs6 18 (by decide) (by decide)) (hs6 24 (by decide) (by decide)) hA6 ⟨hu6.1, hu6.2.1, hu6.2.2.2.2⟩
                refine fnA (isN.of (S := trS S (rv.2.1, rv.2.2.1)) hz hm6 W6 O6 (FA.tr F6)) ?_
                rw [oAct, if_pos ⟨c9, c29, yes⟩, ET, if_neg np] <;> rfl
          · refine x_aload_n dX12_act_95 rfl ?_
            refine x_iload_n dX12_act_96 rfl ?_
            refine x_cvV (c_X12_staysIt U0 rfl k6 hk4 hn4 ha4) hm5.1 lkX12_staysIt sX12_410 dX12_act_97 rfl rfl (Nat.le_of_ble_eq_true rfl) (by decide) ⟨rfl, rfl, by decide, by decide⟩ ?_
            rintro h6 ⟨U6, F6⟩
            obtain ⟨rv, hrv⟩ : ∃ rv : Int32 × TR, rv = tS kd (nI p1) (nI st) x (tZ S) := ⟨_, rfl⟩
            rw [← hrv] at U6 ⊢
            obtain ⟨s6, A6, hm6, hu6, hs6, hA6⟩ := id U6
            have ET : tR S (nI f1) cc x = rv := by rw [hrv, tR, iN_nI (by omega), hpe, ← ekd, ← est]; rw [tA, c92]; exact (if_neg (by decide)).trans (if_pos rfl)
            have pq : nI rv.2.2.2 = 0 ↔ rv.2.2.2 = 0 := nI_z (by have := hu6.2.2.2.1; omega)
            have hval : rv.2.2.2 = 0 → rv.1 = rv.1 := fun _ => rfl
            refine x_goto 121 dX12_act_100 (by decide) ?_
            refine x_ist_5 dX12_act_121 (by decide) rfl ?_
            refine x_aload_n dX12_act_123 rfl ?_
            refine x_get fX12_404 hm6.1 rfl dX12_act_124 ?_
            rw [hu6.2.2.1]
            refine x_if_eq 135 dX12_act_127 (by decide) (fun c127 => ?_) (fun c127 => ?_)
            · refine x_iload dX12_act_135 rfl ?_
              refine x_iret rfl dX12_act_137 ⟨by decide, by decide⟩ ?_
              have pz := pq.mp c127
              have W6 : rpV S.1 A6 := hv.cg (fun i hi j hj => by rw [hA6 i (by omega)])
              have O6 : rpO (trS S (rv.2.1, rv.2.2.1)) s6 A6 B := hr.tr (hs6 7 (by decide) (by decide)) (hs6 18 (by decide) (by decide)) (hs6 24 (by decide) (by decide)) hA6 ⟨hu6.1, hu6.2.1, hu6.2.2.2.2⟩
              refine fnA (isN.of (S := trS S (rv.2.1, rv.2.2.1)) hz hm6 W6 O6 (FA.tr F6)) ?_
              rw [oAct, if_pos ⟨c9, c29, yes⟩, ET, if_pos pz, hval pz]
            · refine x_bipush (v := -15) dX12_act_130 (by decide) ?_
              refine x_goto 137 dX12_act_132 (by decide) ?_
              refine x_iret rfl dX12_act_137 ⟨by decide, by decide⟩ ?_
              have np : ¬ rv.2.2.2 = 0 := fun z => c127 (pq.mpr z)
              have W6 : rpV S.1 A6 := hv.cg (fun i hi j hj => by rw [hA6 i (by omega)])
              have O6 : rpO (trS S (rv.2.1, rv.2.2.1)) s6 A6 B := hr.tr (hs6 7 (by decide) (by decide)) (hs6 18 (by decide) (by decide)) (hs6 24 (by decide) (by decide)) hA6 ⟨hu6.1, hu6.2.1, hu6.2.2.2.2⟩
              refine fnA (isN.of (S := trS S (rv.2.1, rv.2.2.1)) hz hm6 W6 O6 (FA.tr F6)) ?_
              rw [oAct, if_pos ⟨c9, c29, yes⟩, ET, if_neg np] <;> rfl
        · refine x_aload_n dX12_act_82 rfl ?_
          refine x_iload_n dX12_act_83 rfl ?_
          refine x_cvV (c_X12_leadsIt U0 rfl k6 hk4 hn4 ha4) hm5.1 lkX12_leadsIt sX12_392 dX12_act_84 rfl rfl (Nat.le_of_ble_eq_true rfl) (by decide) ⟨rfl, rfl, by decide, by decide⟩ ?_
          rintro h6 ⟨U6, F6⟩
          obtain ⟨rv, hrv⟩ : ∃ rv : Int32 × TR, rv = tL kd (nI p1) x (tZ S) := ⟨_, rfl⟩
          rw [← hrv] at U6 ⊢
          obtain ⟨s6, A6, hm6, hu6, hs6, hA6⟩ := id U6
          have ET : tR S (nI f1) cc x = rv := by rw [hrv, tR, iN_nI (by omega), hpe, ← ekd, ← est]; exact if_pos c79
          have pq : nI rv.2.2.2 = 0 ↔ rv.2.2.2 = 0 := nI_z (by have := hu6.2.2.2.1; omega)
          have hval : rv.2.2.2 = 0 → rv.1 = rv.1 := fun _ => rfl
          refine x_goto 121 dX12_act_87 (by decide) ?_
          refine x_ist_5 dX12_act_121 (by decide) rfl ?_
          refine x_aload_n dX12_act_123 rfl ?_
          refine x_get fX12_404 hm6.1 rfl dX12_act_124 ?_
          rw [hu6.2.2.1]
          refine x_if_eq 135 dX12_act_127 (by decide) (fun c127 => ?_) (fun c127 => ?_)
          · refine x_iload dX12_act_135 rfl ?_
            refine x_iret rfl dX12_act_137 ⟨by decide, by decide⟩ ?_
            have pz := pq.mp c127
            have W6 : rpV S.1 A6 := hv.cg (fun i hi j hj => by rw [hA6 i (by omega)])
            have O6 : rpO (trS S (rv.2.1, rv.2.2.1)) s6 A6 B := hr.tr (hs6 7 (by decide) (by decide)) (hs6 18 (by decide) (by decide)) (hs6 24 (by decide) (by decide)) hA6 ⟨hu6.1, hu6.2.1, hu6.2.2.2.2⟩
            refine fnA (isN.of (S := trS S (rv.2.1, rv.2.2.1)) hz hm6 W6 O6 (FA.tr F6)) ?_
            rw [oAct, if_pos ⟨c9, c29, yes⟩, ET, if_pos pz, hval pz]
          · refine x_bipush (v := -15) dX12_act_130 (by decide) ?_
            refine x_goto 137 dX12_act_132 (by decide) ?_
            refine x_iret rfl dX12_act_137 ⟨by decide, by decide⟩ ?_
            have np : ¬ rv.2.2.2 = 0 := fun z => c127 (pq.mpr z)
            have W6 : rpV S.1 A6 := hv.cg (fun i hi j hj => by rw [hA6 i (by omega)])
            have O6 : rpO (trS S (rv.2.1, rv.2.2.1)) s6 A6 B := hr.tr (hs6 7 (by decide) (by decide)) (hs6 18 (by decide) (by decide)) (hs6 24 (by decide) (by decide)) hA6 ⟨hu6.1, hu6.2.1, hu6.2.2.2.2⟩
            refine fnA (isN.of (S := trS S (rv.2.1, rv.2.2.1)) hz hm6 W6 O6 (FA.tr F6)) ?_
            rw [oAct, if_pos ⟨c9, c29, yes⟩, ET, if_neg np] <;> rfl
      · refine x_iconst (v := 0) dX12_act_42 (by decide) ?_
        refine x_iret rfl dX12_act_43 ⟨by decide, by decide⟩ ?_
        exact fnA (isN.of (S := trS S (0, S.2.2.2.2.2.2.2)) hz hm.num hv (hr.tr (s' := va_up s 22 (nI 0)) rfl rfl rfl (fun _ _ => rfl) ⟨Nat.zero_le _, va_up_self _ _ _, fun i q => absurd q (Nat.not_lt_zero i)⟩) (Fr.set (by omega) (by omega))) (by rw [oAct, if_neg (fun z => c39 (by
          obtain ⟨z1, z2, z3, z4⟩ := z
          rw [iN_nI (by omega)] at z3 z4
          rw [kOn, show onS' S f1 = S.2.2.2.2.2.1 f1 from if_neg (fun y => y.2 z4), if_neg (by omega), if_pos z3]
          exact bl_I (b := 6) (hv.1.2.2.2.1 _ z4).1 (by decide)))] <;> rfl)
