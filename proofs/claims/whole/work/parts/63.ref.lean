set_option maxRecDepth 10000 in
set_option maxHeartbeats 2000000 in
theorem c_X12_walkerOf {g : gG} {h : gH} {m : Nat} {S : AS} (hn : isN h m S) {u w : Int32} : Rd g mX12_walkerOf [.ref m, .int u, .int w] h (.int (qWalkerOf S.1 u w)) := by
  obtain ⟨hz, s, l, A, B, hm, hv, hr⟩ := id hn
  have mo := hm.1
  have m2 : h.1 (m + 2) = some (.inl (0, 4, .inl (A 1))) := hm.2 1 (by decide)
  have m3 : h.1 (m + 3) = some (.inl (0, 4, .inl (A 2))) := hm.2 2 (by decide)
  have m4 : h.1 (m + 4) = some (.inl (0, 4, .inl (A 3))) := hm.2 3 (by decide)
  have ok8 : S.1.1 0 ≤ 8 := hv.1.1.1
  have ok4 : S.1.1 1 ≤ 4 := hv.1.1.2.1
  have okr : S.1.1 2 ≤ 4 := hv.1.1.2.2
  have t256 : S.1.1 3 < 256 := lt256 hv.1.2.1 hv.1.1.1
  refine Cn.of (L := [some (.ref m), some (.int u), some (.int w), none]) (by decide) (Nat.le_of_ble_eq_true rfl) rfl ?_
  refine x_aload_n dX12_walkerOf_0 rfl ?_
  refine x_iload_n dX12_walkerOf_1 rfl ?_
  refine x_rdV (c_X12_isWalker hm hv) mo lkX12_isWalker sX12_261 dX12_walkerOf_2 rfl rfl (Nat.le_of_ble_eq_true rfl) (by decide) ⟨rfl, rfl, by decide, by decide⟩ ?_
  refine x_if_eqB 17 dX12_walkerOf_5 (by decide) (fun c5 => ?_) (fun c5 => ?_)
  · refine x_iconst (v := -1) dX12_walkerOf_17 (by decide) ?_
    refine x_iret rfl dX12_walkerOf_18 ⟨by decide, by decide⟩ ?_
    exact ⟨by rw [qWalkerOf, if_neg c5] <;> rfl, rfl⟩
  · refine x_iload_n dX12_walkerOf_8 rfl ?_
    refine x_iconst (v := 0) dX12_walkerOf_9 (by decide) ?_
    refine x_iconst (v := 2) dX12_walkerOf_10 (by decide) ?_
    refine x_rdS mc_in lkX12_in sX12_93 dX12_walkerOf_11 rfl rfl (Nat.le_of_ble_eq_true rfl) (by decide) ⟨rfl, rfl, by decide, by decide⟩ ?_
    refine x_if_neB 19 dX12_walkerOf_14 (by decide) (fun c14 => ?_) (fun c14 => ?_)
    · obtain ⟨u1, hu, rfl⟩ := bl_E c5 (by omega)
      have hu4 : u1 < 4 := by omega
      have hw16 : S.1.2.2 5 u1 < 16 := wl16 hv hu
      have ol := onM_lt hw16
      have hu5 := hv.2.2.1 u1 hu
      refine x_aload_n dX12_walkerOf_19 rfl ?_
      refine x_get fX12_16 mo rfl dX12_walkerOf_20 ?_
      refine x_iload_n dX12_walkerOf_23 rfl ?_
      refine x_iald u1 m3 rfl hu4 (by decide) dX12_walkerOf_24 ?_
      rw [hu5.2.1]
      refine x_if_lt 32 dX12_walkerOf_25 (by decide) (fun c25 => ?_) (fun c25 => ?_)
      · refine x_iconst (v := 0) dX12_walkerOf_32 (by decide) ?_
        refine x_ist_3 dX12_walkerOf_33 (by decide) rfl ?_
        refine x_iload_n dX12_walkerOf_34 rfl ?_
        refine x_iconst (v := 2) dX12_walkerOf_35 (by decide) ?_
        refine x_icmp_ne 48 dX12_walkerOf_36 (by decide) (fun c36 => ?_) (fun c36 => ?_)
        · refine x_iload_n dX12_walkerOf_48 rfl ?_
          refine x_iconst (v := 1) dX12_walkerOf_49 (by decide) ?_
          refine x_icmp_ne 71 dX12_walkerOf_50 (by decide) (fun c50 => ?_) (fun c50 => ?_)
          · refine x_iload_n dX12_walkerOf_71 rfl ?_
            refine x_if_eq_t 80 dX12_walkerOf_72 (by decide) rfl ?_
            refine x_aload_n dX12_walkerOf_80 rfl ?_
            refine x_get fX12_13 mo rfl dX12_walkerOf_81 ?_
            refine x_iload_n dX12_walkerOf_84 rfl ?_
            refine x_iald u1 m2 rfl hu4 (by decide) dX12_walkerOf_85 ?_
            refine x_iret rfl dX12_walkerOf_86 ⟨by decide, by decide⟩ ?_
            have w0 : w = 0 := by
              obtain ⟨w1, hw1, rfl⟩ := ut_E (b := 2) c14 (by decide)
              have n1 : ¬ w1 = 1 := fun z => c50 (by rw [z]; rfl)
              have n2 : ¬ w1 = 2 := fun z => c36 (by rw [z]; rfl)
              have : w1 = 0 := by omega
              rw [this]; rfl
            have q8 := ol.mp c25
            exact ⟨by rw [hu5.1 q8, w0, qWalkerOf, if_pos c5, iN_nI (by omega), if_pos rfl, plI, if_pos q8] <;> rfl, rfl⟩
          · refine x_iload_n dX12_walkerOf_53 rfl ?_
            refine x_if_eq_t 66 dX12_walkerOf_54 (by decide) rfl ?_
            refine x_bipush (v := -9) dX12_walkerOf_66 (by decide) ?_
            refine x_goto 86 dX12_walkerOf_68 (by decide) ?_
            refine x_iret rfl dX12_walkerOf_86 ⟨by decide, by decide⟩ ?_
            have q8 := ol.mp c25
            exact ⟨by rw [c50, qWalkerOf, if_pos c5, iN_nI (by omega), if_neg (by decide), if_pos rfl, onI, if_pos q8] <;> rfl, rfl⟩
        · refine x_aload_n dX12_walkerOf_39 rfl ?_
          refine x_get fX12_19 mo rfl dX12_walkerOf_40 ?_
          refine x_iload_n dX12_walkerOf_43 rfl ?_
          refine x_iald u1 m4 rfl hu4 (by decide) dX12_walkerOf_44 ?_
          refine x_goto 86 dX12_walkerOf_45 (by decide) ?_
          refine x_iret rfl dX12_walkerOf_86 ⟨by decide, by decide⟩ ?_
          exact ⟨by rw [c36, qWalkerOf, if_pos c5, iN_nI (by omega), hu5.2.2] <;> rfl, rfl⟩
      · refine x_iconst (v := 1) dX12_walkerOf_28 (by decide) ?_
        refine x_goto 33 dX12_walkerOf_29 (by decide) ?_
        refine x_ist_3 dX12_walkerOf_33 (by decide) rfl ?_
        refine x_iload_n dX12_walkerOf_34 rfl ?_
        refine x_iconst (v := 2) dX12_walkerOf_35 (by decide) ?_
        refine x_icmp_ne 48 dX12_walkerOf_36 (by decide) (fun c36 => ?_) (fun c36 => ?_)
        · refine x_iload_n dX12_walkerOf_48 rfl ?_
          refine x_iconst (v := 1) dX12_walkerOf_49 (by decide) ?_
          refine x_icmp_ne 71 dX12_walkerOf_50 (by decide) (fun c50 => ?_) (fun c50 => ?_)
          · refine x_iload_n dX12_walkerOf_71 rfl ?_
            refine x_if_eq_f 80 dX12_walkerOf_72 (by decide) (by decide) ?_
            refine x_bipush (v := -9) dX12_walkerOf_75 (by decide) ?_
            refine x_goto 86 dX12_walkerOf_77 (by decide) ?_
            refine x_iret rfl dX12_walkerOf_86 ⟨by decide, by decide⟩ ?_
            have w0 : w = 0 := by
              obtain ⟨w1, hw1, rfl⟩ := ut_E (b := 2) c14 (by decide)
              have n1 : ¬ w1 = 1 := fun z => c50 (by rw [z]; rfl)
              have n2 : ¬ w1 = 2 := fun z => c36 (by rw [z]; rfl)
              have : w1 = 0 := by omega
              rw [this]; rfl
            have q8 : ¬ S.1.2.2 5 u1 < 8 := fun z => c25 (ol.mpr z)
            exact ⟨by rw [w0, qWalkerOf, if_pos c5, iN_nI (by omega), if_pos rfl, plI, if_neg q8] <;> rfl, rfl⟩
          · refine x_iload_n dX12_walkerOf_53 rfl ?_
            refine x_if_eq_f 66 dX12_walkerOf_54 (by decide) (by decide) ?_
            refine x_aload_n dX12_walkerOf_57 rfl ?_
            refine x_get fX12_16 mo rfl dX12_walkerOf_58 ?_
            refine x_iload_n dX12_walkerOf_61 rfl ?_
            refine x_iald u1 m3 rfl hu4 (by decide) dX12_walkerOf_62 ?_
            refine x_goto 86 dX12_walkerOf_63 (by decide) ?_
            refine x_iret rfl dX12_walkerOf_86 ⟨by decide, by decide⟩ ?_
            have q8 : ¬ S.1.2.2 5 u1 < 8 := fun z => c25 (ol.mpr z)
            exact ⟨by rw [hu5.2.1, onM, if_neg q8, c50, qWalkerOf, if_pos c5, iN_nI (by omega), if_neg (by decide), if_pos rfl, onI, if_neg q8] <;> rfl, rfl⟩
        · refine x_aload_n dX12_walkerOf_39 rfl ?_
          refine x_get fX12_19 mo rfl dX12_walkerOf_40 ?_
          refine x_iload_n dX12_walkerOf_43 rfl ?_
          refine x_iald u1 m4 rfl hu4 (by decide) dX12_walkerOf_44 ?_
          refine x_goto 86 dX12_walkerOf_45 (by decide) ?_
          refine x_iret rfl dX12_walkerOf_86 ⟨by decide, by decide⟩ ?_
          exact ⟨by rw [c36, qWalkerOf, if_pos c5, iN_nI (by omega), hu5.2.2] <;> rfl, rfl⟩
    · refine x_iconst (v := -1) dX12_walkerOf_17 (by decide) ?_
      refine x_iret rfl dX12_walkerOf_18 ⟨by decide, by decide⟩ ?_
      exact ⟨by rw [qWalkerOf, if_pos c5, if_neg (show ¬ w = 0 from fun z => c14 (by rw [z]; decide)), if_neg (show ¬ w = 1 from fun z => c14 (by rw [z]; decide)), if_neg (show ¬ w = 2 from fun z => c14 (by rw [z]; decide))] <;> rfl, rfl⟩
set_option maxRecDepth 10000 in
set_option maxHeartbeats 2000000 in
theorem c_X12_canTake {g : gG} {h : gH} {m : Nat} {V : VS} {s : Nat → Int32} {l : Nat → Int64} {A : Nat → Nat → Int32} {B : Nat → Nat → Int64} (hm : MM h m V s l A B) (hv : rpV V A) {u p : Nat} (hu : u < V.1 1) (hp : p < V.1 0) : Rd g mX12_canTake [.ref m, .int (nI u), .int (nI p)] h (.int (b2i (mst V u p))) := by
  have mo := hm.1
  have m2 : h.1 (m + 2) = some (.inl (0, 4, .inl (A 1))) := hm.2 1 (by decide)
  have m3 : h.1 (m + 3) = some (.inl (0, 4, .inl (A 2))) := hm.2 2 (by decide)
  have ok8 : V.1 0 ≤ 8 := hv.1.1.1
  have ok4 : V.1 1 ≤ 4 := hv.1.1.2.1
  have okr : V.1 2 ≤ 4 := hv.1.1.2.2
  have t256 : V.1 3 < 256 := lt256 hv.1.2.1 hv.1.1.1
  have hu5 := hv.2.2.1 u hu
  have ol := onM_lt (wl16 hv hu)
  have pp := hv.1.2.2.2.1 p hp
  refine Cn.of (L := [some (.ref m), some (.int (nI u)), some (.int (nI p))]) (by decide) (Nat.le_of_ble_eq_true rfl) rfl ?_
  refine x_aload_n dX12_canTake_0 rfl ?_
  refine x_iload_n dX12_canTake_1 rfl ?_
  refine x_rdV (c_X12_isThere hm hv (by omega)) mo lkX12_isThere sX12_258 dX12_canTake_2 rfl rfl (Nat.le_of_ble_eq_true rfl) (by decide) ⟨rfl, rfl, by decide, by decide⟩ ?_
  refine x_if_eqB 35 dX12_canTake_5 (by decide) (fun c5 => ?_) (fun c5 => ?_)
  · refine x_iconst (v := 0) dX12_canTake_35 (by decide) ?_
    refine x_zret rfl dX12_canTake_36 ⟨by decide, by decide⟩ rfl ?_
    exact ⟨by rw [b2i_f (fun z => c5 z.1)], rfl⟩
  · refine x_aload_n dX12_canTake_8 rfl ?_
    refine x_get fX12_16 mo rfl dX12_canTake_9 ?_
    refine x_iload_n dX12_canTake_12 rfl ?_
    refine x_iald u m3 rfl (by omega) (by decide) dX12_canTake_13 ?_
    rw [hu5.2.1]
    refine x_if_ge 35 dX12_canTake_14 (by decide) (fun c14 => ?_) (fun c14 => ?_)
    · refine x_iconst (v := 0) dX12_canTake_35 (by decide) ?_
      refine x_zret rfl dX12_canTake_36 ⟨by decide, by decide⟩ rfl ?_
      exact ⟨by rw [b2i_f (fun z => absurd (ol.mpr (by have := z.2; omega)) (Int32.not_lt.mpr c14))], rfl⟩
    · refine x_aload_n dX12_canTake_17 rfl ?_
      refine x_iload_n dX12_canTake_18 rfl ?_
      refine x_aload_n dX12_canTake_19 rfl ?_
      refine x_get fX12_13 mo rfl dX12_canTake_20 ?_
      refine x_iload_n dX12_canTake_23 rfl ?_
      refine x_iald u m2 rfl (by omega) (by decide) dX12_canTake_24 ?_
      have q8 := ol.mp (Int32.not_le.mp c14)
      rw [hu5.1 q8]
      refine x_rdV (c_X12_isEnd hm hv hp q8) mo lkX12_isEnd sX12_236 dX12_canTake_25 rfl rfl (Nat.le_of_ble_eq_true rfl) (by decide) ⟨rfl, rfl, by decide, by decide⟩ ?_
      refine x_if_eqB 35 dX12_canTake_28 (by decide) (fun c28 => ?_) (fun c28 => ?_)
      · refine x_iconst (v := 0) dX12_canTake_35 (by decide) ?_
        refine x_zret rfl dX12_canTake_36 ⟨by decide, by decide⟩ rfl ?_
        exact ⟨by rw [b2i_f (fun z => c28 (z.2.elim (fun y => .inl y.symm) (fun y => .inr y.symm)))], rfl⟩
      · refine x_iconst (v := 1) dX12_canTake_31 (by decide) ?_
        refine x_goto 36 dX12_canTake_32 (by decide) ?_
        refine x_zret rfl dX12_canTake_36 ⟨by decide, by decide⟩ rfl ?_
        exact ⟨by rw [b2i_t ⟨c5, c28.elim (fun y => .inl y.symm) (fun y => .inr y.symm)⟩], rfl⟩
theorem mst8 {V : VS} {u p : Nat} (hv : okV V) (hp : p < V.1 0) (h : mst V u p) : V.2.2 5 u < 8 := by have := hv.2.2.2.1 p hp; have := h.2; omega
theorem ot_lt {V : VS} {p c : Nat} (hv : okV V) (hp : p < V.1 0) : oth V p c < 8 := by unfold oth; have := hv.2.2.2.1 p hp; split <;> omega
set_option maxRecDepth 10000 in
set_option maxHeartbeats 2000000 in
theorem c_X12_walk {g : gG} {h : gH} {m : Nat} {S : AS} (hn : isN h m S) {u p : Int32} : Ct g mX12_walk [.ref m, .int u, .int p] h (some (.int (oWalk S.1 u p).1)) (Pn m ((oWalk S.1 u p).2, S.2) h) := by
  obtain ⟨hz, s, l, A, B, hm, hv, hr⟩ := id hn
  have mo := hm.1
  have m2 : h.1 (m + 2) = some (.inl (0, 4, .inl (A 1))) := hm.2 1 (by decide)
  have m3 : h.1 (m + 3) = some (.inl (0, 4, .inl (A 2))) := hm.2 2 (by decide)
  have ok8 : S.1.1 0 ≤ 8 := hv.1.1.1
  have ok4 : S.1.1 1 ≤ 4 := hv.1.1.2.1
  have okr : S.1.1 2 ≤ 4 := hv.1.1.2.2
  have t256 : S.1.1 3 < 256 := lt256 hv.1.2.1 hv.1.1.1
  refine Cn.of (L := [some (.ref m), some (.int u), some (.int p)]) (by decide) (Nat.le_of_ble_eq_true rfl) rfl ?_
  refine x_aload_n dX12_walk_0 rfl ?_
  refine x_iload_n dX12_walk_1 rfl ?_
  refine x_rdV (c_X12_isWalker hm hv) mo lkX12_isWalker sX12_261 dX12_walk_2 rfl rfl (Nat.le_of_ble_eq_true rfl) (by decide) ⟨rfl, rfl, by decide, by decide⟩ ?_
  refine x_if_eqB 16 dX12_walk_5 (by decide) (fun c5 => ?_) (fun c5 => ?_)
  · refine x_iconst (v := -1) dX12_walk_16 (by decide) ?_
    refine x_iret rfl dX12_walk_17 ⟨by decide, by decide⟩ ?_
    exact fnV hn (by simp only [oWalk, c5, eq_self, Bool.false_eq_true, reduceCtorEq, and_true, true_and, and_false, false_and, not_true_eq_false, not_false_eq_true, if_true, if_false, ne_eq, or_true, true_or, or_false, false_or])
  · refine x_aload_n dX12_walk_8 rfl ?_
    refine x_iload_n dX12_walk_9 rfl ?_
    refine x_rdV (c_X12_isPath hm hv) mo lkX12_isPath sX12_246 dX12_walk_10 rfl rfl (Nat.le_of_ble_eq_true rfl) (by decide) ⟨rfl, rfl, by decide, by decide⟩ ?_
    refine x_if_neB 18 dX12_walk_13 (by decide) (fun c13 => ?_) (fun c13 => ?_)
    · obtain ⟨u1, hu, rfl⟩ := bl_E c5 (by omega)
      obtain ⟨p1, hp, rfl⟩ := bl_E c13 (by omega)
      have hu4 : u1 < 4 := by omega
      have hp8 : p1 < 8 := by omega
      have pp := hv.1.2.2.2.1 p1 hp
      have hw16 : S.1.2.2 5 u1 < 16 := wl16 hv hu
      have ol := onM_lt hw16
      have hu5 := hv.2.2.1 u1 hu
      refine x_aload_n dX12_walk_18 rfl ?_
      refine x_iload_n dX12_walk_19 rfl ?_
      refine x_iload_n dX12_walk_20 rfl ?_
      refine x_rdV (c_X12_canTake hm hv hu hp) mo lkX12_canTake sX12_264 dX12_walk_21 rfl rfl (Nat.le_of_ble_eq_true rfl) (by decide) ⟨rfl, rfl, by decide, by decide⟩ ?_
      refine x_if_neB 30 dX12_walk_24 (by decide) (fun c24 => ?_) (fun c24 => ?_)
      · refine x_aload_n dX12_walk_30 rfl ?_
        refine x_get fX12_13 mo rfl dX12_walk_31 ?_
        refine x_iload_n dX12_walk_34 rfl ?_
        refine x_aload_n dX12_walk_35 rfl ?_
        refine x_iload_n dX12_walk_36 rfl ?_
        refine x_aload_n dX12_walk_37 rfl ?_
        refine x_get fX12_13 mo rfl dX12_walk_38 ?_
        refine x_iload_n dX12_walk_41 rfl ?_
        refine x_iald u1 m2 rfl hu4 (by decide) dX12_walk_42 ?_
        have q8 := mst8 hv.1 hp c24
        rw [hu5.1 q8]
        refine x_rdV (c_X12_otherEnd hm hv hp q8) mo lkX12_otherEnd sX12_267 dX12_walk_43 rfl rfl (Nat.le_of_ble_eq_true rfl) (by decide) ⟨rfl, rfl, by decide, by decide⟩ ?_
        refine x_iast u1 m2 rfl hu4 (by decide) dX12_walk_46 ?_
        refine x_aload_n dX12_walk_47 rfl ?_
        refine x_get fX12_13 ((hset_n (by omega)).trans mo) rfl dX12_walk_48 ?_
        refine x_iload_n dX12_walk_51 rfl ?_
        refine x_iald u1 hset_s rfl hu4 (by decide) dX12_walk_52 ?_
        refine x_iret rfl dX12_walk_53 ⟨by decide, by decide⟩ ?_
        have o8 := ot_lt (c := S.1.2.2 5 u1) hv.1 hp
        refine fnM (V' := mv S.1 u1 (oth S.1 p1 (S.1.2.2 5 u1))) hz (hm.int (i := 1) rfl) (rp_mv hv (mv_ok hv.1 (by omega) (fun z => by omega)) rfl rfl rfl rfl ⟨fun _ => va_up_self _ _ _, fun w e => va_up_ne _ _ e⟩ ⟨hu5.2.1.trans (by rw [onM, onM, if_pos q8, if_pos o8]), fun w e => rfl⟩) hr (Fr.set (by omega) (by omega)) ?_
        rw [oWalk, if_pos ⟨c5, c13⟩, iN_nI (by omega), iN_nI (by omega), if_pos c24, va_up_self]
      · refine x_bipush (v := -4) dX12_walk_27 (by decide) ?_
        refine x_iret rfl dX12_walk_29 ⟨by decide, by decide⟩ ?_
        exact fnV hn (by rw [oWalk, if_pos ⟨c5, c13⟩, iN_nI (by omega), iN_nI (by omega), if_neg c24] <;> rfl)
    · refine x_iconst (v := -1) dX12_walk_16 (by decide) ?_
      refine x_iret rfl dX12_walk_17 ⟨by decide, by decide⟩ ?_
      exact fnV hn (by simp only [oWalk, c5, c13, eq_self, Bool.false_eq_true, reduceCtorEq, and_true, true_and, and_false, false_and, not_true_eq_false, not_false_eq_true, if_true, if_false, ne_eq, or_true, true_or, or_false, false_or])
theorem on_fact : ∀ y, y < 256 → y ≠ 0 → nI y &&& (nI y - 1) = nI (y &&& (y - 1)) ∧ y &&& (y - 1) < 256 ∧ bc8 (y &&& (y - 1)) + 1 = bc8 y := by decide +kernel
theorem bc8_le : ∀ y, y < 256 → bc8 y ≤ 8 := by decide +kernel
set_option maxRecDepth 10000 in
set_option maxHeartbeats 2000000 in
theorem on4 {g : gG} {h : gH} {x : Nat} : ∀ b y n, y < 256 → bc8 y = b → n + bc8 y = bc8 x → Ex g mX12_ones (gZm g mX12_ones (fun o h' => o = some (.int (nI (bc8 x))) ∧ h' = h)) 4 [some (.int (nI x)), some (.int (nI n)), some (.int (nI y))] [] h 0 0 := by
  intro b
  induction b with
  | zero =>
    intro y n hy hb hx
    have y0 : y = 0 := by
      rcases Nat.eq_zero_or_pos y with z | z
      · exact z
      · have := (on_fact y hy (by omega)).2.2; omega
    refine x_iload_n dX12_ones_4 rfl ?_
    refine x_if_eq_t 20 dX12_ones_5 (by decide) (show nI y = 0 from by rw [y0]; rfl) ?_
    refine x_iload_n dX12_ones_20 rfl ?_
    refine x_iret rfl dX12_ones_21 ⟨by decide, by decide⟩ ?_
    subst y0
    exact ⟨by rw [show n = bc8 x by have : bc8 0 = 0 := rfl; omega], rfl⟩
  | succ b ih =>
    intro y n hy hb hx
    refine x_iload_n dX12_ones_4 rfl ?_
    refine x_if_eq 20 dX12_ones_5 (by decide) (fun c5 => ?_) (fun c5 => ?_)
    · refine x_iload_n dX12_ones_20 rfl ?_
      refine x_iret rfl dX12_ones_21 ⟨by decide, by decide⟩ ?_
      have y0 := (nI_z (by omega)).mp c5
      subst y0
      exact ⟨by rw [show n = bc8 x by have : bc8 0 = 0 := rfl; omega], rfl⟩
    · refine x_inc_1  dX12_ones_8 (by decide) (nI_inc _) rfl ?_
      refine x_iload_n dX12_ones_11 rfl ?_
      refine x_iload_n dX12_ones_12 rfl ?_
      refine x_iconst (v := 1) dX12_ones_13 (by decide) ?_
      refine x_isub dX12_ones_14 ?_
      refine x_iand dX12_ones_15 ?_
      have y0 : y ≠ 0 := fun z => c5 (by rw [z]; rfl)
      rw [(on_fact y hy y0).1]
      refine x_ist_2 dX12_ones_16 (by decide) rfl ?_
      refine x_goto 4 dX12_ones_17 (by decide) ?_
      exact ih _ _ (on_fact y hy y0).2.1 (by have := (on_fact y hy y0).2.2; omega) (by have := (on_fact y hy y0).2.2; omega)
set_option maxRecDepth 10000 in
set_option maxHeartbeats 2000000 in
theorem c_X12_ones {g : gG} {h : gH} {x : Nat} (hx : x < 256) : Rd g mX12_ones [.int (nI x)] h (.int (nI (bc8 x))) := by
  refine Cn.of (L := [some (.int (nI x)), none, none]) (by decide) (Nat.le_of_ble_eq_true rfl) rfl ?_
  refine x_iconst (v := 0) dX12_ones_0 (by decide) ?_
  refine x_ist_1 dX12_ones_1 (by decide) rfl ?_
  refine x_iload_n dX12_ones_2 rfl ?_
  refine x_ist_2 dX12_ones_3 (by decide) rfl ?_
  exact on4 _ x 0 hx rfl (Nat.zero_add _)
set_option maxRecDepth 10000 in
set_option maxHeartbeats 2000000 in
theorem c_X12_on {g : gG} {h : gH} {m : Nat} {S : AS} (hn : isN h m S) {u p : Int32} : Ct g mX12_on [.ref m, .int u, .int p] h (some (.int (oOn S.1 u p).1)) (Pn m ((oOn S.1 u p).2, S.2) h) := by
  obtain ⟨hz, s, l, A, B, hm, hv, hr⟩ := id hn
  have mo := hm.1
  have m2 : h.1 (m + 2) = some (.inl (0, 4, .inl (A 1))) := hm.2 1 (by decide)
  have m3 : h.1 (m + 3) = some (.inl (0, 4, .inl (A 2))) := hm.2 2 (by decide)
  have ok8 : S.1.1 0 ≤ 8 := hv.1.1.1
  have ok4 : S.1.1 1 ≤ 4 := hv.1.1.2.1
  have okr : S.1.1 2 ≤ 4 := hv.1.1.2.2
  have t256 : S.1.1 3 < 256 := lt256 hv.1.2.1 hv.1.1.1
  refine Cn.of (L := [some (.ref m), some (.int u), some (.int p)]) (by decide) (Nat.le_of_ble_eq_true rfl) rfl ?_
  refine x_aload_n dX12_on_0 rfl ?_
  refine x_iload_n dX12_on_1 rfl ?_
  refine x_rdV (c_X12_isWalker hm hv) mo lkX12_isWalker sX12_261 dX12_on_2 rfl rfl (Nat.le_of_ble_eq_true rfl) (by decide) ⟨rfl, rfl, by decide, by decide⟩ ?_
  refine x_if_eqB 16 dX12_on_5 (by decide) (fun c5 => ?_) (fun c5 => ?_)
  · refine x_iconst (v := -1) dX12_on_16 (by decide) ?_
    refine x_iret rfl dX12_on_17 ⟨by decide, by decide⟩ ?_
    exact fnV hn (by simp only [oOn, c5, eq_self, Bool.false_eq_true, reduceCtorEq, and_true, true_and, and_false, false_and, not_true_eq_false, not_false_eq_true, if_true, if_false, ne_eq, or_true, true_or, or_false, false_or])
  · refine x_aload_n dX12_on_8 rfl ?_
    refine x_iload_n dX12_on_9 rfl ?_
    refine x_rdV (c_X12_isPath hm hv) mo lkX12_isPath sX12_246 dX12_on_10 rfl rfl (Nat.le_of_ble_eq_true rfl) (by decide) ⟨rfl, rfl, by decide, by decide⟩ ?_
    refine x_if_neB 18 dX12_on_13 (by decide) (fun c13 => ?_) (fun c13 => ?_)
    · obtain ⟨u1, hu, rfl⟩ := bl_E c5 (by omega)
      obtain ⟨p1, hp, rfl⟩ := bl_E c13 (by omega)
      have hu4 : u1 < 4 := by omega
      have hp8 : p1 < 8 := by omega
      have pp := hv.1.2.2.2.1 p1 hp
      have hw16 : S.1.2.2 5 u1 < 16 := wl16 hv hu
      have ol := onM_lt hw16
      have hu5 := hv.2.2.1 u1 hu
      refine x_aload_n dX12_on_18 rfl ?_
      refine x_iload_n dX12_on_19 rfl ?_
      refine x_iload_n dX12_on_20 rfl ?_
      refine x_rdV (c_X12_canTake hm hv hu hp) mo lkX12_canTake sX12_264 dX12_on_21 rfl rfl (Nat.le_of_ble_eq_true rfl) (by decide) ⟨rfl, rfl, by decide, by decide⟩ ?_
      refine x_if_neB 30 dX12_on_24 (by decide) (fun c24 => ?_) (fun c24 => ?_)
      · refine x_aload_n dX12_on_30 rfl ?_
        refine x_get fX12_16 mo rfl dX12_on_31 ?_
        refine x_iload_n dX12_on_34 rfl ?_
        refine x_iload_n dX12_on_35 rfl ?_
        refine x_iast u1 m3 rfl hu4 (by decide) dX12_on_36 ?_
        have q8 := mst8 hv.1 hp c24
        have hm2 : MM _ m (mv S.1 u1 (8 + p1)) s l _ B := hm.int (i := 2) (f := va_up (A 2) u1 (nI p1)) rfl
        have hv2 : rpV (mv S.1 u1 (8 + p1)) (va_up A 2 (va_up (A 2) u1 (nI p1))) := rp_mv hv (mv_ok hv.1 (by omega) (fun z => by rw [Nat.add_sub_cancel_left]; exact c24.1)) rfl rfl rfl rfl ⟨fun z => by omega, fun w e => rfl⟩ ⟨(va_up_self _ _ _).trans (by rw [onM_ge (by omega), Nat.add_sub_cancel_left]), fun w e => va_up_ne _ _ e⟩
        refine x_aload_n dX12_on_37 rfl ?_
        refine x_iload_n dX12_on_38 rfl ?_
        refine x_rdV (c_X12_onWhich hm2 hv2 hp8) hm2.1 lkX12_onWhich sX12_255 dX12_on_39 rfl rfl (Nat.le_of_ble_eq_true rfl) (by decide) ⟨rfl, rfl, by decide, by decide⟩ ?_
        refine x_rdS (c_X12_ones (lt256 (onS_lt _ p1 _) (show S.1.1 1 ≤ 8 by omega))) lkX12_ones sX12_270 dX12_on_42 rfl rfl (Nat.le_of_ble_eq_true rfl) (by decide) ⟨rfl, rfl, by decide, by decide⟩ ?_
        refine x_iret rfl dX12_on_45 ⟨by decide, by decide⟩ ?_
        refine fnM hz hm2 hv2 hr (Fr.set (by omega) (by omega)) ?_
        (rw [oOn, if_pos ⟨c5, c13⟩, iN_nI (by omega), iN_nI (by omega), if_pos c24]) <;> rfl
      · refine x_bipush (v := -4) dX12_on_27 (by decide) ?_
        refine x_iret rfl dX12_on_29 ⟨by decide, by decide⟩ ?_
        exact fnV hn (by rw [oOn, if_pos ⟨c5, c13⟩, iN_nI (by omega), iN_nI (by omega), if_neg c24] <;> rfl)
    · refine x_iconst (v := -1) dX12_on_16 (by decide) ?_
      refine x_iret rfl dX12_on_17 ⟨by decide, by decide⟩ ?_
      exact fnV hn (by simp only [oOn, c5, c13, eq_self, Bool.false_eq_true, reduceCtorEq, and_true, true_and, and_false, false_and, not_true_eq_false, not_false_eq_true, if_true, if_false, ne_eq, or_true, true_or, or_false, false_or])
set_option maxRecDepth 10000 in
set_option maxHeartbeats 2000000 in
theorem c_X12_off {g : gG} {h : gH} {m : Nat} {S : AS} (hn : isN h m S) {u c : Int32} : Ct g mX12_off [.ref m, .int u, .int c] h (some (.int (oOff S.1 u c).1)) (Pn m ((oOff S.1 u c).2, S.2) h) := by
  obtain ⟨hz, s, l, A, B, hm, hv, hr⟩ := id hn
  have mo := hm.1
  have m2 : h.1 (m + 2) = some (.inl (0, 4, .inl (A 1))) := hm.2 1 (by decide)
  have m3 : h.1 (m + 3) = some (.inl (0, 4, .inl (A 2))) := hm.2 2 (by decide)
  have ok8 : S.1.1 0 ≤ 8 := hv.1.1.1
  have ok4 : S.1.1 1 ≤ 4 := hv.1.1.2.1
  have okr : S.1.1 2 ≤ 4 := hv.1.1.2.2
  have t256 : S.1.1 3 < 256 := lt256 hv.1.2.1 hv.1.1.1
  refine Cn.of (L := [some (.ref m), some (.int u), some (.int c)]) (by decide) (Nat.le_of_ble_eq_true rfl) rfl ?_
  refine x_aload_n dX12_off_0 rfl ?_
  refine x_iload_n dX12_off_1 rfl ?_
  refine x_rdV (c_X12_isWalker hm hv) mo lkX12_isWalker sX12_261 dX12_off_2 rfl rfl (Nat.le_of_ble_eq_true rfl) (by decide) ⟨rfl, rfl, by decide, by decide⟩ ?_
  refine x_if_eqB 15 dX12_off_5 (by decide) (fun c5 => ?_) (fun c5 => ?_)
  · refine x_iconst (v := -1) dX12_off_15 (by decide) ?_
    refine x_iret rfl dX12_off_16 ⟨by decide, by decide⟩ ?_
    exact fnV hn (by simp only [oOff, c5, eq_self, Bool.false_eq_true, reduceCtorEq, and_true, true_and, and_false, false_and, not_true_eq_false, not_false_eq_true, if_true, if_false, ne_eq, or_true, true_or, or_false, false_or])
  · refine x_iload_n dX12_off_8 rfl ?_
    refine x_rdS c_X12_isClearing lkX12_isClearing sX12_233 dX12_off_9 rfl rfl (Nat.le_of_ble_eq_true rfl) (by decide) ⟨rfl, rfl, by decide, by decide⟩ ?_
    refine x_if_neB 17 dX12_off_12 (by decide) (fun c12 => ?_) (fun c12 => ?_)
    · obtain ⟨u1, hu, rfl⟩ := bl_E c5 (by omega)
      obtain ⟨c1, hc, rfl⟩ := bl_E (b := 8) c12 (by decide)
      have hu4 : u1 < 4 := by omega
      have hw16 : S.1.2.2 5 u1 < 16 := wl16 hv hu
      have ol := onM_lt hw16
      have hu5 := hv.2.2.1 u1 hu
      refine x_aload_n dX12_off_17 rfl ?_
      refine x_get fX12_16 mo rfl dX12_off_18 ?_
      refine x_iload_n dX12_off_21 rfl ?_
      refine x_iald u1 m3 rfl hu4 (by decide) dX12_off_22 ?_
      rw [hu5.2.1]
      refine x_if_lt 53 dX12_off_23 (by decide) (fun c23 => ?_) (fun c23 => ?_)
      · refine x_bipush (v := -4) dX12_off_53 (by decide) ?_
        refine x_iret rfl dX12_off_55 ⟨by decide, by decide⟩ ?_
        exact fnV hn (by rw [oOff, if_pos ⟨c5, c12⟩, iN_nI (by omega), iN_nI (by omega), if_neg (fun z => by have := ol.mp c23; omega)] <;> rfl)
      · have q8 : 8 ≤ S.1.2.2 5 u1 := Nat.not_lt.mp (fun z => c23 (ol.mpr z))
        have hp : S.1.2.2 5 u1 - 8 < S.1.1 0 := by have := (hv.1.2.2.2.2.1 u1 hu).1; omega
        refine x_aload_n dX12_off_26 rfl ?_
        refine x_aload_n dX12_off_27 rfl ?_
        refine x_get fX12_16 mo rfl dX12_off_28 ?_
        refine x_iload_n dX12_off_31 rfl ?_
        refine x_iald u1 m3 rfl hu4 (by decide) dX12_off_32 ?_
        rw [hu5.2.1]
        refine x_if_ge_t 40 dX12_off_33 (by decide) (Int32.not_lt.mp c23) ?_
        refine x_aload_n dX12_off_40 rfl ?_
        refine x_get fX12_16 mo rfl dX12_off_41 ?_
        refine x_iload_n dX12_off_44 rfl ?_
        refine x_iald u1 m3 rfl hu4 (by decide) dX12_off_45 ?_
        rw [hu5.2.1, onM_ge q8]
        refine x_iload_n dX12_off_46 rfl ?_
        refine x_rdV (c_X12_isEnd hm hv hp hc) mo lkX12_isEnd sX12_236 dX12_off_47 rfl rfl (Nat.le_of_ble_eq_true rfl) (by decide) ⟨rfl, rfl, by decide, by decide⟩ ?_
        refine x_if_neB 56 dX12_off_50 (by decide) (fun c50 => ?_) (fun c50 => ?_)
        · refine x_aload_n dX12_off_56 rfl ?_
          refine x_get fX12_16 mo rfl dX12_off_57 ?_
          refine x_iload_n dX12_off_60 rfl ?_
          refine x_iconst (v := -1) dX12_off_61 (by decide) ?_
          refine x_iast u1 m3 rfl hu4 (by decide) dX12_off_62 ?_
          refine x_aload_n dX12_off_63 rfl ?_
          refine x_get fX12_13 ((hset_n (by omega)).trans mo) rfl dX12_off_64 ?_
          refine x_iload_n dX12_off_67 rfl ?_
          refine x_iload_n dX12_off_68 rfl ?_
          refine x_iast u1 ((hset_n (by omega)).trans m2) rfl hu4 (by decide) dX12_off_69 ?_
          refine x_iconst (v := 1) dX12_off_70 (by decide) ?_
          refine x_iret rfl dX12_off_71 ⟨by decide, by decide⟩ ?_
          refine fnM (V' := mv S.1 u1 c1) hz ((hm.int (i := 2) rfl).int (i := 1) rfl) (rp_mv hv (mv_ok hv.1 (by omega) (fun z => by omega)) rfl rfl rfl rfl ⟨fun _ => va_up_self _ _ _, fun w e => va_up_ne _ _ e⟩ ⟨(va_up_self _ _ _).trans (if_pos hc).symm, fun w e => va_up_ne _ _ e⟩) hr ((Fr.set (by omega) (by omega)).tr (Fr.set (by omega) (by omega))) ?_
          (rw [oOff, if_pos ⟨c5, c12⟩, iN_nI (by omega), iN_nI (by omega), if_pos ⟨q8, c50⟩]) <;> rfl
        · refine x_bipush (v := -4) dX12_off_53 (by decide) ?_
          refine x_iret rfl dX12_off_55 ⟨by decide, by decide⟩ ?_
          exact fnV hn (by rw [oOff, if_pos ⟨c5, c12⟩, iN_nI (by omega), iN_nI (by omega), if_neg (fun z => c50 z.2)] <;> rfl)
    · refine x_iconst (v := -1) dX12_off_15 (by decide) ?_
      refine x_iret rfl dX12_off_16 ⟨by decide, by decide⟩ ?_
      exact fnV hn (by simp only [oOff, c5, c12, eq_self, Bool.false_eq_true, reduceCtorEq, and_true, true_and, and_false, false_and, not_true_eq_false, not_false_eq_true, if_true, if_false, ne_eq, or_true, true_or, or_false, false_or])
set_option maxRecDepth 10000 in
set_option maxHeartbeats 2000000 in
theorem c_X12_put {g : gG} {h : gH} {m : Nat} {S : AS} (hn : isN h m S) {u c : Int32} : Ct g mX12_put [.ref m, .int u, .int c] h (some (.int (oPut S.1 u c).1)) (Pn m ((oPut S.1 u c).2, S.2) h) := by
  obtain ⟨hz, s, l, A, B, hm, hv, hr⟩ := id hn
  have mo := hm.1
  have m2 : h.1 (m + 2) = some (.inl (0, 4, .inl (A 1))) := hm.2 1 (by decide)
  have m3 : h.1 (m + 3) = some (.inl (0, 4, .inl (A 2))) := hm.2 2 (by decide)
  have ok8 : S.1.1 0 ≤ 8 := hv.1.1.1
  have ok4 : S.1.1 1 ≤ 4 := hv.1.1.2.1
  have okr : S.1.1 2 ≤ 4 := hv.1.1.2.2
  have t256 : S.1.1 3 < 256 := lt256 hv.1.2.1 hv.1.1.1
  refine Cn.of (L := [some (.ref m), some (.int u), some (.int c), none]) (by decide) (Nat.le_of_ble_eq_true rfl) rfl ?_
  refine x_aload_n dX12_put_0 rfl ?_
  refine x_iload_n dX12_put_1 rfl ?_
  refine x_rdV (c_X12_isWalker hm hv) mo lkX12_isWalker sX12_261 dX12_put_2 rfl rfl (Nat.le_of_ble_eq_true rfl) (by decide) ⟨rfl, rfl, by decide, by decide⟩ ?_
  refine x_if_eqB 15 dX12_put_5 (by decide) (fun c5 => ?_) (fun c5 => ?_)
  · refine x_iconst (v := -1) dX12_put_15 (by decide) ?_
    refine x_iret rfl dX12_put_16 ⟨by decide, by decide⟩ ?_
    exact fnV hn (by simp only [oPut, c5, eq_self, Bool.false_eq_true, reduceCtorEq, and_true, true_and, and_false, false_and, not_true_eq_false, not_false_eq_true, if_true, if_false, ne_eq, or_true, true_or, or_false, false_or])
  · refine x_iload_n dX12_put_8 rfl ?_
    refine x_rdS c_X12_isClearing lkX12_isClearing sX12_233 dX12_put_9 rfl rfl (Nat.le_of_ble_eq_true rfl) (by decide) ⟨rfl, rfl, by decide, by decide⟩ ?_
    refine x_if_neB 17 dX12_put_12 (by decide) (fun c12 => ?_) (fun c12 => ?_)
    · obtain ⟨u1, hu, rfl⟩ := bl_E c5 (by omega)
      obtain ⟨c1, hc, rfl⟩ := bl_E (b := 8) c12 (by decide)
      have hu4 : u1 < 4 := by omega
      have hw16 : S.1.2.2 5 u1 < 16 := wl16 hv hu
      have ol := onM_lt hw16
      have hu5 := hv.2.2.1 u1 hu
      refine x_aload_n dX12_put_17 rfl ?_
      refine x_get fX12_16 mo rfl dX12_put_18 ?_
      refine x_iload_n dX12_put_21 rfl ?_
      refine x_iald u1 m3 rfl hu4 (by decide) dX12_put_22 ?_
      rw [hu5.2.1]
      refine x_if_lt 31 dX12_put_23 (by decide) (fun c23 => ?_) (fun c23 => ?_)
      · refine x_aload_n dX12_put_31 rfl ?_
        refine x_get fX12_13 mo rfl dX12_put_32 ?_
        refine x_iload_n dX12_put_35 rfl ?_
        refine x_iald u1 m2 rfl hu4 (by decide) dX12_put_36 ?_
        refine x_ist_3 dX12_put_37 (by decide) rfl ?_
        refine x_aload_n dX12_put_38 rfl ?_
        refine x_get fX12_16 mo rfl dX12_put_39 ?_
        refine x_iload_n dX12_put_42 rfl ?_
        refine x_iconst (v := -1) dX12_put_43 (by decide) ?_
        refine x_iast u1 m3 rfl hu4 (by decide) dX12_put_44 ?_
        refine x_aload_n dX12_put_45 rfl ?_
        refine x_get fX12_13 ((hset_n (by omega)).trans mo) rfl dX12_put_46 ?_
        refine x_iload_n dX12_put_49 rfl ?_
        refine x_iload_n dX12_put_50 rfl ?_
        refine x_iast u1 ((hset_n (by omega)).trans m2) rfl hu4 (by decide) dX12_put_51 ?_
        refine x_iload_n dX12_put_52 rfl ?_
        refine x_iret rfl dX12_put_53 ⟨by decide, by decide⟩ ?_
        have q8 := ol.mp c23
        refine fnM (V' := mv S.1 u1 c1) hz ((hm.int (i := 2) rfl).int (i := 1) rfl) (rp_mv hv (mv_ok hv.1 (by omega) (fun z => by omega)) rfl rfl rfl rfl ⟨fun _ => va_up_self _ _ _, fun w e => va_up_ne _ _ e⟩ ⟨(va_up_self _ _ _).trans (if_pos hc).symm, fun w e => va_up_ne _ _ e⟩) hr ((Fr.set (by omega) (by omega)).tr (Fr.set (by omega) (by omega))) ?_
        (rw [oPut, if_pos ⟨c5, c12⟩, iN_nI (by omega), iN_nI (by omega), plI, if_pos q8, hu5.1 q8]) <;> rfl
      · refine x_bipush (v := -9) dX12_put_26 (by decide) ?_
        refine x_goto 37 dX12_put_28 (by decide) ?_
        refine x_ist_3 dX12_put_37 (by decide) rfl ?_
        refine x_aload_n dX12_put_38 rfl ?_
        refine x_get fX12_16 mo rfl dX12_put_39 ?_
        refine x_iload_n dX12_put_42 rfl ?_
        refine x_iconst (v := -1) dX12_put_43 (by decide) ?_
        refine x_iast u1 m3 rfl hu4 (by decide) dX12_put_44 ?_
        refine x_aload_n dX12_put_45 rfl ?_
        refine x_get fX12_13 ((hset_n (by omega)).trans mo) rfl dX12_put_46 ?_
        refine x_iload_n dX12_put_49 rfl ?_
        refine x_iload_n dX12_put_50 rfl ?_
        refine x_iast u1 ((hset_n (by omega)).trans m2) rfl hu4 (by decide) dX12_put_51 ?_
        refine x_iload_n dX12_put_52 rfl ?_
        refine x_iret rfl dX12_put_53 ⟨by decide, by decide⟩ ?_
        have q8 : ¬ S.1.2.2 5 u1 < 8 := fun z => c23 (ol.mpr z)
        refine fnM (V' := mv S.1 u1 c1) hz ((hm.int (i := 2) rfl).int (i := 1) rfl) (rp_mv hv (mv_ok hv.1 (by omega) (fun z => by omega)) rfl rfl rfl rfl ⟨fun _ => va_up_self _ _ _, fun w e => va_up_ne _ _ e⟩ ⟨(va_up_self _ _ _).trans (if_pos hc).symm, fun w e => va_up_ne _ _ e⟩) hr ((Fr.set (by omega) (by omega)).tr (Fr.set (by omega) (by omega))) ?_
        (rw [oPut, if_pos ⟨c5, c12⟩, iN_nI (by omega), iN_nI (by omega), plI, if_neg q8]) <;> rfl
    · refine x_iconst (v := -1) dX12_put_15 (by decide) ?_
      refine x_iret rfl dX12_put_16 ⟨by decide, by decide⟩ ?_
      exact fnV hn (by simp only [oPut, c5, c12, eq_self, Bool.false_eq_true, reduceCtorEq, and_true, true_and, and_false, false_and, not_true_eq_false, not_false_eq_true, if_true, if_false, ne_eq, or_true, true_or, or_false, false_or])
set_option maxRecDepth 10000 in
set_option maxHeartbeats 2000000 in
theorem c_X12_seed {g : gG} {h : gH} {m : Nat} {S : AS} (hn : isN h m S) {v : Int32} : Ct g mX12_seed [.ref m, .int v] h (some (.int (oSeed S.1 v).1)) (Pn m ((oSeed S.1 v).2, S.2) h) := by
  obtain ⟨hz, s, l, A, B, hm, hv, hr⟩ := id hn
  have mo := hm.1
  have ok8 : S.1.1 0 ≤ 8 := hv.1.1.1
  have ok4 : S.1.1 1 ≤ 4 := hv.1.1.2.1
  have okr : S.1.1 2 ≤ 4 := hv.1.1.2.2
  have t256 : S.1.1 3 < 256 := lt256 hv.1.2.1 hv.1.1.1
  refine Cn.of (L := [some (.ref m), some (.int v), none]) (by decide) (Nat.le_of_ble_eq_true rfl) rfl ?_
  refine x_aload_n dX12_seed_0 rfl ?_
  refine x_get fX12_25 mo rfl dX12_seed_1 ?_
  refine x_ist_2 dX12_seed_4 (by decide) rfl ?_
  refine x_aload_n dX12_seed_5 rfl ?_
  refine x_iload_n dX12_seed_6 rfl ?_
  refine x_put (fs' := mF m (S.1.1, v, S.1.2.2) s l) fX12_25 mo (Nat.le_of_ble_eq_true rfl) rfl rfl rfl dX12_seed_7 ?_
  refine x_iload_n dX12_seed_10 rfl ?_
  refine x_iret rfl dX12_seed_11 ⟨by decide, by decide⟩ ?_
  exact fnM hz hm.num ⟨hv.1, hv.2⟩ hr (Fr.set (by omega) (by omega)) rfl
set_option maxRecDepth 10000 in
set_option maxHeartbeats 2000000 in
theorem c_X12_many {g : gG} {h : gH} {m : Nat} {S : AS} (hn : isN h m S) {w : Int32} : Rd g mX12_many [.ref m, .int w] h (.int (qMany S w)) := by
  obtain ⟨hz, s, l, A, B, hm, hv, hr⟩ := id hn
  have mo := hm.1
  have ok8 : S.1.1 0 ≤ 8 := hv.1.1.1
  have ok4 : S.1.1 1 ≤ 4 := hv.1.1.2.1
  have okr : S.1.1 2 ≤ 4 := hv.1.1.2.2
  have t256 : S.1.1 3 < 256 := lt256 hv.1.2.1 hv.1.1.1
  refine Cn.of (L := [some (.ref m), some (.int w)]) (by decide) (Nat.le_of_ble_eq_true rfl) rfl ?_
  refine x_iload_n dX12_many_0 rfl ?_
  refine swX12_many_1 (fun c1 => ?_) (fun c1 => ?_) (fun c1 => ?_) (fun c1 => ?_) (fun c1 => ?_) (fun c1 => ?_) (fun c1_0 c1_1 c1_2 c1_3 c1_4 c1_5 => ?_)
  · refine x_aload_n dX12_many_40 rfl ?_
    refine x_get fX12_97 mo rfl dX12_many_41 ?_
    refine x_iret rfl dX12_many_44 ⟨by decide, by decide⟩ ?_
    exact ⟨by rw [c1] <;> rfl, rfl⟩
  · refine x_aload_n dX12_many_45 rfl ?_
    refine x_get fX12_100 mo rfl dX12_many_46 ?_
    refine x_iret rfl dX12_many_49 ⟨by decide, by decide⟩ ?_
    exact ⟨by rw [c1] <;> rfl, rfl⟩
  · refine x_aload_n dX12_many_50 rfl ?_
    refine x_get fX12_339 mo rfl dX12_many_51 ?_
    refine x_iret rfl dX12_many_54 ⟨by decide, by decide⟩ ?_
    exact ⟨by rw [c1] <;> rfl, rfl⟩
  · refine x_aload_n dX12_many_55 rfl ?_
    refine x_get fX12_230 mo rfl dX12_many_56 ?_
    refine x_iret rfl dX12_many_59 ⟨by decide, by decide⟩ ?_
    exact ⟨by rw [c1, hr.2.2.1.2.1] <;> rfl, rfl⟩
  · refine x_aload_n dX12_many_60 rfl ?_
    refine x_get fX12_110 mo rfl dX12_many_61 ?_
    refine x_iret rfl dX12_many_64 ⟨by decide, by decide⟩ ?_
    exact ⟨by rw [c1, hr.2.1.2.1] <;> rfl, rfl⟩
  · refine x_aload_n dX12_many_65 rfl ?_
    refine x_get fX12_377 mo rfl dX12_many_66 ?_
    refine x_iret rfl dX12_many_69 ⟨by decide, by decide⟩ ?_
    exact ⟨by rw [c1, hr.2.2.2.2.2.2.1] <;> rfl, rfl⟩
  · refine x_iconst (v := -1) dX12_many_70 (by decide) ?_
    refine x_iret rfl dX12_many_71 ⟨by decide, by decide⟩ ?_
    exact ⟨by rw [qMany, if_neg c1_0, if_neg c1_1, if_neg c1_2, if_neg c1_3, if_neg c1_4, if_neg c1_5] <;> rfl, rfl⟩
set_option maxRecDepth 10000 in
set_option maxHeartbeats 2000000 in
theorem c_X12_trace {g : gG} {h : gH} {m : Nat} {S : AS} (hn : isN h m S) {i : Int32} : Rd g mX12_trace [.ref m, .int i] h (.int (qTrace S i)) := by
  obtain ⟨hz, s, l, A, B, hm, hv, hr⟩ := id hn
  have mo := hm.1
  have m24 : h.1 (m + 24) = some (.inl (0, 30, .inl (A 23))) := hm.2 23 (by decide)
  have ok8 : S.1.1 0 ≤ 8 := hv.1.1.1
  have ok4 : S.1.1 1 ≤ 4 := hv.1.1.2.1
  have okr : S.1.1 2 ≤ 4 := hv.1.1.2.2
  have t256 : S.1.1 3 < 256 := lt256 hv.1.2.1 hv.1.1.1
  obtain ⟨r30, r1, r2⟩ := id hr.2.2.2.2.2
  refine Cn.of (L := [some (.ref m), some (.int i)]) (by decide) (Nat.le_of_ble_eq_true rfl) rfl ?_
  refine x_iload_n dX12_trace_0 rfl ?_
  refine x_iconst (v := 0) dX12_trace_1 (by decide) ?_
  refine x_aload_n dX12_trace_2 rfl ?_
  refine x_get fX12_377 mo rfl dX12_trace_3 ?_
  rw [r1]
  refine x_iconst (v := 1) dX12_trace_6 (by decide) ?_
  refine x_isub dX12_trace_7 ?_
  refine x_rdS (mc_inB (n := S.2.2.2.2.2.2.1) (by omega)) lkX12_in sX12_93 dX12_trace_8 rfl rfl (Nat.le_of_ble_eq_true rfl) (by decide) ⟨rfl, rfl, by decide, by decide⟩ ?_
  refine x_if_eqB 23 dX12_trace_11 (by decide) (fun c11 => ?_) (fun c11 => ?_)
  · refine x_bipush (v := -3) dX12_trace_23 (by decide) ?_
    refine x_iret rfl dX12_trace_25 ⟨by decide, by decide⟩ ?_
    exact ⟨by rw [qTrace, if_neg c11] <;> rfl, rfl⟩
  · obtain ⟨i1, hi, rfl⟩ := bl_E c11 (by omega)
    refine x_aload_n dX12_trace_14 rfl ?_
    refine x_get fX12_84 mo rfl dX12_trace_15 ?_
    refine x_iload_n dX12_trace_18 rfl ?_
    refine x_iald i1 m24 rfl (by omega) (by decide) dX12_trace_19 ?_
    refine x_goto 25 dX12_trace_20 (by decide) ?_
    refine x_iret rfl dX12_trace_25 ⟨by decide, by decide⟩ ?_
    exact ⟨by rw [qTrace, if_pos c11, iN_nI (by omega), r2 i1 hi] <;> rfl, rfl⟩
