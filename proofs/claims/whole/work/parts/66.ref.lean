def lkI (n t : Nat) : Int32 := if n = 0 then -11 else if n = t + 1 then 0 else -13
theorem lkI_0 {n t : Nat} : lkI n t = 0 ↔ n = t + 1 := by
  unfold lkI
  split
  · exact ⟨fun z => absurd z (by decide), fun z => by omega⟩
  · split
    · exact ⟨fun _ => by assumption, fun _ => rfl⟩
    · exact ⟨fun z => absurd z (by decide), fun z => absurd z (by assumption)⟩
set_option maxRecDepth 10000 in
set_option maxHeartbeats 2000000 in
theorem c_X12_lacksSort {g : gG} {h : gH} {m : Nat} {V : VS} {H : Nat → Nat × Nat × (Nat → Int64)} {s : Nat → Int32} {l : Nat → Int64} {A : Nat → Nat → Int32} {B : Nat → Nat → Int64} (hm : MM h m V s l A B) (hH : rpH H A B) {s1 t1 : Nat} (hs : s1 < 4) (ht : t1 < 4) : Rd g mX12_lacksSort [.ref m, .int (nI s1), .int (nI t1)] h (.int (lkI (H s1).1 t1)) := by
  have mo := hm.1
  have m18 : h.1 (m + 18) = some (.inl (0, 4, .inl (A 17))) := hm.2 17 (by decide)
  obtain ⟨h4, e1, h5⟩ := hH s1 hs
  have sl := soI_lt h4
  refine Cn.of (L := [some (.ref m), some (.int (nI s1)), some (.int (nI t1))]) (by decide) (Nat.le_of_ble_eq_true rfl) rfl ?_
  refine x_aload_n dX12_lacksSort_0 rfl ?_
  refine x_get fX12_66 mo rfl dX12_lacksSort_1 ?_
  refine x_iload_n dX12_lacksSort_4 rfl ?_
  refine x_iald s1 m18 rfl hs (by decide) dX12_lacksSort_5 ?_
  rw [e1]
  refine x_if_ge 14 dX12_lacksSort_6 (by decide) (fun c6 => ?_) (fun c6 => ?_)
  · refine x_aload_n dX12_lacksSort_14 rfl ?_
    refine x_get fX12_66 mo rfl dX12_lacksSort_15 ?_
    refine x_iload_n dX12_lacksSort_18 rfl ?_
    refine x_iald s1 m18 rfl hs (by decide) dX12_lacksSort_19 ?_
    have n0 : ¬ (H s1).1 = 0 := fun z => absurd (sl.mpr z) (Int32.not_lt.mpr c6)
    rw [e1, soI_p (by omega)]
    have et : nI ((H s1).1 - 1) = nI t1 ↔ (H s1).1 - 1 = t1 := nI_eq (by omega) (by omega)
    refine x_iload_n dX12_lacksSort_20 rfl ?_
    refine x_icmp_eq 29 dX12_lacksSort_21 (by decide) (fun c21 => ?_) (fun c21 => ?_)
    · refine x_iconst (v := 0) dX12_lacksSort_29 (by decide) ?_
      refine x_iret rfl dX12_lacksSort_30 ⟨by decide, by decide⟩ ?_
      exact ⟨by rw [lkI, if_neg n0, if_pos (by have := et.mp c21; omega)] <;> rfl, rfl⟩
    · refine x_bipush (v := -13) dX12_lacksSort_24 (by decide) ?_
      refine x_goto 30 dX12_lacksSort_26 (by decide) ?_
      refine x_iret rfl dX12_lacksSort_30 ⟨by decide, by decide⟩ ?_
      exact ⟨by rw [lkI, if_neg n0, if_neg (fun z => c21 (et.mpr (by omega)))] <;> rfl, rfl⟩
  · refine x_bipush (v := -11) dX12_lacksSort_9 (by decide) ?_
    refine x_goto 30 dX12_lacksSort_11 (by decide) ?_
    refine x_iret rfl dX12_lacksSort_30 ⟨by decide, by decide⟩ ?_
    exact ⟨by rw [lkI, if_pos (sl.mp (Int32.not_le.mp c6))] <;> rfl, rfl⟩
set_option maxRecDepth 10000 in
set_option maxHeartbeats 2000000 in
theorem c_X12_item {g : gG} {h : gH} {m : Nat} {S : AS} (hn : isN h m S) {sh t i : Int32} : Rd g mX12_item [.ref m, .int sh, .int t, .int i] h (.int (qItem S sh t i)) := by
  obtain ⟨hz, s, l, A, B, hm, hv, hr⟩ := id hn
  have mo := hm.1
  have m18 : h.1 (m + 18) = some (.inl (0, 4, .inl (A 17))) := hm.2 17 (by decide)
  have m19 : h.1 (m + 19) = some (.inl (0, 4, .inl (A 18))) := hm.2 18 (by decide)
  have m20 : h.1 (m + 20) = some (.inl (1, 160, .inr (.inl (B 19)))) := hm.2 19 (by decide)
  have ok8 : S.1.1 0 ≤ 8 := hv.1.1.1
  have ok4 : S.1.1 1 ≤ 4 := hv.1.1.2.1
  have okr : S.1.1 2 ≤ 4 := hv.1.1.2.2
  have t256 : S.1.1 3 < 256 := lt256 hv.1.2.1 hv.1.1.1
  have hH := hr.2.2.2.1
  refine Cn.of (L := [some (.ref m), some (.int sh), some (.int t), some (.int i), none]) (by decide) (Nat.le_of_ble_eq_true rfl) rfl ?_
  refine x_iload_n dX12_item_0 rfl ?_
  refine x_rdS c_X12_isShelf lkX12_isShelf sX12_362 dX12_item_1 rfl rfl (Nat.le_of_ble_eq_true rfl) (by decide) ⟨rfl, rfl, by decide, by decide⟩ ?_
  refine x_if_eqB 16 dX12_item_4 (by decide) (fun c4 => ?_) (fun c4 => ?_)
  · refine x_iconst (v := -1) dX12_item_16 (by decide) ?_
    refine x_iret rfl dX12_item_17 ⟨by decide, by decide⟩ ?_
    exact ⟨by rw [qItem, if_neg (fun z => c4 z.1)] <;> rfl, rfl⟩
  · refine x_iload_n dX12_item_7 rfl ?_
    refine x_iconst (v := 0) dX12_item_8 (by decide) ?_
    refine x_iconst (v := 3) dX12_item_9 (by decide) ?_
    refine x_rdS (mc_inC 4 (by decide) (by decide)) lkX12_in sX12_93 dX12_item_10 rfl rfl (Nat.le_of_ble_eq_true rfl) (by decide) ⟨rfl, rfl, by decide, by decide⟩ ?_
    refine x_if_neB 18 dX12_item_13 (by decide) (fun c13 => ?_) (fun c13 => ?_)
    · obtain ⟨s1, hs, rfl⟩ := bl_E (b := 4) c4 (by decide)
      obtain ⟨t1, ht, rfl⟩ := bl_E (b := 4) c13 (by decide)
      refine x_aload_n dX12_item_18 rfl ?_
      refine x_iload_n dX12_item_19 rfl ?_
      refine x_iload_n dX12_item_20 rfl ?_
      refine x_rdV (c_X12_lacksSort hm hH hs ht) mo lkX12_lacksSort sX12_365 dX12_item_21 rfl rfl (Nat.le_of_ble_eq_true rfl) (by decide) ⟨rfl, rfl, by decide, by decide⟩ ?_
      refine x_ist_4 dX12_item_24 (by decide) rfl ?_
      refine x_iload dX12_item_26 rfl ?_
      refine x_if_eq 34 dX12_item_28 (by decide) (fun c28 => ?_) (fun c28 => ?_)
      · have el := lkI_0.mp c28
        have h5 := (hH s1 hs).2.2 (by omega)
        refine x_iload_n dX12_item_34 rfl ?_
        refine x_iconst (v := 0) dX12_item_35 (by decide) ?_
        refine x_aload_n dX12_item_36 rfl ?_
        refine x_get fX12_69 mo rfl dX12_item_37 ?_
        refine x_iload_n dX12_item_40 rfl ?_
        refine x_iald s1 m19 rfl hs (by decide) dX12_item_41 ?_
        rw [h5.2.1]
        refine x_iconst (v := 1) dX12_item_42 (by decide) ?_
        refine x_isub dX12_item_43 ?_
        refine x_rdS (mc_inB (n := (S.2.2.2.2.1 s1).2.1) (by omega)) lkX12_in sX12_93 dX12_item_44 rfl rfl (Nat.le_of_ble_eq_true rfl) (by decide) ⟨rfl, rfl, by decide, by decide⟩ ?_
        refine x_if_eqB 65 dX12_item_47 (by decide) (fun c47 => ?_) (fun c47 => ?_)
        · refine x_bipush (v := -12) dX12_item_65 (by decide) ?_
          refine x_iret rfl dX12_item_67 ⟨by decide, by decide⟩ ?_
          exact ⟨by rw [qItem, if_pos ⟨c4, c13⟩, iN_nI (by omega), iN_nI (by omega), if_neg (by omega), if_pos el, if_neg c47] <;> rfl, rfl⟩
        · obtain ⟨i1, hi, rfl⟩ := bl_E c47 (by omega)
          refine x_aload_n dX12_item_50 rfl ?_
          refine x_get fX12_72 mo rfl dX12_item_51 ?_
          refine x_bipush (v := 40) dX12_item_54 (by decide) ?_
          refine x_iload_n dX12_item_56 rfl ?_
          refine x_imul dX12_item_57 ?_
          refine x_iload_n dX12_item_58 rfl ?_
          refine x_iadd dX12_item_59 ?_
          refine x_lald (40 * s1 + i1) m20 (by rw [show (40 : Int32) = nI 40 from rfl, ts_mul, nI_add]) (by omega) (by decide) dX12_item_60 ?_
          refine x_l2i dX12_item_61 ?_
          refine x_goto 67 dX12_item_62 (by decide) ?_
          refine x_iret rfl dX12_item_67 ⟨by decide, by decide⟩ ?_
          exact ⟨by rw [qItem, if_pos ⟨c4, c13⟩, iN_nI (by omega), iN_nI (by omega), if_neg (by omega), if_pos el, if_pos c47, iN_nI (by omega), h5.2.2 i1 hi] <;> rfl, rfl⟩
      · refine x_iload dX12_item_31 rfl ?_
        refine x_iret rfl dX12_item_33 ⟨by decide, by decide⟩ ?_
        exact ⟨by
          rw [qItem, if_pos ⟨c4, c13⟩, iN_nI (by omega), iN_nI (by omega), lkI]
          by_cases z : (S.2.2.2.2.1 s1).1 = 0
          · rw [if_pos z, if_pos z]
          · rw [if_neg z, if_neg z, if_neg (fun y => c28 (lkI_0.mpr y)), if_neg (fun y => c28 (lkI_0.mpr y))], rfl⟩
    · refine x_iconst (v := -1) dX12_item_16 (by decide) ?_
      refine x_iret rfl dX12_item_17 ⟨by decide, by decide⟩ ?_
      exact ⟨by rw [qItem, if_neg (fun z => c13 z.2)] <;> rfl, rfl⟩
set_option maxRecDepth 10000 in
set_option maxHeartbeats 2000000 in
theorem c_X12_write {g : gG} {h : gH} {m : Nat} {S : AS} (hn : isN h m S) {sh i v : Int32} : Ct g mX12_write [.ref m, .int sh, .int i, .int v] h (some (.int (oWrite S sh i v).1)) (Pn m (oWrite S sh i v).2 h) := by
  obtain ⟨hz, s, l, A, B, hm, hv, hr⟩ := id hn
  have mo := hm.1
  have m18 : h.1 (m + 18) = some (.inl (0, 4, .inl (A 17))) := hm.2 17 (by decide)
  have m19 : h.1 (m + 19) = some (.inl (0, 4, .inl (A 18))) := hm.2 18 (by decide)
  have m20 : h.1 (m + 20) = some (.inl (1, 160, .inr (.inl (B 19)))) := hm.2 19 (by decide)
  have ok8 : S.1.1 0 ≤ 8 := hv.1.1.1
  have ok4 : S.1.1 1 ≤ 4 := hv.1.1.2.1
  have okr : S.1.1 2 ≤ 4 := hv.1.1.2.2
  have t256 : S.1.1 3 < 256 := lt256 hv.1.2.1 hv.1.1.1
  have hH := hr.2.2.2.1
  refine Cn.of (L := [some (.ref m), some (.int sh), some (.int i), some (.int v)]) (by decide) (Nat.le_of_ble_eq_true rfl) rfl ?_
  refine x_iload_n dX12_write_0 rfl ?_
  refine x_rdS c_X12_isShelf lkX12_isShelf sX12_362 dX12_write_1 rfl rfl (Nat.le_of_ble_eq_true rfl) (by decide) ⟨rfl, rfl, by decide, by decide⟩ ?_
  refine x_if_neB 9 dX12_write_4 (by decide) (fun c4 => ?_) (fun c4 => ?_)
  · obtain ⟨s1, hs, rfl⟩ := bl_E (b := 4) c4 (by decide)
    obtain ⟨h4, e1, h5⟩ := id (hH s1 hs)
    refine x_aload_n dX12_write_9 rfl ?_
    refine x_get fX12_66 mo rfl dX12_write_10 ?_
    refine x_iload_n dX12_write_13 rfl ?_
    refine x_iald s1 m18 rfl hs (by decide) dX12_write_14 ?_
    rw [e1]
    refine x_if_ge 21 dX12_write_15 (by decide) (fun c15 => ?_) (fun c15 => ?_)
    · have n0 : ¬ (S.2.2.2.2.1 s1).1 = 0 := fun z => absurd ((soI_lt h4).mpr z) (Int32.not_lt.mpr c15)
      have h6 := h5 (by omega)
      refine x_iload_n dX12_write_21 rfl ?_
      refine x_iconst (v := 0) dX12_write_22 (by decide) ?_
      refine x_aload_n dX12_write_23 rfl ?_
      refine x_get fX12_69 mo rfl dX12_write_24 ?_
      refine x_iload_n dX12_write_27 rfl ?_
      refine x_iald s1 m19 rfl hs (by decide) dX12_write_28 ?_
      rw [h6.2.1]
      refine x_iconst (v := 1) dX12_write_29 (by decide) ?_
      refine x_isub dX12_write_30 ?_
      refine x_rdS (mc_inB (n := (S.2.2.2.2.1 s1).2.1) (by omega)) lkX12_in sX12_93 dX12_write_31 rfl rfl (Nat.le_of_ble_eq_true rfl) (by decide) ⟨rfl, rfl, by decide, by decide⟩ ?_
      refine x_if_neB 40 dX12_write_34 (by decide) (fun c34 => ?_) (fun c34 => ?_)
      · obtain ⟨i1, hi, rfl⟩ := bl_E c34 (by omega)
        have z1 : nI ((S.2.2.2.2.1 s1).1 - 1) = 0 ↔ (S.2.2.2.2.1 s1).1 - 1 = 0 := nI_z (by omega)
        have z2 : nI ((S.2.2.2.2.1 s1).1 - 1) = 1 ↔ (S.2.2.2.2.1 s1).1 - 1 = 1 := nI_eq (b := 1) (by omega) (by decide)
        refine x_aload_n dX12_write_40 rfl ?_
        refine x_get fX12_72 mo rfl dX12_write_41 ?_
        refine x_bipush (v := 40) dX12_write_44 (by decide) ?_
        refine x_iload_n dX12_write_46 rfl ?_
        refine x_imul dX12_write_47 ?_
        refine x_iload_n dX12_write_48 rfl ?_
        refine x_iadd dX12_write_49 ?_
        refine x_aload_n dX12_write_50 rfl ?_
        refine x_get fX12_66 mo rfl dX12_write_51 ?_
        refine x_iload_n dX12_write_54 rfl ?_
        refine x_iald s1 m18 rfl hs (by decide) dX12_write_55 ?_
        rw [e1, soI_p (by omega)]
        refine x_if_ne 65 dX12_write_56 (by decide) (fun c56 => ?_) (fun c56 => ?_)
        · refine x_aload_n dX12_write_65 rfl ?_
          refine x_get fX12_66 mo rfl dX12_write_66 ?_
          refine x_iload_n dX12_write_69 rfl ?_
          refine x_iald s1 m18 rfl hs (by decide) dX12_write_70 ?_
          rw [e1, soI_p (by omega)]
          refine x_iconst (v := 1) dX12_write_71 (by decide) ?_
          refine x_icmp_ne 81 dX12_write_72 (by decide) (fun c72 => ?_) (fun c72 => ?_)
          · refine x_iload_n dX12_write_81 rfl ?_
            refine x_i2l dX12_write_82 ?_
            refine x_last (40 * s1 + i1) m20 (by rw [show (40 : Int32) = nI 40 from rfl, ts_mul, nI_add]) (by omega) (by decide) dX12_write_83 ?_
            refine x_iconst (v := 1) dX12_write_84 (by decide) ?_
            refine x_iret rfl dX12_write_85 ⟨by decide, by decide⟩ ?_
            refine fnA (S' := shS S (wrH S.2.2.2.2.1 s1 i1 v)) (isN.of hz (hm.lng (i := 19) rfl) hv ⟨hr.1, hr.2.1, hr.2.2.1, fun j hj => ?_, hr.2.2.2.2⟩ (Fr.set (by omega) (by omega))) ?_
            · have old := hH j hj
              simp only [wrH, va_up_self]
              by_cases e : j = s1
              · subst e
                rw [if_pos rfl]
                refine ⟨old.1, old.2.1, fun z => ⟨(old.2.2 z).1, (old.2.2 z).2.1, fun k hk => ?_⟩⟩
                by_cases ek : k = i1
                · subst ek; simp only [va_up_self]; exact (show _ = nrw _ v from ((if_neg (fun y => c56 (z1.mpr y))).trans (if_neg (fun y => c72 (z2.mpr y)))).symm)
                · rw [va_up_ne _ _ (by omega)]; exact ((old.2.2 z).2.2 k hk).trans (va_up_ne _ _ ek).symm
              · rw [if_neg e]
                refine ⟨old.1, old.2.1, fun z => ⟨(old.2.2 z).1, (old.2.2 z).2.1, fun k hk => ?_⟩⟩
                rw [va_up_ne _ _ (by have := (old.2.2 z).1; omega)]; exact (old.2.2 z).2.2 k hk
            · (rw [oWrite, if_pos c4, iN_nI (by omega), if_neg n0, if_pos c34, iN_nI (by omega)]) <;> rfl
          · refine x_iload_n dX12_write_75 rfl ?_
            refine x_i2s dX12_write_76 ?_
            refine x_i2l dX12_write_77 ?_
            refine x_goto 83 dX12_write_78 (by decide) ?_
            refine x_last (40 * s1 + i1) m20 (by rw [show (40 : Int32) = nI 40 from rfl, ts_mul, nI_add]) (by omega) (by decide) dX12_write_83 ?_
            refine x_iconst (v := 1) dX12_write_84 (by decide) ?_
            refine x_iret rfl dX12_write_85 ⟨by decide, by decide⟩ ?_
            refine fnA (S' := shS S (wrH S.2.2.2.2.1 s1 i1 v)) (isN.of hz (hm.lng (i := 19) rfl) hv ⟨hr.1, hr.2.1, hr.2.2.1, fun j hj => ?_, hr.2.2.2.2⟩ (Fr.set (by omega) (by omega))) ?_
            · have old := hH j hj
              simp only [wrH, va_up_self]
              by_cases e : j = s1
              · subst e
                rw [if_pos rfl]
                refine ⟨old.1, old.2.1, fun z => ⟨(old.2.2 z).1, (old.2.2 z).2.1, fun k hk => ?_⟩⟩
                by_cases ek : k = i1
                · subst ek; simp only [va_up_self]; exact (show _ = nrw _ v from ((if_neg (fun y => c56 (z1.mpr y))).trans (if_pos (z2.mp c72))).symm)
                · rw [va_up_ne _ _ (by omega)]; exact ((old.2.2 z).2.2 k hk).trans (va_up_ne _ _ ek).symm
              · rw [if_neg e]
                refine ⟨old.1, old.2.1, fun z => ⟨(old.2.2 z).1, (old.2.2 z).2.1, fun k hk => ?_⟩⟩
                rw [va_up_ne _ _ (by have := (old.2.2 z).1; omega)]; exact (old.2.2 z).2.2 k hk
            · (rw [oWrite, if_pos c4, iN_nI (by omega), if_neg n0, if_pos c34, iN_nI (by omega)]) <;> rfl
        · refine x_iload_n dX12_write_59 rfl ?_
          refine x_i2b dX12_write_60 ?_
          refine x_i2l dX12_write_61 ?_
          refine x_goto 83 dX12_write_62 (by decide) ?_
          refine x_last (40 * s1 + i1) m20 (by rw [show (40 : Int32) = nI 40 from rfl, ts_mul, nI_add]) (by omega) (by decide) dX12_write_83 ?_
          refine x_iconst (v := 1) dX12_write_84 (by decide) ?_
          refine x_iret rfl dX12_write_85 ⟨by decide, by decide⟩ ?_
          refine fnA (S' := shS S (wrH S.2.2.2.2.1 s1 i1 v)) (isN.of hz (hm.lng (i := 19) rfl) hv ⟨hr.1, hr.2.1, hr.2.2.1, fun j hj => ?_, hr.2.2.2.2⟩ (Fr.set (by omega) (by omega))) ?_
          · have old := hH j hj
            simp only [wrH, va_up_self]
            by_cases e : j = s1
            · subst e
              rw [if_pos rfl]
              refine ⟨old.1, old.2.1, fun z => ⟨(old.2.2 z).1, (old.2.2 z).2.1, fun k hk => ?_⟩⟩
              by_cases ek : k = i1
              · subst ek; simp only [va_up_self]; exact (show _ = nrw _ v from (if_pos (z1.mp c56)).symm)
              · rw [va_up_ne _ _ (by omega)]; exact ((old.2.2 z).2.2 k hk).trans (va_up_ne _ _ ek).symm
            · rw [if_neg e]
              refine ⟨old.1, old.2.1, fun z => ⟨(old.2.2 z).1, (old.2.2 z).2.1, fun k hk => ?_⟩⟩
              rw [va_up_ne _ _ (by have := (old.2.2 z).1; omega)]; exact (old.2.2 z).2.2 k hk
          · (rw [oWrite, if_pos c4, iN_nI (by omega), if_neg n0, if_pos c34, iN_nI (by omega)]) <;> rfl
      · refine x_bipush (v := -12) dX12_write_37 (by decide) ?_
        refine x_iret rfl dX12_write_39 ⟨by decide, by decide⟩ ?_
        exact fnA hn.rf (by rw [oWrite, if_pos c4, iN_nI (by omega), if_neg n0, if_neg c34] <;> rfl)
    · refine x_bipush (v := -11) dX12_write_18 (by decide) ?_
      refine x_iret rfl dX12_write_20 ⟨by decide, by decide⟩ ?_
      exact fnA hn.rf (by rw [oWrite, if_pos c4, iN_nI (by omega), if_pos ((soI_lt h4).mp (Int32.not_le.mp c15))] <;> rfl)
  · refine x_iconst (v := -1) dX12_write_7 (by decide) ?_
    refine x_iret rfl dX12_write_8 ⟨by decide, by decide⟩ ?_
    exact fnA hn.rf (by rw [oWrite, if_neg c4] <;> rfl)
def lf (a : Nat → Int32) (f : Nat → Int64) (i : Nat) : Nat → Int32 := fun j => if j % 5 = 3 ∧ j / 5 < i then nI (cl8 (f (j / 5))) else a j
theorem lf_0 (a : Nat → Int32) (f : Nat → Int64) : lf a f 0 = a := by funext j; exact if_neg (by omega)
theorem lf_s (a : Nat → Int32) (f : Nat → Int64) (i : Nat) : va_up (lf a f i) (5 * i + 3) (nI (cl8 (f i))) = lf a f (i + 1) := by
  funext j
  unfold va_up lf
  by_cases e : j = 5 * i + 3
  · subst e
    rw [if_pos rfl, if_pos (by omega), show (5 * i + 3) / 5 = i by omega]
  · rw [if_neg e]
    by_cases q : j % 5 = 3 ∧ j / 5 < i
    · rw [if_pos q, if_pos (by omega)]
    · rw [if_neg q, if_neg (by omega)]
theorem rp_ly {V : VS} {A : Nat → Nat → Int32} {f : Nat → Int64} {n : Nat} (hv : rpV V A) : rpV (layV V f n) (va_up A 0 (lf (A 0) f n)) := by
  refine ⟨layV_ok hv.1, fun g p hg hp => ?_, fun w hw => ?_, fun d hd => ?_, fun r hr => ?_⟩
  · rw [va_up_self]
    simp only [layV]
    by_cases e : g = 3
    · subst e
      rw [va_up_self]
      unfold lf
      by_cases q : p < n
      · rw [if_pos (by omega), if_pos q, show (5 * p + 3) / 5 = p by omega]
      · rw [if_neg (by omega), if_neg q]; exact hv.2.1 3 p hg hp
    · rw [va_up_ne _ _ e]
      unfold lf
      rw [if_neg (by omega)]
      exact hv.2.1 g p hg hp
  · simp only [layV]; rw [va_up_ne A _ (show (1 : Nat) ≠ 0 by decide), va_up_ne A _ (show (2 : Nat) ≠ 0 by decide), va_up_ne A _ (show (3 : Nat) ≠ 0 by decide), va_up_ne _ _ (show (5 : Nat) ≠ 3 by decide), va_up_ne _ _ (show (6 : Nat) ≠ 3 by decide)]; exact hv.2.2.1 w hw
  · simp only [layV]; rw [va_up_ne A _ (show (4 : Nat) ≠ 0 by decide), va_up_ne _ _ (show (7 : Nat) ≠ 3 by decide)]; exact hv.2.2.2.1 d hd
  · simp only [layV]; rw [va_up_ne A _ (show (5 : Nat) ≠ 0 by decide), va_up_ne _ _ (show (8 : Nat) ≠ 3 by decide), va_up_ne _ _ (show (9 : Nat) ≠ 3 by decide)]; exact hv.2.2.2.2 r hr
theorem cl8_a {v : Int64} (h : v < 0) : (0 : Int32) = nI (cl8 v) := by rw [cl8, if_pos h]; rfl
theorem cl8_b {v : Int64} (h : 8 < v) : (8 : Int32) = nI (cl8 v) := by
  rw [cl8, if_neg (fun z => by have h1 := (fa_lt64 _ _).mp z; have h2 := (fa_lt64 _ _).mp h; have e1 : (0 : Int64).toInt = 0 := rfl; have e2 : (8 : Int64).toInt = 8 := rfl; omega), if_pos h]; rfl
theorem cl8_c {v : Int64} (h0 : ¬ v < 0) (h8 : ¬ 8 < v) : v.toInt32 = nI (cl8 v) := by
  have k := cl8_I v
  by_cases e : v < 8
  · rw [if_pos e, if_neg h0] at k; exact k
  · rw [if_neg e, if_neg (by decide)] at k
    have h1 : ¬ (8 : Int64).toInt < v.toInt := fun z => h8 ((fa_lt64 _ _).mpr z)
    have h2 : ¬ v.toInt < (8 : Int64).toInt := fun z => e ((fa_lt64 _ _).mpr z)
    have : v = 8 := Int64.toInt_inj.mp (by omega)
    rw [this] at k ⊢; exact k
set_option maxRecDepth 10000 in
set_option maxHeartbeats 2000000 in
theorem ly52 {g : gG} {h : gH} {m s1 n1 : Nat} {V : VS} {s : Nat → Int32} {l : Nat → Int64} {A : Nat → Nat → Int32} {B : Nat → Nat → Int64} {c2 : Int32} {f : Nat → Int64} {Q : Option Value → gH → Prop} (hs : s1 < 4) (h8 : n1 ≤ 8) (hf : ∀ j, j < n1 → B 19 (40 * s1 + j) = f j) (hQ : ∀ h1, MM h1 m V s l (va_up A 0 (lf (A 0) f n1)) B → Fr m 27 h h1 → Q (some (.int (nI n1))) h1) : ∀ i, i ≤ n1 → ∀ (w : Option Value) h1, MM h1 m V s l (va_up A 0 (lf (A 0) f i)) B → Fr m 27 h h1 → Ex g mX12_lays (gZm g mX12_lays Q) 52 [some (.ref m), some (.int (nI s1)), some (.int c2), some (.int (nI n1)), some (.int (nI i)), w, none] [] h1 0 0 := by
  refine lp_up n1 (fun i hi ih w h1 hm1 F => ?_) (fun w h1 hm1 F => ?_)
  · have m20 : h1.1 (m + 20) = some (.inl (1, 160, .inr (.inl (B 19)))) := hm1.2 19 (by decide)
    have m1 : h1.1 (m + 1) = some (.inl (0, 40, .inl (va_up A 0 (lf (A 0) f i) 0))) := hm1.2 0 (by decide)
    refine x_iload dX12_lays_52 rfl ?_
    refine x_iload_n dX12_lays_54 rfl ?_
    refine x_icmp_ge_f 117 dX12_lays_55 (by decide) (ge_f (N := n1) rfl hi (by omega)) ?_
    refine x_aload_n dX12_lays_58 rfl ?_
    refine x_get fX12_72 hm1.1 rfl dX12_lays_59 ?_
    refine x_bipush (v := 40) dX12_lays_62 (by decide) ?_
    refine x_iload_n dX12_lays_64 rfl ?_
    refine x_imul dX12_lays_65 ?_
    refine x_iload dX12_lays_66 rfl ?_
    refine x_iadd dX12_lays_68 ?_
    refine x_lald (40 * s1 + i) m20 (by rw [show (40 : Int32) = nI 40 from rfl, ts_mul, nI_add]) (by omega) (by decide) dX12_lays_69 ?_
    rw [hf i hi]
    refine x_lst_5 dX12_lays_70 (by decide) rfl ?_
    refine x_aload_n dX12_lays_72 rfl ?_
    refine x_get fX12_7 hm1.1 rfl dX12_lays_73 ?_
    refine x_iconst (v := 5) dX12_lays_76 (by decide) ?_
    refine x_iload dX12_lays_77 rfl ?_
    refine x_imul dX12_lays_79 ?_
    refine x_iconst (v := 3) dX12_lays_80 (by decide) ?_
    refine x_iadd dX12_lays_81 ?_
    refine x_lload dX12_lays_82 rfl ?_
    refine x_lconst (v := 0) dX12_lays_84 (by decide) ?_
    refine x_lcmp dX12_lays_85 ?_
    refine x_if_ge 93 dX12_lays_86 (by decide) (fun c86 => ?_) (fun c86 => ?_)
    · refine x_lload dX12_lays_93 rfl ?_
      refine x_ldc2 dX12_lays_95 kX12_328 ?_
      refine x_lcmp dX12_lays_98 ?_
      refine x_if_le 107 dX12_lays_99 (by decide) (fun c99 => ?_) (fun c99 => ?_)
      · refine x_lload dX12_lays_107 rfl ?_
        refine x_l2i dX12_lays_109 ?_
        refine x_iast (5 * i + 3) m1 (by rw [show (5 : Int32) = nI 5 from rfl, ts_mul]; exact nI_add _ 3) (by omega) (by decide) dX12_lays_110 ?_
        refine x_inc_4  dX12_lays_111 (by decide) (nI_inc _) rfl ?_
        refine x_goto 52 dX12_lays_114 (by decide) ?_
        have hm2 := hm1.int (i := 0) (f := va_up (va_up A 0 (lf (A 0) f i) 0) (5 * i + 3) ((f i).toInt32)) rfl
        have eA : va_up (va_up A 0 (lf (A 0) f i)) 0 (va_up (va_up A 0 (lf (A 0) f i) 0) (5 * i + 3) ((f i).toInt32)) = va_up A 0 (lf (A 0) f (i + 1)) := by rw [va_2, va_up_self, show ((f i).toInt32) = nI (cl8 (f i)) from cl8_c (fun z => absurd (lg_lt.mpr z) (Int32.not_lt.mpr c86)) (lg_le.mp c99), lf_s]
        exact ih _ _ (eA ▸ hm2) (F.tr (Fr.set (by omega) (by omega)))
      · refine x_bipush (v := 8) dX12_lays_102 (by decide) ?_
        refine x_goto 110 dX12_lays_104 (by decide) ?_
        refine x_iast (5 * i + 3) m1 (by rw [show (5 : Int32) = nI 5 from rfl, ts_mul]; exact nI_add _ 3) (by omega) (by decide) dX12_lays_110 ?_
        refine x_inc_4  dX12_lays_111 (by decide) (nI_inc _) rfl ?_
        refine x_goto 52 dX12_lays_114 (by decide) ?_
        have hm2 := hm1.int (i := 0) (f := va_up (va_up A 0 (lf (A 0) f i) 0) (5 * i + 3) (8)) rfl
        have eA : va_up (va_up A 0 (lf (A 0) f i)) 0 (va_up (va_up A 0 (lf (A 0) f i) 0) (5 * i + 3) (8)) = va_up A 0 (lf (A 0) f (i + 1)) := by rw [va_2, va_up_self, show (8) = nI (cl8 (f i)) from cl8_b (lg_le2.mp c99), lf_s]
        exact ih _ _ (eA ▸ hm2) (F.tr (Fr.set (by omega) (by omega)))
    · refine x_iconst (v := 0) dX12_lays_89 (by decide) ?_
      refine x_goto 110 dX12_lays_90 (by decide) ?_
      refine x_iast (5 * i + 3) m1 (by rw [show (5 : Int32) = nI 5 from rfl, ts_mul]; exact nI_add _ 3) (by omega) (by decide) dX12_lays_110 ?_
      refine x_inc_4  dX12_lays_111 (by decide) (nI_inc _) rfl ?_
      refine x_goto 52 dX12_lays_114 (by decide) ?_
      have hm2 := hm1.int (i := 0) (f := va_up (va_up A 0 (lf (A 0) f i) 0) (5 * i + 3) (0)) rfl
      have eA : va_up (va_up A 0 (lf (A 0) f i)) 0 (va_up (va_up A 0 (lf (A 0) f i) 0) (5 * i + 3) (0)) = va_up A 0 (lf (A 0) f (i + 1)) := by rw [va_2, va_up_self, show (0) = nI (cl8 (f i)) from cl8_a (lg_lt.mp (Int32.not_le.mp c86)), lf_s]
      exact ih _ _ (eA ▸ hm2) (F.tr (Fr.set (by omega) (by omega)))
  · refine x_iload dX12_lays_52 rfl ?_
    refine x_iload_n dX12_lays_54 rfl ?_
    refine x_icmp_ge_t 117 dX12_lays_55 (by decide) (ge_t (N := n1) rfl (by omega)) ?_
    refine x_iload_n dX12_lays_117 rfl ?_
    refine x_iret rfl dX12_lays_118 ⟨by decide, by decide⟩ ?_
    exact hQ _ hm1 F
set_option maxRecDepth 10000 in
set_option maxHeartbeats 2000000 in
theorem c_X12_lays {g : gG} {h : gH} {m : Nat} {S : AS} (hn : isN h m S) {sh : Int32} : Ct g mX12_lays [.ref m, .int sh] h (some (.int (oLays S sh).1)) (Pn m ((oLays S sh).2, S.2) h) := by
  obtain ⟨hz, s, l, A, B, hm, hv, hr⟩ := id hn
  have mo := hm.1
  have m19 : h.1 (m + 19) = some (.inl (0, 4, .inl (A 18))) := hm.2 18 (by decide)
  have ok8 : S.1.1 0 ≤ 8 := hv.1.1.1
  have ok4 : S.1.1 1 ≤ 4 := hv.1.1.2.1
  have okr : S.1.1 2 ≤ 4 := hv.1.1.2.2
  have t256 : S.1.1 3 < 256 := lt256 hv.1.2.1 hv.1.1.1
  have hH := hr.2.2.2.1
  refine Cn.of (L := [some (.ref m), some (.int sh), none, none, none, none, none]) (by decide) (Nat.le_of_ble_eq_true rfl) rfl ?_
  refine x_iload_n dX12_lays_0 rfl ?_
  refine x_rdS c_X12_isShelf lkX12_isShelf sX12_362 dX12_lays_1 rfl rfl (Nat.le_of_ble_eq_true rfl) (by decide) ⟨rfl, rfl, by decide, by decide⟩ ?_
  refine x_if_neB 9 dX12_lays_4 (by decide) (fun c4 => ?_) (fun c4 => ?_)
  · obtain ⟨s1, hs, rfl⟩ := bl_E (b := 4) c4 (by decide)
    refine x_aload_n dX12_lays_9 rfl ?_
    refine x_iload_n dX12_lays_10 rfl ?_
    refine x_iconst (v := 2) dX12_lays_11 (by decide) ?_
    refine x_rdV (c_X12_lacksSort (t1 := 2) hm hH hs (by decide)) mo lkX12_lacksSort sX12_365 dX12_lays_12 rfl rfl (Nat.le_of_ble_eq_true rfl) (by decide) ⟨rfl, rfl, by decide, by decide⟩ ?_
    refine x_ist_2 dX12_lays_15 (by decide) rfl ?_
    refine x_iload_n dX12_lays_16 rfl ?_
    refine x_if_eq 22 dX12_lays_17 (by decide) (fun c17 => ?_) (fun c17 => ?_)
    · have el := lkI_0.mp c17
      have h5 := (hH s1 hs).2.2 (by omega)
      have lz : nI (S.1.1 0) ≤ nI (S.2.2.2.2.1 s1).2.1 ↔ S.1.1 0 ≤ (S.2.2.2.2.1 s1).2.1 := nI_leI (by omega) (by omega)
      refine x_aload_n dX12_lays_22 rfl ?_
      refine x_get fX12_69 mo rfl dX12_lays_23 ?_
      refine x_iload_n dX12_lays_26 rfl ?_
      refine x_iald s1 m19 rfl hs (by decide) dX12_lays_27 ?_
      rw [h5.2.1]
      refine x_aload_n dX12_lays_28 rfl ?_
      refine x_get fX12_97 mo rfl dX12_lays_29 ?_
      refine x_icmp_ge 44 dX12_lays_32 (by decide) (fun c32 => ?_) (fun c32 => ?_)
      · refine x_aload_n dX12_lays_44 rfl ?_
        refine x_get fX12_97 mo rfl dX12_lays_45 ?_
        refine x_ist_3 dX12_lays_48 (by decide) rfl ?_
        refine x_iconst (v := 0) dX12_lays_49 (by decide) ?_
        refine x_ist_4 dX12_lays_50 (by decide) rfl ?_
        have lz1 := lz.mp c32
        refine ly52 (A := A) (B := B) (h := h) (n1 := S.1.1 0) (f := (S.2.2.2.2.1 s1).2.2) hs (by omega) (fun j hj => h5.2.2 j (by omega)) (fun h1 hm1 F => ?_) 0 (by omega) _ _ (by rw [lf_0, va_id]; exact hm) Fr.rf
        refine fnM (V' := layV S.1 (S.2.2.2.2.1 s1).2.2 (S.1.1 0)) hz hm1 (rp_ly hv) hr F ?_
        rw [oLays, if_pos c4, iN_nI (by omega), if_neg (by omega), if_pos el, show min (S.2.2.2.2.1 s1).2.1 (S.1.1 0) = S.1.1 0 by omega]
      · refine x_aload_n dX12_lays_35 rfl ?_
        refine x_get fX12_69 mo rfl dX12_lays_36 ?_
        refine x_iload_n dX12_lays_39 rfl ?_
        refine x_iald s1 m19 rfl hs (by decide) dX12_lays_40 ?_
        rw [h5.2.1]
        refine x_goto 48 dX12_lays_41 (by decide) ?_
        refine x_ist_3 dX12_lays_48 (by decide) rfl ?_
        refine x_iconst (v := 0) dX12_lays_49 (by decide) ?_
        refine x_ist_4 dX12_lays_50 (by decide) rfl ?_
        have lz1 : ¬ S.1.1 0 ≤ (S.2.2.2.2.1 s1).2.1 := fun z => c32 (lz.mpr z)
        refine ly52 (A := A) (B := B) (h := h) (n1 := (S.2.2.2.2.1 s1).2.1) (f := (S.2.2.2.2.1 s1).2.2) hs (by omega) (fun j hj => h5.2.2 j (by omega)) (fun h1 hm1 F => ?_) 0 (by omega) _ _ (by rw [lf_0, va_id]; exact hm) Fr.rf
        refine fnM (V' := layV S.1 (S.2.2.2.2.1 s1).2.2 ((S.2.2.2.2.1 s1).2.1)) hz hm1 (rp_ly hv) hr F ?_
        rw [oLays, if_pos c4, iN_nI (by omega), if_neg (by omega), if_pos el, show min (S.2.2.2.2.1 s1).2.1 (S.1.1 0) = (S.2.2.2.2.1 s1).2.1 by omega]
    · refine x_iload_n dX12_lays_20 rfl ?_
      refine x_iret rfl dX12_lays_21 ⟨by decide, by decide⟩ ?_
      exact fnV hn (by
        rw [oLays, if_pos c4, iN_nI (by omega), lkI]
        by_cases z : (S.2.2.2.2.1 s1).1 = 0
        · rw [if_pos z, if_pos z]
        · rw [if_neg z, if_neg z, if_neg (fun y => c17 (lkI_0.mpr y)), if_neg (fun y => c17 (lkI_0.mpr y))])
  · refine x_iconst (v := -1) dX12_lays_7 (by decide) ?_
    refine x_iret rfl dX12_lays_8 ⟨by decide, by decide⟩ ?_
    exact fnV hn (by rw [oLays, if_neg c4] <;> rfl)
set_option maxRecDepth 10000 in
set_option maxHeartbeats 2000000 in
theorem c_X12_isHeld {g : gG} {h : gH} {m : Nat} {V : VS} {s : Nat → Int32} {l : Nat → Int64} {A : Nat → Nat → Int32} {B : Nat → Nat → Int64} (hm : MM h m V s l A B) (hv : rpV V A) {w n : Int32} : Rd g mX12_isHeld [.ref m, .int w, .int n] h (.int (b2i ((w = 0 ∧ bl n (nI (V.1 0)) = true) ∨ (w = 1 ∧ bl n 4 = true) ∨ w = 2))) := by
  have mo := hm.1
  refine Cn.of (L := [some (.ref m), some (.int w), some (.int n)]) (by decide) (Nat.le_of_ble_eq_true rfl) rfl ?_
  refine x_iload_n dX12_isHeld_0 rfl ?_
  refine x_if_ne 12 dX12_isHeld_1 (by decide) (fun c1 => ?_) (fun c1 => ?_)
  · refine x_iload_n dX12_isHeld_12 rfl ?_
    refine x_iconst (v := 1) dX12_isHeld_13 (by decide) ?_
    refine x_icmp_ne 24 dX12_isHeld_14 (by decide) (fun c14 => ?_) (fun c14 => ?_)
    · refine x_iload_n dX12_isHeld_24 rfl ?_
      refine x_iconst (v := 2) dX12_isHeld_25 (by decide) ?_
      refine x_icmp_ne 33 dX12_isHeld_26 (by decide) (fun c26 => ?_) (fun c26 => ?_)
      · refine x_iconst (v := 0) dX12_isHeld_33 (by decide) ?_
        refine x_zret rfl dX12_isHeld_34 ⟨by decide, by decide⟩ (by first | exact b2i_n | rfl) ?_
        exact ⟨by rw [b2i_f (fun z => z.elim (fun y => c1 y.1) (fun y => y.elim (fun x => c14 x.1) c26))], rfl⟩
      · refine x_iconst (v := 1) dX12_isHeld_29 (by decide) ?_
        refine x_goto 34 dX12_isHeld_30 (by decide) ?_
        refine x_zret rfl dX12_isHeld_34 ⟨by decide, by decide⟩ (by first | exact b2i_n | rfl) ?_
        exact ⟨by rw [b2i_t (.inr (.inr c26))], rfl⟩
    · refine x_iload_n dX12_isHeld_17 rfl ?_
      refine x_rdS c_X12_isShelf lkX12_isShelf sX12_362 dX12_isHeld_18 rfl rfl (Nat.le_of_ble_eq_true rfl) (by decide) ⟨rfl, rfl, by decide, by decide⟩ ?_
      refine x_goto 34 dX12_isHeld_21 (by decide) ?_
      refine x_zret rfl dX12_isHeld_34 ⟨by decide, by decide⟩ (by first | exact b2i_n | rfl) ?_
      exact ⟨by rw [b2i_c (p := (w = 0 ∧ _) ∨ _) (q := bl n 4 = true) ⟨fun z => z.elim (fun y => absurd y.1 c1) (fun y => y.elim (fun x => x.2) (fun x => absurd (c14 ▸ x : (1 : Int32) = 2) (by decide))), fun z => .inr (.inl ⟨c14, z⟩)⟩], rfl⟩
  · refine x_aload_n dX12_isHeld_4 rfl ?_
    refine x_iload_n dX12_isHeld_5 rfl ?_
    refine x_rdV (c_X12_isPath hm hv) mo lkX12_isPath sX12_246 dX12_isHeld_6 rfl rfl (Nat.le_of_ble_eq_true rfl) (by decide) ⟨rfl, rfl, by decide, by decide⟩ ?_
    refine x_goto 34 dX12_isHeld_9 (by decide) ?_
    refine x_zret rfl dX12_isHeld_34 ⟨by decide, by decide⟩ (by first | exact b2i_n | rfl) ?_
    exact ⟨by rw [b2i_c (p := (w = 0 ∧ _) ∨ _) (q := bl n (nI (V.1 0)) = true) ⟨fun z => z.elim (fun y => y.2) (fun y => y.elim (fun x => absurd (c1 ▸ x.1 : (0 : Int32) = 1) (by decide)) (fun x => absurd (c1 ▸ x : (0 : Int32) = 2) (by decide))), fun z => .inl ⟨c1, z⟩⟩], rfl⟩
