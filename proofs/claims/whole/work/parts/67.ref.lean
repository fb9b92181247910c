def slC (w : Nat × Nat × Nat) (a b c : Int32) : Prop := (w.1 = 0 ∧ a = -1) ∨ (w.1 = 1 ∧ w.2.1 < 8 ∧ a = 0 ∧ b = nI w.2.1) ∨ (w.1 = 2 ∧ w.2.1 < 4 ∧ w.2.2 ≤ 40 ∧ a = 1 ∧ b = nI w.2.1 ∧ c = nI w.2.2)
theorem rp_sl {L : Nat → Nat × Nat × Nat} {A A' : Nat → Nat → Int32} {f1 : Nat} {w : Nat × Nat × Nat} {x y z : Int32} (hL : rpL L A) (h20 : A' 20 = va_up (A 20) f1 x) (h21 : A' 21 = va_up (A 21) f1 y) (h22 : A' 22 = va_up (A 22) f1 z) (hw : slC w x y z) : rpL (upH L f1 w) A' := by
  intro i hi
  rw [h20, h21, h22]
  by_cases e : i = f1
  · subst e; rw [va_up_self, va_up_self, va_up_self, show upH L i w i = w from if_pos rfl]; exact hw
  · rw [va_up_ne _ _ e, va_up_ne _ _ e, va_up_ne _ _ e, show upH L f1 w i = L i from if_neg e]; exact hL i hi
set_option maxRecDepth 10000 in
set_option maxHeartbeats 2000000 in
theorem c_X12_shelf {g : gG} {h : gH} {m : Nat} {S : AS} (hn : isN h m S) {f w n : Int32} : Ct g mX12_shelf [.ref m, .int f, .int w, .int n] h (some (.int (oShelf S f w n).1)) (Pn m (oShelf S f w n).2 h) := by
  obtain ⟨hz, s, l, A, B, hm, hv, hr⟩ := id hn
  have mo := hm.1
  have m18 : h.1 (m + 18) = some (.inl (0, 4, .inl (A 17))) := hm.2 17 (by decide)
  have m19 : h.1 (m + 19) = some (.inl (0, 4, .inl (A 18))) := hm.2 18 (by decide)
  have m21 : h.1 (m + 21) = some (.inl (0, 4, .inl (A 20))) := hm.2 20 (by decide)
  have m22 : h.1 (m + 22) = some (.inl (0, 4, .inl (A 21))) := hm.2 21 (by decide)
  have m23 : h.1 (m + 23) = some (.inl (0, 4, .inl (A 22))) := hm.2 22 (by decide)
  have ok8 : S.1.1 0 ≤ 8 := hv.1.1.1
  have ok4 : S.1.1 1 ≤ 4 := hv.1.1.2.1
  have okr : S.1.1 2 ≤ 4 := hv.1.1.2.2
  have t256 : S.1.1 3 < 256 := lt256 hv.1.2.1 hv.1.1.1
  have hH := hr.2.2.2.1
  refine Cn.of (L := [some (.ref m), some (.int f), some (.int w), some (.int n)]) (by decide) (Nat.le_of_ble_eq_true rfl) rfl ?_
  refine x_iload_n dX12_shelf_0 rfl ?_
  refine x_rdS c_X12_isShelf lkX12_isShelf sX12_362 dX12_shelf_1 rfl rfl (Nat.le_of_ble_eq_true rfl) (by decide) ⟨rfl, rfl, by decide, by decide⟩ ?_
  refine x_if_eqB 16 dX12_shelf_4 (by decide) (fun c4 => ?_) (fun c4 => ?_)
  · refine x_iconst (v := -1) dX12_shelf_16 (by decide) ?_
    refine x_iret rfl dX12_shelf_17 ⟨by decide, by decide⟩ ?_
    exact fnA hn.rf (by rw [oShelf, if_neg (fun z => c4 z.1)] <;> rfl)
  · refine x_aload_n dX12_shelf_7 rfl ?_
    refine x_iload_n dX12_shelf_8 rfl ?_
    refine x_iload_n dX12_shelf_9 rfl ?_
    refine x_rdV (c_X12_isHeld hm hv) mo lkX12_isHeld sX12_368 dX12_shelf_10 rfl rfl (Nat.le_of_ble_eq_true rfl) (by decide) ⟨rfl, rfl, by decide, by decide⟩ ?_
    refine x_if_neB 18 dX12_shelf_13 (by decide) (fun c13 => ?_) (fun c13 => ?_)
    · obtain ⟨f1, hf, rfl⟩ := bl_E (b := 4) c4 (by decide)
      rcases c13 with ⟨rfl, hb⟩ | ⟨rfl, hb⟩ | rfl
      · obtain ⟨p1, hp, rfl⟩ := bl_E hb (by omega)
        have hp8 : p1 < 8 := by omega
        refine x_aload_n dX12_shelf_18 rfl ?_
        refine x_get fX12_75 mo rfl dX12_shelf_19 ?_
        refine x_iload_n dX12_shelf_22 rfl ?_
        refine x_iload_n dX12_shelf_23 rfl ?_
        refine x_iconst (v := 2) dX12_shelf_24 (by decide) ?_
        refine x_icmp_eq_f 42 dX12_shelf_25 (by decide) (by decide) ?_
        refine x_iload_n dX12_shelf_28 rfl ?_
        refine x_iconst (v := 1) dX12_shelf_29 (by decide) ?_
        refine x_icmp_ne_t 46 dX12_shelf_30 (by decide) (by decide) ?_
        refine x_iload_n dX12_shelf_46 rfl ?_
        refine x_iast f1 m21 rfl hf (by decide) dX12_shelf_47 ?_
        refine x_aload_n dX12_shelf_48 rfl ?_
        refine x_get fX12_78 ((hset_n (by omega)).trans mo) rfl dX12_shelf_49 ?_
        refine x_iload_n dX12_shelf_52 rfl ?_
        refine x_iload_n dX12_shelf_53 rfl ?_
        refine x_iconst (v := 1) dX12_shelf_54 (by decide) ?_
        refine x_icmp_ne_t 67 dX12_shelf_55 (by decide) (by decide) ?_
        refine x_iload_n dX12_shelf_67 rfl ?_
        refine x_iast f1 ((hset_n (by omega)).trans m22) rfl hf (by decide) dX12_shelf_68 ?_
        refine x_aload_n dX12_shelf_69 rfl ?_
        refine x_get fX12_81 ((hset_n (by omega)).trans ((hset_n (by omega)).trans mo)) rfl dX12_shelf_70 ?_
        refine x_iload_n dX12_shelf_73 rfl ?_
        refine x_iload_n dX12_shelf_74 rfl ?_
        refine x_iconst (v := 1) dX12_shelf_75 (by decide) ?_
        refine x_icmp_ne_t 88 dX12_shelf_76 (by decide) (by decide) ?_
        refine x_iconst (v := 0) dX12_shelf_88 (by decide) ?_
        refine x_iast f1 ((hset_n (by omega)).trans ((hset_n (by omega)).trans m23)) rfl hf (by decide) dX12_shelf_89 ?_
        refine x_iconst (v := 1) dX12_shelf_90 (by decide) ?_
        refine x_iret rfl dX12_shelf_91 ⟨by decide, by decide⟩ ?_
        refine fnA (S' := slS S (upH S.2.2.2.2.2.1 f1 (1, p1, 0))) (isN.of hz (((hm.int (i := 20) rfl).int (i := 21) rfl).int (i := 22) rfl) hv ⟨hr.1, hr.2.1, hr.2.2.1, hr.2.2.2.1, rp_sl hr.2.2.2.2.1 rfl rfl rfl (.inr (.inl ⟨rfl, hp8, rfl, rfl⟩)), hr.2.2.2.2.2⟩ (((Fr.set (by omega) (by omega)).tr (Fr.set (by omega) (by omega))).tr (Fr.set (by omega) (by omega)))) ?_
        (rw [oShelf, if_pos ⟨c4, .inl ⟨rfl, hb⟩⟩, iN_nI (by omega), slN, if_pos rfl, iN_nI (by omega)]) <;> rfl
      · obtain ⟨n1, hn1, rfl⟩ := bl_E (b := 4) hb (by decide)
        obtain ⟨h4, e1, h5⟩ := id (hH n1 hn1)
        refine x_aload_n dX12_shelf_18 rfl ?_
        refine x_get fX12_75 mo rfl dX12_shelf_19 ?_
        refine x_iload_n dX12_shelf_22 rfl ?_
        refine x_iload_n dX12_shelf_23 rfl ?_
        refine x_iconst (v := 2) dX12_shelf_24 (by decide) ?_
        refine x_icmp_eq_f 42 dX12_shelf_25 (by decide) (by decide) ?_
        refine x_iload_n dX12_shelf_28 rfl ?_
        refine x_iconst (v := 1) dX12_shelf_29 (by decide) ?_
        refine x_icmp_ne_f 46 dX12_shelf_30 (by decide) rfl ?_
        refine x_aload_n dX12_shelf_33 rfl ?_
        refine x_get fX12_66 mo rfl dX12_shelf_34 ?_
        refine x_iload_n dX12_shelf_37 rfl ?_
        refine x_iald n1 m18 rfl hn1 (by decide) dX12_shelf_38 ?_
        rw [e1]
        refine x_if_ge 46 dX12_shelf_39 (by decide) (fun c39 => ?_) (fun c39 => ?_)
        · refine x_iload_n dX12_shelf_46 rfl ?_
          refine x_iast f1 m21 rfl hf (by decide) dX12_shelf_47 ?_
          refine x_aload_n dX12_shelf_48 rfl ?_
          refine x_get fX12_78 ((hset_n (by omega)).trans mo) rfl dX12_shelf_49 ?_
          refine x_iload_n dX12_shelf_52 rfl ?_
          refine x_iload_n dX12_shelf_53 rfl ?_
          refine x_iconst (v := 1) dX12_shelf_54 (by decide) ?_
          refine x_icmp_ne_f 67 dX12_shelf_55 (by decide) rfl ?_
          refine x_aload_n dX12_shelf_58 rfl ?_
          refine x_get fX12_66 ((hset_n (by omega)).trans mo) rfl dX12_shelf_59 ?_
          refine x_iload_n dX12_shelf_62 rfl ?_
          refine x_iald n1 ((hset_n (by omega)).trans m18) rfl hn1 (by decide) dX12_shelf_63 ?_
          rw [e1]
          refine x_goto 68 dX12_shelf_64 (by decide) ?_
          refine x_iast f1 ((hset_n (by omega)).trans m22) rfl hf (by decide) dX12_shelf_68 ?_
          refine x_aload_n dX12_shelf_69 rfl ?_
          refine x_get fX12_81 ((hset_n (by omega)).trans ((hset_n (by omega)).trans mo)) rfl dX12_shelf_70 ?_
          refine x_iload_n dX12_shelf_73 rfl ?_
          refine x_iload_n dX12_shelf_74 rfl ?_
          refine x_iconst (v := 1) dX12_shelf_75 (by decide) ?_
          refine x_icmp_ne_f 88 dX12_shelf_76 (by decide) rfl ?_
          refine x_aload_n dX12_shelf_79 rfl ?_
          refine x_get fX12_69 ((hset_n (by omega)).trans ((hset_n (by omega)).trans mo)) rfl dX12_shelf_80 ?_
          refine x_iload_n dX12_shelf_83 rfl ?_
          refine x_iald n1 ((hset_n (by omega)).trans ((hset_n (by omega)).trans m19)) rfl hn1 (by decide) dX12_shelf_84 ?_
          refine x_goto 89 dX12_shelf_85 (by decide) ?_
          refine x_iast f1 ((hset_n (by omega)).trans ((hset_n (by omega)).trans m23)) rfl hf (by decide) dX12_shelf_89 ?_
          refine x_iconst (v := 1) dX12_shelf_90 (by decide) ?_
          refine x_iret rfl dX12_shelf_91 ⟨by decide, by decide⟩ ?_
          have n0 : ¬ (S.2.2.2.2.1 n1).1 = 0 := fun z => absurd ((soI_lt h4).mpr z) (Int32.not_lt.mpr c39)
          have h6 := h5 (by omega)
          refine fnA (S' := slS S (upH S.2.2.2.2.2.1 f1 (2, (S.2.2.2.2.1 n1).1 - 1, (S.2.2.2.2.1 n1).2.1))) (isN.of hz (((hm.int (i := 20) rfl).int (i := 21) rfl).int (i := 22) rfl) hv ⟨hr.1, hr.2.1, hr.2.2.1, hr.2.2.2.1, rp_sl hr.2.2.2.2.1 rfl rfl rfl (.inr (.inr ⟨rfl, by show (S.2.2.2.2.1 n1).1 - 1 < 4; omega, h6.1, rfl, soI_p (by omega), h6.2.1⟩)), hr.2.2.2.2.2⟩ (((Fr.set (by omega) (by omega)).tr (Fr.set (by omega) (by omega))).tr (Fr.set (by omega) (by omega)))) ?_
          (rw [oShelf, if_pos ⟨c4, .inr (.inl ⟨rfl, hb⟩)⟩, iN_nI (by omega), slN, if_neg (by decide), if_pos rfl, iN_nI (by omega), if_neg n0]) <;> rfl
        · refine x_iconst (v := -1) dX12_shelf_42 (by decide) ?_
          refine x_goto 47 dX12_shelf_43 (by decide) ?_
          refine x_iast f1 m21 rfl hf (by decide) dX12_shelf_47 ?_
          refine x_aload_n dX12_shelf_48 rfl ?_
          refine x_get fX12_78 ((hset_n (by omega)).trans mo) rfl dX12_shelf_49 ?_
          refine x_iload_n dX12_shelf_52 rfl ?_
          refine x_iload_n dX12_shelf_53 rfl ?_
          refine x_iconst (v := 1) dX12_shelf_54 (by decide) ?_
          refine x_icmp_ne_f 67 dX12_shelf_55 (by decide) rfl ?_
          refine x_aload_n dX12_shelf_58 rfl ?_
          refine x_get fX12_66 ((hset_n (by omega)).trans mo) rfl dX12_shelf_59 ?_
          refine x_iload_n dX12_shelf_62 rfl ?_
          refine x_iald n1 ((hset_n (by omega)).trans m18) rfl hn1 (by decide) dX12_shelf_63 ?_
          rw [e1]
          refine x_goto 68 dX12_shelf_64 (by decide) ?_
          refine x_iast f1 ((hset_n (by omega)).trans m22) rfl hf (by decide) dX12_shelf_68 ?_
          refine x_aload_n dX12_shelf_69 rfl ?_
          refine x_get fX12_81 ((hset_n (by omega)).trans ((hset_n (by omega)).trans mo)) rfl dX12_shelf_70 ?_
          refine x_iload_n dX12_shelf_73 rfl ?_
          refine x_iload_n dX12_shelf_74 rfl ?_
          refine x_iconst (v := 1) dX12_shelf_75 (by decide) ?_
          refine x_icmp_ne_f 88 dX12_shelf_76 (by decide) rfl ?_
          refine x_aload_n dX12_shelf_79 rfl ?_
          refine x_get fX12_69 ((hset_n (by omega)).trans ((hset_n (by omega)).trans mo)) rfl dX12_shelf_80 ?_
          refine x_iload_n dX12_shelf_83 rfl ?_
          refine x_iald n1 ((hset_n (by omega)).trans ((hset_n (by omega)).trans m19)) rfl hn1 (by decide) dX12_shelf_84 ?_
          refine x_goto 89 dX12_shelf_85 (by decide) ?_
          refine x_iast f1 ((hset_n (by omega)).trans ((hset_n (by omega)).trans m23)) rfl hf (by decide) dX12_shelf_89 ?_
          refine x_iconst (v := 1) dX12_shelf_90 (by decide) ?_
          refine x_iret rfl dX12_shelf_91 ⟨by decide, by decide⟩ ?_
          have n0 := (soI_lt h4).mp (Int32.not_le.mp c39)
          refine fnA (S' := slS S (upH S.2.2.2.2.2.1 f1 (0, 0, 0))) (isN.of hz (((hm.int (i := 20) rfl).int (i := 21) rfl).int (i := 22) rfl) hv ⟨hr.1, hr.2.1, hr.2.2.1, hr.2.2.2.1, rp_sl hr.2.2.2.2.1 rfl rfl rfl (.inl ⟨rfl, rfl⟩), hr.2.2.2.2.2⟩ (((Fr.set (by omega) (by omega)).tr (Fr.set (by omega) (by omega))).tr (Fr.set (by omega) (by omega)))) ?_
          (rw [oShelf, if_pos ⟨c4, .inr (.inl ⟨rfl, hb⟩)⟩, iN_nI (by omega), slN, if_neg (by decide), if_pos rfl, iN_nI (by omega), if_pos n0]) <;> rfl
      · refine x_aload_n dX12_shelf_18 rfl ?_
        refine x_get fX12_75 mo rfl dX12_shelf_19 ?_
        refine x_iload_n dX12_shelf_22 rfl ?_
        refine x_iload_n dX12_shelf_23 rfl ?_
        refine x_iconst (v := 2) dX12_shelf_24 (by decide) ?_
        refine x_icmp_eq_t 42 dX12_shelf_25 (by decide) rfl ?_
        refine x_iconst (v := -1) dX12_shelf_42 (by decide) ?_
        refine x_goto 47 dX12_shelf_43 (by decide) ?_
        refine x_iast f1 m21 rfl hf (by decide) dX12_shelf_47 ?_
        refine x_aload_n dX12_shelf_48 rfl ?_
        refine x_get fX12_78 ((hset_n (by omega)).trans mo) rfl dX12_shelf_49 ?_
        refine x_iload_n dX12_shelf_52 rfl ?_
        refine x_iload_n dX12_shelf_53 rfl ?_
        refine x_iconst (v := 1) dX12_shelf_54 (by decide) ?_
        refine x_icmp_ne_t 67 dX12_shelf_55 (by decide) (by decide) ?_
        refine x_iload_n dX12_shelf_67 rfl ?_
        refine x_iast f1 ((hset_n (by omega)).trans m22) rfl hf (by decide) dX12_shelf_68 ?_
        refine x_aload_n dX12_shelf_69 rfl ?_
        refine x_get fX12_81 ((hset_n (by omega)).trans ((hset_n (by omega)).trans mo)) rfl dX12_shelf_70 ?_
        refine x_iload_n dX12_shelf_73 rfl ?_
        refine x_iload_n dX12_shelf_74 rfl ?_
        refine x_iconst (v := 1) dX12_shelf_75 (by decide) ?_
        refine x_icmp_ne_t 88 dX12_shelf_76 (by decide) (by decide) ?_
        refine x_iconst (v := 0) dX12_shelf_88 (by decide) ?_
        refine x_iast f1 ((hset_n (by omega)).trans ((hset_n (by omega)).trans m23)) rfl hf (by decide) dX12_shelf_89 ?_
        refine x_iconst (v := 1) dX12_shelf_90 (by decide) ?_
        refine x_iret rfl dX12_shelf_91 ⟨by decide, by decide⟩ ?_
        refine fnA (S' := slS S (upH S.2.2.2.2.2.1 f1 (0, 0, 0))) (isN.of hz (((hm.int (i := 20) rfl).int (i := 21) rfl).int (i := 22) rfl) hv ⟨hr.1, hr.2.1, hr.2.2.1, hr.2.2.2.1, rp_sl hr.2.2.2.2.1 rfl rfl rfl (.inl ⟨rfl, rfl⟩), hr.2.2.2.2.2⟩ (((Fr.set (by omega) (by omega)).tr (Fr.set (by omega) (by omega))).tr (Fr.set (by omega) (by omega)))) ?_
        (rw [oShelf, if_pos ⟨c4, .inr (.inr rfl)⟩, iN_nI (by omega), slN, if_neg (by decide), if_neg (by decide)]) <;> rfl
    · refine x_iconst (v := -1) dX12_shelf_16 (by decide) ?_
      refine x_iret rfl dX12_shelf_17 ⟨by decide, by decide⟩ ?_
      exact fnA hn.rf (by rw [oShelf, if_neg (fun z => c13 z.2)] <;> rfl)
def kOn (S : AS) (f : Nat) : Int32 := if (onS' S f).1 = 0 then -1 else if (onS' S f).1 = 1 then nI (S.1.2.2 0 (onS' S f).2.1) else 9
set_option maxRecDepth 10000 in
set_option maxHeartbeats 2000000 in
theorem c_X12_kindOn {g : gG} {h : gH} {m : Nat} {S : AS} {s : Nat → Int32} {l : Nat → Int64} {A : Nat → Nat → Int32} {B : Nat → Nat → Int64} (hm : MM h m S.1 s l A B) (hv : rpV S.1 A) (hL : rpL S.2.2.2.2.2.1 A) {f1 : Nat} (hf : f1 < 4) : Rd g mX12_kindOn [.ref m, .int (nI f1)] h (.int (kOn S f1)) := by
  have mo := hm.1
  have m21 : h.1 (m + 21) = some (.inl (0, 4, .inl (A 20))) := hm.2 20 (by decide)
  have m22 : h.1 (m + 22) = some (.inl (0, 4, .inl (A 21))) := hm.2 21 (by decide)
  have m23 : h.1 (m + 23) = some (.inl (0, 4, .inl (A 22))) := hm.2 22 (by decide)
  have ok8 : S.1.1 0 ≤ 8 := hv.1.1.1
  have ok4 : S.1.1 1 ≤ 4 := hv.1.1.2.1
  have okr : S.1.1 2 ≤ 4 := hv.1.1.2.2
  have t256 : S.1.1 3 < 256 := lt256 hv.1.2.1 hv.1.1.1
  rcases hL f1 hf with ⟨y1, y2⟩ | ⟨y1, y2, y3, y4⟩ | ⟨y1, y2, y3, y4, y5, y6⟩
  · refine Cn.of (L := [some (.ref m), some (.int (nI f1))]) (by decide) (Nat.le_of_ble_eq_true rfl) rfl ?_
    refine x_aload_n dX12_kindOn_0 rfl ?_
    refine x_get fX12_75 mo rfl dX12_kindOn_1 ?_
    refine x_iload_n dX12_kindOn_4 rfl ?_
    refine x_iald f1 m21 rfl hf (by decide) dX12_kindOn_5 ?_
    rw [y2]
    refine x_if_eq_f 25 dX12_kindOn_6 (by decide) (by decide) ?_
    refine x_aload_n dX12_kindOn_9 rfl ?_
    refine x_get fX12_75 mo rfl dX12_kindOn_10 ?_
    refine x_iload_n dX12_kindOn_13 rfl ?_
    refine x_iald f1 m21 rfl hf (by decide) dX12_kindOn_14 ?_
    rw [y2]
    refine x_if_ge_f 22 dX12_kindOn_15 (by decide) (by decide) ?_
    refine x_iconst (v := -1) dX12_kindOn_18 (by decide) ?_
    refine x_goto 24 dX12_kindOn_19 (by decide) ?_
    refine x_iret rfl dX12_kindOn_24 ⟨by decide, by decide⟩ ?_
    exact ⟨by rw [kOn, if_pos (show (onS' S f1).1 = 0 by rw [onS', if_neg (by omega)]; exact y1)] <;> rfl, rfl⟩
  · refine Cn.of (L := [some (.ref m), some (.int (nI f1))]) (by decide) (Nat.le_of_ble_eq_true rfl) rfl ?_
    refine x_aload_n dX12_kindOn_0 rfl ?_
    refine x_get fX12_75 mo rfl dX12_kindOn_1 ?_
    refine x_iload_n dX12_kindOn_4 rfl ?_
    refine x_iald f1 m21 rfl hf (by decide) dX12_kindOn_5 ?_
    rw [y3]
    refine x_if_eq_t 25 dX12_kindOn_6 (by decide) rfl ?_
    refine x_aload_n dX12_kindOn_25 rfl ?_
    refine x_aload_n dX12_kindOn_26 rfl ?_
    refine x_get fX12_78 mo rfl dX12_kindOn_27 ?_
    refine x_iload_n dX12_kindOn_30 rfl ?_
    refine x_iald f1 m22 rfl hf (by decide) dX12_kindOn_31 ?_
    rw [y4]
    refine x_rdV (c_X12_isPath hm hv) mo lkX12_isPath sX12_246 dX12_kindOn_32 rfl rfl (Nat.le_of_ble_eq_true rfl) (by decide) ⟨rfl, rfl, by decide, by decide⟩ ?_
    refine x_if_eqB 52 dX12_kindOn_35 (by decide) (fun c35 => ?_) (fun c35 => ?_)
    · refine x_iconst (v := -1) dX12_kindOn_52 (by decide) ?_
      refine x_iret rfl dX12_kindOn_53 ⟨by decide, by decide⟩ ?_
      exact ⟨by rw [kOn, if_pos (show (onS' S f1).1 = 0 by rw [onS', if_pos ⟨y1, fun z => c35 ((bl_iff (by omega) (by omega)).mpr z)⟩])] <;> rfl, rfl⟩
    · have pl := (bl_iff (by omega) (by omega)).mp c35
      refine x_aload_n dX12_kindOn_38 rfl ?_
      refine x_aload_n dX12_kindOn_39 rfl ?_
      refine x_get fX12_78 mo rfl dX12_kindOn_40 ?_
      refine x_iload_n dX12_kindOn_43 rfl ?_
      refine x_iald f1 m22 rfl hf (by decide) dX12_kindOn_44 ?_
      refine x_iconst (v := 0) dX12_kindOn_45 (by decide) ?_
      rw [y4]
      refine x_rdV (c_X12_its hm hv (f := 0) pl (by decide)) mo lkX12_its sX12_106 dX12_kindOn_46 rfl rfl (Nat.le_of_ble_eq_true rfl) (by decide) ⟨rfl, rfl, by decide, by decide⟩ ?_
      refine x_goto 53 dX12_kindOn_49 (by decide) ?_
      refine x_iret rfl dX12_kindOn_53 ⟨by decide, by decide⟩ ?_
      exact ⟨by rw [kOn, show onS' S f1 = S.2.2.2.2.2.1 f1 from if_neg (fun z => z.2 pl), if_neg (by omega), if_pos y1] <;> rfl, rfl⟩
  · refine Cn.of (L := [some (.ref m), some (.int (nI f1))]) (by decide) (Nat.le_of_ble_eq_true rfl) rfl ?_
    refine x_aload_n dX12_kindOn_0 rfl ?_
    refine x_get fX12_75 mo rfl dX12_kindOn_1 ?_
    refine x_iload_n dX12_kindOn_4 rfl ?_
    refine x_iald f1 m21 rfl hf (by decide) dX12_kindOn_5 ?_
    rw [y4]
    refine x_if_eq_f 25 dX12_kindOn_6 (by decide) (by decide) ?_
    refine x_aload_n dX12_kindOn_9 rfl ?_
    refine x_get fX12_75 mo rfl dX12_kindOn_10 ?_
    refine x_iload_n dX12_kindOn_13 rfl ?_
    refine x_iald f1 m21 rfl hf (by decide) dX12_kindOn_14 ?_
    rw [y4]
    refine x_if_ge_t 22 dX12_kindOn_15 (by decide) (by decide) ?_
    refine x_bipush (v := 9) dX12_kindOn_22 (by decide) ?_
    refine x_iret rfl dX12_kindOn_24 ⟨by decide, by decide⟩ ?_
    exact ⟨by rw [kOn, show onS' S f1 = S.2.2.2.2.2.1 f1 from if_neg (by omega), if_neg (by omega), if_neg (by omega)] <;> rfl, rfl⟩
set_option maxRecDepth 10000 in
set_option maxHeartbeats 2000000 in
theorem c_X12_isUnder {g : gG} {h : gH} {k : Nat} {a : Int32} (hk : k < 6) : Rd g mX12_isUnder [.int (nI k), .int a] h (.int (b2i (ofK k a))) := by
  have k3 : nI k = 3 ↔ k = 3 := nI_eq (b := 3) (by omega) (by decide)
  have k4 : nI k = 4 ↔ k = 4 := nI_eq (b := 4) (by omega) (by decide)
  refine Cn.of (L := [some (.int (nI k)), some (.int a)]) (by decide) (Nat.le_of_ble_eq_true rfl) rfl ?_
  refine x_iload_n dX12_isUnder_0 rfl ?_
  refine x_if_eq 24 dX12_isUnder_1 (by decide) (fun c1 => ?_) (fun c1 => ?_)
  · refine x_iconst (v := 1) dX12_isUnder_24 (by decide) ?_
    refine x_goto 29 dX12_isUnder_25 (by decide) ?_
    refine x_zret rfl dX12_isUnder_29 ⟨by decide, by decide⟩ rfl ?_
    exact ⟨by rw [b2i_t (.inl c1)], rfl⟩
  · refine x_iload_n dX12_isUnder_4 rfl ?_
    refine x_iload_n dX12_isUnder_5 rfl ?_
    refine x_icmp_eq 24 dX12_isUnder_6 (by decide) (fun c6 => ?_) (fun c6 => ?_)
    · refine x_iconst (v := 1) dX12_isUnder_24 (by decide) ?_
      refine x_goto 29 dX12_isUnder_25 (by decide) ?_
      refine x_zret rfl dX12_isUnder_29 ⟨by decide, by decide⟩ rfl ?_
      exact ⟨by rw [b2i_t (.inr (.inl c6))], rfl⟩
    · refine x_iload_n dX12_isUnder_9 rfl ?_
      refine x_iconst (v := 1) dX12_isUnder_10 (by decide) ?_
      refine x_icmp_ne 28 dX12_isUnder_11 (by decide) (fun c11 => ?_) (fun c11 => ?_)
      · refine x_iconst (v := 0) dX12_isUnder_28 (by decide) ?_
        refine x_zret rfl dX12_isUnder_29 ⟨by decide, by decide⟩ rfl ?_
        exact ⟨by rw [b2i_f (fun z => z.elim c1 (fun y => y.elim c6 (fun x => c11 x.1)))], rfl⟩
      · refine x_iload_n dX12_isUnder_14 rfl ?_
        refine x_iconst (v := 3) dX12_isUnder_15 (by decide) ?_
        refine x_icmp_eq 24 dX12_isUnder_16 (by decide) (fun c16 => ?_) (fun c16 => ?_)
        · refine x_iconst (v := 1) dX12_isUnder_24 (by decide) ?_
          refine x_goto 29 dX12_isUnder_25 (by decide) ?_
          refine x_zret rfl dX12_isUnder_29 ⟨by decide, by decide⟩ rfl ?_
          exact ⟨by rw [b2i_t (.inr (.inr ⟨c11, .inl (k3.mp c16)⟩))], rfl⟩
        · refine x_iload_n dX12_isUnder_19 rfl ?_
          refine x_iconst (v := 4) dX12_isUnder_20 (by decide) ?_
          refine x_icmp_ne 28 dX12_isUnder_21 (by decide) (fun c21 => ?_) (fun c21 => ?_)
          · refine x_iconst (v := 0) dX12_isUnder_28 (by decide) ?_
            refine x_zret rfl dX12_isUnder_29 ⟨by decide, by decide⟩ rfl ?_
            exact ⟨by rw [b2i_f (fun z => z.elim c1 (fun y => y.elim c6 (fun x => x.2.elim (fun w => c16 (k3.mpr w)) (fun w => c21 (k4.mpr w)))))], rfl⟩
          · refine x_iconst (v := 1) dX12_isUnder_24 (by decide) ?_
            refine x_goto 29 dX12_isUnder_25 (by decide) ?_
            refine x_zret rfl dX12_isUnder_29 ⟨by decide, by decide⟩ rfl ?_
            exact ⟨by rw [b2i_t (.inr (.inr ⟨c11, .inr (k4.mp c21)⟩))], rfl⟩
theorem tk_10 {a : Int32} : (10 ≤ a ∧ a ≤ 13) ↔ bl (a - 10) 4 = true := by
  constructor
  · rintro ⟨h1, h2⟩
    have q1 := (fa_le _ _).mp h1
    have q2 := (fa_le _ _).mp h2
    have e1 : (10 : Int32).toInt = 10 := rfl
    have e2 : (13 : Int32).toInt = 13 := rfl
    obtain ⟨j, hj, rfl⟩ := nI_of2 (x := a) (M := 13) (n := 13) rfl (fun z => by have := (fa_lt _ _).mp z; have e3 : (0 : Int32).toInt = 0 := rfl; omega) h2
    rw [nI_toInt (by omega)] at q1
    rw [show (10 : Int32) = nI 10 from rfl, ts_sub (by omega)]
    exact bl_I (b := 4) (by omega) (by decide)
  · intro h
    obtain ⟨k, hk, e⟩ := bl_E (b := 4) h (by decide)
    have : a = nI (k + 10) := by
      rw [← nI_add, ← e, show nI 10 = (10 : Int32) from rfl, Int32.sub_add_cancel]
    subst this
    exact ⟨nI_le (a := 10) (by omega) (by omega), nI_le (b := 13) (by omega) (by decide)⟩
theorem tk_eq {a x : Int32} : a = 10 + x ↔ x = a - 10 := by
  constructor
  · rintro rfl; rw [Int32.add_comm, Int32.add_sub_cancel]
  · rintro rfl; rw [Int32.add_comm, Int32.sub_add_cancel]
theorem tk_lt {a : Int32} (h : bl a 6 = true) : a < 10 := by
  obtain ⟨k, hk, rfl⟩ := bl_E (b := 6) h (by decide)
  exact nI_lt (b := 10) (by omega) (by decide)
theorem tk_ge {a : Int32} (h : bl (a - 10) 4 = true) : ¬ a < 10 := Int32.not_lt.mpr (tk_10.mpr h).1
set_option maxRecDepth 10000 in
set_option maxHeartbeats 2000000 in
theorem c_X12_taken {g : gG} {h : gH} {m : Nat} {S : AS} (hn : isN h m S) {f a : Int32} : Rd g mX12_taken [.ref m, .int f, .int a] h (.int (qTaken S f a)) := by
  obtain ⟨hz, s, l, A, B, hm, hv, hr⟩ := id hn
  have mo := hm.1
  have m21 : h.1 (m + 21) = some (.inl (0, 4, .inl (A 20))) := hm.2 20 (by decide)
  have m22 : h.1 (m + 22) = some (.inl (0, 4, .inl (A 21))) := hm.2 21 (by decide)
  have m23 : h.1 (m + 23) = some (.inl (0, 4, .inl (A 22))) := hm.2 22 (by decide)
  have ok8 : S.1.1 0 ≤ 8 := hv.1.1.1
  have ok4 : S.1.1 1 ≤ 4 := hv.1.1.2.1
  have okr : S.1.1 2 ≤ 4 := hv.1.1.2.2
  have t256 : S.1.1 3 < 256 := lt256 hv.1.2.1 hv.1.1.1
  have hL := hr.2.2.2.2.1
  refine Cn.of (L := [some (.ref m), some (.int f), some (.int a), none]) (by decide) (Nat.le_of_ble_eq_true rfl) rfl ?_
  refine x_iload_n dX12_taken_0 rfl ?_
  refine x_rdS c_X12_isShelf lkX12_isShelf sX12_362 dX12_taken_1 rfl rfl (Nat.le_of_ble_eq_true rfl) (by decide) ⟨rfl, rfl, by decide, by decide⟩ ?_
  refine x_if_eqB 27 dX12_taken_4 (by decide) (fun c4 => ?_) (fun c4 => ?_)
  · refine x_iconst (v := -1) dX12_taken_27 (by decide) ?_
    refine x_iret rfl dX12_taken_28 ⟨by decide, by decide⟩ ?_
    exact ⟨by rw [qTaken, if_neg (fun z => c4 z.1)] <;> rfl, rfl⟩
  · refine x_iload_n dX12_taken_7 rfl ?_
    refine x_iconst (v := 0) dX12_taken_8 (by decide) ?_
    refine x_iconst (v := 5) dX12_taken_9 (by decide) ?_
    refine x_rdS (mc_inC 6 (by decide) (by decide)) lkX12_in sX12_93 dX12_taken_10 rfl rfl (Nat.le_of_ble_eq_true rfl) (by decide) ⟨rfl, rfl, by decide, by decide⟩ ?_
    refine x_if_neB 29 dX12_taken_13 (by decide) (fun c13 => ?_) (fun c13 => ?_)
    · obtain ⟨f1, hf, rfl⟩ := bl_E (b := 4) c4 (by decide)
      rcases hL f1 hf with ⟨y1, y2⟩ | ⟨y1, y2, y3, y4⟩ | ⟨y1, y2, y3, y4, y5, y6⟩
      · have e0 : (onS' S f1).1 = 0 := by rw [onS', if_neg (by omega)]; exact y1
        refine x_aload_n dX12_taken_29 rfl ?_
        refine x_iload_n dX12_taken_30 rfl ?_
        refine x_rdV (c_X12_kindOn hm hv hL hf) mo lkX12_kindOn sX12_371 dX12_taken_31 rfl rfl (Nat.le_of_ble_eq_true rfl) (by decide) ⟨rfl, rfl, by decide, by decide⟩ ?_
        rw [kOn, if_pos e0]
        refine x_ist_3 dX12_taken_34 (by decide) rfl ?_
        refine x_iload_n dX12_taken_35 rfl ?_
        refine x_if_ge_f 42 dX12_taken_36 (by decide) (by decide) ?_
        refine x_bipush (v := -11) dX12_taken_39 (by decide) ?_
        refine x_iret rfl dX12_taken_41 ⟨by decide, by decide⟩ ?_
        exact ⟨by rw [qTaken, if_pos ⟨c4, .inl c13⟩, iN_nI (by omega), if_pos e0] <;> rfl, rfl⟩
      · by_cases pl : (S.2.2.2.2.2.1 f1).2.1 < S.1.1 0
        · have eo : onS' S f1 = S.2.2.2.2.2.1 f1 := if_neg (fun z => z.2 pl)
          have e1 : (onS' S f1).1 = 1 := by rw [eo]; exact y1
          have k6 := (hv.1.2.2.2.1 (onS' S f1).2.1 (by rw [eo]; exact pl)).1
          have y4 : A 21 f1 = nI (onS' S f1).2.1 := by rw [eo]; exact y4
          refine x_aload_n dX12_taken_29 rfl ?_
          refine x_iload_n dX12_taken_30 rfl ?_
          refine x_rdV (c_X12_kindOn hm hv hL hf) mo lkX12_kindOn sX12_371 dX12_taken_31 rfl rfl (Nat.le_of_ble_eq_true rfl) (by decide) ⟨rfl, rfl, by decide, by decide⟩ ?_
          rw [kOn, if_neg (by omega), if_pos e1]
          refine x_ist_3 dX12_taken_34 (by decide) rfl ?_
          refine x_iload_n dX12_taken_35 rfl ?_
          refine x_if_ge_t 42 dX12_taken_36 (by decide) (nI_pos' (by omega)) ?_
          refine x_iload_n dX12_taken_42 rfl ?_
          refine x_bipush (v := 9) dX12_taken_43 (by decide) ?_
          refine x_icmp_ne_t 73 dX12_taken_45 (by decide) (fun z => by have := nI_eqn (b := 9) (by omega) (by decide) z; omega) ?_
          refine x_iload_n dX12_taken_73 rfl ?_
          refine x_bipush (v := 10) dX12_taken_74 (by decide) ?_
          refine x_icmp_ge_f 96 dX12_taken_76 (by decide) (Int32.not_le.mpr (tk_lt c13)) ?_
          refine x_iload_n dX12_taken_79 rfl ?_
          refine x_iload_n dX12_taken_80 rfl ?_
          refine x_rdS (c_X12_isUnder k6) lkX12_isUnder sX12_374 dX12_taken_81 rfl rfl (Nat.le_of_ble_eq_true rfl) (by decide) ⟨rfl, rfl, by decide, by decide⟩ ?_
          refine x_if_eqB 96 dX12_taken_84 (by decide) (fun c84 => ?_) (fun c84 => ?_)
          · refine x_bipush (v := -13) dX12_taken_96 (by decide) ?_
            refine x_iret rfl dX12_taken_98 ⟨by decide, by decide⟩ ?_
            exact ⟨by rw [qTaken, if_pos ⟨c4, .inl c13⟩, iN_nI (by omega), if_neg (by omega), if_pos e1, if_neg (fun z => c84 z.2)] <;> rfl, rfl⟩
          · refine x_aload_n dX12_taken_87 rfl ?_
            refine x_get fX12_78 mo rfl dX12_taken_88 ?_
            refine x_iload_n dX12_taken_91 rfl ?_
            refine x_iald f1 m22 rfl hf (by decide) dX12_taken_92 ?_
            rw [y4]
            refine x_goto 98 dX12_taken_93 (by decide) ?_
            refine x_iret rfl dX12_taken_98 ⟨by decide, by decide⟩ ?_
            exact ⟨by rw [qTaken, if_pos ⟨c4, .inl c13⟩, iN_nI (by omega), if_neg (by omega), if_pos e1, if_pos ⟨c13, c84⟩] <;> rfl, rfl⟩
        · have e0 : (onS' S f1).1 = 0 := by rw [onS', if_pos ⟨y1, pl⟩]
          refine x_aload_n dX12_taken_29 rfl ?_
          refine x_iload_n dX12_taken_30 rfl ?_
          refine x_rdV (c_X12_kindOn hm hv hL hf) mo lkX12_kindOn sX12_371 dX12_taken_31 rfl rfl (Nat.le_of_ble_eq_true rfl) (by decide) ⟨rfl, rfl, by decide, by decide⟩ ?_
          rw [kOn, if_pos e0]
          refine x_ist_3 dX12_taken_34 (by decide) rfl ?_
          refine x_iload_n dX12_taken_35 rfl ?_
          refine x_if_ge_f 42 dX12_taken_36 (by decide) (by decide) ?_
          refine x_bipush (v := -11) dX12_taken_39 (by decide) ?_
          refine x_iret rfl dX12_taken_41 ⟨by decide, by decide⟩ ?_
          exact ⟨by rw [qTaken, if_pos ⟨c4, .inl c13⟩, iN_nI (by omega), if_pos e0] <;> rfl, rfl⟩
      · have eo : onS' S f1 = S.2.2.2.2.2.1 f1 := if_neg (by omega)
        have e1 : (onS' S f1).1 = 2 := by rw [eo]; exact y1
        refine x_aload_n dX12_taken_29 rfl ?_
        refine x_iload_n dX12_taken_30 rfl ?_
        refine x_rdV (c_X12_kindOn hm hv hL hf) mo lkX12_kindOn sX12_371 dX12_taken_31 rfl rfl (Nat.le_of_ble_eq_true rfl) (by decide) ⟨rfl, rfl, by decide, by decide⟩ ?_
        rw [kOn, if_neg (by omega), if_neg (by omega)]
        refine x_ist_3 dX12_taken_34 (by decide) rfl ?_
        refine x_iload_n dX12_taken_35 rfl ?_
        refine x_if_ge_t 42 dX12_taken_36 (by decide) (by decide) ?_
        refine x_iload_n dX12_taken_42 rfl ?_
        refine x_bipush (v := 9) dX12_taken_43 (by decide) ?_
        refine x_icmp_ne_f 73 dX12_taken_45 (by decide) rfl ?_
        refine x_iload_n dX12_taken_48 rfl ?_
        refine x_bipush (v := 10) dX12_taken_49 (by decide) ?_
        refine x_aload_n dX12_taken_51 rfl ?_
        refine x_get fX12_78 mo rfl dX12_taken_52 ?_
        refine x_iload_n dX12_taken_55 rfl ?_
        refine x_iald f1 m22 rfl hf (by decide) dX12_taken_56 ?_
        rw [y5]
        refine x_iadd dX12_taken_57 ?_
        refine x_icmp_ne_t 70 dX12_taken_58 (by decide) (fun z => absurd (tk_lt c13) (tk_ge (by rw [← tk_eq.mp z]; exact bl_I (b := 4) y2 (by decide)))) ?_
        refine x_bipush (v := -13) dX12_taken_70 (by decide) ?_
        refine x_iret rfl dX12_taken_72 ⟨by decide, by decide⟩ ?_
        exact ⟨by rw [qTaken, if_pos ⟨c4, .inl c13⟩, iN_nI (by omega), if_neg (by omega), if_neg (by omega), if_neg (fun z => z.1 c13)] <;> rfl, rfl⟩
    · refine x_iload_n dX12_taken_16 rfl ?_
      refine x_bipush (v := 10) dX12_taken_17 (by decide) ?_
      refine x_bipush (v := 13) dX12_taken_19 (by decide) ?_
      refine x_rdS (c_X12_in (v := a) (a := 10) (b := 13)) lkX12_in sX12_93 dX12_taken_21 rfl rfl (Nat.le_of_ble_eq_true rfl) (by decide) ⟨rfl, rfl, by decide, by decide⟩ ?_
      refine x_if_neB 29 dX12_taken_24 (by decide) (fun c24 => ?_) (fun c24 => ?_)
      · obtain ⟨f1, hf, rfl⟩ := bl_E (b := 4) c4 (by decide)
        rcases hL f1 hf with ⟨y1, y2⟩ | ⟨y1, y2, y3, y4⟩ | ⟨y1, y2, y3, y4, y5, y6⟩
        · have e0 : (onS' S f1).1 = 0 := by rw [onS', if_neg (by omega)]; exact y1
          refine x_aload_n dX12_taken_29 rfl ?_
          refine x_iload_n dX12_taken_30 rfl ?_
          refine x_rdV (c_X12_kindOn hm hv hL hf) mo lkX12_kindOn sX12_371 dX12_taken_31 rfl rfl (Nat.le_of_ble_eq_true rfl) (by decide) ⟨rfl, rfl, by decide, by decide⟩ ?_
          rw [kOn, if_pos e0]
          refine x_ist_3 dX12_taken_34 (by decide) rfl ?_
          refine x_iload_n dX12_taken_35 rfl ?_
          refine x_if_ge_f 42 dX12_taken_36 (by decide) (by decide) ?_
          refine x_bipush (v := -11) dX12_taken_39 (by decide) ?_
          refine x_iret rfl dX12_taken_41 ⟨by decide, by decide⟩ ?_
          exact ⟨by rw [qTaken, if_pos ⟨c4, .inr (tk_10.mp c24)⟩, iN_nI (by omega), if_pos e0] <;> rfl, rfl⟩
        · by_cases pl : (S.2.2.2.2.2.1 f1).2.1 < S.1.1 0
          · have eo : onS' S f1 = S.2.2.2.2.2.1 f1 := if_neg (fun z => z.2 pl)
            have e1 : (onS' S f1).1 = 1 := by rw [eo]; exact y1
            have k6 := (hv.1.2.2.2.1 (onS' S f1).2.1 (by rw [eo]; exact pl)).1
            have y4 : A 21 f1 = nI (onS' S f1).2.1 := by rw [eo]; exact y4
            refine x_aload_n dX12_taken_29 rfl ?_
            refine x_iload_n dX12_taken_30 rfl ?_
            refine x_rdV (c_X12_kindOn hm hv hL hf) mo lkX12_kindOn sX12_371 dX12_taken_31 rfl rfl (Nat.le_of_ble_eq_true rfl) (by decide) ⟨rfl, rfl, by decide, by decide⟩ ?_
            rw [kOn, if_neg (by omega), if_pos e1]
            refine x_ist_3 dX12_taken_34 (by decide) rfl ?_
            refine x_iload_n dX12_taken_35 rfl ?_
            refine x_if_ge_t 42 dX12_taken_36 (by decide) (nI_pos' (by omega)) ?_
            refine x_iload_n dX12_taken_42 rfl ?_
            refine x_bipush (v := 9) dX12_taken_43 (by decide) ?_
            refine x_icmp_ne_t 73 dX12_taken_45 (by decide) (fun z => by have := nI_eqn (b := 9) (by omega) (by decide) z; omega) ?_
            refine x_iload_n dX12_taken_73 rfl ?_
            refine x_bipush (v := 10) dX12_taken_74 (by decide) ?_
            refine x_icmp_ge_t 96 dX12_taken_76 (by decide) (Int32.not_lt.mp (tk_ge (tk_10.mp c24))) ?_
            refine x_bipush (v := -13) dX12_taken_96 (by decide) ?_
            refine x_iret rfl dX12_taken_98 ⟨by decide, by decide⟩ ?_
            exact ⟨by rw [qTaken, if_pos ⟨c4, .inr (tk_10.mp c24)⟩, iN_nI (by omega), if_neg (by omega), if_pos e1, if_neg (fun z => c13 z.1)] <;> rfl, rfl⟩
          · have e0 : (onS' S f1).1 = 0 := by rw [onS', if_pos ⟨y1, pl⟩]
            refine x_aload_n dX12_taken_29 rfl ?_
            refine x_iload_n dX12_taken_30 rfl ?_
            refine x_rdV (c_X12_kindOn hm hv hL hf) mo lkX12_kindOn sX12_371 dX12_taken_31 rfl rfl (Nat.le_of_ble_eq_true rfl) (by decide) ⟨rfl, rfl, by decide, by decide⟩ ?_
            rw [kOn, if_pos e0]
            refine x_ist_3 dX12_taken_34 (by decide) rfl ?_
            refine x_iload_n dX12_taken_35 rfl ?_
            refine x_if_ge_f 42 dX12_taken_36 (by decide) (by decide) ?_
            refine x_bipush (v := -11) dX12_taken_39 (by decide) ?_
            refine x_iret rfl dX12_taken_41 ⟨by decide, by decide⟩ ?_
            exact ⟨by rw [qTaken, if_pos ⟨c4, .inr (tk_10.mp c24)⟩, iN_nI (by omega), if_pos e0] <;> rfl, rfl⟩
        · have eo : onS' S f1 = S.2.2.2.2.2.1 f1 := if_neg (by omega)
          have e1 : (onS' S f1).1 = 2 := by rw [eo]; exact y1
          refine x_aload_n dX12_taken_29 rfl ?_
          refine x_iload_n dX12_taken_30 rfl ?_
          refine x_rdV (c_X12_kindOn hm hv hL hf) mo lkX12_kindOn sX12_371 dX12_taken_31 rfl rfl (Nat.le_of_ble_eq_true rfl) (by decide) ⟨rfl, rfl, by decide, by decide⟩ ?_
          rw [kOn, if_neg (by omega), if_neg (by omega)]
          refine x_ist_3 dX12_taken_34 (by decide) rfl ?_
          refine x_iload_n dX12_taken_35 rfl ?_
          refine x_if_ge_t 42 dX12_taken_36 (by decide) (by decide) ?_
          refine x_iload_n dX12_taken_42 rfl ?_
          refine x_bipush (v := 9) dX12_taken_43 (by decide) ?_
          refine x_icmp_ne_f 73 dX12_taken_45 (by decide) rfl ?_
          refine x_iload_n dX12_taken_48 rfl ?_
          refine x_bipush (v := 10) dX12_taken_49 (by decide) ?_
          refine x_aload_n dX12_taken_51 rfl ?_
          refine x_get fX12_78 mo rfl dX12_taken_52 ?_
          refine x_iload_n dX12_taken_55 rfl ?_
          refine x_iald f1 m22 rfl hf (by decide) dX12_taken_56 ?_
          rw [y5]
          refine x_iadd dX12_taken_57 ?_
          refine x_icmp_ne 70 dX12_taken_58 (by decide) (fun c58 => ?_) (fun c58 => ?_)
          · refine x_bipush (v := -13) dX12_taken_70 (by decide) ?_
            refine x_iret rfl dX12_taken_72 ⟨by decide, by decide⟩ ?_
            exact ⟨by rw [qTaken, if_pos ⟨c4, .inr (tk_10.mp c24)⟩, iN_nI (by omega), if_neg (by omega), if_neg (by omega), if_neg (fun z => c58 (tk_eq.mpr (eo ▸ z.2)))] <;> rfl, rfl⟩
          · refine x_aload_n dX12_taken_61 rfl ?_
            refine x_get fX12_81 mo rfl dX12_taken_62 ?_
            refine x_iload_n dX12_taken_65 rfl ?_
            refine x_iald f1 m23 rfl hf (by decide) dX12_taken_66 ?_
            rw [y6]
            refine x_goto 72 dX12_taken_67 (by decide) ?_
            refine x_iret rfl dX12_taken_72 ⟨by decide, by decide⟩ ?_
            exact ⟨by rw [qTaken, if_pos ⟨c4, .inr (tk_10.mp c24)⟩, iN_nI (by omega), if_neg (by omega), if_neg (by omega), if_pos ⟨c13, eo.symm ▸ tk_eq.mp c58⟩, eo] <;> rfl, rfl⟩
      · refine x_iconst (v := -1) dX12_taken_27 (by decide) ?_
        refine x_iret rfl dX12_taken_28 ⟨by decide, by decide⟩ ?_
        exact ⟨by rw [qTaken, if_neg (fun z => z.2.elim c13 (fun y => c24 (tk_10.mpr y)))] <;> rfl, rfl⟩
