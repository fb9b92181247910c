theorem pw256 {n : Nat} (h : n ≤ 8) : 2 ^ n ≤ 256 := Nat.pow_le_pow_right (n := 2) (by decide) h
theorem l63_neg {n : Nat} (h : n < 2 ^ 63) : ¬ lN n < -1 ∧ ¬ lN n = -1 ∧ (-1 : Int64) < lN n := by
  have e : (-1 : Int64).toInt = -1 := rfl
  have := l63 h
  refine ⟨fun z => ?_, fun z => ?_, ?_⟩
  · have := (fa_lt64 _ _).mp z; omega
  · have := congrArg Int64.toInt z; omega
  · exact (fa_lt64 _ _).mpr (by omega)
set_option maxRecDepth 10000 in
set_option maxHeartbeats 2000000 in
theorem hd36 {g : gG} {h : gH} {m : Nat} {S : AS} {s : Nat → Int32} {l : Nat → Int64} {A : Nat → Nat → Int32} {B : Nat → Nat → Int64} (hv : rpV S.1 A) {a1 b1 n1 : Nat} {Q : Option Value → gH → Prop} (ha : a1 < 8) (hb : b1 < 8) (hn3 : n1 ≤ 3) (hQ : ∀ h1, OO m S.1 s l A B h1 → Fr m 27 h h1 → Q (some (.int (nI (hbs (hvl S.1 a1 b1) (S.1.1 3) n1 (2 ^ S.1.1 0))))) h1) : ∀ i, i ≤ 2 ^ S.1.1 0 → ∀ (w8 : Option Value) h1, OO m S.1 s l A B h1 → Fr m 27 h h1 → Ex g mX12_held (gZm g mX12_held Q) 36 [some (.ref m), some (.int (nI a1)), some (.int (nI b1)), some (.int (nI n1)), some (.int (nI (hbs (hvl S.1 a1 b1) (S.1.1 3) n1 i))), some (.long (lN (hvl S.1 a1 b1 (hbs (hvl S.1 a1 b1) (S.1.1 3) n1 i)))), none, some (.int (nI i)), w8, none] [] h1 0 0 := by
  have ok8 : S.1.1 0 ≤ 8 := hv.1.1.1
  have ok4 : S.1.1 1 ≤ 4 := hv.1.1.2.1
  have okr : S.1.1 2 ≤ 4 := hv.1.1.2.2
  have t256 : S.1.1 3 < 256 := lt256 hv.1.2.1 hv.1.1.1
  have n8 := pw256 ok8
  have on256 : heldS S.1 (S.1.1 1) < 2 ^ 8 := lt256 (heldS_lt S.1 hv.1 _ (Nat.le_refl _)) ok8
  refine lp_up (2 ^ S.1.1 0) (fun i hi ih w8 h1 O1 F => ?_) (fun w8 h1 O1 F => ?_)
  · obtain ⟨A1, hm1, e1⟩ := id O1
    have hv1 := OO.v hv e1
    have hb256 : hbs (hvl S.1 a1 b1) (S.1.1 3) n1 i < 256 := by have := hbs_lt (hvl S.1 a1 b1) (S.1.1 3) n1 i; omega
    refine x_iload dX12_held_36 rfl ?_
    refine x_iconst (v := 1) dX12_held_38 (by decide) ?_
    refine x_aload_n dX12_held_39 rfl ?_
    refine x_get fX12_97 hm1.1 rfl dX12_held_40 ?_
    refine x_ishl dX12_held_43 ?_
    refine x_icmp_ge_f 129 dX12_held_44 (by decide) (ge_f (N := 2 ^ S.1.1 0) (sh1 _ (by omega)) hi (by omega)) ?_
    refine x_iload dX12_held_47 rfl ?_
    refine x_rdS (c_X12_ones (x := i) (by omega)) lkX12_ones sX12_270 dX12_held_49 rfl rfl (Nat.le_of_ble_eq_true rfl) (by decide) ⟨rfl, rfl, by decide, by decide⟩ ?_
    refine x_iload_n dX12_held_52 rfl ?_
    refine x_icmp_gt 123 dX12_held_53 (by decide) (fun c53 => ?_) (fun c53 => ?_)
    · refine x_inc_7  dX12_held_123 (by decide) (nI_inc _) rfl ?_
      refine x_goto 36 dX12_held_126 (by decide) ?_
      have E : hbs (hvl S.1 a1 b1) (S.1.1 3) n1 (i + 1) = hbs (hvl S.1 a1 b1) (S.1.1 3) n1 i := hbs_n (fun z => absurd c53 (Int32.not_lt.mpr (nI_le z.2.1 (by omega))))
      rw [E] at ih
      exact ih _ _ O1 (F)
    · refine x_iload dX12_held_56 rfl ?_
      refine x_aload_n dX12_held_58 rfl ?_
      refine x_get fX12_103 hm1.1 rfl dX12_held_59 ?_
      refine x_iconst (v := -1) dX12_held_62 (by decide) ?_
      refine x_ixor dX12_held_63 ?_
      refine x_iand dX12_held_64 ?_
      refine x_if_eq 71 dX12_held_65 (by decide) (fun c65 => ?_) (fun c65 => ?_)
      · have sb := (sbs_I i (by omega) _ t256).mp c65
        have bn : bc8 i ≤ n1 := Nat.not_lt.mp (fun z => c53 (nI_lt z (by have := bc8_le i (by omega); omega)))
        refine x_aload_n dX12_held_71 rfl ?_
        refine x_iload_n dX12_held_72 rfl ?_
        refine x_iload_n dX12_held_73 rfl ?_
        refine x_aload_n dX12_held_74 rfl ?_
        refine x_rdV (c_X12_heldSet hm1 hv1) hm1.1 lkX12_heldSet sX12_274 dX12_held_75 rfl rfl (Nat.le_of_ble_eq_true rfl) (by decide) ⟨rfl, rfl, by decide, by decide⟩ ?_
        refine x_iload dX12_held_78 rfl ?_
        refine x_ior dX12_held_80 ?_
        rw [fa_or]
        refine x_cvV (c_X12_oddsBy (on := heldS S.1 (S.1.1 1) ||| i) O1 hv ha hb (by exact Nat.or_lt_two_pow (n := 8) on256 (by omega))) hm1.1 lkX12_oddsBy sX12_309 dX12_held_81 rfl rfl (Nat.le_of_ble_eq_true rfl) (by decide) ⟨rfl, rfl, by decide, by decide⟩ ?_
        rintro h2 ⟨O2, F2⟩
        have yi : od S.1 (ofc S.1 (S.1.1 3) (heldS S.1 (S.1.1 1) ||| i)) a1 b1 (2 ^ S.1.1 0) = hvl S.1 a1 b1 i := (hvl_od hi).symm
        rw [yi]
        have y1 := hvl_le hv.1 a1 b1 i
        have y2 := hvl_le hv.1 a1 b1 (hbs (hvl S.1 a1 b1) (S.1.1 3) n1 i)
        refine x_lst_8 dX12_held_84 (by decide) rfl ?_
        refine x_lload dX12_held_86 rfl ?_
        refine x_lload dX12_held_88 rfl ?_
        refine x_lcmp dX12_held_90 ?_
        refine x_if_gt 115 dX12_held_91 (by decide) (fun c91 => ?_) (fun c91 => ?_)
        · refine x_lload dX12_held_115 rfl ?_
          refine x_lst_5 dX12_held_117 (by decide) rfl ?_
          refine x_iload dX12_held_119 rfl ?_
          refine x_ist_4 dX12_held_121 (by decide) rfl ?_
          refine x_inc_7  dX12_held_123 (by decide) (nI_inc _) rfl ?_
          refine x_goto 36 dX12_held_126 (by decide) ?_
          have E : hbs (hvl S.1 a1 b1) (S.1.1 3) n1 (i + 1) = i := hbs_y ⟨sb, bn, .inl ((l63_lt (by omega) (by omega)).mp (lg_le2.mp (Int32.not_le.mpr c91)))⟩
          rw [E] at ih
          exact ih _ _ O2 (F.tr F2)
        · refine x_lload dX12_held_94 rfl ?_
          refine x_lload dX12_held_96 rfl ?_
          refine x_lcmp dX12_held_98 ?_
          refine x_if_ne 123 dX12_held_99 (by decide) (fun c99 => ?_) (fun c99 => ?_)
          · refine x_inc_7  dX12_held_123 (by decide) (nI_inc _) rfl ?_
            refine x_goto 36 dX12_held_126 (by decide) ?_
            have E : hbs (hvl S.1 a1 b1) (S.1.1 3) n1 (i + 1) = hbs (hvl S.1 a1 b1) (S.1.1 3) n1 i := hbs_n (fun z => z.2.2.elim (fun y => c91 (Int32.not_le.mp (lg_le2.mpr ((l63_lt (by omega) (by omega)).mpr y)))) (fun y => c99 (lg_0.mpr (by rw [y.1]))))
            rw [E] at ih
            exact ih _ _ O2 (F.tr F2)
          · refine x_iload dX12_held_102 rfl ?_
            refine x_rdS (c_X12_ones (x := i) (by omega)) lkX12_ones sX12_270 dX12_held_104 rfl rfl (Nat.le_of_ble_eq_true rfl) (by decide) ⟨rfl, rfl, by decide, by decide⟩ ?_
            refine x_iload dX12_held_107 rfl ?_
            refine x_rdS (c_X12_ones (x := hbs (hvl S.1 a1 b1) (S.1.1 3) n1 i) (by have := hbs_lt (hvl S.1 a1 b1) (S.1.1 3) n1 i; omega)) lkX12_ones sX12_270 dX12_held_109 rfl rfl (Nat.le_of_ble_eq_true rfl) (by decide) ⟨rfl, rfl, by decide, by decide⟩ ?_
            refine x_icmp_ge 123 dX12_held_112 (by decide) (fun c112 => ?_) (fun c112 => ?_)
            · refine x_inc_7  dX12_held_123 (by decide) (nI_inc _) rfl ?_
              refine x_goto 36 dX12_held_126 (by decide) ?_
              have E : hbs (hvl S.1 a1 b1) (S.1.1 3) n1 (i + 1) = hbs (hvl S.1 a1 b1) (S.1.1 3) n1 i := hbs_n (fun z => z.2.2.elim (fun y => c91 (Int32.not_le.mp (lg_le2.mpr ((l63_lt (by omega) (by omega)).mpr y)))) (fun y => absurd (nI_lt y.2 (by have := bc8_le _ hb256; omega)) (Int32.not_lt.mpr c112)))
              rw [E] at ih
              exact ih _ _ O2 (F.tr F2)
            · refine x_lload dX12_held_115 rfl ?_
              refine x_lst_5 dX12_held_117 (by decide) rfl ?_
              refine x_iload dX12_held_119 rfl ?_
              refine x_ist_4 dX12_held_121 (by decide) rfl ?_
              refine x_inc_7  dX12_held_123 (by decide) (nI_inc _) rfl ?_
              refine x_goto 36 dX12_held_126 (by decide) ?_
              have E : hbs (hvl S.1 a1 b1) (S.1.1 3) n1 (i + 1) = i := hbs_y ⟨sb, bn, .inr ⟨(l63_eq (by omega) (by omega)).mp (lg_0.mp c99), (nI_ltI (by have := bc8_le i (by omega); omega) (by have := bc8_le _ hb256; omega)).mp (Int32.not_le.mp c112)⟩⟩
              rw [E] at ih
              exact ih _ _ O2 (F.tr F2)
      · refine x_goto 123 dX12_held_68 (by decide) ?_
        refine x_inc_7  dX12_held_123 (by decide) (nI_inc _) rfl ?_
        refine x_goto 36 dX12_held_126 (by decide) ?_
        have E : hbs (hvl S.1 a1 b1) (S.1.1 3) n1 (i + 1) = hbs (hvl S.1 a1 b1) (S.1.1 3) n1 i := hbs_n (fun z => c65 ((sbs_I i (by omega) _ t256).mpr z.1))
        rw [E] at ih
        exact ih _ _ O1 (F)
  · obtain ⟨A1, hm1, e1⟩ := id O1
    have hv1 := OO.v hv e1
    refine x_iload dX12_held_36 rfl ?_
    refine x_iconst (v := 1) dX12_held_38 (by decide) ?_
    refine x_aload_n dX12_held_39 rfl ?_
    refine x_get fX12_97 hm1.1 rfl dX12_held_40 ?_
    refine x_ishl dX12_held_43 ?_
    refine x_icmp_ge_t 129 dX12_held_44 (by decide) (ge_t (N := 2 ^ S.1.1 0) (sh1 _ (by omega)) (by omega)) ?_
    refine x_iload dX12_held_129 rfl ?_
    refine x_iret rfl dX12_held_131 ⟨by decide, by decide⟩ ?_
    exact hQ _ O1 F
set_option maxRecDepth 10000 in
set_option maxHeartbeats 2000000 in
theorem c_X12_held {g : gG} {h : gH} {m : Nat} {S : AS} (hn : isN h m S) {a b n : Int32} : Ct g mX12_held [.ref m, .int a, .int b, .int n] h (some (.int (qHeld S.1 a b n))) (Pn m S h) := by
  obtain ⟨hz, s, l, A, B, hm, hv, hr⟩ := id hn
  have mo := hm.1
  have ok8 : S.1.1 0 ≤ 8 := hv.1.1.1
  have ok4 : S.1.1 1 ≤ 4 := hv.1.1.2.1
  have okr : S.1.1 2 ≤ 4 := hv.1.1.2.2
  have t256 : S.1.1 3 < 256 := lt256 hv.1.2.1 hv.1.1.1
  refine Cn.of (L := [some (.ref m), some (.int a), some (.int b), some (.int n), none, none, none, none, none, none]) (by decide) (Nat.le_of_ble_eq_true rfl) rfl ?_
  refine x_iload_n dX12_held_0 rfl ?_
  refine x_rdS c_X12_isClearing lkX12_isClearing sX12_233 dX12_held_1 rfl rfl (Nat.le_of_ble_eq_true rfl) (by decide) ⟨rfl, rfl, by decide, by decide⟩ ?_
  refine x_if_eqB 23 dX12_held_4 (by decide) (fun c4 => ?_) (fun c4 => ?_)
  · refine x_iconst (v := -1) dX12_held_23 (by decide) ?_
    refine x_iret rfl dX12_held_24 ⟨by decide, by decide⟩ ?_
    exact ⟨by rw [qHeld, if_neg (fun z => c4 z.1)] <;> rfl, hn.rf⟩
  · refine x_iload_n dX12_held_7 rfl ?_
    refine x_rdS c_X12_isClearing lkX12_isClearing sX12_233 dX12_held_8 rfl rfl (Nat.le_of_ble_eq_true rfl) (by decide) ⟨rfl, rfl, by decide, by decide⟩ ?_
    refine x_if_eqB 23 dX12_held_11 (by decide) (fun c11 => ?_) (fun c11 => ?_)
    · refine x_iconst (v := -1) dX12_held_23 (by decide) ?_
      refine x_iret rfl dX12_held_24 ⟨by decide, by decide⟩ ?_
      exact ⟨by rw [qHeld, if_neg (fun z => c11 z.2.1)] <;> rfl, hn.rf⟩
    · refine x_iload_n dX12_held_14 rfl ?_
      refine x_iconst (v := 0) dX12_held_15 (by decide) ?_
      refine x_iconst (v := 3) dX12_held_16 (by decide) ?_
      refine x_rdS mc_in lkX12_in sX12_93 dX12_held_17 rfl rfl (Nat.le_of_ble_eq_true rfl) (by decide) ⟨rfl, rfl, by decide, by decide⟩ ?_
      refine x_if_neB 25 dX12_held_20 (by decide) (fun c20 => ?_) (fun c20 => ?_)
      · obtain ⟨a1, ha, rfl⟩ := bl_E (b := 8) c4 (by decide)
        obtain ⟨b1, hb, rfl⟩ := bl_E (b := 8) c11 (by decide)
        have c20x := c20
        obtain ⟨n1, hn3, rfl⟩ := ut_E (b := 3) c20 (by decide)
        have on256 : heldS S.1 (S.1.1 1) < 2 ^ 8 := lt256 (heldS_lt S.1 hv.1 _ (Nat.le_refl _)) ok8
        refine x_iconst (v := 0) dX12_held_25 (by decide) ?_
        refine x_ist_4 dX12_held_26 (by decide) rfl ?_
        refine x_ldc2 dX12_held_28 kX12_146 ?_
        refine x_lst_5 dX12_held_31 (by decide) rfl ?_
        refine x_iconst (v := 0) dX12_held_33 (by decide) ?_
        refine x_ist_7 dX12_held_34 (by decide) rfl ?_
        have h1e : hbs (hvl S.1 a1 b1) (S.1.1 3) n1 1 = 0 := hbs_1 _ _ _
        refine x_iload dX12_held_36 rfl ?_
        refine x_iconst (v := 1) dX12_held_38 (by decide) ?_
        refine x_aload_n dX12_held_39 rfl ?_
        refine x_get fX12_97 mo rfl dX12_held_40 ?_
        refine x_ishl dX12_held_43 ?_
        refine x_icmp_ge_f 129 dX12_held_44 (by decide) (ge_f (N := 2 ^ S.1.1 0) (i := 0) (sh1 _ (by omega)) (Nat.two_pow_pos _) (by have := pw256 ok8; omega)) ?_
        refine x_iload dX12_held_47 rfl ?_
        refine x_rdS (c_X12_ones (x := 0) (by decide)) lkX12_ones sX12_270 dX12_held_49 rfl rfl (Nat.le_of_ble_eq_true rfl) (by decide) ⟨rfl, rfl, by decide, by decide⟩ ?_
        refine x_iload_n dX12_held_52 rfl ?_
        refine x_icmp_gt_f 123 dX12_held_53 (by decide) (by show ¬ nI n1 < nI (bc8 0); exact nI_nlt (Nat.zero_le _) (by omega)) ?_
        refine x_iload dX12_held_56 rfl ?_
        refine x_aload_n dX12_held_58 rfl ?_
        refine x_get fX12_103 mo rfl dX12_held_59 ?_
        refine x_iconst (v := -1) dX12_held_62 (by decide) ?_
        refine x_ixor dX12_held_63 ?_
        refine x_iand dX12_held_64 ?_
        refine x_if_eq_t 71 dX12_held_65 (by decide) ((sbs_I 0 (by decide) _ t256).mpr (Nat.zero_and _)) ?_
        refine x_aload_n dX12_held_71 rfl ?_
        refine x_iload_n dX12_held_72 rfl ?_
        refine x_iload_n dX12_held_73 rfl ?_
        refine x_aload_n dX12_held_74 rfl ?_
        refine x_rdV (c_X12_heldSet hm hv) mo lkX12_heldSet sX12_274 dX12_held_75 rfl rfl (Nat.le_of_ble_eq_true rfl) (by decide) ⟨rfl, rfl, by decide, by decide⟩ ?_
        refine x_iload dX12_held_78 rfl ?_
        refine x_ior dX12_held_80 ?_
        rw [show nI (heldS S.1 (S.1.1 1)) ||| 0 = nI (heldS S.1 (S.1.1 1) ||| 0) from fa_or _ 0]
        refine x_cvV (c_X12_oddsBy (on := heldS S.1 (S.1.1 1) ||| 0) (OO.rf hm) hv ha hb (by rw [Nat.or_zero]; exact on256)) mo lkX12_oddsBy sX12_309 dX12_held_81 rfl rfl (Nat.le_of_ble_eq_true rfl) (by decide) ⟨rfl, rfl, by decide, by decide⟩ ?_
        rintro h2 ⟨O2, F2⟩
        have yi : od S.1 (ofc S.1 (S.1.1 3) (heldS S.1 (S.1.1 1) ||| 0)) a1 b1 (2 ^ S.1.1 0) = hvl S.1 a1 b1 0 := (hvl_od (Nat.two_pow_pos _)).symm
        rw [yi]
        have y1 := hvl_le hv.1 a1 b1 0
        refine x_lst_8 dX12_held_84 (by decide) rfl ?_
        refine x_lload dX12_held_86 rfl ?_
        refine x_lload dX12_held_88 rfl ?_
        refine x_lcmp dX12_held_90 ?_
        refine x_if_gt_t 115 dX12_held_91 (by decide) (Int32.not_le.mp (lg_le2.mpr (l63_neg (by omega)).2.2)) ?_
        refine x_lload dX12_held_115 rfl ?_
        refine x_lst_5 dX12_held_117 (by decide) rfl ?_
        refine x_iload dX12_held_119 rfl ?_
        refine x_ist_4 dX12_held_121 (by decide) rfl ?_
        refine x_inc_7  dX12_held_123 (by decide) (nI_inc 0) rfl ?_
        refine x_goto 36 dX12_held_126 (by decide) ?_
        have k := hd36 (g := g) (h := h) (Q := fun o h' => o = some (.int (qHeld S.1 (nI a1) (nI b1) (nI n1))) ∧ Pn m S h h') hv ha hb hn3 (fun h1 O1 F => ⟨by rw [qHeld, if_pos ⟨c4, c11, c20x⟩, iN_nI (by omega), iN_nI (by omega), iN_nI (by omega)], O1.n hz hv hr F⟩) 1 (Nat.two_pow_pos _) (some (.long (lN (hvl S.1 a1 b1 0)))) h2 O2 F2
        rw [h1e] at k
        exact k
      · refine x_iconst (v := -1) dX12_held_23 (by decide) ?_
        refine x_iret rfl dX12_held_24 ⟨by decide, by decide⟩ ?_
        exact ⟨by rw [qHeld, if_neg (fun z => c20 z.2.2)] <;> rfl, hn.rf⟩
def ms (V : VS) : Nat → Nat
  | 0 => heldS V (V.1 1)
  | p + 1 => if (V.1 3).testBit p = true ∧ stays V p = 8 then ms V p ||| 2 ^ p else ms V p
theorem ms_bit {V : VS} (j : Nat) : ∀ i, (ms V i).testBit j = true ↔ (heldS V (V.1 1)).testBit j = true ∨ (j < i ∧ (V.1 3).testBit j = true ∧ stays V j = 8)
  | 0 => ⟨fun z => .inl z, fun z => z.elim id (fun y => absurd y.1 (Nat.not_lt_zero _))⟩
  | i + 1 => by
    have ih := ms_bit (V := V) j i
    rw [ms]
    by_cases e : j = i
    · subst e
      split
      · next q => rw [Nat.testBit_or, Nat.testBit_two_pow]; simp [q, Nat.lt_succ_self]
      · next q =>
        rw [ih]
        exact ⟨fun z => z.elim .inl (fun y => absurd y.1 (Nat.lt_irrefl _)), fun z => z.elim .inl (fun y => absurd y.2 q)⟩
    · have : ¬ i = j := fun z => e z.symm
      split
      · rw [Nat.testBit_or, Nat.testBit_two_pow]
        simp only [this, decide_false, Bool.or_false, ih]
        exact ⟨fun z => z.imp id (fun y => ⟨by omega, y.2⟩), fun z => z.imp id (fun y => ⟨by omega, y.2⟩)⟩
      · rw [ih]
        exact ⟨fun z => z.imp id (fun y => ⟨by omega, y.2⟩), fun z => z.imp id (fun y => ⟨by omega, y.2⟩)⟩
theorem sur_bit {V : VS} (j : Nat) : ∀ i, (sur V i).testBit j = true ↔ j < i ∧ (V.1 3).testBit j = true ∧ chn V j true = 8
  | 0 => ⟨fun z => by simp [sur] at z, fun z => absurd z.1 (Nat.not_lt_zero _)⟩
  | i + 1 => by
    have ih := sur_bit (V := V) j i
    rw [sur]
    by_cases e : j = i
    · subst e
      split
      · next q => rw [Nat.testBit_or, Nat.testBit_two_pow]; simp [q, Nat.lt_succ_self]
      · next q => rw [ih]; exact ⟨fun z => absurd z.1 (Nat.lt_irrefl _), fun z => absurd z.2 q⟩
    · have : ¬ i = j := fun z => e z.symm
      split
      · rw [Nat.testBit_or, Nat.testBit_two_pow]
        simp only [this, decide_false, Bool.or_false, ih]
        exact ⟨fun y => ⟨by omega, y.2⟩, fun y => ⟨by omega, y.2⟩⟩
      · rw [ih]; exact ⟨fun y => ⟨by omega, y.2⟩, fun y => ⟨by omega, y.2⟩⟩
theorem held_there {V : VS} (hv : okV V) {j : Nat} (h : (heldS V (V.1 1)).testBit j = true) : j < V.1 0 ∧ (V.1 3).testBit j = true := by
  have z := (hs_bit _).mp h
  rw [onS_0] at z
  obtain ⟨w, hw⟩ : ∃ w, ¬ (w < V.1 1 → V.2.2 5 w ≠ 8 + j) := Classical.not_forall.mp z
  have hw1 : w < V.1 1 := Classical.byContradiction fun y => hw (fun q => absurd q y)
  have hw2 : V.2.2 5 w = 8 + j := Classical.byContradiction fun y => hw (fun _ => y)
  have q := hv.2.2.2.2.1 w hw1
  have t := q.2.1 (by omega)
  rw [hw2, Nat.add_sub_cancel_left] at t
  exact ⟨by omega, t⟩
theorem ms_sur {V : VS} (hv : okV V) : ms V (V.1 0) = sur V (V.1 0) := by
  apply Nat.eq_of_testBit_eq
  intro j
  rw [Bool.eq_iff_iff, ms_bit, sur_bit]
  constructor
  · rintro (z | ⟨z1, z2, z3⟩)
    · have q := held_there hv z
      exact ⟨q.1, q.2, if_pos ((hs_bit _).mp z)⟩
    · refine ⟨z1, z2, ?_⟩
      unfold chn
      split
      · rfl
      · exact z3
  · rintro ⟨z1, z2, z3⟩
    by_cases q : onS V j (V.1 1) = 0
    · right; rw [chn_un q] at z3; exact ⟨z1, z2, z3⟩
    · left; exact (hs_bit _).mpr q
def fkM (x : Nat) : Int32 := if x = 999 then -3 else nI x
theorem fkM_lt {x : Nat} (h : x = 999 ∨ x < 256) : fkM x < 0 ↔ x = 999 := by
  unfold fkM
  split
  · exact ⟨fun _ => by assumption, fun _ => by decide⟩
  · exact ⟨fun z => absurd z (nI_pos (by omega)), fun z => absurd z (by assumption)⟩
theorem fk_y {V : VS} {a b s : Nat} (h : s &&& V.1 3 = s ∧ (fk V a b s = 999 ∨ bc8 s < bc8 (fk V a b s)) ∧ (rea V (s ||| sur V (V.1 0)) a 7).testBit b = true) : fk V a b (s + 1) = s := if_pos h
theorem fk_n {V : VS} {a b s : Nat} (h : ¬ (s &&& V.1 3 = s ∧ (fk V a b s = 999 ∨ bc8 s < bc8 (fk V a b s)) ∧ (rea V (s ||| sur V (V.1 0)) a 7).testBit b = true)) : fk V a b (s + 1) = fk V a b s := if_neg h
theorem ms_lt {V : VS} (hv : okV V) : ∀ i, i ≤ V.1 0 → ms V i < 256
  | 0, _ => lt256 (heldS_lt V hv _ (Nat.le_refl _)) hv.1.1
  | i + 1, h => by
    have ih := ms_lt hv i (by omega)
    rw [ms]
    split
    · exact or_bit (n := 8) ih (by have := hv.1.1; omega)
    · exact ih
set_option maxRecDepth 10000 in
set_option maxHeartbeats 2000000 in
theorem kp32 {g : gG} {h : gH} {m : Nat} {V : VS} {s : Nat → Int32} {l : Nat → Int64} {A : Nat → Nat → Int32} {B : Nat → Nat → Int64} (hm : MM h m V s l A B) (hv : rpV V A) {a0 b0 w0 : Int32} {Q : Option Value → gH → Prop} (kk : Ex g mX12_keepers (gZm g mX12_keepers Q) 80 [some (.ref m), some (.int a0), some (.int b0), some (.int w0), some (.int (nI (ms V (V.1 0)))), some (.int (nI (V.1 0))), none, none] [] h 0 0) : ∀ i, i ≤ V.1 0 → Ex g mX12_keepers (gZm g mX12_keepers Q) 32 [some (.ref m), some (.int a0), some (.int b0), some (.int w0), some (.int (nI (ms V i))), some (.int (nI i)), none, none] [] h 0 0 := by
  have mo := hm.1
  have ok8 : V.1 0 ≤ 8 := hv.1.1.1
  have ok4 : V.1 1 ≤ 4 := hv.1.1.2.1
  have okr : V.1 2 ≤ 4 := hv.1.1.2.2
  have t256 : V.1 3 < 256 := lt256 hv.1.2.1 hv.1.1.1
  refine lp_up (V.1 0) (fun i hi ih => ?_) ?_
  · refine x_iload dX12_keepers_32 rfl ?_
    refine x_aload_n dX12_keepers_34 rfl ?_
    refine x_get fX12_97 mo rfl dX12_keepers_35 ?_
    refine x_icmp_ge_f 80 dX12_keepers_38 (by decide) (ge_f (N := V.1 0) rfl hi (by omega)) ?_
    refine x_iload dX12_keepers_41 rfl ?_
    refine x_aload_n dX12_keepers_43 rfl ?_
    refine x_iload dX12_keepers_44 rfl ?_
    refine x_rdV (c_X12_isThere hm hv (by omega)) mo lkX12_isThere sX12_258 dX12_keepers_46 rfl rfl (Nat.le_of_ble_eq_true rfl) (by decide) ⟨rfl, rfl, by decide, by decide⟩ ?_
    refine x_if_eqB 70 dX12_keepers_49 (by decide) (fun c49 => ?_) (fun c49 => ?_)
    · refine x_iconst (v := 0) dX12_keepers_70 (by decide) ?_
      refine x_ior dX12_keepers_71 ?_
      refine x_ist_4 dX12_keepers_72 (by decide) rfl ?_
      refine x_inc_5  dX12_keepers_74 (by decide) (nI_inc _) rfl ?_
      refine x_goto 32 dX12_keepers_77 (by decide) ?_
      have E : nI (ms V (i + 1)) = nI (ms V i) ||| 0 := by rw [ms, if_neg (fun z => c49 z.1), show (0 : Int32) = nI 0 from rfl, fa_or, Nat.or_zero]
      rw [E] at ih
      exact ih
    · refine x_aload_n dX12_keepers_52 rfl ?_
      refine x_iload dX12_keepers_53 rfl ?_
      refine x_rdV (c_X12_staysOf hm hv hi) mo lkX12_staysOf sX12_249 dX12_keepers_55 rfl rfl (Nat.le_of_ble_eq_true rfl) (by decide) ⟨rfl, rfl, by decide, by decide⟩ ?_
      have s8 : nI (stays V i) = 8 ↔ stays V i = 8 := nI_eq (b := 8) (by have := stays_le hv.1 hi; omega) (by decide)
      refine x_bipush (v := 8) dX12_keepers_58 (by decide) ?_
      refine x_icmp_ne 70 dX12_keepers_60 (by decide) (fun c60 => ?_) (fun c60 => ?_)
      · refine x_iconst (v := 0) dX12_keepers_70 (by decide) ?_
        refine x_ior dX12_keepers_71 ?_
        refine x_ist_4 dX12_keepers_72 (by decide) rfl ?_
        refine x_inc_5  dX12_keepers_74 (by decide) (nI_inc _) rfl ?_
        refine x_goto 32 dX12_keepers_77 (by decide) ?_
        have E : nI (ms V (i + 1)) = nI (ms V i) ||| 0 := by rw [ms, if_neg (fun z => c60 (s8.mpr z.2)), show (0 : Int32) = nI 0 from rfl, fa_or, Nat.or_zero]
        rw [E] at ih
        exact ih
      · refine x_iconst (v := 1) dX12_keepers_63 (by decide) ?_
        refine x_iload dX12_keepers_64 rfl ?_
        refine x_ishl dX12_keepers_66 ?_
        rw [sh1 i (by omega)]
        refine x_goto 71 dX12_keepers_67 (by decide) ?_
        refine x_ior dX12_keepers_71 ?_
        refine x_ist_4 dX12_keepers_72 (by decide) rfl ?_
        refine x_inc_5  dX12_keepers_74 (by decide) (nI_inc _) rfl ?_
        refine x_goto 32 dX12_keepers_77 (by decide) ?_
        have E : nI (ms V (i + 1)) = nI (ms V i) ||| nI (2 ^ i) := by rw [ms, if_pos ⟨c49, s8.mp c60⟩, fa_or]
        rw [E] at ih
        exact ih
  · refine x_iload dX12_keepers_32 rfl ?_
    refine x_aload_n dX12_keepers_34 rfl ?_
    refine x_get fX12_97 mo rfl dX12_keepers_35 ?_
    refine x_icmp_ge_t 80 dX12_keepers_38 (by decide) (ge_t (N := V.1 0) rfl (by omega)) ?_
    exact kk
set_option maxRecDepth 10000 in
set_option maxHeartbeats 2000000 in
theorem kp87 {g : gG} {h : gH} {m : Nat} {V : VS} {s : Nat → Int32} {l : Nat → Int64} {A : Nat → Nat → Int32} {B : Nat → Nat → Int64} (hm : MM h m V s l A B) (hv : rpV V A) {a b : Nat} {w0 : Int32} (ha : a < 8) (hb : b < 8) (hc : bl (nI a) 8 = true ∧ bl (nI b) 8 = true ∧ ut w0 1 = true) : ∀ i, i ≤ 2 ^ V.1 0 → ∀ w7 : Option Value, Ex g mX12_keepers (gZm g mX12_keepers (fun o h' => o = some (.int (qKeepers V (nI a) (nI b) w0)) ∧ h' = h)) 87 [some (.ref m), some (.int (nI a)), some (.int (nI b)), some (.int w0), some (.int (nI (sur V (V.1 0)))), some (.int (fkM (fk V a b i))), some (.int (nI i)), w7] [] h 0 0 := by
  have mo := hm.1
  have ok8 : V.1 0 ≤ 8 := hv.1.1.1
  have ok4 : V.1 1 ≤ 4 := hv.1.1.2.1
  have okr : V.1 2 ≤ 4 := hv.1.1.2.2
  have t256 : V.1 3 < 256 := lt256 hv.1.2.1 hv.1.1.1
  have n8 := pw256 ok8
  have fl0 : ∀ i, i ≤ 2 ^ V.1 0 → fk V a b i = 999 ∨ fk V a b i < 256 := fun i hi => (fk_lt V a b i).imp id (fun z => by omega)
  refine lp_up (2 ^ V.1 0) (fun i hi ih w7 => ?_) (fun w7 => ?_)
  · have fl := fl0 i (by omega)
    refine x_iload dX12_keepers_87 rfl ?_
    refine x_iconst (v := 1) dX12_keepers_89 (by decide) ?_
    refine x_aload_n dX12_keepers_90 rfl ?_
    refine x_get fX12_97 mo rfl dX12_keepers_91 ?_
    refine x_ishl dX12_keepers_94 ?_
    refine x_icmp_ge_f 173 dX12_keepers_95 (by decide) (ge_f (N := 2 ^ V.1 0) (sh1 _ (by omega)) hi (by omega)) ?_
    refine x_iload dX12_keepers_98 rfl ?_
    refine x_aload_n dX12_keepers_100 rfl ?_
    refine x_get fX12_103 mo rfl dX12_keepers_101 ?_
    refine x_iconst (v := -1) dX12_keepers_104 (by decide) ?_
    refine x_ixor dX12_keepers_105 ?_
    refine x_iand dX12_keepers_106 ?_
    refine x_if_ne 132 dX12_keepers_107 (by decide) (fun c107 => ?_) (fun c107 => ?_)
    · refine x_iconst (v := 0) dX12_keepers_132 (by decide) ?_
      refine x_ist_7 dX12_keepers_133 (by decide) rfl ?_
      refine x_iload dX12_keepers_135 rfl ?_
      refine x_if_eq_t 163 dX12_keepers_137 (by decide) rfl ?_
      refine x_iload dX12_keepers_163 rfl ?_
      refine x_ist_5 dX12_keepers_165 (by decide) rfl ?_
      refine x_inc_6  dX12_keepers_167 (by decide) (nI_inc _) rfl ?_
      refine x_goto 87 dX12_keepers_170 (by decide) ?_
      have E : fk V a b (i + 1) = fk V a b i := fk_n (fun z => c107 ((sbs_I i (by omega) _ t256).mpr z.1))
      rw [E] at ih
      exact ih _
    · refine x_aload_n dX12_keepers_110 rfl ?_
      refine x_iload dX12_keepers_111 rfl ?_
      refine x_iload dX12_keepers_113 rfl ?_
      refine x_ior dX12_keepers_115 ?_
      rw [fa_or]
      have sr256 : sur V (V.1 0) ||| i < 256 := Nat.or_lt_two_pow (n := 8) (lt256 (sur_lt V _) ok8) (by omega)
      have sb := (sbs_I i (by omega) _ t256).mp c107
      refine x_iload_n dX12_keepers_116 rfl ?_
      refine x_rdV (c_X12_reachBy hm hv (t := sur V (V.1 0) ||| i) sr256 ha) mo lkX12_reachBy sX12_292 dX12_keepers_117 rfl rfl (Nat.le_of_ble_eq_true rfl) (by decide) ⟨rfl, rfl, by decide, by decide⟩ ?_
      refine x_iload_n dX12_keepers_120 rfl ?_
      refine x_ishr dX12_keepers_121 ?_
      refine x_iconst (v := 1) dX12_keepers_122 (by decide) ?_
      refine x_iand dX12_keepers_123 ?_
      rw [sr_bit _ (rea_lt hv.1 _ ha 7) b hb]
      refine x_iconst (v := 1) dX12_keepers_124 (by decide) ?_
      refine x_icmp_ne 132 dX12_keepers_125 (by decide) (fun c125 => ?_) (fun c125 => ?_)
      · refine x_iconst (v := 0) dX12_keepers_132 (by decide) ?_
        refine x_ist_7 dX12_keepers_133 (by decide) rfl ?_
        refine x_iload dX12_keepers_135 rfl ?_
        refine x_if_eq_t 163 dX12_keepers_137 (by decide) rfl ?_
        refine x_iload dX12_keepers_163 rfl ?_
        refine x_ist_5 dX12_keepers_165 (by decide) rfl ?_
        refine x_inc_6  dX12_keepers_167 (by decide) (nI_inc _) rfl ?_
        refine x_goto 87 dX12_keepers_170 (by decide) ?_
        have E : fk V a b (i + 1) = fk V a b i := fk_n (fun z => c125 (b2i_t (by rw [Nat.or_comm]; exact z.2.2)))
        rw [E] at ih
        exact ih _
      · refine x_iconst (v := 1) dX12_keepers_128 (by decide) ?_
        refine x_goto 133 dX12_keepers_129 (by decide) ?_
        refine x_ist_7 dX12_keepers_133 (by decide) rfl ?_
        refine x_iload dX12_keepers_135 rfl ?_
        refine x_if_eq_f 163 dX12_keepers_137 (by decide) (by decide) ?_
        have rb : (rea V (i ||| sur V (V.1 0)) a 7).testBit b = true := by rw [Nat.or_comm]; exact b2i_1.mp c125
        refine x_iload dX12_keepers_140 rfl ?_
        refine x_if_lt 158 dX12_keepers_142 (by decide) (fun c142 => ?_) (fun c142 => ?_)
        · refine x_iload dX12_keepers_158 rfl ?_
          refine x_goto 165 dX12_keepers_160 (by decide) ?_
          refine x_ist_5 dX12_keepers_165 (by decide) rfl ?_
          refine x_inc_6  dX12_keepers_167 (by decide) (nI_inc _) rfl ?_
          refine x_goto 87 dX12_keepers_170 (by decide) ?_
          have E : fk V a b (i + 1) = i := fk_y ⟨sb, .inl ((fkM_lt fl).mp c142), rb⟩
          rw [E, show fkM i = nI i from if_neg (by omega)] at ih
          exact ih _
        · have nf : ¬ fk V a b i = 999 := fun z => c142 ((fkM_lt fl).mpr z)
          have f256 : fk V a b i < 256 := fl.resolve_left nf
          refine x_iload dX12_keepers_145 rfl ?_
          refine x_rdS (c_X12_ones (x := i) (by omega)) lkX12_ones sX12_270 dX12_keepers_147 rfl rfl (Nat.le_of_ble_eq_true rfl) (by decide) ⟨rfl, rfl, by decide, by decide⟩ ?_
          refine x_iload dX12_keepers_150 rfl ?_
          rw [fkM, if_neg nf]
          refine x_rdS (c_X12_ones (x := fk V a b i) f256) lkX12_ones sX12_270 dX12_keepers_152 rfl rfl (Nat.le_of_ble_eq_true rfl) (by decide) ⟨rfl, rfl, by decide, by decide⟩ ?_
          refine x_icmp_ge 163 dX12_keepers_155 (by decide) (fun c155 => ?_) (fun c155 => ?_)
          · refine x_iload dX12_keepers_163 rfl ?_
            refine x_ist_5 dX12_keepers_165 (by decide) rfl ?_
            refine x_inc_6  dX12_keepers_167 (by decide) (nI_inc _) rfl ?_
            refine x_goto 87 dX12_keepers_170 (by decide) ?_
            have E : fk V a b (i + 1) = fk V a b i := fk_n (fun z => z.2.1.elim nf (fun y => absurd (nI_lt y (by have := bc8_le _ f256; omega)) (Int32.not_lt.mpr c155)))
            rw [E, show fkM (fk V a b i) = nI (fk V a b i) from if_neg nf] at ih
            exact ih _
          · refine x_iload dX12_keepers_158 rfl ?_
            refine x_goto 165 dX12_keepers_160 (by decide) ?_
            refine x_ist_5 dX12_keepers_165 (by decide) rfl ?_
            refine x_inc_6  dX12_keepers_167 (by decide) (nI_inc _) rfl ?_
            refine x_goto 87 dX12_keepers_170 (by decide) ?_
            have E : fk V a b (i + 1) = i := fk_y ⟨sb, .inr ((nI_ltI (by have := bc8_le i (by omega); omega) (by have := bc8_le _ f256; omega)).mp (Int32.not_le.mp c155)), rb⟩
            rw [E, show fkM i = nI i from if_neg (by omega)] at ih
            exact ih _
  · have fl := fl0 (2 ^ V.1 0) (Nat.le_refl _)
    refine x_iload dX12_keepers_87 rfl ?_
    refine x_iconst (v := 1) dX12_keepers_89 (by decide) ?_
    refine x_aload_n dX12_keepers_90 rfl ?_
    refine x_get fX12_97 mo rfl dX12_keepers_91 ?_
    refine x_ishl dX12_keepers_94 ?_
    refine x_icmp_ge_t 173 dX12_keepers_95 (by decide) (ge_t (N := 2 ^ V.1 0) (sh1 _ (by omega)) (by omega)) ?_
    refine x_iload dX12_keepers_173 rfl ?_
    refine x_if_lt 183 dX12_keepers_175 (by decide) (fun c175 => ?_) (fun c175 => ?_)
    · refine x_iload dX12_keepers_183 rfl ?_
      refine x_goto 193 dX12_keepers_185 (by decide) ?_
      refine x_iret rfl dX12_keepers_193 ⟨by decide, by decide⟩ ?_
      have nf := (fkM_lt fl).mp c175
      have hq : qKeepers V (nI a) (nI b) w0 = -3 := by rw [qKeepers, if_pos hc, iN_nI (by omega), iN_nI (by omega), if_pos nf]
      exact ⟨by rw [hq, fkM, if_pos nf], rfl⟩
    · have nf : ¬ fk V a b (2 ^ V.1 0) = 999 := fun z => c175 ((fkM_lt fl).mpr z)
      have f256 : fk V a b (2 ^ V.1 0) < 256 := fl.resolve_left nf
      refine x_iload_n dX12_keepers_178 rfl ?_
      refine x_iconst (v := 1) dX12_keepers_179 (by decide) ?_
      refine x_icmp_ne 188 dX12_keepers_180 (by decide) (fun c180 => ?_) (fun c180 => ?_)
      · refine x_iload dX12_keepers_188 rfl ?_
        rw [fkM, if_neg nf]
        refine x_rdS (c_X12_ones (x := fk V a b (2 ^ V.1 0)) f256) lkX12_ones sX12_270 dX12_keepers_190 rfl rfl (Nat.le_of_ble_eq_true rfl) (by decide) ⟨rfl, rfl, by decide, by decide⟩ ?_
        refine x_iret rfl dX12_keepers_193 ⟨by decide, by decide⟩ ?_
        have w00 : w0 = 0 := by
          obtain ⟨w1, hw1, rfl⟩ := ut_E (b := 1) hc.2.2 (by decide)
          have : ¬ w1 = 1 := fun z => c180 (by rw [z]; rfl)
          have : w1 = 0 := by omega
          rw [this]; rfl
        have hq : qKeepers V (nI a) (nI b) w0 = nI (bc8 (fk V a b (2 ^ V.1 0))) := by rw [qKeepers, if_pos hc, iN_nI (by omega), iN_nI (by omega), if_neg nf, if_pos w00]
        exact ⟨by rw [hq], rfl⟩
      · refine x_iload dX12_keepers_183 rfl ?_
        refine x_goto 193 dX12_keepers_185 (by decide) ?_
        refine x_iret rfl dX12_keepers_193 ⟨by decide, by decide⟩ ?_
        have hq : qKeepers V (nI a) (nI b) w0 = nI (fk V a b (2 ^ V.1 0)) := by rw [qKeepers, if_pos hc, iN_nI (by omega), iN_nI (by omega), if_neg nf, if_neg (by rw [c180]; decide)]
        exact ⟨by rw [hq, fkM, if_neg nf], rfl⟩
set_option maxRecDepth 10000 in
set_option maxHeartbeats 2000000 in
theorem c_X12_keepers {g : gG} {h : gH} {m : Nat} {S : AS} (hn : isN h m S) {a b w : Int32} : Rd g mX12_keepers [.ref m, .int a, .int b, .int w] h (.int (qKeepers S.1 a b w)) := by
  obtain ⟨hz, s, l, A, B, hm, hv, hr⟩ := id hn
  have mo := hm.1
  have ok8 : S.1.1 0 ≤ 8 := hv.1.1.1
  have ok4 : S.1.1 1 ≤ 4 := hv.1.1.2.1
  have okr : S.1.1 2 ≤ 4 := hv.1.1.2.2
  have t256 : S.1.1 3 < 256 := lt256 hv.1.2.1 hv.1.1.1
  refine Cn.of (L := [some (.ref m), some (.int a), some (.int b), some (.int w), none, none, none, none]) (by decide) (Nat.le_of_ble_eq_true rfl) rfl ?_
  refine x_iload_n dX12_keepers_0 rfl ?_
  refine x_rdS c_X12_isClearing lkX12_isClearing sX12_233 dX12_keepers_1 rfl rfl (Nat.le_of_ble_eq_true rfl) (by decide) ⟨rfl, rfl, by decide, by decide⟩ ?_
  refine x_if_eqB 21 dX12_keepers_4 (by decide) (fun c4 => ?_) (fun c4 => ?_)
  · refine x_iconst (v := -1) dX12_keepers_21 (by decide) ?_
    refine x_iret rfl dX12_keepers_22 ⟨by decide, by decide⟩ ?_
    exact ⟨by rw [qKeepers, if_neg (fun z => c4 z.1)] <;> rfl, rfl⟩
  · refine x_iload_n dX12_keepers_7 rfl ?_
    refine x_rdS c_X12_isClearing lkX12_isClearing sX12_233 dX12_keepers_8 rfl rfl (Nat.le_of_ble_eq_true rfl) (by decide) ⟨rfl, rfl, by decide, by decide⟩ ?_
    refine x_if_eqB 21 dX12_keepers_11 (by decide) (fun c11 => ?_) (fun c11 => ?_)
    · refine x_iconst (v := -1) dX12_keepers_21 (by decide) ?_
      refine x_iret rfl dX12_keepers_22 ⟨by decide, by decide⟩ ?_
      exact ⟨by rw [qKeepers, if_neg (fun z => c11 z.2.1)] <;> rfl, rfl⟩
    · refine x_iload_n dX12_keepers_14 rfl ?_
      refine x_rdS c_X12_isSide lkX12_isSide sX12_313 dX12_keepers_15 rfl rfl (Nat.le_of_ble_eq_true rfl) (by decide) ⟨rfl, rfl, by decide, by decide⟩ ?_
      refine x_if_neB 23 dX12_keepers_18 (by decide) (fun c18 => ?_) (fun c18 => ?_)
      · obtain ⟨a1, ha, rfl⟩ := bl_E (b := 8) c4 (by decide)
        obtain ⟨b1, hb, rfl⟩ := bl_E (b := 8) c11 (by decide)
        have w18 : ut w 1 = true := by obtain ⟨w1, h1, rfl⟩ := bl_E (b := 2) c18 (by decide); exact ut_p.mpr ⟨nI_pos' (by omega), nI_le (b := 1) (by omega) (by decide)⟩
        refine x_aload_n dX12_keepers_23 rfl ?_
        refine x_rdV (c_X12_heldSet hm hv) mo lkX12_heldSet sX12_274 dX12_keepers_24 rfl rfl (Nat.le_of_ble_eq_true rfl) (by decide) ⟨rfl, rfl, by decide, by decide⟩ ?_
        refine x_ist_4 dX12_keepers_27 (by decide) rfl ?_
        refine x_iconst (v := 0) dX12_keepers_29 (by decide) ?_
        refine x_ist_5 dX12_keepers_30 (by decide) rfl ?_
        refine kp32 hm hv ?_ 0 (Nat.zero_le _)
        refine x_bipush (v := -3) dX12_keepers_80 (by decide) ?_
        refine x_ist_5 dX12_keepers_82 (by decide) rfl ?_
        refine x_iconst (v := 0) dX12_keepers_84 (by decide) ?_
        refine x_ist_6 dX12_keepers_85 (by decide) rfl ?_
        rw [ms_sur hv.1]
        exact kp87 hm hv ha hb ⟨c4, c11, w18⟩ 0 (Nat.zero_le _) _
      · refine x_iconst (v := -1) dX12_keepers_21 (by decide) ?_
        refine x_iret rfl dX12_keepers_22 ⟨by decide, by decide⟩ ?_
        exact ⟨by rw [qKeepers, if_neg (fun z => c18 (by obtain ⟨w1, h1, rfl⟩ := ut_E (b := 1) z.2.2 (by decide); exact bl_I (b := 2) (by omega) (by decide)))] <;> rfl, rfl⟩
