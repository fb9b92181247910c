theorem wi_full {V : VS} (hv : okV V) {a b : Nat} (ha : a < 8) (hb : b < 8) (h : (rea V (V.1 3) b 7).testBit a = true) : ∀ n, n ≤ 2 → wi V a b n = 2 ^ (3 * V.1 0 * n)
  | 0, _ => by
    show wi0 V a b = _
    unfold wi0 jv
    rw [if_pos (by rw [rea_sy hv ha hb]; exact h)]; rfl
  | 1, _ => by
    show wi1 V a b = _
    rw [wi1_eq hv hb, Nat.mul_one, p3]
    apply Nat.le_antisymm (bwt_le (fun i => wn_le hv b _ i) 8)
    have := bwt_ge (V := V) (t := V.1 3) (a := a) (f := fun i => wn V b (V.1 3) i (2 ^ V.1 0)) 8 b hb (by rw [rea_sy hv ha hb]; exact h)
    rw [wn_b hv hb] at this
    exact this
  | 2, _ => by
    show wi2 V a b = _
    rw [wi2_eq hv hb, Nat.mul_comm _ 2, Nat.two_mul, Nat.pow_add, p3]
    apply Nat.le_antisymm (bwt_le (fun i => tw_le hv b i) 8)
    have := bwt_ge (V := V) (t := V.1 3) (a := a) (f := fun i => tw V b i (2 ^ V.1 0)) 8 b hb (by rw [rea_sy hv ha hb]; exact h)
    rw [tw_b hv hb] at this
    exact this
  | n + 3, h => absurd h (by omega)
theorem wi_0 {V : VS} (hv : okV V) {a b : Nat} (ha : a < 8) (hb : b < 8) (h : ¬ (rea V (V.1 3) b 7).testBit a = true) : wi V a b 0 = 0 := by
  show wi0 V a b = _
  unfold wi0 jv
  rw [if_neg (by rw [rea_sy hv ha hb]; exact h)]
theorem wi_lt2 {V : VS} (hv : okV V) {a b : Nat} (hb : b < 8) : wi1 V a b < 2 ^ 60 ∧ wi2 V a b < 2 ^ 60 := by
  have b8 := pow8 hv.1.1
  have h1 : wi1 V a b ≤ 8 ^ V.1 0 := by rw [wi1_eq hv hb]; exact bwt_le (fun i => wn_le hv b _ i) 8
  have h2 : wi2 V a b ≤ 8 ^ V.1 0 * 8 ^ V.1 0 := by rw [wi2_eq hv hb]; exact bwt_le (fun i => tw_le hv b i) 8
  have h3 : 8 ^ V.1 0 * 8 ^ V.1 0 ≤ 16777216 * 16777216 := Nat.mul_le_mul b8 b8
  omega
set_option maxRecDepth 10000 in
set_option maxHeartbeats 2000000 in
theorem wn38 {g : gG} {h : gH} {m : Nat} {V : VS} {s : Nat → Int32} {l : Nat → Int64} {A : Nat → Nat → Int32} {B : Nat → Nat → Int64} (hv : rpV V A) {b : Nat} (hb : b < 8) {a0 n0 p0 : Int32} {Q : Option Value → gH → Prop} (kk : ∀ h1 r, MM h1 m V s l (va_up A 12 r) B → (∀ u, u < 2 ^ V.1 0 → r u = nI (rea V u b 7)) → Fr m 27 h h1 → Ex g mX12_within (gZm g mX12_within Q) 69 [some (.ref m), some (.int a0), some (.int (nI b)), some (.int n0), some (.int p0), some (.int (nI (2 ^ V.1 0)))] [] h1 0 0) : ∀ i, i ≤ 2 ^ V.1 0 → ∀ h1 r, MM h1 m V s l (va_up A 12 r) B → (∀ u, u < i → r u = nI (rea V u b 7)) → Fr m 27 h h1 → Ex g mX12_within (gZm g mX12_within Q) 38 [some (.ref m), some (.int a0), some (.int (nI b)), some (.int n0), some (.int p0), some (.int (nI i))] [] h1 0 0 := by
  have ok8 : V.1 0 ≤ 8 := hv.1.1.1
  have ok4 : V.1 1 ≤ 4 := hv.1.1.2.1
  have okr : V.1 2 ≤ 4 := hv.1.1.2.2
  have t256 : V.1 3 < 256 := lt256 hv.1.2.1 hv.1.1.1
  have n8 := pw256 ok8
  have b8 := pow8 ok8
  refine lp_up (2 ^ V.1 0) (fun i hi ih h1 r hm1 hre F => ?_) (fun h1 r hm1 hre F => ?_)
  · have m13 : h1.1 (m + 13) = some (.inl (0, 256, .inl (va_up A 12 r 12))) := hm1.2 12 (by decide)
    refine x_iload dX12_within_38 rfl ?_
    refine x_iconst (v := 1) dX12_within_40 (by decide) ?_
    refine x_aload_n dX12_within_41 rfl ?_
    refine x_get fX12_97 hm1.1 rfl dX12_within_42 ?_
    refine x_ishl dX12_within_45 ?_
    refine x_icmp_ge_f 69 dX12_within_46 (by decide) (ge_f (N := 2 ^ V.1 0) (sh1 _ (by omega)) hi (by omega)) ?_
    refine x_aload_n dX12_within_49 rfl ?_
    refine x_get fX12_50 hm1.1 rfl dX12_within_50 ?_
    refine x_iload dX12_within_53 rfl ?_
    refine x_aload_n dX12_within_55 rfl ?_
    refine x_iload dX12_within_56 rfl ?_
    refine x_iload_n dX12_within_58 rfl ?_
    refine x_rdV (c_X12_reachBy hm1 hv (t := i) (by omega) hb) hm1.1 lkX12_reachBy sX12_292 dX12_within_59 rfl rfl (Nat.le_of_ble_eq_true rfl) (by decide) ⟨rfl, rfl, by decide, by decide⟩ ?_
    refine x_iast i m13 rfl (by omega) (by decide) dX12_within_62 ?_
    refine x_inc_5  dX12_within_63 (by decide) (nI_inc _) rfl ?_
    refine x_goto 38 dX12_within_66 (by decide) ?_
    have hm2 := hm1.int (i := 12) (f := va_up (va_up A 12 r 12) i (nI (rea V i b 7))) rfl
    have eA : va_up (va_up A 12 r) 12 (va_up (va_up A 12 r 12) i (nI (rea V i b 7))) = va_up A 12 (va_up r i (nI (rea V i b 7))) := by rw [va_2, va_up_self]
    exact ih _ _ (eA ▸ hm2) (fun u hu => by
      by_cases e : u = i
      · subst e; rw [va_up_self]
      · rw [va_up_ne _ _ e]; exact hre u (by omega)) (F.tr (Fr.set (by omega) (by omega)))
  · refine x_iload dX12_within_38 rfl ?_
    refine x_iconst (v := 1) dX12_within_40 (by decide) ?_
    refine x_aload_n dX12_within_41 rfl ?_
    refine x_get fX12_97 hm1.1 rfl dX12_within_42 ?_
    refine x_ishl dX12_within_45 ?_
    refine x_icmp_ge_t 69 dX12_within_46 (by decide) (ge_t (N := 2 ^ V.1 0) (sh1 _ (by omega)) (by omega)) ?_
    exact kk _ _ hm1 hre F
set_option maxRecDepth 10000 in
set_option maxHeartbeats 2000000 in
theorem c_X12_within {g : gG} {h : gH} {m : Nat} {S : AS} (hn : isN h m S) {a b n pt : Int32} : Ct g mX12_within [.ref m, .int a, .int b, .int n, .int pt] h (some (.long (qWithin S.1 a b n pt))) (Pn m S h) := by
  obtain ⟨hz, s, l, A, B, hm, hv, hr⟩ := id hn
  have mo := hm.1
  have ok8 : S.1.1 0 ≤ 8 := hv.1.1.1
  have ok4 : S.1.1 1 ≤ 4 := hv.1.1.2.1
  have okr : S.1.1 2 ≤ 4 := hv.1.1.2.2
  have t256 : S.1.1 3 < 256 := lt256 hv.1.2.1 hv.1.1.1
  refine Cn.of (L := [some (.ref m), some (.int a), some (.int b), some (.int n), some (.int pt), none]) (by decide) (Nat.le_of_ble_eq_true rfl) rfl ?_
  refine x_iload_n dX12_within_0 rfl ?_
  refine x_rdS c_X12_isClearing lkX12_isClearing sX12_233 dX12_within_1 rfl rfl (Nat.le_of_ble_eq_true rfl) (by decide) ⟨rfl, rfl, by decide, by decide⟩ ?_
  refine x_if_eqB 31 dX12_within_4 (by decide) (fun c4 => ?_) (fun c4 => ?_)
  · refine x_ldc2 dX12_within_31 kX12_146 ?_
    refine x_lret rfl dX12_within_34 ⟨by decide, by decide⟩ ?_
    exact ⟨by rw [qWithin, if_neg (fun z => c4 z.1)] <;> rfl, hn.rf⟩
  · refine x_iload_n dX12_within_7 rfl ?_
    refine x_rdS c_X12_isClearing lkX12_isClearing sX12_233 dX12_within_8 rfl rfl (Nat.le_of_ble_eq_true rfl) (by decide) ⟨rfl, rfl, by decide, by decide⟩ ?_
    refine x_if_eqB 31 dX12_within_11 (by decide) (fun c11 => ?_) (fun c11 => ?_)
    · refine x_ldc2 dX12_within_31 kX12_146 ?_
      refine x_lret rfl dX12_within_34 ⟨by decide, by decide⟩ ?_
      exact ⟨by rw [qWithin, if_neg (fun z => c11 z.2.1)] <;> rfl, hn.rf⟩
    · refine x_iload_n dX12_within_14 rfl ?_
      refine x_iconst (v := 0) dX12_within_15 (by decide) ?_
      refine x_iconst (v := 2) dX12_within_16 (by decide) ?_
      refine x_rdS mc_in lkX12_in sX12_93 dX12_within_17 rfl rfl (Nat.le_of_ble_eq_true rfl) (by decide) ⟨rfl, rfl, by decide, by decide⟩ ?_
      refine x_if_eqB 31 dX12_within_20 (by decide) (fun c20 => ?_) (fun c20 => ?_)
      · refine x_ldc2 dX12_within_31 kX12_146 ?_
        refine x_lret rfl dX12_within_34 ⟨by decide, by decide⟩ ?_
        exact ⟨by rw [qWithin, if_neg (fun z => c20 z.2.2.1)] <;> rfl, hn.rf⟩
      · refine x_iload dX12_within_23 rfl ?_
        refine x_rdS c_X12_isSide lkX12_isSide sX12_313 dX12_within_25 rfl rfl (Nat.le_of_ble_eq_true rfl) (by decide) ⟨rfl, rfl, by decide, by decide⟩ ?_
        refine x_if_neB 35 dX12_within_28 (by decide) (fun c28 => ?_) (fun c28 => ?_)
        · obtain ⟨a1, ha, rfl⟩ := bl_E (b := 8) c4 (by decide)
          obtain ⟨b1, hb, rfl⟩ := bl_E (b := 8) c11 (by decide)
          have c20x := c20
          obtain ⟨n1, hn2, rfl⟩ := ut_E (b := 2) c20 (by decide)
          have c28x := c28
          obtain ⟨p1, hp1, rfl⟩ := bl_E (b := 2) c28 (by decide)
          have pe : nI p1 = 0 ↔ p1 = 0 := nI_z (by omega)
          have n8 := pw256 ok8
          have b8 := pow8 ok8
          refine x_iconst (v := 0) dX12_within_35 (by decide) ?_
          refine x_ist_5 dX12_within_36 (by decide) rfl ?_
          refine wn38 (h := h) (A := A) (B := B) hv hb (fun h1 r hm1 hre F1 => ?_) 0 (Nat.zero_le _) h (A 12) (by rw [va_id]; exact hm) (fun u hu => absurd hu (Nat.not_lt_zero u)) Fr.rf
          have m13 : h1.1 (m + 13) = some (.inl (0, 256, .inl (va_up A 12 r 12))) := hm1.2 12 (by decide)
          have tl : S.1.1 3 < 2 ^ S.1.1 0 := hv.1.2.1
          refine x_aload_n dX12_within_69 rfl ?_
          refine x_get fX12_50 hm1.1 rfl dX12_within_70 ?_
          refine x_aload_n dX12_within_73 rfl ?_
          refine x_get fX12_103 hm1.1 rfl dX12_within_74 ?_
          refine x_iald (S.1.1 3) m13 rfl (by omega) (by decide) dX12_within_77 ?_
          rw [show va_up A 12 r 12 (S.1.1 3) = nI (rea S.1 (S.1.1 3) b1 7) from hre _ tl]
          refine x_iload_n dX12_within_78 rfl ?_
          refine x_ishr dX12_within_79 ?_
          refine x_iconst (v := 1) dX12_within_80 (by decide) ?_
          refine x_iand dX12_within_81 ?_
          rw [sr_bit _ (rea_lt hv.1 _ hb 7) a1 ha]
          refine x_iconst (v := 1) dX12_within_82 (by decide) ?_
          refine x_icmp_eq 90 dX12_within_83 (by decide) (fun c83 => ?_) (fun c83 => ?_)
          · refine x_iload dX12_within_90 rfl ?_
            refine x_iconst (v := 1) dX12_within_92 (by decide) ?_
            refine x_icmp_ne 100 dX12_within_93 (by decide) (fun c93 => ?_) (fun c93 => ?_)
            · refine x_aload_n dX12_within_100 rfl ?_
              refine x_get fX12_50 hm1.1 rfl dX12_within_101 ?_
              refine x_aload_n dX12_within_104 rfl ?_
              refine x_get fX12_103 hm1.1 rfl dX12_within_105 ?_
              refine x_iald (S.1.1 3) m13 rfl (by omega) (by decide) dX12_within_108 ?_
              rw [show va_up A 12 r 12 (S.1.1 3) = nI (rea S.1 (S.1.1 3) b1 7) from hre _ tl]
              refine x_iload_n dX12_within_109 rfl ?_
              refine x_ishr dX12_within_110 ?_
              refine x_iconst (v := 1) dX12_within_111 (by decide) ?_
              refine x_iand dX12_within_112 ?_
              rw [sr_bit _ (rea_lt hv.1 _ hb 7) a1 ha]
              refine x_i2l dX12_within_113 ?_
              refine x_lret rfl dX12_within_114 ⟨by decide, by decide⟩ ?_
              have cn : (rea S.1 (S.1.1 3) b1 7).testBit a1 = true := b2i_1.mp c83
              have p0 : nI p1 = 0 := by
                have : ¬ p1 = 1 := fun z => c93 (by rw [z]; rfl)
                exact pe.mpr (by omega)
              exact ⟨by rw [qWithin, if_pos ⟨c4, c11, c20x, c28x⟩, iN_nI (by omega), iN_nI (by omega), iN_nI (by omega), ptN, if_pos p0, wi_full hv.1 ha hb cn n1 hn2, rdN_p, b2i_t cn] <;> rfl, isN.of hz hm1 hv hr F1⟩
            · refine x_lconst (v := 1) dX12_within_96 (by decide) ?_
              refine x_goto 114 dX12_within_97 (by decide) ?_
              refine x_lret rfl dX12_within_114 ⟨by decide, by decide⟩ ?_
              have cn : (rea S.1 (S.1.1 3) b1 7).testBit a1 = true := b2i_1.mp c83
              have p0 : ¬ nI p1 = 0 := fun z => absurd (c93 ▸ z : (1 : Int32) = 0) (by decide)
              exact ⟨by rw [qWithin, if_pos ⟨c4, c11, c20x, c28x⟩, iN_nI (by omega), iN_nI (by omega), iN_nI (by omega), ptN, if_neg p0, wi_full hv.1 ha hb cn n1 hn2, rdN_p] <;> rfl, isN.of hz hm1 hv hr F1⟩
          · refine x_iload_n dX12_within_86 rfl ?_
            refine x_if_ne 115 dX12_within_87 (by decide) (fun c87 => ?_) (fun c87 => ?_)
            · refine x_iload_n dX12_within_115 rfl ?_
              refine x_iconst (v := 1) dX12_within_116 (by decide) ?_
              refine x_icmp_ne 152 dX12_within_117 (by decide) (fun c117 => ?_) (fun c117 => ?_)
              · refine x_aload_n dX12_within_152 rfl ?_
                refine x_aload_n dX12_within_153 rfl ?_
                refine x_iload_n dX12_within_154 rfl ?_
                refine x_cvV (c_X12_withinTwo hm1 hv hb (fun u hu => by rw [va_up_self]; exact hre u hu) ha) hm1.1 lkX12_withinTwo sX12_336 dX12_within_155 rfl rfl (Nat.le_of_ble_eq_true rfl) (by decide) ⟨rfl, rfl, by decide, by decide⟩ ?_
                rintro h2 ⟨f2, w2, z2, hm2, F2⟩
                refine x_aload_n dX12_within_158 rfl ?_
                refine x_rdV (c_X12_allOdds hm2 hv) hm2.1 lkX12_allOdds sX12_320 dX12_within_159 rfl rfl (Nat.le_of_ble_eq_true rfl) (by decide) ⟨rfl, rfl, by decide, by decide⟩ ?_
                refine x_aload_n dX12_within_162 rfl ?_
                refine x_rdV (c_X12_allOdds hm2 hv) hm2.1 lkX12_allOdds sX12_320 dX12_within_163 rfl rfl (Nat.le_of_ble_eq_true rfl) (by decide) ⟨rfl, rfl, by decide, by decide⟩ ?_
                refine x_lmul dX12_within_166 ?_
                rw [lN_mul, show 8 ^ S.1.1 0 * 8 ^ S.1.1 0 = 2 ^ (3 * S.1.1 0 * 2) by rw [Nat.mul_comm _ 2, Nat.two_mul, Nat.pow_add, p3]]
                refine x_cnV (c_X12_lowest (K := 3 * S.1.1 0 * 2) hm2 (by have := wi_lt2 (a := a1) hv.1 hb; omega) (by omega)) hm2.1 lkX12_lowest sX12_324 dX12_within_167 rfl rfl (Nat.le_of_ble_eq_true rfl) (by decide) ⟨rfl, rfl, by decide, by decide⟩ ?_
                rintro h3 ⟨hm3, F3⟩
                refine x_iload dX12_within_170 rfl ?_
                refine x_if_ne 182 dX12_within_172 (by decide) (fun c172 => ?_) (fun c172 => ?_)
                · refine x_aload_n dX12_within_182 rfl ?_
                  refine x_get fX12_298 hm3.1 rfl dX12_within_183 ?_
                  refine x_lret rfl dX12_within_186 ⟨by decide, by decide⟩ ?_
                  have n0 : n1 = 2 := by have : ¬ n1 = 1 := fun z => c117 (by rw [z]; rfl); have : ¬ n1 = 0 := fun z => c87 (by rw [z]; rfl); omega
                  subst n0
                  exact ⟨by rw [qWithin, if_pos ⟨c4, c11, c20x, c28x⟩, iN_nI (by omega), iN_nI (by omega), iN_nI (by omega), ptN, if_neg c172] <;> rfl, isN.of hz hm3 hv hr ((F1.tr F2).tr F3)⟩
                · refine x_aload_n dX12_within_175 rfl ?_
                  refine x_get fX12_295 hm3.1 rfl dX12_within_176 ?_
                  refine x_goto 186 dX12_within_179 (by decide) ?_
                  refine x_lret rfl dX12_within_186 ⟨by decide, by decide⟩ ?_
                  have n0 : n1 = 2 := by have : ¬ n1 = 1 := fun z => c117 (by rw [z]; rfl); have : ¬ n1 = 0 := fun z => c87 (by rw [z]; rfl); omega
                  subst n0
                  exact ⟨by rw [qWithin, if_pos ⟨c4, c11, c20x, c28x⟩, iN_nI (by omega), iN_nI (by omega), iN_nI (by omega), ptN, if_pos c172] <;> rfl, isN.of hz hm3 hv hr ((F1.tr F2).tr F3)⟩
              · refine x_aload_n dX12_within_120 rfl ?_
                refine x_aload_n dX12_within_121 rfl ?_
                refine x_get fX12_103 hm1.1 rfl dX12_within_122 ?_
                refine x_cnV (c_X12_findWins hm1 hv hb (fun u hu => by rw [va_up_self]; exact hre u hu) (t := S.1.1 3) t256) hm1.1 lkX12_findWins sX12_330 dX12_within_125 rfl rfl (Nat.le_of_ble_eq_true rfl) (by decide) ⟨rfl, rfl, by decide, by decide⟩ ?_
                rintro h2 ⟨f2, w2, hm2, hw2, F2⟩
                refine x_aload_n dX12_within_128 rfl ?_
                refine x_aload_n dX12_within_129 rfl ?_
                refine x_aload_n dX12_within_130 rfl ?_
                refine x_aload_n dX12_within_131 rfl ?_
                refine x_get fX12_103 hm2.1 rfl dX12_within_132 ?_
                refine x_iload_n dX12_within_135 rfl ?_
                refine x_rdV (c_X12_reachBy hm2 hv t256 ha) hm2.1 lkX12_reachBy sX12_292 dX12_within_136 rfl rfl (Nat.le_of_ble_eq_true rfl) (by decide) ⟨rfl, rfl, by decide, by decide⟩ ?_
                refine x_rdV (c_X12_mostOf hm2 hv (t := S.1.1 3) ha (y := fun c => wn S.1 b1 (S.1.1 3) c (2 ^ S.1.1 0)) (fun c => by have := wn_le hv.1 b1 (S.1.1 3) c; omega) hw2) hm2.1 lkX12_mostOf sX12_333 dX12_within_139 rfl rfl (Nat.le_of_ble_eq_true rfl) (by decide) ⟨rfl, rfl, by decide, by decide⟩ ?_
                rw [← wi1_eq hv.1 hb]
                refine x_aload_n dX12_within_142 rfl ?_
                refine x_rdV (c_X12_allOdds hm2 hv) hm2.1 lkX12_allOdds sX12_320 dX12_within_143 rfl rfl (Nat.le_of_ble_eq_true rfl) (by decide) ⟨rfl, rfl, by decide, by decide⟩ ?_
                rw [show 8 ^ S.1.1 0 = 2 ^ (3 * S.1.1 0 * 1) by rw [Nat.mul_one, p3]]
                refine x_cnV (c_X12_lowest (K := 3 * S.1.1 0 * 1) hm2 (by have := wi_lt2 (a := a1) hv.1 hb; omega) (by omega)) hm2.1 lkX12_lowest sX12_324 dX12_within_146 rfl rfl (Nat.le_of_ble_eq_true rfl) (by decide) ⟨rfl, rfl, by decide, by decide⟩ ?_
                rintro h3 ⟨hm3, F3⟩
                refine x_goto 170 dX12_within_149 (by decide) ?_
                refine x_iload dX12_within_170 rfl ?_
                refine x_if_ne 182 dX12_within_172 (by decide) (fun c172 => ?_) (fun c172 => ?_)
                · refine x_aload_n dX12_within_182 rfl ?_
                  refine x_get fX12_298 hm3.1 rfl dX12_within_183 ?_
                  refine x_lret rfl dX12_within_186 ⟨by decide, by decide⟩ ?_
                  have n0 : n1 = 1 := nI_eqn (b := 1) (by omega) (by decide) c117
                  subst n0
                  exact ⟨by rw [qWithin, if_pos ⟨c4, c11, c20x, c28x⟩, iN_nI (by omega), iN_nI (by omega), iN_nI (by omega), ptN, if_neg c172] <;> rfl, isN.of hz hm3 hv hr ((F1.tr F2).tr F3)⟩
                · refine x_aload_n dX12_within_175 rfl ?_
                  refine x_get fX12_295 hm3.1 rfl dX12_within_176 ?_
                  refine x_goto 186 dX12_within_179 (by decide) ?_
                  refine x_lret rfl dX12_within_186 ⟨by decide, by decide⟩ ?_
                  have n0 : n1 = 1 := nI_eqn (b := 1) (by omega) (by decide) c117
                  subst n0
                  exact ⟨by rw [qWithin, if_pos ⟨c4, c11, c20x, c28x⟩, iN_nI (by omega), iN_nI (by omega), iN_nI (by omega), ptN, if_pos c172] <;> rfl, isN.of hz hm3 hv hr ((F1.tr F2).tr F3)⟩
            · refine x_iload dX12_within_90 rfl ?_
              refine x_iconst (v := 1) dX12_within_92 (by decide) ?_
              refine x_icmp_ne 100 dX12_within_93 (by decide) (fun c93 => ?_) (fun c93 => ?_)
              · refine x_aload_n dX12_within_100 rfl ?_
                refine x_get fX12_50 hm1.1 rfl dX12_within_101 ?_
                refine x_aload_n dX12_within_104 rfl ?_
                refine x_get fX12_103 hm1.1 rfl dX12_within_105 ?_
                refine x_iald (S.1.1 3) m13 rfl (by omega) (by decide) dX12_within_108 ?_
                rw [show va_up A 12 r 12 (S.1.1 3) = nI (rea S.1 (S.1.1 3) b1 7) from hre _ tl]
                refine x_iload_n dX12_within_109 rfl ?_
                refine x_ishr dX12_within_110 ?_
                refine x_iconst (v := 1) dX12_within_111 (by decide) ?_
                refine x_iand dX12_within_112 ?_
                rw [sr_bit _ (rea_lt hv.1 _ hb 7) a1 ha]
                refine x_i2l dX12_within_113 ?_
                refine x_lret rfl dX12_within_114 ⟨by decide, by decide⟩ ?_
                have cn : ¬ (rea S.1 (S.1.1 3) b1 7).testBit a1 = true := fun z => c83 (b2i_t z)
                have n0 : n1 = 0 := (nI_z (by omega)).mp c87
                subst n0
                have p0 : nI p1 = 0 := by
                  have : ¬ p1 = 1 := fun z => c93 (by rw [z]; rfl)
                  exact pe.mpr (by omega)
                exact ⟨by rw [qWithin, if_pos ⟨c4, c11, c20x, c28x⟩, iN_nI (by omega), iN_nI (by omega), iN_nI (by omega), ptN, if_pos p0, wi_0 hv.1 ha hb cn, b2i_f cn] <;> rfl, isN.of hz hm1 hv hr F1⟩
              · refine x_lconst (v := 1) dX12_within_96 (by decide) ?_
                refine x_goto 114 dX12_within_97 (by decide) ?_
                refine x_lret rfl dX12_within_114 ⟨by decide, by decide⟩ ?_
                have cn : ¬ (rea S.1 (S.1.1 3) b1 7).testBit a1 = true := fun z => c83 (b2i_t z)
                have n0 : n1 = 0 := (nI_z (by omega)).mp c87
                subst n0
                have p0 : ¬ nI p1 = 0 := fun z => absurd (c93 ▸ z : (1 : Int32) = 0) (by decide)
                exact ⟨by rw [qWithin, if_pos ⟨c4, c11, c20x, c28x⟩, iN_nI (by omega), iN_nI (by omega), iN_nI (by omega), ptN, if_neg p0] <;> rfl, isN.of hz hm1 hv hr F1⟩
        · refine x_ldc2 dX12_within_31 kX12_146 ?_
          refine x_lret rfl dX12_within_34 ⟨by decide, by decide⟩ ?_
          exact ⟨by rw [qWithin, if_neg (fun z => c28 z.2.2.2)] <;> rfl, hn.rf⟩
