set_option maxRecDepth 10000 in
set_option maxHeartbeats 2000000 in
theorem wt2 {g : gG} {h : gH} {m : Nat} {V : VS} {s : Nat → Int32} {l : Nat → Int64} {A : Nat → Nat → Int32} {B : Nat → Nat → Int64} {a0 : Int32} {Q : Option Value → gH → Prop} (kk : ∀ h1 w, MM h1 m V s l A (va_up B 14 w) → (∀ c, c < 8 → w c = 0) → Fr m 27 h h1 → Ex g mX12_withinTwo (gZm g mX12_withinTwo Q) 23 [some (.ref m), some (.int a0), some (.int 0), none, none, none] [] h1 0 0) : ∀ i, i ≤ 8 → ∀ h1 w, MM h1 m V s l A (va_up B 14 w) → (∀ c, c < i → w c = 0) → Fr m 27 h h1 → Ex g mX12_withinTwo (gZm g mX12_withinTwo Q) 2 [some (.ref m), some (.int a0), some (.int (nI i)), none, none, none] [] h1 0 0 := by
  refine lp_up 8 (fun i hi ih h1 w hm1 hw F => ?_) (fun h1 w hm1 hw F => ?_)
  · have m15 : h1.1 (m + 15) = some (.inl (1, 8, .inr (.inl (va_up B 14 w 14)))) := hm1.2 14 (by decide)
    refine x_iload_n dX12_withinTwo_2 rfl ?_
    refine x_bipush (v := 8) dX12_withinTwo_3 (by decide) ?_
    refine x_icmp_ge_f 21 dX12_withinTwo_5 (by decide) (ge_f (N := 8) rfl hi (by decide)) ?_
    refine x_aload_n dX12_withinTwo_8 rfl ?_
    refine x_get fX12_57 hm1.1 rfl dX12_withinTwo_9 ?_
    refine x_iload_n dX12_withinTwo_12 rfl ?_
    refine x_lconst (v := 0) dX12_withinTwo_13 (by decide) ?_
    refine x_last i m15 rfl hi (by decide) dX12_withinTwo_14 ?_
    refine x_inc_2  dX12_withinTwo_15 (by decide) (nI_inc _) rfl ?_
    refine x_goto 2 dX12_withinTwo_18 (by decide) ?_
    have hm2 := hm1.lng (i := 14) (f := va_up (va_up B 14 w 14) i 0) rfl
    have eB : va_up (va_up B 14 w) 14 (va_up (va_up B 14 w 14) i 0) = va_up B 14 (va_up w i 0) := by rw [va_2, va_up_self]
    exact ih _ _ (eB ▸ hm2) (fun c hc => by
      by_cases e : c = i
      · subst e; rw [va_up_self]
      · rw [va_up_ne _ _ e]; exact hw c (by omega)) (F.tr (Fr.set (by omega) (by omega)))
  · refine x_iload_n dX12_withinTwo_2 rfl ?_
    refine x_bipush (v := 8) dX12_withinTwo_3 (by decide) ?_
    refine x_icmp_ge_t 21 dX12_withinTwo_5 (by decide) (ge_t (N := 8) rfl (by decide)) ?_
    refine x_iconst (v := 0) dX12_withinTwo_21 (by decide) ?_
    refine x_ist_2 dX12_withinTwo_22 (by decide) rfl ?_
    exact kk _ _ hm1 hw F
set_option maxRecDepth 10000 in
set_option maxHeartbeats 2000000 in
theorem wt137 {g : gG} {h : gH} {m : Nat} {V : VS} {s : Nat → Int32} {l : Nat → Int64} {A : Nat → Nat → Int32} {B : Nat → Nat → Int64} (hm : MM h m V s l A B) (hv : rpV V A) {Q : Option Value → gH → Prop} {a : Nat} (ha : a < 8) {y : Nat → Nat} (hY : ∀ c, y c < 2 ^ 60) (hy : ∀ c, c < 8 → B 14 c = lN (y c)) (hQ : Q (some (.long (lN (bwt V (V.1 3) a y 8)))) h) : ∀ i, i ≤ 8 → ∀ x5 : Option Value, Ex g mX12_withinTwo (gZm g mX12_withinTwo Q) 137 [some (.ref m), some (.int (nI a)), some (.long (lN (bwt V (V.1 3) a y i))), none, some (.int (nI i)), x5] [] h 0 0 := by
  have mo := hm.1
  have m15 : h.1 (m + 15) = some (.inl (1, 8, .inr (.inl (B 14)))) := hm.2 14 (by decide)
  have ok8 : V.1 0 ≤ 8 := hv.1.1.1
  have ok4 : V.1 1 ≤ 4 := hv.1.1.2.1
  have okr : V.1 2 ≤ 4 := hv.1.1.2.2
  have t256 : V.1 3 < 256 := lt256 hv.1.2.1 hv.1.1.1
  refine lp_up 8 (fun i hi ih x5 => ?_) (fun x5 => ?_)
  · have yb : bwt V (V.1 3) a y i < 2 ^ 60 := Nat.lt_of_le_of_lt (bwt_le (B := 2 ^ 60 - 1) (fun c => by have := hY c; omega) i) (by decide)
    refine x_iload dX12_withinTwo_137 rfl ?_
    refine x_bipush (v := 8) dX12_withinTwo_139 (by decide) ?_
    refine x_icmp_ge_f 192 dX12_withinTwo_141 (by decide) (ge_f (N := 8) rfl hi (by decide)) ?_
    refine x_aload_n dX12_withinTwo_144 rfl ?_
    refine x_aload_n dX12_withinTwo_145 rfl ?_
    refine x_get fX12_103 mo rfl dX12_withinTwo_146 ?_
    refine x_iload_n dX12_withinTwo_149 rfl ?_
    refine x_rdV (c_X12_reachBy hm hv t256 ha) mo lkX12_reachBy sX12_292 dX12_withinTwo_150 rfl rfl (Nat.le_of_ble_eq_true rfl) (by decide) ⟨rfl, rfl, by decide, by decide⟩ ?_
    refine x_iload dX12_withinTwo_153 rfl ?_
    refine x_ishr dX12_withinTwo_155 ?_
    refine x_iconst (v := 1) dX12_withinTwo_156 (by decide) ?_
    refine x_iand dX12_withinTwo_157 ?_
    rw [sr_bit _ (rea_lt hv.1 _ ha 7) i hi]
    refine x_iconst (v := 1) dX12_withinTwo_158 (by decide) ?_
    refine x_icmp_ne 184 dX12_withinTwo_159 (by decide) (fun c159 => ?_) (fun c159 => ?_)
    · refine x_lload_n dX12_withinTwo_184 rfl ?_
      refine x_lst_2 dX12_withinTwo_185 (by decide) rfl ?_
      refine x_inc_4  dX12_withinTwo_186 (by decide) (nI_inc _) rfl ?_
      refine x_goto 137 dX12_withinTwo_189 (by decide) ?_
      have E : bwt V (V.1 3) a y (i + 1) = bwt V (V.1 3) a y i := by
        rw [bwt]
        rw [if_neg (fun z => c159 (b2i_t z))]
      rw [E] at ih
      exact ih _
    · refine x_aload_n dX12_withinTwo_162 rfl ?_
      refine x_get fX12_57 mo rfl dX12_withinTwo_163 ?_
      refine x_iload dX12_withinTwo_166 rfl ?_
      refine x_lald i m15 rfl hi (by decide) dX12_withinTwo_168 ?_
      rw [hy i hi]
      have hl : lN (bwt V (V.1 3) a y i) < lN (y i) ↔ bwt V (V.1 3) a y i < y i := l63_lt (by omega) (by have := hY i; omega)
      refine x_lload_n dX12_withinTwo_169 rfl ?_
      refine x_lcmp dX12_withinTwo_170 ?_
      refine x_if_le 184 dX12_withinTwo_171 (by decide) (fun c171 => ?_) (fun c171 => ?_)
      · refine x_lload_n dX12_withinTwo_184 rfl ?_
        refine x_lst_2 dX12_withinTwo_185 (by decide) rfl ?_
        refine x_inc_4  dX12_withinTwo_186 (by decide) (nI_inc _) rfl ?_
        refine x_goto 137 dX12_withinTwo_189 (by decide) ?_
        have E : bwt V (V.1 3) a y (i + 1) = bwt V (V.1 3) a y i := by
          rw [bwt]
          rw [if_pos (b2i_1.mp c159), Nat.max_eq_left (Nat.not_lt.mp (fun z => lg_le.mp c171 (hl.mpr z)))]
        rw [E] at ih
        exact ih _
      · refine x_aload_n dX12_withinTwo_174 rfl ?_
        refine x_get fX12_57 mo rfl dX12_withinTwo_175 ?_
        refine x_iload dX12_withinTwo_178 rfl ?_
        refine x_lald i m15 rfl hi (by decide) dX12_withinTwo_180 ?_
        rw [hy i hi]
        refine x_goto 185 dX12_withinTwo_181 (by decide) ?_
        refine x_lst_2 dX12_withinTwo_185 (by decide) rfl ?_
        refine x_inc_4  dX12_withinTwo_186 (by decide) (nI_inc _) rfl ?_
        refine x_goto 137 dX12_withinTwo_189 (by decide) ?_
        have E : bwt V (V.1 3) a y (i + 1) = y i := by
          rw [bwt]
          rw [if_pos (b2i_1.mp c159), Nat.max_eq_right (Nat.le_of_lt (hl.mp (lg_le2.mp c171)))]
        rw [E] at ih
        exact ih _
  · refine x_iload dX12_withinTwo_137 rfl ?_
    refine x_bipush (v := 8) dX12_withinTwo_139 (by decide) ?_
    refine x_icmp_ge_t 192 dX12_withinTwo_141 (by decide) (ge_t (N := 8) rfl (by decide)) ?_
    refine x_lload_n dX12_withinTwo_192 rfl ?_
    refine x_lret rfl dX12_withinTwo_193 ⟨by decide, by decide⟩ ?_
    exact hQ
set_option maxRecDepth 10000 in
set_option maxHeartbeats 2000000 in
theorem wt68 {g : gG} {h : gH} {m : Nat} {V : VS} {s : Nat → Int32} {l : Nat → Int64} {A : Nat → Nat → Int32} {B : Nat → Nat → Int64} (hv : rpV V A) {b : Nat} (hb : b < 8) (hre : ∀ u, u < 2 ^ V.1 0 → A 12 u = nI (rea V u b 7)) {a0 : Int32} {u : Nat} (hu : u < 2 ^ V.1 0) {v : Nat} (ev : v = cwt (chv V) u (V.1 0)) {w : Nat → Int64} (hw : ∀ c, c < 8 → w c = lN (wn V b u c (2 ^ V.1 0))) {Q : Option Value → gH → Prop} (kk : ∀ h1 z (w5 : Option Value), MM h1 m V s l A (va_up (va_up B 13 w) 14 z) → (∀ c, c < 8 → z c = lN (tw V b c (u + 1))) → Fr m 27 h h1 → Ex g mX12_withinTwo (gZm g mX12_withinTwo Q) 126 [some (.ref m), some (.int a0), some (.int (nI u)), some (.long (lN v)), none, w5] [] h1 0 0) : ∀ j, j ≤ 8 → ∀ h1 z, MM h1 m V s l A (va_up (va_up B 13 w) 14 z) → (∀ c, c < 8 → z c = lN (tw V b c (if c < j then u + 1 else u))) → Fr m 27 h h1 → Ex g mX12_withinTwo (gZm g mX12_withinTwo Q) 68 [some (.ref m), some (.int a0), some (.int (nI u)), some (.long (lN v)), none, some (.int (nI j))] [] h1 0 0 := by
  have ok8 : V.1 0 ≤ 8 := hv.1.1.1
  have ok4 : V.1 1 ≤ 4 := hv.1.1.2.1
  have okr : V.1 2 ≤ 4 := hv.1.1.2.2
  have t256 : V.1 3 < 256 := lt256 hv.1.2.1 hv.1.1.1
  have n8 := pw256 ok8
  have b8 := pow8 ok8
  refine lp_up 8 (fun j hj ih h1 z hm1 hz_ F => ?_) (fun h1 z hm1 hz_ F => ?_)
  · have m15 : h1.1 (m + 15) = some (.inl (1, 8, .inr (.inl ((va_up (va_up B 13 w) 14 z) 14)))) := hm1.2 14 (by decide)
    have m13 : h1.1 (m + 13) = some (.inl (0, 256, .inl (A 12))) := hm1.2 12 (by decide)
    refine x_iload dX12_withinTwo_68 rfl ?_
    refine x_bipush (v := 8) dX12_withinTwo_70 (by decide) ?_
    refine x_icmp_ge_f 126 dX12_withinTwo_72 (by decide) (ge_f (N := 8) rfl hj (by decide)) ?_
    refine x_aload_n dX12_withinTwo_75 rfl ?_
    refine x_get fX12_57 hm1.1 rfl dX12_withinTwo_76 ?_
    refine x_iload dX12_withinTwo_79 rfl ?_
    refine x_dup2 dX12_withinTwo_81 rfl rfl ?_
    refine x_lald j m15 rfl hj (by decide) dX12_withinTwo_82 ?_
    refine x_lload_n dX12_withinTwo_83 rfl ?_
    refine x_aload_n dX12_withinTwo_84 rfl ?_
    refine x_get fX12_50 hm1.1 rfl dX12_withinTwo_85 ?_
    refine x_iload_n dX12_withinTwo_88 rfl ?_
    refine x_iald u m13 rfl (by omega) (by decide) dX12_withinTwo_89 ?_
    rw [hre u hu]
    refine x_iload dX12_withinTwo_90 rfl ?_
    refine x_ishr dX12_withinTwo_92 ?_
    refine x_iconst (v := 1) dX12_withinTwo_93 (by decide) ?_
    refine x_iand dX12_withinTwo_94 ?_
    rw [sr_bit _ (rea_lt hv.1 _ hb 7) j hj]
    refine x_iconst (v := 1) dX12_withinTwo_95 (by decide) ?_
    refine x_icmp_ne 106 dX12_withinTwo_96 (by decide) (fun c96 => ?_) (fun c96 => ?_)
    · refine x_aload_n dX12_withinTwo_106 rfl ?_
      refine x_aload_n dX12_withinTwo_107 rfl ?_
      refine x_iload_n dX12_withinTwo_108 rfl ?_
      refine x_iload dX12_withinTwo_109 rfl ?_
      refine x_rdV (c_X12_reachBy hm1 hv (t := u) (by omega) hj) hm1.1 lkX12_reachBy sX12_292 dX12_withinTwo_111 rfl rfl (Nat.le_of_ble_eq_true rfl) (by decide) ⟨rfl, rfl, by decide, by decide⟩ ?_
      refine x_rdV (c_X12_mostOf hm1 hv (t := u) hj (y := fun c => wn V b u c (2 ^ V.1 0)) (fun c => by have := wn_le hv.1 b u c; omega) hw) hm1.1 lkX12_mostOf sX12_333 dX12_withinTwo_114 rfl rfl (Nat.le_of_ble_eq_true rfl) (by decide) ⟨rfl, rfl, by decide, by decide⟩ ?_
      refine x_lmul dX12_withinTwo_117 ?_
      refine x_ladd dX12_withinTwo_118 ?_
      refine x_last j m15 rfl hj (by decide) dX12_withinTwo_119 ?_
      refine x_inc_5  dX12_withinTwo_120 (by decide) (nI_inc _) rfl ?_
      refine x_goto 68 dX12_withinTwo_123 (by decide) ?_
      have hX : bwt V u j (fun c => wn V b u c (2 ^ V.1 0)) 8 = tw1_ V b u j := rfl
      have hm2 := hm1.lng (i := 14) (f := va_up ((va_up (va_up B 13 w) 14 z) 14) j ((va_up (va_up B 13 w) 14 z) 14 j + lN v * lN (bwt V u j (fun c => wn V b u c (2 ^ V.1 0)) 8))) rfl
      have eB : va_up (va_up (va_up B 13 w) 14 z) 14 (va_up ((va_up (va_up B 13 w) 14 z) 14) j ((va_up (va_up B 13 w) 14 z) 14 j + lN v * lN (bwt V u j (fun c => wn V b u c (2 ^ V.1 0)) 8))) = va_up (va_up B 13 w) 14 (va_up z j (z j + lN (tt_ V b j u))) := by rw [va_2, va_up_self, hX, lN_mul, ev]; rfl
      exact ih _ _ (eB ▸ hm2) (fun c hc => by
        by_cases e : c = j
        · subst e
          rw [va_up_self, hz_ c hc, if_neg (Nat.lt_irrefl _), if_pos (Nat.lt_succ_self _), lN_add]; rfl
        · rw [va_up_ne _ _ e, hz_ c hc]
          by_cases q : c < j
          · rw [if_pos q, if_pos (by omega)]
          · rw [if_neg q, if_neg (by omega)]) (F.tr (Fr.set (by omega) (by omega)))
    · refine x_aload_n dX12_withinTwo_99 rfl ?_
      refine x_rdV (c_X12_allOdds hm1 hv) hm1.1 lkX12_allOdds sX12_320 dX12_withinTwo_100 rfl rfl (Nat.le_of_ble_eq_true rfl) (by decide) ⟨rfl, rfl, by decide, by decide⟩ ?_
      refine x_goto 117 dX12_withinTwo_103 (by decide) ?_
      refine x_lmul dX12_withinTwo_117 ?_
      refine x_ladd dX12_withinTwo_118 ?_
      refine x_last j m15 rfl hj (by decide) dX12_withinTwo_119 ?_
      refine x_inc_5  dX12_withinTwo_120 (by decide) (nI_inc _) rfl ?_
      refine x_goto 68 dX12_withinTwo_123 (by decide) ?_
      have hX : 8 ^ V.1 0 = tw1_ V b u j := (tw1_full hv.1 hb hj (b2i_1.mp c96)).symm
      have hm2 := hm1.lng (i := 14) (f := va_up ((va_up (va_up B 13 w) 14 z) 14) j ((va_up (va_up B 13 w) 14 z) 14 j + lN v * lN (8 ^ V.1 0))) rfl
      have eB : va_up (va_up (va_up B 13 w) 14 z) 14 (va_up ((va_up (va_up B 13 w) 14 z) 14) j ((va_up (va_up B 13 w) 14 z) 14 j + lN v * lN (8 ^ V.1 0))) = va_up (va_up B 13 w) 14 (va_up z j (z j + lN (tt_ V b j u))) := by rw [va_2, va_up_self, hX, lN_mul, ev]; rfl
      exact ih _ _ (eB ▸ hm2) (fun c hc => by
        by_cases e : c = j
        · subst e
          rw [va_up_self, hz_ c hc, if_neg (Nat.lt_irrefl _), if_pos (Nat.lt_succ_self _), lN_add]; rfl
        · rw [va_up_ne _ _ e, hz_ c hc]
          by_cases q : c < j
          · rw [if_pos q, if_pos (by omega)]
          · rw [if_neg q, if_neg (by omega)]) (F.tr (Fr.set (by omega) (by omega)))
  · refine x_iload dX12_withinTwo_68 rfl ?_
    refine x_bipush (v := 8) dX12_withinTwo_70 (by decide) ?_
    refine x_icmp_ge_t 126 dX12_withinTwo_72 (by decide) (ge_t (N := 8) rfl (by decide)) ?_
    exact kk _ _ _ hm1 (fun c hc => by rw [hz_ c hc, if_pos hc]) F
set_option maxRecDepth 10000 in
set_option maxHeartbeats 2000000 in
theorem wt23 {g : gG} {h : gH} {m : Nat} {V : VS} {s : Nat → Int32} {l : Nat → Int64} {A : Nat → Nat → Int32} {B : Nat → Nat → Int64} (hv : rpV V A) {b : Nat} (hb : b < 8) (hre : ∀ u, u < 2 ^ V.1 0 → A 12 u = nI (rea V u b 7)) {a : Nat} (ha : a < 8) {Q : Option Value → gH → Prop} (hQ : ∀ h1 f w z, MM h1 m V s l (va_up A 11 f) (va_up (va_up B 13 w) 14 z) → Fr m 27 h h1 → Q (some (.long (lN (bwt V (V.1 3) a (fun c => tw V b c (2 ^ V.1 0)) 8)))) h1) : ∀ i, i ≤ 2 ^ V.1 0 → ∀ (x3 x5 : Option Value) h1 f w z, MM h1 m V s l (va_up A 11 f) (va_up (va_up B 13 w) 14 z) → (∀ c, c < 8 → z c = lN (tw V b c i)) → Fr m 27 h h1 → Ex g mX12_withinTwo (gZm g mX12_withinTwo Q) 23 [some (.ref m), some (.int (nI a)), some (.int (nI i)), x3, none, x5] [] h1 0 0 := by
  have ok8 : V.1 0 ≤ 8 := hv.1.1.1
  have ok4 : V.1 1 ≤ 4 := hv.1.1.2.1
  have okr : V.1 2 ≤ 4 := hv.1.1.2.2
  have t256 : V.1 3 < 256 := lt256 hv.1.2.1 hv.1.1.1
  have n8 := pw256 ok8
  have b8 := pow8 ok8
  refine lp_up (2 ^ V.1 0) (fun i hi ih x3 x5 h1 f w z hm1 hz_ F => ?_) (fun x3 x5 h1 f w z hm1 hz_ F => ?_)
  · refine x_iload_n dX12_withinTwo_23 rfl ?_
    refine x_iconst (v := 1) dX12_withinTwo_24 (by decide) ?_
    refine x_aload_n dX12_withinTwo_25 rfl ?_
    refine x_get fX12_97 hm1.1 rfl dX12_withinTwo_26 ?_
    refine x_ishl dX12_withinTwo_29 ?_
    refine x_icmp_ge_f 132 dX12_withinTwo_30 (by decide) (ge_f (N := 2 ^ V.1 0) (sh1 _ (by omega)) hi (by omega)) ?_
    refine x_aload_n dX12_withinTwo_33 rfl ?_
    refine x_aload_n dX12_withinTwo_34 rfl ?_
    refine x_get fX12_103 hm1.1 rfl dX12_withinTwo_35 ?_
    refine x_aload_n dX12_withinTwo_38 rfl ?_
    refine x_rdV (c_X12_heldSet hm1 hv) hm1.1 lkX12_heldSet sX12_274 dX12_withinTwo_39 rfl rfl (Nat.le_of_ble_eq_true rfl) (by decide) ⟨rfl, rfl, by decide, by decide⟩ ?_
    refine x_cnV (c_X12_findOften hm1 hv t256 (lt256 (heldS_lt V hv.1 _ (Nat.le_refl _)) hv.1.1.1)) hm1.1 lkX12_findOften sX12_301 dX12_withinTwo_42 rfl rfl (Nat.le_of_ble_eq_true rfl) (by decide) ⟨rfl, rfl, by decide, by decide⟩ ?_
    rintro h2 ⟨f2, hm2, hf2, F2⟩
    have eA : va_up (va_up A 11 f) 11 f2 = va_up A 11 f2 := va_2 _ _ _ _
    rw [eA] at hm2
    refine x_aload_n dX12_withinTwo_45 rfl ?_
    refine x_iload_n dX12_withinTwo_46 rfl ?_
    refine x_rdV (c_X12_oftenOf (c := ofc V (V.1 3) (heldS V (V.1 1))) hm2 hv (fun p hp => ⟨by rw [va_up_self]; exact hf2 p hp, ofc_le hv.1 hp⟩) (t := i) (by omega)) hm2.1 lkX12_oftenOf sX12_305 dX12_withinTwo_47 rfl rfl (Nat.le_of_ble_eq_true rfl) (by decide) ⟨rfl, rfl, by decide, by decide⟩ ?_
    rw [cwt_cg (d := chv V) _ (fun p _ => ofc_chv p)]
    refine x_lst_3 dX12_withinTwo_50 (by decide) rfl ?_
    refine x_lload_n dX12_withinTwo_51 rfl ?_
    refine x_lconst (v := 0) dX12_withinTwo_52 (by decide) ?_
    refine x_lcmp dX12_withinTwo_53 ?_
    refine x_if_ne 60 dX12_withinTwo_54 (by decide) (fun c54 => ?_) (fun c54 => ?_)
    · refine x_aload_n dX12_withinTwo_60 rfl ?_
      refine x_iload_n dX12_withinTwo_61 rfl ?_
      refine x_cnV (c_X12_findWins hm2 hv hb hre (t := i) (by omega)) hm2.1 lkX12_findWins sX12_330 dX12_withinTwo_62 rfl rfl (Nat.le_of_ble_eq_true rfl) (by decide) ⟨rfl, rfl, by decide, by decide⟩ ?_
      rintro h3 ⟨f3, w3, hm3, hw3, F3⟩
      have eA3 : va_up (va_up A 11 f2) 11 f3 = va_up A 11 f3 := va_2 _ _ _ _
      have eB3 : va_up (va_up (va_up B 13 w) 14 z) 13 w3 = va_up (va_up B 13 w3) 14 z := by
        funext q
        unfold va_up
        split <;> split <;> simp_all
      rw [eA3, eB3] at hm3
      refine x_iconst (v := 0) dX12_withinTwo_65 (by decide) ?_
      refine x_ist_5 dX12_withinTwo_66 (by decide) rfl ?_
      refine wt68 (h := h) (A := va_up A 11 f3) (B := B) hv hb hre hi rfl hw3 (fun h4 z4 w5 hm4 hz4 F4 => ?_) 0 (Nat.zero_le _) h3 z hm3 (fun c hc => by rw [hz_ c hc, if_neg (Nat.not_lt_zero c)]) ((F.tr F2).tr F3)
      refine x_inc_2  dX12_withinTwo_126 (by decide) (nI_inc _) rfl ?_
      refine x_goto 23 dX12_withinTwo_129 (by decide) ?_
      exact ih _ _ _ _ w3 _ hm4 hz4 F4
    · refine x_goto 126 dX12_withinTwo_57 (by decide) ?_
      refine x_inc_2  dX12_withinTwo_126 (by decide) (nI_inc _) rfl ?_
      refine x_goto 23 dX12_withinTwo_129 (by decide) ?_
      have v0 : cwt (chv V) i (V.1 0) = 0 := (l63_eq (b := 0) (by have := cwt_le (c := chv V) (s := i) (V.1 0) (fun p hp => chn_le hv.1 hp _); omega) (by decide)).mp (lg_0.mp c54)
      exact ih _ _ _ _ w _ hm2 (fun c hc => by
        rw [hz_ c hc]
        show _ = lN (tw V b c i + tt_ V b c i)
        rw [tt_, v0, Nat.zero_mul]; rfl) (F.tr F2)
  · refine x_iload_n dX12_withinTwo_23 rfl ?_
    refine x_iconst (v := 1) dX12_withinTwo_24 (by decide) ?_
    refine x_aload_n dX12_withinTwo_25 rfl ?_
    refine x_get fX12_97 hm1.1 rfl dX12_withinTwo_26 ?_
    refine x_ishl dX12_withinTwo_29 ?_
    refine x_icmp_ge_t 132 dX12_withinTwo_30 (by decide) (ge_t (N := 2 ^ V.1 0) (sh1 _ (by omega)) (by omega)) ?_
    refine x_lconst (v := 0) dX12_withinTwo_132 (by decide) ?_
    refine x_lst_2 dX12_withinTwo_133 (by decide) rfl ?_
    refine x_iconst (v := 0) dX12_withinTwo_134 (by decide) ?_
    refine x_ist_4 dX12_withinTwo_135 (by decide) rfl ?_
    exact wt137 (y := fun c => tw V b c (2 ^ V.1 0)) hm1 hv ha (fun c => by have := tw_le hv.1 b c; have : 8 ^ V.1 0 * 8 ^ V.1 0 ≤ 16777216 * 16777216 := Nat.mul_le_mul b8 b8; omega) (fun c hc => hz_ c hc) (hQ _ f w z hm1 F) 0 (Nat.zero_le _) _
set_option maxRecDepth 10000 in
set_option maxHeartbeats 2000000 in
theorem c_X12_withinTwo {g : gG} {h : gH} {m : Nat} {V : VS} {s : Nat → Int32} {l : Nat → Int64} {A : Nat → Nat → Int32} {B : Nat → Nat → Int64} (hm : MM h m V s l A B) (hv : rpV V A) {b : Nat} (hb : b < 8) (hre : ∀ u, u < 2 ^ V.1 0 → A 12 u = nI (rea V u b 7)) {a : Nat} (ha : a < 8) : Ct g mX12_withinTwo [.ref m, .int (nI a)] h (some (.long (lN (wi2 V a b)))) (fun h' => ∃ f w z, MM h' m V s l (va_up A 11 f) (va_up (va_up B 13 w) 14 z) ∧ Fr m 27 h h') := by
  refine Cn.of (L := [some (.ref m), some (.int (nI a)), none, none, none, none]) (by decide) (Nat.le_of_ble_eq_true rfl) rfl ?_
  refine x_iconst (v := 0) dX12_withinTwo_0 (by decide) ?_
  refine x_ist_2 dX12_withinTwo_1 (by decide) rfl ?_
  refine wt2 (h := h) (A := A) (B := B) (fun h2 w hm2 hw F2 => ?_) 0 (Nat.zero_le _) h (B 14) (by rw [va_id]; exact hm) (fun c hc => absurd hc (Nat.not_lt_zero c)) Fr.rf
  exact wt23 (h := h) hv hb hre ha (fun h3 f3 w3 z3 hm3 F3 => ⟨by rw [wi2_eq hv.1 hb], f3, w3, z3, hm3, F3⟩) 0 (Nat.zero_le _) _ _ h2 (A 11) (B 13) w (by rw [va_id, va_id]; exact hm2) (fun c hc => hw c hc) F2
