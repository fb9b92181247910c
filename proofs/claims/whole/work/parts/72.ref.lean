set_option maxRecDepth 10000 in
set_option maxHeartbeats 2000000 in
theorem bh10 {g : gG} {h : gH} {m : Nat} {V : VS} {s : Nat → Int32} {l : Nat → Int64} {A : Nat → Nat → Int32} {B : Nat → Nat → Int64} (hv : rpV V A) {W : VS} {t : Nat} (hW : okV W) (w0 : W.1 0 = V.1 0) (w1 : W.1 1 = V.1 1) (w4 : W.1 4 = V.1 4) (w3 : W.1 3 = t) (wr : W.2.2 = V.2.2) : ∀ i, i ≤ V.1 0 → ∀ h1 x (w5 w6 : Option Value), MM h1 m V (va_up s 17 (pnS W i).2.1) l A B → bhI W i x → Fr m 27 h h1 → Ex g mX12_behind (gZm g mX12_behind (fun o h' => o = some (.int (nI ((pnS W (V.1 0)).1 3))) ∧ MM h' m V (va_up s 17 (pnS W (V.1 0)).2.1) l A B ∧ Fr m 27 h h')) 10 [some (.ref m), some (.int (nI t)), some (.int (nI (heldS V (V.1 1)))), some (.int (nI x)), some (.int (nI i)), w5, w6] [] h1 0 0 := by
  have ok8 : V.1 0 ≤ 8 := hv.1.1.1
  have ok4 : V.1 1 ≤ 4 := hv.1.1.2.1
  have okr : V.1 2 ≤ 4 := hv.1.1.2.2
  have t256 : t < 256 := w3 ▸ lt256 hW.2.1 hW.1.1
  have on256 : heldS V (V.1 1) < 256 := lt256 (heldS_lt V hv.1 _ (Nat.le_refl _)) hv.1.1.1
  refine lp_up (V.1 0) (fun i hi ih h1 x w5 w6 hm1 hx F => ?_) (fun h1 x w5 w6 hm1 hx F => ?_)
  · have mo := hm1.1
    refine x_iload dX12_behind_10 rfl ?_
    refine x_aload_n dX12_behind_12 rfl ?_
    refine x_get fX12_97 mo rfl dX12_behind_13 ?_
    refine x_icmp_ge_f 114 dX12_behind_16 (by decide) (ge_f (N := V.1 0) rfl hi (by omega)) ?_
    refine x_iload_n dX12_behind_19 rfl ?_
    refine x_iload dX12_behind_20 rfl ?_
    refine x_ishr dX12_behind_22 ?_
    refine x_iconst (v := 1) dX12_behind_23 (by decide) ?_
    refine x_iand dX12_behind_24 ?_
    rw [sr_bit _ on256 i (by omega)]
    refine x_iconst (v := 1) dX12_behind_25 (by decide) ?_
    refine x_icmp_ne 32 dX12_behind_26 (by decide) (fun c26 => ?_) (fun c26 => ?_)
    · refine x_aload_n dX12_behind_32 rfl ?_
      refine x_aload_n dX12_behind_33 rfl ?_
      refine x_get fX12_277 mo rfl dX12_behind_34 ?_
      rw [va_up_self]
      refine x_rdS c_X12_next lkX12_next sX12_280 dX12_behind_37 rfl rfl (Nat.le_of_ble_eq_true rfl) (by decide) ⟨rfl, rfl, by decide, by decide⟩ ?_
      obtain ⟨zn, ezn⟩ : ∃ zn, zn = nz (pnS W i).2.1 := ⟨_, rfl⟩
      rw [← ezn]
      have hmn := hm1.num (V' := V) (s' := va_up s 17 zn) (l' := l)
      refine x_put (fs' := mF m V (va_up s 17 zn) l) fX12_277 mo (Nat.le_of_ble_eq_true rfl) rfl rfl rfl dX12_behind_40 ?_
      refine x_aload_n dX12_behind_43 rfl ?_
      refine x_get fX12_277 hset_s rfl dX12_behind_44 ?_
      rw [va_up_self]
      refine x_bipush (v := 16) dX12_behind_47 (by decide) ?_
      refine x_iushr dX12_behind_49 ?_
      refine x_bipush (v := 8) dX12_behind_50 (by decide) ?_
      refine x_irem dX12_behind_52 (by decide) ?_
      refine x_ist_5 dX12_behind_53 (by decide) rfl ?_
      refine x_iload dX12_behind_55 rfl ?_
      refine x_iload_n dX12_behind_57 rfl ?_
      refine x_iload dX12_behind_58 rfl ?_
      refine x_ishr dX12_behind_60 ?_
      refine x_iconst (v := 1) dX12_behind_61 (by decide) ?_
      refine x_iand dX12_behind_62 ?_
      rw [sr_bit t t256 i (by omega)]
      refine x_iconst (v := 1) dX12_behind_63 (by decide) ?_
      refine x_icmp_ne 76 dX12_behind_64 (by decide) (fun c64 => ?_) (fun c64 => ?_)
      · refine x_aload_n dX12_behind_76 rfl ?_
        refine x_iload dX12_behind_77 rfl ?_
        refine x_rdV (c_X12_comesOf hmn hv hi) hset_s lkX12_comesOf sX12_252 dX12_behind_79 rfl rfl (Nat.le_of_ble_eq_true rfl) (by decide) ⟨rfl, rfl, by decide, by decide⟩ ?_
        refine x_icmp_ge 89 dX12_behind_82 (by decide) (fun c82 => ?_) (fun c82 => ?_)
        · refine x_iconst (v := 0) dX12_behind_89 (by decide) ?_
          refine x_ist_6 dX12_behind_90 (by decide) rfl ?_
          refine x_iload_n dX12_behind_92 rfl ?_
          refine x_iload dX12_behind_93 rfl ?_
          refine x_if_eq_t 105 dX12_behind_95 (by decide) rfl ?_
          refine x_iconst (v := 0) dX12_behind_105 (by decide) ?_
          refine x_ior dX12_behind_106 ?_
          refine x_ist_3 dX12_behind_107 (by decide) rfl ?_
          refine x_inc_4  dX12_behind_108 (by decide) (nI_inc _) rfl ?_
          refine x_goto 10 dX12_behind_111 (by decide) ?_
          have hh : ¬ (heldS W (W.1 1)).testBit i = true := by rw [heldS_c (V := V) (by rw [wr]), w1]; exact fun z => c26 (b2i_t z)
          have o0 : onS V i (V.1 1) = 0 := Classical.byContradiction fun z => c26 (b2i_t ((hs_bit _).mpr z))
          have ch : chn W i ((W.1 3).testBit i) = comes V i := by rw [chn_c i _ w1 w4 wr, chn_un o0, w3, (Bool.eq_false_iff.mpr (fun z => c64 (b2i_t z)))]; rfl
          have c82 : nI (comes V i) ≤ drw zn := c82
          obtain ⟨e, q⟩ := bh_un (b := false) hW (by omega) hx hh (by rw [ch, ← ezn]; exact (decide_eq_false (Int32.not_lt.mpr c82)).symm)
          rw [← ezn] at e
          have E : nI (x) = nI x ||| 0 := by rw [show (0 : Int32) = nI 0 from rfl, fa_or, Nat.or_zero]
          rw [← E]
          have hm2 := hm1.num (V' := V) (s' := va_up s 17 zn) (l' := l)
          rw [← e] at hm2
          exact ih _ _ _ _ (by rw [e] at hm2 ⊢; exact hm2) q (F.tr (Fr.set (by omega) (by omega)))
        · refine x_iconst (v := 1) dX12_behind_85 (by decide) ?_
          refine x_goto 90 dX12_behind_86 (by decide) ?_
          refine x_ist_6 dX12_behind_90 (by decide) rfl ?_
          refine x_iload_n dX12_behind_92 rfl ?_
          refine x_iload dX12_behind_93 rfl ?_
          refine x_if_eq_f 105 dX12_behind_95 (by decide) (by decide) ?_
          refine x_iconst (v := 1) dX12_behind_98 (by decide) ?_
          refine x_iload dX12_behind_99 rfl ?_
          refine x_ishl dX12_behind_101 ?_
          rw [sh1 i (by omega)]
          refine x_goto 106 dX12_behind_102 (by decide) ?_
          refine x_ior dX12_behind_106 ?_
          refine x_ist_3 dX12_behind_107 (by decide) rfl ?_
          refine x_inc_4  dX12_behind_108 (by decide) (nI_inc _) rfl ?_
          refine x_goto 10 dX12_behind_111 (by decide) ?_
          have hh : ¬ (heldS W (W.1 1)).testBit i = true := by rw [heldS_c (V := V) (by rw [wr]), w1]; exact fun z => c26 (b2i_t z)
          have o0 : onS V i (V.1 1) = 0 := Classical.byContradiction fun z => c26 (b2i_t ((hs_bit _).mpr z))
          have ch : chn W i ((W.1 3).testBit i) = comes V i := by rw [chn_c i _ w1 w4 wr, chn_un o0, w3, (Bool.eq_false_iff.mpr (fun z => c64 (b2i_t z)))]; rfl
          have c82 : ¬ nI (comes V i) ≤ drw zn := c82
          obtain ⟨e, q⟩ := bh_un (b := true) hW (by omega) hx hh (by rw [ch, ← ezn]; exact (decide_eq_true (Int32.not_le.mp c82)).symm)
          rw [← ezn] at e
          have E : nI (x ||| 2 ^ i) = nI x ||| nI (2 ^ i) := by rw [fa_or]
          rw [← E]
          have hm2 := hm1.num (V' := V) (s' := va_up s 17 zn) (l' := l)
          rw [← e] at hm2
          exact ih _ _ _ _ (by rw [e] at hm2 ⊢; exact hm2) q (F.tr (Fr.set (by omega) (by omega)))
      · refine x_aload_n dX12_behind_67 rfl ?_
        refine x_iload dX12_behind_68 rfl ?_
        refine x_rdV (c_X12_staysOf hmn hv hi) hset_s lkX12_staysOf sX12_249 dX12_behind_70 rfl rfl (Nat.le_of_ble_eq_true rfl) (by decide) ⟨rfl, rfl, by decide, by decide⟩ ?_
        refine x_goto 82 dX12_behind_73 (by decide) ?_
        refine x_icmp_ge 89 dX12_behind_82 (by decide) (fun c82 => ?_) (fun c82 => ?_)
        · refine x_iconst (v := 0) dX12_behind_89 (by decide) ?_
          refine x_ist_6 dX12_behind_90 (by decide) rfl ?_
          refine x_iload_n dX12_behind_92 rfl ?_
          refine x_iload dX12_behind_93 rfl ?_
          refine x_if_eq_t 105 dX12_behind_95 (by decide) rfl ?_
          refine x_iconst (v := 0) dX12_behind_105 (by decide) ?_
          refine x_ior dX12_behind_106 ?_
          refine x_ist_3 dX12_behind_107 (by decide) rfl ?_
          refine x_inc_4  dX12_behind_108 (by decide) (nI_inc _) rfl ?_
          refine x_goto 10 dX12_behind_111 (by decide) ?_
          have hh : ¬ (heldS W (W.1 1)).testBit i = true := by rw [heldS_c (V := V) (by rw [wr]), w1]; exact fun z => c26 (b2i_t z)
          have o0 : onS V i (V.1 1) = 0 := Classical.byContradiction fun z => c26 (b2i_t ((hs_bit _).mpr z))
          have ch : chn W i ((W.1 3).testBit i) = stays V i := by rw [chn_c i _ w1 w4 wr, chn_un o0, w3, (b2i_1.mp c64)]; rfl
          have c82 : nI (stays V i) ≤ drw zn := c82
          obtain ⟨e, q⟩ := bh_un (b := false) hW (by omega) hx hh (by rw [ch, ← ezn]; exact (decide_eq_false (Int32.not_lt.mpr c82)).symm)
          rw [← ezn] at e
          have E : nI (x) = nI x ||| 0 := by rw [show (0 : Int32) = nI 0 from rfl, fa_or, Nat.or_zero]
          rw [← E]
          have hm2 := hm1.num (V' := V) (s' := va_up s 17 zn) (l' := l)
          rw [← e] at hm2
          exact ih _ _ _ _ (by rw [e] at hm2 ⊢; exact hm2) q (F.tr (Fr.set (by omega) (by omega)))
        · refine x_iconst (v := 1) dX12_behind_85 (by decide) ?_
          refine x_goto 90 dX12_behind_86 (by decide) ?_
          refine x_ist_6 dX12_behind_90 (by decide) rfl ?_
          refine x_iload_n dX12_behind_92 rfl ?_
          refine x_iload dX12_behind_93 rfl ?_
          refine x_if_eq_f 105 dX12_behind_95 (by decide) (by decide) ?_
          refine x_iconst (v := 1) dX12_behind_98 (by decide) ?_
          refine x_iload dX12_behind_99 rfl ?_
          refine x_ishl dX12_behind_101 ?_
          rw [sh1 i (by omega)]
          refine x_goto 106 dX12_behind_102 (by decide) ?_
          refine x_ior dX12_behind_106 ?_
          refine x_ist_3 dX12_behind_107 (by decide) rfl ?_
          refine x_inc_4  dX12_behind_108 (by decide) (nI_inc _) rfl ?_
          refine x_goto 10 dX12_behind_111 (by decide) ?_
          have hh : ¬ (heldS W (W.1 1)).testBit i = true := by rw [heldS_c (V := V) (by rw [wr]), w1]; exact fun z => c26 (b2i_t z)
          have o0 : onS V i (V.1 1) = 0 := Classical.byContradiction fun z => c26 (b2i_t ((hs_bit _).mpr z))
          have ch : chn W i ((W.1 3).testBit i) = stays V i := by rw [chn_c i _ w1 w4 wr, chn_un o0, w3, (b2i_1.mp c64)]; rfl
          have c82 : ¬ nI (stays V i) ≤ drw zn := c82
          obtain ⟨e, q⟩ := bh_un (b := true) hW (by omega) hx hh (by rw [ch, ← ezn]; exact (decide_eq_true (Int32.not_le.mp c82)).symm)
          rw [← ezn] at e
          have E : nI (x ||| 2 ^ i) = nI x ||| nI (2 ^ i) := by rw [fa_or]
          rw [← E]
          have hm2 := hm1.num (V' := V) (s' := va_up s 17 zn) (l' := l)
          rw [← e] at hm2
          exact ih _ _ _ _ (by rw [e] at hm2 ⊢; exact hm2) q (F.tr (Fr.set (by omega) (by omega)))
    · refine x_goto 108 dX12_behind_29 (by decide) ?_
      refine x_inc_4  dX12_behind_108 (by decide) (nI_inc _) rfl ?_
      refine x_goto 10 dX12_behind_111 (by decide) ?_
      have hh : (heldS W (W.1 1)).testBit i = true := by rw [heldS_c (V := V) (by rw [wr]), w1]; exact b2i_1.mp c26
      obtain ⟨e, q⟩ := bh_held hW (by omega) hx hh
      exact ih h1 x _ _ (by rw [e]; exact hm1) q F
  · refine x_iload dX12_behind_10 rfl ?_
    refine x_aload_n dX12_behind_12 rfl ?_
    refine x_get fX12_97 hm1.1 rfl dX12_behind_13 ?_
    refine x_icmp_ge_t 114 dX12_behind_16 (by decide) (ge_t (N := V.1 0) rfl (by omega)) ?_
    refine x_iload_n dX12_behind_114 rfl ?_
    refine x_iret rfl dX12_behind_115 ⟨by decide, by decide⟩ ?_
    have hx : bhI W (W.1 0) x := by rw [w0]; exact hx
    have e := bh_end hW hx
    rw [w0] at e
    exact ⟨by rw [e], hm1, F⟩
set_option maxRecDepth 10000 in
set_option maxHeartbeats 2000000 in
theorem c_X12_behind {g : gG} {h : gH} {m : Nat} {V : VS} {s : Nat → Int32} {l : Nat → Int64} {A : Nat → Nat → Int32} {B : Nat → Nat → Int64} (hm : MM h m V s l A B) (hv : rpV V A) {W : VS} {t : Nat} (hW : okV W) (w0 : W.1 0 = V.1 0) (w1 : W.1 1 = V.1 1) (w4 : W.1 4 = V.1 4) (w3 : W.1 3 = t) (wr : W.2.2 = V.2.2) (wz : W.2.1 = s 17) : Ct g mX12_behind [.ref m, .int (nI t)] h (some (.int (nI ((pnS W (V.1 0)).1 3)))) (fun h' => MM h' m V (va_up s 17 (pnS W (V.1 0)).2.1) l A B ∧ Fr m 27 h h') := by
  have mo := hm.1
  refine Cn.of (L := [some (.ref m), some (.int (nI t)), none, none, none, none, none]) (by decide) (Nat.le_of_ble_eq_true rfl) rfl ?_
  refine x_aload_n dX12_behind_0 rfl ?_
  refine x_rdV (c_X12_heldSet hm hv) mo lkX12_heldSet sX12_274 dX12_behind_1 rfl rfl (Nat.le_of_ble_eq_true rfl) (by decide) ⟨rfl, rfl, by decide, by decide⟩ ?_
  refine x_ist_2 dX12_behind_4 (by decide) rfl ?_
  refine x_iload_n dX12_behind_5 rfl ?_
  refine x_ist_3 dX12_behind_6 (by decide) rfl ?_
  refine x_iconst (v := 0) dX12_behind_7 (by decide) ?_
  refine x_ist_4 dX12_behind_8 (by decide) rfl ?_
  exact bh10 hv hW w0 w1 w4 w3 wr 0 (Nat.zero_le _) h _ _ _ (by rw [show (pnS W 0).2.1 = s 17 from wz, va_id]; exact hm) (by have := bh_0 hW; rw [heldS_c (V := V) (by rw [wr]), w1] at this; exact this) Fr.rf
def eq5 (U W : VS) : Prop := (∀ j, j ≠ 5 → U.1 j = W.1 j) ∧ U.2 = W.2
theorem eq5_S {U W : VS} (h : eq5 U W) : ∀ i, eq5 (pnS U i) (pnS W i)
  | 0 => h
  | i + 1 => by
    obtain ⟨a, ha⟩ : ∃ a, pnS U i = a := ⟨_, rfl⟩
    obtain ⟨b, hb⟩ : ∃ b, pnS W i = b := ⟨_, rfl⟩
    have ih := eq5_S h i
    rw [ha, hb] at ih
    rw [pnS_step ha, pnS_step hb]
    have r : U.2.2 = W.2.2 := congrArg Prod.snd h.2
    have r1 : U.1 1 = W.1 1 := h.1 1 (by decide)
    have eo : onS U i (U.1 1) = onS W i (W.1 1) := by rw [onS_c (V := W) i (by rw [r]), r1]
    have e3 : a.1 3 = b.1 3 := ih.1 3 (by decide)
    have ez : a.2.1 = b.2.1 := congrArg Prod.fst ih.2
    have er : a.2.2 = b.2.2 := congrArg Prod.snd ih.2
    rw [eo, chn_c (V := W) i _ r1 (h.1 4 (by decide)) r, e3, ez]
    split
    · refine ⟨fun j hj => ?_, ?_⟩
      · show va_up a.1 3 _ j = va_up b.1 3 _ j
        unfold va_up
        split
        · show (if _ then a.1 3 ||| _ else clr (a.1 3) _) = (if _ then b.1 3 ||| _ else clr (b.1 3) _)
          rw [e3]
        · exact ih.1 j hj
      · show (nz b.2.1, a.2.2) = (nz b.2.1, b.2.2)
        rw [er]
    · exact ih
theorem pnN_ok {V : VS} (hv : okV V) : ∀ n, okV (pnN V n) ∧ (∀ k, k ≠ 3 → k ≠ 5 → (pnN V n).1 k = V.1 k) ∧ (pnN V n).2.2 = V.2.2 ∧ (pnN V n).1 5 = V.1 5 + n
  | 0 => ⟨hv, fun _ _ _ => rfl, rfl, rfl⟩
  | n + 1 => by
    obtain ⟨h1, h2, h3, h4⟩ := pnN_ok hv n
    obtain ⟨U, hU⟩ : ∃ U, pnN V n = U := ⟨_, rfl⟩
    rw [pnN, hU]
    rw [hU] at h1 h2 h3 h4
    obtain ⟨q1, q2, q3⟩ := pnS_ok h1 (U.1 0) (Nat.le_refl _)
    refine ⟨?_, fun k k3 k5 => ?_, q3.trans h3, ?_⟩
    · exact q1
    · show va_up (pnS U (U.1 0)).1 5 _ k = _
      rw [va_up_ne _ _ k5, q2 k k3, h2 k k3 k5]
    · show va_up (pnS U (U.1 0)).1 5 (U.1 5 + 1) 5 = _
      rw [va_up_self, h4]; rfl
/-- what is there behind k nights, the rest as it was -/
def nV_ (V : VS) (k : Nat) : VS := (va_up V.1 3 ((pnN V k).1 3), V.2)
def nW_ (V : VS) (k : Nat) : VS := (va_up V.1 3 ((pnN V k).1 3), (pnN V k).2.1, V.2.2)
theorem nW_ok {V : VS} (hv : okV V) (k : Nat) : okV (nW_ V k) ∧ eq5 (nW_ V k) (pnN V k) := by
  obtain ⟨h1, h2, h3, h4⟩ := pnN_ok hv k
  refine ⟨?_, fun j hj => ?_, ?_⟩
  · have g : ∀ j, j ≠ 5 → (nW_ V k).1 j = (pnN V k).1 j := fun j hj => by
      show va_up V.1 3 _ j = _
      unfold va_up; split
      · next e => rw [e]
      · next e => rw [h2 j e hj]
    obtain ⟨a1, a2, a3, a4, a5, a6, a7⟩ := h1
    rw [← g 0 (by decide), ← g 1 (by decide), ← g 2 (by decide)] at a1
    rw [← g 3 (by decide), ← g 0 (by decide)] at a2
    rw [← g 4 (by decide)] at a3
    rw [← g 0 (by decide), h3] at a4
    rw [← g 0 (by decide), ← g 1 (by decide), ← g 3 (by decide), h3] at a5
    rw [h3] at a6
    rw [← g 2 (by decide), h3] at a7
    exact ⟨a1, a2, a3, a4, a5, a6, a7⟩
  · show va_up V.1 3 _ j = _
    unfold va_up; split
    · next e => rw [e]
    · next e => rw [h2 j e hj]
  · show ((pnN V k).2.1, V.2.2) = (pnN V k).2
    rw [← h3]
theorem nW_s {V : VS} (hv : okV V) (k : Nat) : (pnS (nW_ V k) (V.1 0)).1 3 = (pnN V (k + 1)).1 3 ∧ (pnS (nW_ V k) (V.1 0)).2.1 = (pnN V (k + 1)).2.1 := by
  have e := eq5_S (nW_ok hv k).2 (V.1 0)
  have h0 : (pnN V k).1 0 = V.1 0 := (pnN_ok hv k).2.1 0 (by decide) (by decide)
  obtain ⟨U, hU⟩ : ∃ U, pnN V k = U := ⟨_, rfl⟩
  rw [pnN, hU]
  rw [hU] at e h0
  refine ⟨(e.1 3 (by decide)).trans ?_, (congrArg Prod.fst e.2).trans ?_⟩
  · show _ = va_up (pnS U (U.1 0)).1 5 (U.1 5 + 1) 3
    rw [va_up_ne _ _ (by decide), h0]
  · show _ = (pnS U (U.1 0)).2.1
    rw [h0]
theorem nV_rp {V : VS} {A : Nat → Nat → Int32} (hv : rpV V A) (k : Nat) : rpV (nV_ V k) A := ⟨(nW_ok hv.1 k).1, hv.2.1, hv.2.2.1, hv.2.2.2.1, hv.2.2.2.2⟩
theorem nV_end {V : VS} (hv : okV V) (n : Nat) : ((va_up (va_up V.1 3 ((pnN V n).1 3)) 5 (V.1 5 + n)), (pnN V n).2.1, V.2.2) = pnN V n := by
  obtain ⟨h1, h2, h3, h4⟩ := pnN_ok hv n
  obtain ⟨U, hU⟩ : ∃ U, pnN V n = U := ⟨_, rfl⟩
  rw [hU] at h2 h3 h4 ⊢
  refine Prod.ext ?_ ?_
  · funext j
    show va_up (va_up V.1 3 (U.1 3)) 5 (V.1 5 + n) j = U.1 j
    unfold va_up
    split
    · next e => rw [e, h4]
    · next e =>
      split
      · next e3 => rw [e3]
      · next e3 => rw [h2 j e3 e]
  · show (U.2.1, V.2.2) = U.2
    rw [← h3]
