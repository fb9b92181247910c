theorem mfB (e : Int64) (s : Int64) (n : Nat) (hs : (s.toBitVec.smod 64).toNat = n) (hn : n ≤ 56) : ((e >>> s) &&& 255).toInt32 = nI (e.toBitVec.toNat / 2 ^ n % 256) := by
  apply Int32.toBitVec_inj.mp
  apply BitVec.eq_of_getLsbD_eq
  intro i hi
  have e1 : (nI (e.toBitVec.toNat / 2 ^ n % 256)).toBitVec = BitVec.ofNat 32 (e.toBitVec.toNat / 2 ^ n % 256) := rfl
  have e2 : (255 : Int64).toBitVec = BitVec.ofNat 64 255 := rfl
  rw [e1, Int64.toBitVec_toInt32, Int64.toBitVec_and, Int64.toBitVec_shiftRight, BitVec.sshiftRight_eq', hs, e2]
  rw [BitVec.getLsbD_signExtend, BitVec.getLsbD_and, BitVec.getLsbD_sshiftRight, BitVec.getLsbD_ofNat, BitVec.getLsbD_ofNat, show (256 : Nat) = 2 ^ 8 from rfl, Nat.testBit_mod_two_pow, Nat.testBit_div_two_pow, show (255 : Nat) = 2 ^ 8 - 1 from rfl, Nat.testBit_two_pow_sub_one]
  have hi' : i < 32 := hi
  by_cases h8 : i < 8
  · simp [h8, hi', show i < 64 by omega, show n + i < 64 by omega, BitVec.getLsbD, Nat.add_comm]
  · simp [h8]; intros; omega
theorem mfI (e : Int64) : ∀ k, k < 8 → ((e >>> ((nI (8 * k)).toInt64 &&& 63)) &&& 255).toInt32 = nI (byN e k) := by
  intro k hk
  have key : ∀ k, k < 8 → ((((nI (8 * k)).toInt64 &&& 63).toBitVec).smod 64).toNat = 8 * k := by decide +kernel
  exact mfB e _ (8 * k) (key k hk) (by omega)
theorem va_id {α : Type} (f : Nat → α) (i : Nat) : va_up f i (f i) = f := by funext j; unfold va_up; split <;> simp_all
def zf (b : Nat → Int64) (k i : Nat) : Nat → Int64 := fun j => if 40 * k ≤ j ∧ j < 40 * k + i then 0 else b j
theorem zf_0 (b : Nat → Int64) (k : Nat) : zf b k 0 = b := by funext j; exact if_neg (by omega)
theorem zf_s (b : Nat → Int64) (k i : Nat) : va_up (zf b k i) (40 * k + i) 0 = zf b k (i + 1) := by
  funext j
  unfold va_up zf
  by_cases e : j = 40 * k + i
  · subst e; rw [if_pos rfl, if_pos (by omega)]
  · rw [if_neg e]
    by_cases q : 40 * k ≤ j ∧ j < 40 * k + i
    · rw [if_pos q, if_pos (by omega)]
    · rw [if_neg q, if_neg (by omega)]
theorem va_2 {α : Type} (f : Nat → α) (i : Nat) (a b : α) : va_up (va_up f i a) i b = va_up f i b := by funext j; unfold va_up; split <;> rfl
theorem soI_lt {n : Nat} (hn : n ≤ 4) : soI n < 0 ↔ n = 0 := by
  unfold soI
  split
  · exact ⟨fun _ => by assumption, fun _ => by decide⟩
  · exact ⟨fun z => absurd z (nI_pos (by omega)), fun z => absurd z (by assumption)⟩
theorem soI_p {n : Nat} (hn : 0 < n) : soI n = nI (n - 1) := if_neg (by omega)
set_option maxRecDepth 10000 in
set_option maxHeartbeats 2000000 in
theorem sh64 {g : gG} {h : gH} {m s1 : Nat} {V : VS} {s : Nat → Int32} {l : Nat → Int64} {A : Nat → Nat → Int32} {B : Nat → Nat → Int64} {t n : Int32} {Q : Option Value → gH → Prop} (hs : s1 < 4) (hQ : ∀ h1, MM h1 m V s l A (va_up B 19 (zf (B 19) s1 40)) → Fr m 27 h h1 → Q (some (.int 1)) h1) : ∀ i, i ≤ 40 → ∀ h1, MM h1 m V s l A (va_up B 19 (zf (B 19) s1 i)) → Fr m 27 h h1 → Ex g mX12_sheet (gZm g mX12_sheet Q) 64 [some (.ref m), some (.int (nI s1)), some (.int t), some (.int n), some (.int (nI i))] [] h1 0 0 := by
  refine lp_up 40 (fun i hi ih h1 hm1 F => ?_) (fun h1 hm1 F => ?_)
  · have m20 : h1.1 (m + 20) = some (.inl (1, 160, .inr (.inl (va_up B 19 (zf (B 19) s1 i) 19)))) := hm1.2 19 (by decide)
    refine x_iload dX12_sheet_64 rfl ?_
    refine x_bipush (v := 40) dX12_sheet_66 (by decide) ?_
    refine x_icmp_ge_f 90 dX12_sheet_68 (by decide) (ge_f (N := 40) rfl hi (by decide)) ?_
    refine x_aload_n dX12_sheet_71 rfl ?_
    refine x_get fX12_72 hm1.1 rfl dX12_sheet_72 ?_
    refine x_bipush (v := 40) dX12_sheet_75 (by decide) ?_
    refine x_iload_n dX12_sheet_77 rfl ?_
    refine x_imul dX12_sheet_78 ?_
    refine x_iload dX12_sheet_79 rfl ?_
    refine x_iadd dX12_sheet_81 ?_
    refine x_lconst (v := 0) dX12_sheet_82 (by decide) ?_
    refine x_last (40 * s1 + i) m20 (by rw [show (40 : Int32) = nI 40 from rfl, ts_mul, nI_add]) (by omega) (by decide) dX12_sheet_83 ?_
    refine x_inc_4  dX12_sheet_84 (by decide) (nI_inc _) rfl ?_
    refine x_goto 64 dX12_sheet_87 (by decide) ?_
    have hm2 := hm1.lng (i := 19) (f := va_up (va_up B 19 (zf (B 19) s1 i) 19) (40 * s1 + i) 0) rfl
    have eB : va_up (va_up B 19 (zf (B 19) s1 i)) 19 (va_up (va_up B 19 (zf (B 19) s1 i) 19) (40 * s1 + i) 0) = va_up B 19 (zf (B 19) s1 (i + 1)) := by rw [va_2, va_up_self, zf_s]
    exact ih _ (eB ▸ hm2) (F.tr (Fr.set (by omega) (by omega)))
  · refine x_iload dX12_sheet_64 rfl ?_
    refine x_bipush (v := 40) dX12_sheet_66 (by decide) ?_
    refine x_icmp_ge_t 90 dX12_sheet_68 (by decide) (ge_t (N := 40) rfl (by decide)) ?_
    refine x_iconst (v := 1) dX12_sheet_90 (by decide) ?_
    refine x_iret rfl dX12_sheet_91 ⟨by decide, by decide⟩ ?_
    exact hQ _ hm1 F
set_option maxRecDepth 10000 in
set_option maxHeartbeats 2000000 in
theorem c_X12_sheet {g : gG} {h : gH} {m : Nat} {S : AS} (hn : isN h m S) {s0 t n : Int32} : Ct g mX12_sheet [.ref m, .int s0, .int t, .int n] h (some (.int (oSheet S s0 t n).1)) (Pn m (oSheet S s0 t n).2 h) := by
  obtain ⟨hz, s, l, A, B, hm, hv, hr⟩ := id hn
  have mo := hm.1
  have m18 : h.1 (m + 18) = some (.inl (0, 4, .inl (A 17))) := hm.2 17 (by decide)
  have m19 : h.1 (m + 19) = some (.inl (0, 4, .inl (A 18))) := hm.2 18 (by decide)
  have ok8 : S.1.1 0 ≤ 8 := hv.1.1.1
  have ok4 : S.1.1 1 ≤ 4 := hv.1.1.2.1
  have okr : S.1.1 2 ≤ 4 := hv.1.1.2.2
  have t256 : S.1.1 3 < 256 := lt256 hv.1.2.1 hv.1.1.1
  have hH := hr.2.2.2.1
  refine Cn.of (L := [some (.ref m), some (.int s0), some (.int t), some (.int n), none]) (by decide) (Nat.le_of_ble_eq_true rfl) rfl ?_
  refine x_iload_n dX12_sheet_0 rfl ?_
  refine x_rdS c_X12_isShelf lkX12_isShelf sX12_362 dX12_sheet_1 rfl rfl (Nat.le_of_ble_eq_true rfl) (by decide) ⟨rfl, rfl, by decide, by decide⟩ ?_
  refine x_if_eqB 26 dX12_sheet_4 (by decide) (fun c4 => ?_) (fun c4 => ?_)
  · refine x_iconst (v := -1) dX12_sheet_26 (by decide) ?_
    refine x_iret rfl dX12_sheet_27 ⟨by decide, by decide⟩ ?_
    exact fnA hn.rf (by rw [oSheet, if_neg (fun z => c4 z.1)] <;> rfl)
  · refine x_iload_n dX12_sheet_7 rfl ?_
    refine x_iconst (v := -1) dX12_sheet_8 (by decide) ?_
    refine x_iconst (v := 3) dX12_sheet_9 (by decide) ?_
    refine x_rdS (c_X12_in (v := t) (a := -1) (b := 3)) lkX12_in sX12_93 dX12_sheet_10 rfl rfl (Nat.le_of_ble_eq_true rfl) (by decide) ⟨rfl, rfl, by decide, by decide⟩ ?_
    refine x_if_eqB 26 dX12_sheet_13 (by decide) (fun c13 => ?_) (fun c13 => ?_)
    · refine x_iconst (v := -1) dX12_sheet_26 (by decide) ?_
      refine x_iret rfl dX12_sheet_27 ⟨by decide, by decide⟩ ?_
      exact fnA hn.rf (by rw [oSheet, if_neg (fun z => c13 (z.2.elim (fun y => by rw [y]; decide) (fun y => by obtain ⟨t1, ht, rfl⟩ := bl_E (b := 4) y.1 (by decide); exact ⟨(by have := nI_pos' (n := t1) (by omega); have h1 := (fa_le _ _).mp this; exact (fa_le _ _).mpr (by have e1 : (-1 : Int32).toInt = -1 := rfl; have e2 : (0 : Int32).toInt = 0 := rfl; omega)), nI_le (b := 3) (by omega) (by decide)⟩)))] <;> rfl)
    · refine x_iload_n dX12_sheet_16 rfl ?_
      refine x_if_lt 28 dX12_sheet_17 (by decide) (fun c17 => ?_) (fun c17 => ?_)
      · refine x_iload_n dX12_sheet_28 rfl ?_
        refine x_if_lt_t 39 dX12_sheet_29 (by decide) c17 ?_
        obtain ⟨s1, hs, rfl⟩ := bl_E (b := 4) c4 (by decide)
        refine x_aload_n dX12_sheet_39 rfl ?_
        refine x_get fX12_66 mo rfl dX12_sheet_40 ?_
        refine x_iload_n dX12_sheet_43 rfl ?_
        refine x_iload_n dX12_sheet_44 rfl ?_
        refine x_iast s1 m18 rfl hs (by decide) dX12_sheet_45 ?_
        refine x_aload_n dX12_sheet_46 rfl ?_
        refine x_get fX12_69 ((hset_n (by omega)).trans mo) rfl dX12_sheet_47 ?_
        refine x_iload_n dX12_sheet_50 rfl ?_
        refine x_iload_n dX12_sheet_51 rfl ?_
        refine x_if_ge_f 59 dX12_sheet_52 (by decide) (Int32.not_le.mpr c17) ?_
        refine x_iconst (v := 0) dX12_sheet_55 (by decide) ?_
        refine x_goto 60 dX12_sheet_56 (by decide) ?_
        refine x_iast s1 ((hset_n (by omega)).trans m19) rfl hs (by decide) dX12_sheet_60 ?_
        refine x_iconst (v := 0) dX12_sheet_61 (by decide) ?_
        refine x_ist_4 dX12_sheet_62 (by decide) rfl ?_
        have tm : t = -1 := by
          have h1 := (fa_le _ _).mp c13.1
          have h2 := (fa_lt _ _).mp c17
          have e1 : (-1 : Int32).toInt = -1 := rfl
          have e2 : (0 : Int32).toInt = 0 := rfl
          exact (fa_eq _ _).mpr (by omega)
        refine sh64 (A := va_up (va_up A 17 (va_up (A 17) s1 (t))) 18 (va_up (A 18) s1 (0))) (B := B) (h := h) hs (fun h1 hm1 F => ?_) 0 (by omega) _ (by rw [zf_0, va_id]; exact (hm.int (i := 17) rfl).int (i := 18) rfl) ((Fr.set (by omega) (by omega)).tr (Fr.set (by omega) (by omega)))
        refine fnA (S' := shS S (upH S.2.2.2.2.1 s1 (0, 0, fun _ => 0))) (isN.of hz hm1 hv ⟨hr.1, hr.2.1, hr.2.2.1, fun j hj => ?_, hr.2.2.2.2⟩ F) ?_
        · have old := hH j hj
          by_cases e : j = s1
          · subst e
            simp only [upH, if_true]
            show _ ∧ va_up (A 17) j _ j = _ ∧ (_ → _ ∧ va_up (A 18) j _ j = _ ∧ ∀ k, _ → zf (B 19) j 40 (40 * j + k) = _)
            rw [va_up_self, va_up_self]
            exact ⟨Nat.zero_le _, (show t = -1 from tm), fun z => absurd z (Nat.lt_irrefl 0)⟩
          · simp only [upH, if_neg e]
            show _ ∧ va_up (A 17) s1 _ j = _ ∧ (_ → _ ∧ va_up (A 18) s1 _ j = _ ∧ ∀ k, _ → zf (B 19) s1 40 (40 * j + k) = _)
            rw [va_up_ne _ _ e, va_up_ne _ _ e]
            exact ⟨old.1, old.2.1, fun z => ⟨(old.2.2 z).1, (old.2.2 z).2.1, fun k hk => (if_neg (by have := (old.2.2 z).1; omega)).trans ((old.2.2 z).2.2 k hk)⟩⟩
        · (rw [oSheet, if_pos ⟨c4, .inl tm⟩, if_neg (fun z => z.1 tm), iN_nI (by omega), nsH, if_pos tm]) <;> rfl
      · refine x_iload_n dX12_sheet_20 rfl ?_
        refine x_bipush (v := 40) dX12_sheet_21 (by decide) ?_
        refine x_icmp_le 28 dX12_sheet_23 (by decide) (fun c23 => ?_) (fun c23 => ?_)
        · refine x_iload_n dX12_sheet_28 rfl ?_
          refine x_if_lt_f 39 dX12_sheet_29 (by decide) c17 ?_
          refine x_iload_n dX12_sheet_32 rfl ?_
          refine x_if_ge 39 dX12_sheet_33 (by decide) (fun c33 => ?_) (fun c33 => ?_)
          · obtain ⟨s1, hs, rfl⟩ := bl_E (b := 4) c4 (by decide)
            refine x_aload_n dX12_sheet_39 rfl ?_
            refine x_get fX12_66 mo rfl dX12_sheet_40 ?_
            refine x_iload_n dX12_sheet_43 rfl ?_
            refine x_iload_n dX12_sheet_44 rfl ?_
            refine x_iast s1 m18 rfl hs (by decide) dX12_sheet_45 ?_
            refine x_aload_n dX12_sheet_46 rfl ?_
            refine x_get fX12_69 ((hset_n (by omega)).trans mo) rfl dX12_sheet_47 ?_
            refine x_iload_n dX12_sheet_50 rfl ?_
            refine x_iload_n dX12_sheet_51 rfl ?_
            refine x_if_ge_t 59 dX12_sheet_52 (by decide) (Int32.not_lt.mp c17) ?_
            refine x_iload_n dX12_sheet_59 rfl ?_
            refine x_iast s1 ((hset_n (by omega)).trans m19) rfl hs (by decide) dX12_sheet_60 ?_
            refine x_iconst (v := 0) dX12_sheet_61 (by decide) ?_
            refine x_ist_4 dX12_sheet_62 (by decide) rfl ?_
            have tn : ¬ t = -1 := fun z => c17 (by rw [z]; decide)
            have b4 : bl t 4 = true := bl_p.mpr ⟨Int32.not_lt.mp c17, (in_lt (k := 3) (by decide)).mp c13.2⟩
            obtain ⟨t1, ht, rfl⟩ := bl_E (b := 4) b4 (by decide)
            obtain ⟨n1, hn1, rfl⟩ := ut_E (b := 40) (ut_p.mpr ⟨c33, c23⟩) (by decide)
            refine sh64 (A := va_up (va_up A 17 (va_up (A 17) s1 (nI t1))) 18 (va_up (A 18) s1 (nI n1))) (B := B) (h := h) hs (fun h1 hm1 F => ?_) 0 (by omega) _ (by rw [zf_0, va_id]; exact (hm.int (i := 17) rfl).int (i := 18) rfl) ((Fr.set (by omega) (by omega)).tr (Fr.set (by omega) (by omega)))
            refine fnA (S' := shS S (upH S.2.2.2.2.1 s1 (t1 + 1, n1, fun _ => 0))) (isN.of hz hm1 hv ⟨hr.1, hr.2.1, hr.2.2.1, fun j hj => ?_, hr.2.2.2.2⟩ F) ?_
            · have old := hH j hj
              by_cases e : j = s1
              · subst e
                simp only [upH, if_true]
                show _ ∧ va_up (A 17) j _ j = _ ∧ (_ → _ ∧ va_up (A 18) j _ j = _ ∧ ∀ k, _ → zf (B 19) j 40 (40 * j + k) = _)
                rw [va_up_self, va_up_self]
                exact ⟨by show t1 + 1 ≤ 4; omega, (soI_p (n := t1 + 1) (by omega)).symm, fun _ => ⟨hn1, rfl, fun k hk => if_pos ⟨by omega, by have : k < n1 := hk; omega⟩⟩⟩
              · simp only [upH, if_neg e]
                show _ ∧ va_up (A 17) s1 _ j = _ ∧ (_ → _ ∧ va_up (A 18) s1 _ j = _ ∧ ∀ k, _ → zf (B 19) s1 40 (40 * j + k) = _)
                rw [va_up_ne _ _ e, va_up_ne _ _ e]
                exact ⟨old.1, old.2.1, fun z => ⟨(old.2.2 z).1, (old.2.2 z).2.1, fun k hk => (if_neg (by have := (old.2.2 z).1; omega)).trans ((old.2.2 z).2.2 k hk)⟩⟩
            · (rw [oSheet, if_pos ⟨c4, .inr ⟨b4, c23⟩⟩, if_neg (fun z => absurd z.2 (Int32.not_lt.mpr c33)), iN_nI (by omega), nsH, if_neg tn, iN_nI (by omega), iN_nI (by omega)]) <;> rfl
          · refine x_bipush (v := -14) dX12_sheet_36 (by decide) ?_
            refine x_iret rfl dX12_sheet_38 ⟨by decide, by decide⟩ ?_
            have tn : ¬ t = -1 := fun z => c17 (by rw [z]; decide)
            have b4 : bl t 4 = true := bl_p.mpr ⟨Int32.not_lt.mp c17, (in_lt (k := 3) (by decide)).mp c13.2⟩
            exact fnA hn.rf (by rw [oSheet, if_pos ⟨c4, .inr ⟨b4, c23⟩⟩, if_pos ⟨tn, Int32.not_le.mp c33⟩] <;> rfl)
        · refine x_iconst (v := -1) dX12_sheet_26 (by decide) ?_
          refine x_iret rfl dX12_sheet_27 ⟨by decide, by decide⟩ ?_
          have tn : ¬ t = -1 := fun z => c17 (by rw [z]; decide)
          exact fnA hn.rf (by rw [oSheet, if_neg (fun z => z.2.elim tn (fun y => c23 y.2))] <;> rfl)
