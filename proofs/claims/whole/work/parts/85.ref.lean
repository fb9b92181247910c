def wW : Nat → Nat
  | 0 => 316205
  | 1 => 10983935
  | 2 => 453774
  | 3 => 82530
  | 4 => 1870
  | 5 => 360968
  | 6 => 388609
  | 7 => 70340
  | 8 => 149099
  | 9 => 330800670
  | 10 => 11716
  | 11 => 355280
  | _ => 332864552
def wbN (j i : Nat) : Nat := ((sk_byt.getD j []).getD i 0).toInt.toNat
theorem wb_f : ∀ j, j < 13 → ∀ i, i < 6 → i < sk_len.getD j 0 → (sk_byt.getD j []).getD i 0 = nI (wbN j i) ∧ 97 ≤ wbN j i ∧ wbN j i ≤ 122 := by decide +kernel
theorem wW_b : ∀ j, j < 13 → wW j = b27 (wbN j) (sk_len.getD j 0) := by decide +kernel
theorem wW_lt : ∀ j, j < 13 → wW j < 2 ^ 31 := by decide
theorem iw_iff {T : TT} {K : KS} {s : Nat → Int32} {l : Nat → Int64} {j : Nat} (hj : j < 13) (hb : ∀ i, i < T.1 → T.2 i < 256) (hk : TKm T K s l) (k1 : K.1 = 1) : l 0 = lN (wW j) ↔ iw T K j := by
  have h6 := sk_6 j hj
  have hW := wW_lt j hj
  rw [hk.2.2.1 k1, wdL]
  have hl : ∀ i, i < K.2.2 - K.2.1 → 97 ≤ T.2 (K.2.1 + i) ∧ T.2 (K.2.1 + i) ≤ 122 := fun i hi => by
    have := lt_1 (hb (K.2.1 + i) (by have := hk.1; omega)) (k1 ▸ hk.2.2.2.2.2 (K.2.1 + i) (by omega) (by omega) (.inl k1))
    exact this.2
  by_cases h8 : K.2.2 - K.2.1 ≤ 8
  · rw [if_pos h8]
    have b1 := b27_lt (f := fun i => T.2 (K.2.1 + i)) (K.2.2 - K.2.1) (fun i hi => (hl i hi).2)
    have b2 : 27 ^ (K.2.2 - K.2.1) ≤ 27 ^ 8 := Nat.pow_le_pow_right (by decide) h8
    rw [l63_eq (by omega) (by omega), wW_b j hj]
    constructor
    · intro e
      obtain ⟨e1, e2⟩ := b27_inj _ _ hl (fun i hi => (wb_f j hj i (by omega) hi).2) e
      exact ⟨k1, e1, fun i hi => by
        rw [tB_in (by have := hk.1; omega), (wb_f j hj i (by omega) hi).1, ← e2 i (by omega)]⟩
    · rintro ⟨_, e1, e2⟩
      rw [e1]
      exact b27_cg _ (fun i hi => by
        have h1 := e2 i hi
        rw [tB_in (by have := hk.1; omega), (wb_f j hj i (by omega) hi).1] at h1
        exact nI_eqn (by have := (hl i (by omega)).2; omega) (by have := (wb_f j hj i (by omega) hi).2; omega) h1)
  · rw [if_neg h8]
    exact ⟨fun e => absurd e.symm (l63_neg (by omega)).2.1, fun z => by have := z.2.1; omega⟩
def TZ (T : TT) (ts : TS) (s : Nat → Int32) (l : Nat → Int64) : Prop := TKm T ts.1 s l ∧ s 12 = b2i (ts.2 = true)
/-- only what reads the tape changed -/
def frS (s s1 : Nat → Int32) : Prop := ∀ i, i < 8 ∨ 13 ≤ i → s1 i = s i
def frL (l l1 : Nat → Int64) : Prop := ∀ i, i ≠ 0 → l1 i = l i
def mkI_ (n : Nat) : Int32 := if n < 6 then nI n else -1
set_option maxRecDepth 10000 in
set_option maxHeartbeats 2000000 in
theorem c_X12_isWord {g : gG} {h : gH} {m : Nat} {V : VS} {s : Nat → Int32} {l : Nat → Int64} {A : Nat → Nat → Int32} {B : Nat → Nat → Int64} (hm : MM h m V s l A B) {T : TT} (h240 : T.1 ≤ 240) (hT : ∀ i, i < T.1 → T.2 i < 256 ∧ A 6 i = nI (T.2 i)) (hs7 : s 7 = nI T.1) {K : KS} (hk : TKm T K s l) {j : Nat} (hj : j < 13) : Rd g mX12_isWord [.ref m, .long (lN (wW j))] h (.int (b2i (iw T K j))) := by
  have mo := hm.1
  have k4 := hk.1.1
  refine Cn.of (L := [some (.ref m), some (.long (lN (wW j))), none]) (by decide) (Nat.le_of_ble_eq_true rfl) rfl ?_
  refine x_aload_n dX12_isWord_0 rfl ?_
  refine x_get fX12_132 mo rfl dX12_isWord_1 ?_
  rw [hk.2.1.1]
  refine x_iconst (v := 1) dX12_isWord_4 (by decide) ?_
  refine x_icmp_ne 21 dX12_isWord_5 (by decide) (fun c5 => ?_) (fun c5 => ?_)
  · refine x_iconst (v := 0) dX12_isWord_21 (by decide) ?_
    refine x_zret rfl dX12_isWord_22 ⟨by decide, by decide⟩ rfl ?_
    exact ⟨by rw [b2i_f (fun z => c5 (by rw [z.1]; rfl))], rfl⟩
  · have k1 : K.1 = 1 := nI_eqn (b := 1) (by omega) (by decide) c5
    have ii := iw_iff hj (fun i hi => (hT i hi).1) hk k1
    refine x_aload_n dX12_isWord_8 rfl ?_
    refine x_get fX12_135 mo rfl dX12_isWord_9 ?_
    refine x_lload_n dX12_isWord_12 rfl ?_
    refine x_lcmp dX12_isWord_13 ?_
    refine x_if_ne 21 dX12_isWord_14 (by decide) (fun c14 => ?_) (fun c14 => ?_)
    · refine x_iconst (v := 0) dX12_isWord_21 (by decide) ?_
      refine x_zret rfl dX12_isWord_22 ⟨by decide, by decide⟩ rfl ?_
      exact ⟨by rw [b2i_f (fun z => c14 (lg_0.mpr (ii.mpr z)))], rfl⟩
    · refine x_iconst (v := 1) dX12_isWord_17 (by decide) ?_
      refine x_goto 22 dX12_isWord_18 (by decide) ?_
      refine x_zret rfl dX12_isWord_22 ⟨by decide, by decide⟩ rfl ?_
      exact ⟨by rw [b2i_t (ii.mp (lg_0.mp c14))], rfl⟩
set_option maxRecDepth 10000 in
set_option maxHeartbeats 2000000 in
theorem c_X12_isMark {g : gG} {h : gH} {m : Nat} {V : VS} {s : Nat → Int32} {l : Nat → Int64} {A : Nat → Nat → Int32} {B : Nat → Nat → Int64} (hm : MM h m V s l A B) {T : TT} {K : KS} (hk : TKm T K s l) : Rd g mX12_isMark [.ref m, .int 59] h (.int (b2i (K.1 = 3 ∧ tB T K.2.1 = 59))) := by
  have mo := hm.1
  have k4 := hk.1.1
  refine Cn.of (L := [some (.ref m), some (.int 59)]) (by decide) (Nat.le_of_ble_eq_true rfl) rfl ?_
  refine x_aload_n dX12_isMark_0 rfl ?_
  refine x_get fX12_132 mo rfl dX12_isMark_1 ?_
  rw [hk.2.1.1]
  refine x_iconst (v := 3) dX12_isMark_4 (by decide) ?_
  refine x_icmp_ne 20 dX12_isMark_5 (by decide) (fun c5 => ?_) (fun c5 => ?_)
  · refine x_iconst (v := 0) dX12_isMark_20 (by decide) ?_
    refine x_zret rfl dX12_isMark_21 ⟨by decide, by decide⟩ rfl ?_
    exact ⟨by rw [b2i_f (fun z => c5 (by rw [z.1]; rfl))], rfl⟩
  · have k3 : K.1 = 3 := nI_eqn (b := 3) (by omega) (by decide) c5
    refine x_aload_n dX12_isMark_8 rfl ?_
    refine x_get fX12_139 mo rfl dX12_isMark_9 ?_
    rw [hk.2.2.2.2.1 (by omega)]
    refine x_iload_n dX12_isMark_12 rfl ?_
    refine x_icmp_ne 20 dX12_isMark_13 (by decide) (fun c13 => ?_) (fun c13 => ?_)
    · refine x_iconst (v := 0) dX12_isMark_20 (by decide) ?_
      refine x_zret rfl dX12_isMark_21 ⟨by decide, by decide⟩ rfl ?_
      exact ⟨by rw [b2i_f (fun z => c13 ((mB_eq (by decide) (by decide)).mpr z.2))], rfl⟩
    · refine x_iconst (v := 1) dX12_isMark_16 (by decide) ?_
      refine x_goto 21 dX12_isMark_17 (by decide) ?_
      refine x_zret rfl dX12_isMark_21 ⟨by decide, by decide⟩ rfl ?_
      exact ⟨by rw [b2i_t ⟨k3, (mB_eq (by decide) (by decide)).mp c13⟩], rfl⟩
set_option maxRecDepth 10000 in
set_option maxHeartbeats 2000000 in
theorem c_X12_kindHere {g : gG} {h : gH} {m : Nat} {V : VS} {s : Nat → Int32} {l : Nat → Int64} {A : Nat → Nat → Int32} {B : Nat → Nat → Int64} (hm : MM h m V s l A B) {T : TT} (h240 : T.1 ≤ 240) (hT : ∀ i, i < T.1 → T.2 i < 256 ∧ A 6 i = nI (T.2 i)) (hs7 : s 7 = nI T.1) {K : KS} (hk : TKm T K s l) : Rd g mX12_kindHere [.ref m] h (.int (mkI_ (kdN T K))) := by
  have mo := hm.1
  refine Cn.of (L := [some (.ref m)]) (by decide) (Nat.le_of_ble_eq_true rfl) rfl ?_
  refine x_aload_n dX12_kindHere_0 rfl ?_
  refine x_ldc2 dX12_kindHere_1 kX12_148 ?_
  refine x_rdV (c_X12_isWord hm h240 hT hs7 hk (j := 0) (by decide)) mo lkX12_isWord sX12_150 dX12_kindHere_4 rfl rfl (Nat.le_of_ble_eq_true rfl) (by decide) ⟨rfl, rfl, by decide, by decide⟩ ?_
  refine x_if_eqB 14 dX12_kindHere_7 (by decide) (fun c7 => ?_) (fun c7 => ?_)
  · refine x_aload_n dX12_kindHere_14 rfl ?_
    refine x_ldc2 dX12_kindHere_15 kX12_154 ?_
    refine x_rdV (c_X12_isWord hm h240 hT hs7 hk (j := 1) (by decide)) mo lkX12_isWord sX12_150 dX12_kindHere_18 rfl rfl (Nat.le_of_ble_eq_true rfl) (by decide) ⟨rfl, rfl, by decide, by decide⟩ ?_
    refine x_if_eqB 28 dX12_kindHere_21 (by decide) (fun c21 => ?_) (fun c21 => ?_)
    · refine x_aload_n dX12_kindHere_28 rfl ?_
      refine x_ldc2 dX12_kindHere_29 kX12_156 ?_
      refine x_rdV (c_X12_isWord hm h240 hT hs7 hk (j := 2) (by decide)) mo lkX12_isWord sX12_150 dX12_kindHere_32 rfl rfl (Nat.le_of_ble_eq_true rfl) (by decide) ⟨rfl, rfl, by decide, by decide⟩ ?_
      refine x_if_eqB 42 dX12_kindHere_35 (by decide) (fun c35 => ?_) (fun c35 => ?_)
      · refine x_aload_n dX12_kindHere_42 rfl ?_
        refine x_ldc2 dX12_kindHere_43 kX12_158 ?_
        refine x_rdV (c_X12_isWord hm h240 hT hs7 hk (j := 3) (by decide)) mo lkX12_isWord sX12_150 dX12_kindHere_46 rfl rfl (Nat.le_of_ble_eq_true rfl) (by decide) ⟨rfl, rfl, by decide, by decide⟩ ?_
        refine x_if_eqB 56 dX12_kindHere_49 (by decide) (fun c49 => ?_) (fun c49 => ?_)
        · refine x_aload_n dX12_kindHere_56 rfl ?_
          refine x_ldc2 dX12_kindHere_57 kX12_160 ?_
          refine x_rdV (c_X12_isWord hm h240 hT hs7 hk (j := 4) (by decide)) mo lkX12_isWord sX12_150 dX12_kindHere_60 rfl rfl (Nat.le_of_ble_eq_true rfl) (by decide) ⟨rfl, rfl, by decide, by decide⟩ ?_
          refine x_if_eqB 70 dX12_kindHere_63 (by decide) (fun c63 => ?_) (fun c63 => ?_)
          · refine x_aload_n dX12_kindHere_70 rfl ?_
            refine x_ldc2 dX12_kindHere_71 kX12_162 ?_
            refine x_rdV (c_X12_isWord hm h240 hT hs7 hk (j := 5) (by decide)) mo lkX12_isWord sX12_150 dX12_kindHere_74 rfl rfl (Nat.le_of_ble_eq_true rfl) (by decide) ⟨rfl, rfl, by decide, by decide⟩ ?_
            refine x_if_eqB 84 dX12_kindHere_77 (by decide) (fun c77 => ?_) (fun c77 => ?_)
            · refine x_iconst (v := -1) dX12_kindHere_84 (by decide) ?_
              refine x_iret rfl dX12_kindHere_85 ⟨by decide, by decide⟩ ?_
              exact ⟨by rw [kd_no (fun j q => match j, q with | 0, _ => c7 | 1, _ => c21 | 2, _ => c35 | 3, _ => c49 | 4, _ => c63 | 5, _ => c77 | j + 6, q => absurd q (by omega))] <;> rfl, rfl⟩
            · refine x_iconst (v := 5) dX12_kindHere_80 (by decide) ?_
              refine x_goto 85 dX12_kindHere_81 (by decide) ?_
              refine x_iret rfl dX12_kindHere_85 ⟨by decide, by decide⟩ ?_
              exact ⟨by rw [kd_is (i := 5) (by decide) c77 (fun j q => match j, q with | 0, _ => c7 | 1, _ => c21 | 2, _ => c35 | 3, _ => c49 | 4, _ => c63 | j + 5, q => absurd q (by omega))] <;> rfl, rfl⟩
          · refine x_iconst (v := 4) dX12_kindHere_66 (by decide) ?_
            refine x_goto 85 dX12_kindHere_67 (by decide) ?_
            refine x_iret rfl dX12_kindHere_85 ⟨by decide, by decide⟩ ?_
            exact ⟨by rw [kd_is (i := 4) (by decide) c63 (fun j q => match j, q with | 0, _ => c7 | 1, _ => c21 | 2, _ => c35 | 3, _ => c49 | j + 4, q => absurd q (by omega))] <;> rfl, rfl⟩
        · refine x_iconst (v := 3) dX12_kindHere_52 (by decide) ?_
          refine x_goto 85 dX12_kindHere_53 (by decide) ?_
          refine x_iret rfl dX12_kindHere_85 ⟨by decide, by decide⟩ ?_
          exact ⟨by rw [kd_is (i := 3) (by decide) c49 (fun j q => match j, q with | 0, _ => c7 | 1, _ => c21 | 2, _ => c35 | j + 3, q => absurd q (by omega))] <;> rfl, rfl⟩
      · refine x_iconst (v := 2) dX12_kindHere_38 (by decide) ?_
        refine x_goto 85 dX12_kindHere_39 (by decide) ?_
        refine x_iret rfl dX12_kindHere_85 ⟨by decide, by decide⟩ ?_
        exact ⟨by rw [kd_is (i := 2) (by decide) c35 (fun j q => match j, q with | 0, _ => c7 | 1, _ => c21 | j + 2, q => absurd q (by omega))] <;> rfl, rfl⟩
    · refine x_iconst (v := 1) dX12_kindHere_24 (by decide) ?_
      refine x_goto 85 dX12_kindHere_25 (by decide) ?_
      refine x_iret rfl dX12_kindHere_85 ⟨by decide, by decide⟩ ?_
      exact ⟨by rw [kd_is (i := 1) (by decide) c21 (fun j q => match j, q with | 0, _ => c7 | j + 1, q => absurd q (by omega))] <;> rfl, rfl⟩
  · refine x_iconst (v := 0) dX12_kindHere_10 (by decide) ?_
    refine x_goto 85 dX12_kindHere_11 (by decide) ?_
    refine x_iret rfl dX12_kindHere_85 ⟨by decide, by decide⟩ ?_
    exact ⟨by rw [kd_is (i := 0) (by decide) c7 (fun j q => absurd q (Nat.not_lt_zero j))] <;> rfl, rfl⟩
set_option maxRecDepth 10000 in
set_option maxHeartbeats 2000000 in
theorem c_X12_wantWord {g : gG} {h : gH} {m : Nat} {V : VS} {s : Nat → Int32} {l : Nat → Int64} {A : Nat → Nat → Int32} {B : Nat → Nat → Int64} (hm : MM h m V s l A B) {T : TT} (h240 : T.1 ≤ 240) (hT : ∀ i, i < T.1 → T.2 i < 256 ∧ A 6 i = nI (T.2 i)) (hs7 : s 7 = nI T.1) {ts : TS} (hz : TZ T ts s l) {j : Nat} (hj : j < 13) : Ct g mX12_wantWord [.ref m, .long (lN (wW j))] h none (fun h' => ∃ s1 l1, MM h' m V s1 l1 A B ∧ TZ T (tkW T ts j) s1 l1 ∧ frS s s1 ∧ frL l l1 ∧ Fr m 27 h h') := by
  have mo := hm.1
  obtain ⟨hk, hg⟩ := hz
  refine Cn.of (L := [some (.ref m), some (.long (lN (wW j))), none]) (by decide) (Nat.le_of_ble_eq_true rfl) rfl ?_
  refine x_aload_n dX12_wantWord_0 rfl ?_
  refine x_aload_n dX12_wantWord_1 rfl ?_
  refine x_get fX12_164 mo rfl dX12_wantWord_2 ?_
  rw [hg]
  refine x_if_eq 20 dX12_wantWord_5 (by decide) (fun c5 => ?_) (fun c5 => ?_)
  · refine x_iconst (v := 0) dX12_wantWord_20 (by decide) ?_
    refine x_put (fs' := mF m V (va_up s 12 0) l) fX12_164 mo (Nat.le_of_ble_eq_true rfl) rfl rfl rfl dX12_wantWord_21 ?_
    refine x_aload_n dX12_wantWord_24 rfl ?_
    refine x_get fX12_164 hset_s rfl dX12_wantWord_25 ?_
    refine x_if_eq_t 35 dX12_wantWord_28 (by decide) rfl ?_
    refine x_vret rfl dX12_wantWord_35 ⟨by decide, by decide⟩ ?_
    have E : tkW T ts j = (ts.1, false) := if_neg (fun z => b2i_0.mp c5 z.1)
    exact ⟨rfl, va_up s 12 0, l, hm.num, by rw [E]; exact ⟨hk, va_up_self _ _ _⟩, fun i hi => va_up_ne _ _ (by omega), fun _ _ => rfl, Fr.set (by omega) (by omega)⟩
  · have g0 : ts.2 = true := Decidable.not_not.mp (fun z => c5 (b2i_0.mpr z))
    refine x_aload_n dX12_wantWord_8 rfl ?_
    refine x_lload_n dX12_wantWord_9 rfl ?_
    refine x_rdV (c_X12_isWord hm h240 hT hs7 hk hj) mo lkX12_isWord sX12_150 dX12_wantWord_10 rfl rfl (Nat.le_of_ble_eq_true rfl) (by decide) ⟨rfl, rfl, by decide, by decide⟩ ?_
    refine x_if_eqB 20 dX12_wantWord_13 (by decide) (fun c13 => ?_) (fun c13 => ?_)
    · refine x_iconst (v := 0) dX12_wantWord_20 (by decide) ?_
      refine x_put (fs' := mF m V (va_up s 12 0) l) fX12_164 mo (Nat.le_of_ble_eq_true rfl) rfl rfl rfl dX12_wantWord_21 ?_
      refine x_aload_n dX12_wantWord_24 rfl ?_
      refine x_get fX12_164 hset_s rfl dX12_wantWord_25 ?_
      refine x_if_eq_t 35 dX12_wantWord_28 (by decide) rfl ?_
      refine x_vret rfl dX12_wantWord_35 ⟨by decide, by decide⟩ ?_
      have E : tkW T ts j = (ts.1, false) := if_neg (fun z => c13 z.2)
      exact ⟨rfl, va_up s 12 0, l, hm.num, by rw [E]; exact ⟨hk, va_up_self _ _ _⟩, fun i hi => va_up_ne _ _ (by omega), fun _ _ => rfl, Fr.set (by omega) (by omega)⟩
    · refine x_iconst (v := 1) dX12_wantWord_16 (by decide) ?_
      refine x_goto 21 dX12_wantWord_17 (by decide) ?_
      refine x_put (fs' := mF m V (va_up s 12 1) l) fX12_164 mo (Nat.le_of_ble_eq_true rfl) rfl rfl rfl dX12_wantWord_21 ?_
      refine x_aload_n dX12_wantWord_24 rfl ?_
      refine x_get fX12_164 hset_s rfl dX12_wantWord_25 ?_
      refine x_if_eq_f 35 dX12_wantWord_28 (by decide) (show ¬ (1 : Int32) = 0 by decide) ?_
      have hm2 := hm.num (V' := V) (s' := va_up s 12 1) (l' := l)
      refine x_aload_n dX12_wantWord_31 rfl ?_
      refine x_cnV (c_X12_advance hm2 h240 hT (show va_up s 12 1 7 = nI T.1 from hs7) hk.1.2.2 (show va_up s 12 1 10 = nI ts.1.2.2 from hk.2.1.2.2)) hset_s lkX12_advance sX12_168 dX12_wantWord_32 rfl rfl (Nat.le_of_ble_eq_true rfl) (by decide) ⟨rfl, rfl, by decide, by decide⟩ ?_
      rintro h1 ⟨s1, l1, hm1, hk1, fs, fl, F1⟩
      refine x_vret rfl dX12_wantWord_35 ⟨by decide, by decide⟩ ?_
      have E : tkW T ts j = (nx T ts.1.2.2, true) := if_pos ⟨g0, c13⟩
      exact ⟨rfl, s1, l1, hm1, by rw [E]; exact ⟨hk1, (fs 12 (.inr (by decide))).trans (va_up_self _ _ _)⟩, fun i hi => (fs i (by omega)).trans (va_up_ne _ _ (by omega)), fl, (Fr.set (by omega) (by omega)).tr F1⟩
set_option maxRecDepth 10000 in
set_option maxHeartbeats 2000000 in
theorem c_X12_wantEnd {g : gG} {h : gH} {m : Nat} {V : VS} {s : Nat → Int32} {l : Nat → Int64} {A : Nat → Nat → Int32} {B : Nat → Nat → Int64} (hm : MM h m V s l A B) {T : TT} (h240 : T.1 ≤ 240) (hT : ∀ i, i < T.1 → T.2 i < 256 ∧ A 6 i = nI (T.2 i)) (hs7 : s 7 = nI T.1) {ts : TS} (hz : TZ T ts s l) : Ct g mX12_wantEnd [.ref m] h none (fun h' => ∃ s1 l1, MM h' m V s1 l1 A B ∧ TZ T (tkE T ts) s1 l1 ∧ frS s s1 ∧ frL l l1 ∧ Fr m 27 h h') := by
  have mo := hm.1
  obtain ⟨hk, hg⟩ := hz
  refine Cn.of (L := [some (.ref m)]) (by decide) (Nat.le_of_ble_eq_true rfl) rfl ?_
  refine x_aload_n dX12_wantEnd_0 rfl ?_
  refine x_aload_n dX12_wantEnd_1 rfl ?_
  refine x_get fX12_164 mo rfl dX12_wantEnd_2 ?_
  rw [hg]
  refine x_if_eq 21 dX12_wantEnd_5 (by decide) (fun c5 => ?_) (fun c5 => ?_)
  · refine x_iconst (v := 0) dX12_wantEnd_21 (by decide) ?_
    refine x_put (fs' := mF m V (va_up s 12 0) l) fX12_164 mo (Nat.le_of_ble_eq_true rfl) rfl rfl rfl dX12_wantEnd_22 ?_
    refine x_aload_n dX12_wantEnd_25 rfl ?_
    refine x_get fX12_164 hset_s rfl dX12_wantEnd_26 ?_
    refine x_if_eq_t 36 dX12_wantEnd_29 (by decide) rfl ?_
    refine x_vret rfl dX12_wantEnd_36 ⟨by decide, by decide⟩ ?_
    have E : tkE T ts = (ts.1, false) := if_neg (fun z => b2i_0.mp c5 z.1)
    exact ⟨rfl, va_up s 12 0, l, hm.num, by rw [E]; exact ⟨hk, va_up_self _ _ _⟩, fun i hi => va_up_ne _ _ (by omega), fun _ _ => rfl, Fr.set (by omega) (by omega)⟩
  · have g0 : ts.2 = true := Decidable.not_not.mp (fun z => c5 (b2i_0.mpr z))
    refine x_aload_n dX12_wantEnd_8 rfl ?_
    refine x_bipush (v := 59) dX12_wantEnd_9 (by decide) ?_
    refine x_rdV (c_X12_isMark hm hk) mo lkX12_isMark sX12_171 dX12_wantEnd_11 rfl rfl (Nat.le_of_ble_eq_true rfl) (by decide) ⟨rfl, rfl, by decide, by decide⟩ ?_
    refine x_if_eqB 21 dX12_wantEnd_14 (by decide) (fun c14 => ?_) (fun c14 => ?_)
    · refine x_iconst (v := 0) dX12_wantEnd_21 (by decide) ?_
      refine x_put (fs' := mF m V (va_up s 12 0) l) fX12_164 mo (Nat.le_of_ble_eq_true rfl) rfl rfl rfl dX12_wantEnd_22 ?_
      refine x_aload_n dX12_wantEnd_25 rfl ?_
      refine x_get fX12_164 hset_s rfl dX12_wantEnd_26 ?_
      refine x_if_eq_t 36 dX12_wantEnd_29 (by decide) rfl ?_
      refine x_vret rfl dX12_wantEnd_36 ⟨by decide, by decide⟩ ?_
      have E : tkE T ts = (ts.1, false) := if_neg (fun z => c14 z.2)
      exact ⟨rfl, va_up s 12 0, l, hm.num, by rw [E]; exact ⟨hk, va_up_self _ _ _⟩, fun i hi => va_up_ne _ _ (by omega), fun _ _ => rfl, Fr.set (by omega) (by omega)⟩
    · refine x_iconst (v := 1) dX12_wantEnd_17 (by decide) ?_
      refine x_goto 22 dX12_wantEnd_18 (by decide) ?_
      refine x_put (fs' := mF m V (va_up s 12 1) l) fX12_164 mo (Nat.le_of_ble_eq_true rfl) rfl rfl rfl dX12_wantEnd_22 ?_
      refine x_aload_n dX12_wantEnd_25 rfl ?_
      refine x_get fX12_164 hset_s rfl dX12_wantEnd_26 ?_
      refine x_if_eq_f 36 dX12_wantEnd_29 (by decide) (show ¬ (1 : Int32) = 0 by decide) ?_
      have hm2 := hm.num (V' := V) (s' := va_up s 12 1) (l' := l)
      refine x_aload_n dX12_wantEnd_32 rfl ?_
      refine x_cnV (c_X12_advance hm2 h240 hT (show va_up s 12 1 7 = nI T.1 from hs7) hk.1.2.2 (show va_up s 12 1 10 = nI ts.1.2.2 from hk.2.1.2.2)) hset_s lkX12_advance sX12_168 dX12_wantEnd_33 rfl rfl (Nat.le_of_ble_eq_true rfl) (by decide) ⟨rfl, rfl, by decide, by decide⟩ ?_
      rintro h1 ⟨s1, l1, hm1, hk1, fs, fl, F1⟩
      refine x_vret rfl dX12_wantEnd_36 ⟨by decide, by decide⟩ ?_
      have E : tkE T ts = (nx T ts.1.2.2, true) := if_pos ⟨g0, c14⟩
      exact ⟨rfl, s1, l1, hm1, by rw [E]; exact ⟨hk1, (fs 12 (.inr (by decide))).trans (va_up_self _ _ _)⟩, fun i hi => (fs i (by omega)).trans (va_up_ne _ _ (by omega)), fl, (Fr.set (by omega) (by omega)).tr F1⟩
theorem vl_in {T : TT} {K : KS} {s : Nat → Int32} {l : Nat → Int64} {m : Nat} (hm : m < 100) (hk : TKm T K s l) (hb : ∀ i, i < T.1 → T.2 i < 256) (k2 : K.1 = 2) : (ut (s 11) (nI m) = true ↔ K.2.2 - K.2.1 ≤ 2 ∧ tv T K ≤ m) ∧ (K.2.2 - K.2.1 ≤ 2 → s 11 = nI (tv T K)) ∧ tv T K < 1000 := by
  obtain ⟨e, lt⟩ := hk.2.2.2.1 k2
  have dg0 : ∀ q, K.2.1 ≤ q → q < K.2.2 → 48 ≤ T.2 q ∧ T.2 q ≤ 57 := fun q a b => (dg (hb q (by have := hk.1; omega)) (k2 ▸ hk.2.2.2.2.2 q a b (.inr k2))).2
  have d0 := dg0 K.2.1 (Nat.le_refl _) lt
  rw [e, ut_p]
  rcases (show K.2.2 - K.2.1 = 1 ∨ K.2.2 - K.2.1 = 2 ∨ 3 ≤ K.2.2 - K.2.1 by omega) with n | n | n
  · have t1 : tv T K = T.2 K.2.1 - 48 := if_neg (by omega)
    rw [n, t1]
    refine ⟨?_, fun _ => rfl, by omega⟩
    show 0 ≤ nI (T.2 K.2.1 - 48) ∧ nI (T.2 K.2.1 - 48) ≤ nI m ↔ _
    rw [nI_leI (by omega) (by omega)]
    exact ⟨fun z => ⟨by decide, z.2⟩, fun z => ⟨nI_pos' (by omega), z.2⟩⟩
  · have d1 := dg0 (K.2.1 + 1) (by omega) (by omega)
    have t1 : tv T K = (T.2 K.2.1 - 48) * 10 + T.2 (K.2.1 + 1) - 48 := if_pos n
    rw [n, t1]
    refine ⟨?_, fun _ => rfl, by omega⟩
    show 0 ≤ nI ((T.2 K.2.1 - 48) * 10 + T.2 (K.2.1 + 1) - 48) ∧ nI ((T.2 K.2.1 - 48) * 10 + T.2 (K.2.1 + 1) - 48) ≤ nI m ↔ _
    rw [nI_leI (by omega) (by omega)]
    exact ⟨fun z => ⟨by decide, z.2⟩, fun z => ⟨nI_pos' (by omega), z.2⟩⟩
  · have t1 : tv T K = T.2 K.2.1 - 48 := if_neg (by omega)
    have v1 : vlM T K.2.1 (K.2.2 - K.2.1) = -1 := by rw [vlM, if_neg (by omega), if_neg (by omega), if_neg (by omega)]
    rw [v1, t1]
    exact ⟨⟨fun z => absurd z.1 (by decide), fun z => by omega⟩, fun z => by omega, by omega⟩
set_option maxRecDepth 10000 in
set_option maxHeartbeats 2000000 in
theorem c_X12_wantNumber {g : gG} {h : gH} {m : Nat} {V : VS} {s : Nat → Int32} {l : Nat → Int64} {A : Nat → Nat → Int32} {B : Nat → Nat → Int64} (hm : MM h m V s l A B) {T : TT} (h240 : T.1 ≤ 240) (hT : ∀ i, i < T.1 → T.2 i < 256 ∧ A 6 i = nI (T.2 i)) (hs7 : s 7 = nI T.1) {ts : TS} (hz : TZ T ts s l) {q : Nat} (hq : q < 100) : Cn g mX12_wantNumber [.ref m, .int (nI q)] h (fun o h' => ∃ v, o = some (.int v) ∧ (∃ s1 l1, MM h' m V s1 l1 A B ∧ TZ T (tkN T ts q (-9)) s1 l1 ∧ frS s s1 ∧ frL l l1 ∧ Fr m 27 h h' ∧ v = s 11 ∧ ((tkN T ts q (-9)).2 = true → v = nI (vlN T ts q (-9))))) := by
  have mo := hm.1
  obtain ⟨hk, hg⟩ := hz
  have k4 := hk.1.1
  refine Cn.of (L := [some (.ref m), some (.int (nI q)), none]) (by decide) (Nat.le_of_ble_eq_true rfl) rfl ?_
  refine x_aload_n dX12_wantNumber_0 rfl ?_
  refine x_get fX12_139 mo rfl dX12_wantNumber_1 ?_
  refine x_ist_2 dX12_wantNumber_4 (by decide) rfl ?_
  refine x_aload_n dX12_wantNumber_5 rfl ?_
  refine x_aload_n dX12_wantNumber_6 rfl ?_
  refine x_get fX12_164 mo rfl dX12_wantNumber_7 ?_
  rw [hg]
  refine x_if_eq 34 dX12_wantNumber_10 (by decide) (fun c10 => ?_) (fun c10 => ?_)
  · refine x_iconst (v := 0) dX12_wantNumber_34 (by decide) ?_
    refine x_put (fs' := mF m V (va_up s 12 0) l) fX12_164 mo (Nat.le_of_ble_eq_true rfl) rfl rfl rfl dX12_wantNumber_35 ?_
    refine x_aload_n dX12_wantNumber_38 rfl ?_
    refine x_get fX12_164 hset_s rfl dX12_wantNumber_39 ?_
    refine x_if_eq_t 49 dX12_wantNumber_42 (by decide) rfl ?_
    refine x_iload_n dX12_wantNumber_49 rfl ?_
    refine x_iret rfl dX12_wantNumber_50 ⟨by decide, by decide⟩ ?_
    have nb : ¬ gdN T ts q (-9) := fun z => b2i_0.mp c10 z.1
    have E : tkN T ts q (-9) = (ts.1, false) := if_neg nb
    exact ⟨_, rfl, va_up s 12 0, l, hm.num, by rw [E]; exact ⟨hk, va_up_self _ _ _⟩, fun i hi => va_up_ne _ _ (by omega), fun _ _ => rfl, Fr.set (by omega) (by omega), rfl, fun z => by rw [E] at z; cases z⟩
  · have g0 : ts.2 = true := Decidable.not_not.mp (fun z => c10 (b2i_0.mpr z))
    refine x_aload_n dX12_wantNumber_13 rfl ?_
    refine x_get fX12_132 mo rfl dX12_wantNumber_14 ?_
    rw [hk.2.1.1]
    refine x_iconst (v := 2) dX12_wantNumber_17 (by decide) ?_
    refine x_icmp_ne 34 dX12_wantNumber_18 (by decide) (fun c18 => ?_) (fun c18 => ?_)
    · refine x_iconst (v := 0) dX12_wantNumber_34 (by decide) ?_
      refine x_put (fs' := mF m V (va_up s 12 0) l) fX12_164 mo (Nat.le_of_ble_eq_true rfl) rfl rfl rfl dX12_wantNumber_35 ?_
      refine x_aload_n dX12_wantNumber_38 rfl ?_
      refine x_get fX12_164 hset_s rfl dX12_wantNumber_39 ?_
      refine x_if_eq_t 49 dX12_wantNumber_42 (by decide) rfl ?_
      refine x_iload_n dX12_wantNumber_49 rfl ?_
      refine x_iret rfl dX12_wantNumber_50 ⟨by decide, by decide⟩ ?_
      have nb : ¬ gdN T ts q (-9) := fun z => c18 (by rw [z.2.1]; rfl)
      have E : tkN T ts q (-9) = (ts.1, false) := if_neg nb
      exact ⟨_, rfl, va_up s 12 0, l, hm.num, by rw [E]; exact ⟨hk, va_up_self _ _ _⟩, fun i hi => va_up_ne _ _ (by omega), fun _ _ => rfl, Fr.set (by omega) (by omega), rfl, fun z => by rw [E] at z; cases z⟩
    · have k2 : ts.1.1 = 2 := nI_eqn (b := 2) (by omega) (by decide) c18
      refine x_iload_n dX12_wantNumber_21 rfl ?_
      refine x_iconst (v := 0) dX12_wantNumber_22 (by decide) ?_
      refine x_iload_n dX12_wantNumber_23 rfl ?_
      refine x_rdS mc_in lkX12_in sX12_93 dX12_wantNumber_24 rfl rfl (Nat.le_of_ble_eq_true rfl) (by decide) ⟨rfl, rfl, by decide, by decide⟩ ?_
      refine x_if_eqB 34 dX12_wantNumber_27 (by decide) (fun c27 => ?_) (fun c27 => ?_)
      · refine x_iconst (v := 0) dX12_wantNumber_34 (by decide) ?_
        refine x_put (fs' := mF m V (va_up s 12 0) l) fX12_164 mo (Nat.le_of_ble_eq_true rfl) rfl rfl rfl dX12_wantNumber_35 ?_
        refine x_aload_n dX12_wantNumber_38 rfl ?_
        refine x_get fX12_164 hset_s rfl dX12_wantNumber_39 ?_
        refine x_if_eq_t 49 dX12_wantNumber_42 (by decide) rfl ?_
        refine x_iload_n dX12_wantNumber_49 rfl ?_
        refine x_iret rfl dX12_wantNumber_50 ⟨by decide, by decide⟩ ?_
        have nb : ¬ gdN T ts q (-9) := fun z => c27 ((vl_in hq hk (fun i hi => (hT i hi).1) k2).1.mpr ⟨z.2.2.1, z.2.2.2.1⟩)
        have E : tkN T ts q (-9) = (ts.1, false) := if_neg nb
        exact ⟨_, rfl, va_up s 12 0, l, hm.num, by rw [E]; exact ⟨hk, va_up_self _ _ _⟩, fun i hi => va_up_ne _ _ (by omega), fun _ _ => rfl, Fr.set (by omega) (by omega), rfl, fun z => by rw [E] at z; cases z⟩
      · refine x_iconst (v := 1) dX12_wantNumber_30 (by decide) ?_
        refine x_goto 35 dX12_wantNumber_31 (by decide) ?_
        refine x_put (fs' := mF m V (va_up s 12 1) l) fX12_164 mo (Nat.le_of_ble_eq_true rfl) rfl rfl rfl dX12_wantNumber_35 ?_
        refine x_aload_n dX12_wantNumber_38 rfl ?_
        refine x_get fX12_164 hset_s rfl dX12_wantNumber_39 ?_
        refine x_if_eq_f 49 dX12_wantNumber_42 (by decide) (show ¬ (1 : Int32) = 0 by decide) ?_
        have hm2 := hm.num (V' := V) (s' := va_up s 12 1) (l' := l)
        refine x_aload_n dX12_wantNumber_45 rfl ?_
        refine x_cnV (c_X12_advance hm2 h240 hT (show va_up s 12 1 7 = nI T.1 from hs7) hk.1.2.2 (show va_up s 12 1 10 = nI ts.1.2.2 from hk.2.1.2.2)) hset_s lkX12_advance sX12_168 dX12_wantNumber_46 rfl rfl (Nat.le_of_ble_eq_true rfl) (by decide) ⟨rfl, rfl, by decide, by decide⟩ ?_
        rintro h1 ⟨s1, l1, hm1, hk1, fs, fl, F1⟩
        refine x_iload_n dX12_wantNumber_49 rfl ?_
        refine x_iret rfl dX12_wantNumber_50 ⟨by decide, by decide⟩ ?_
        have vi := vl_in hq hk (fun i hi => (hT i hi).1) k2
        have vz := vi.1.mp c27
        have gd : gdN T ts q (-9) := ⟨g0, k2, vz.1, vz.2, fun z => absurd (z ▸ nI_pos' (n := tv T ts.1) (by omega) : (0 : Int32) ≤ -9) (by decide)⟩
        have E : tkN T ts q (-9) = (nx T ts.1.2.2, true) := if_pos gd
        exact ⟨_, rfl, s1, l1, hm1, by rw [E]; exact ⟨hk1, (fs 12 (.inr (by decide))).trans (va_up_self _ _ _)⟩, fun i hi => (fs i (by omega)).trans (va_up_ne _ _ (by omega)), fl, (Fr.set (by omega) (by omega)).tr F1, rfl, fun _ => by rw [vlN, if_pos gd]; exact vi.2.1 vz.1⟩
