/-! the chances -/
def bm (x : Int64) (i : Nat) : Bool := x.toBitVec.getLsbD i
theorem bm_or (x y : Int64) (i : Nat) : bm (x ||| y) i = (bm x i || bm y i) := by unfold bm; rw [Int64.toBitVec_or, BitVec.getLsbD_or]
theorem bm_and (x y : Int64) (i : Nat) : bm (x &&& y) i = (bm x i && bm y i) := by unfold bm; rw [Int64.toBitVec_and, BitVec.getLsbD_and]
theorem bm_xor (x y : Int64) (i : Nat) : bm (x ^^^ y) i = (bm x i ^^ bm y i) := by unfold bm; rw [Int64.toBitVec_xor, BitVec.getLsbD_xor]
theorem bm_big {x : Int64} {i : Nat} (h : 64 ≤ i) : bm x i = false := BitVec.getLsbD_of_ge _ _ h
theorem bm_255 (i : Nat) : bm 255 i = decide (i < 8) := by
  rcases Nat.lt_or_ge i 64 with h | h
  · exact (by decide +kernel : ∀ i, i < 64 → bm 255 i = decide (i < 8)) i h
  · rw [bm_big h, decide_eq_false (by omega)]
theorem bm_m1 : ∀ i, i < 64 → bm (-1) i = true := by decide +kernel
theorem bm_ushr {k : Nat} (hk : k < 64) (x : Int64) (i : Nat) : bm ((x.toUInt64 >>> ((nI k).toInt64.toUInt64 &&& Int64.toUInt64 63)).toInt64) i = bm x (k + i) := by
  rw [wb_cu k hk]
  show (x.toUInt64 >>> UInt64.ofNat k).toBitVec.getLsbD i = x.toUInt64.toBitVec.getLsbD (k + i)
  rw [UInt64.toBitVec_shiftRight]
  have e : ((UInt64.ofNat k).toBitVec % 64).toNat = k := (by decide +kernel : ∀ k, k < 64 → ((UInt64.ofNat k).toBitVec % 64).toNat = k) k hk
  show (x.toUInt64.toBitVec >>> ((UInt64.ofNat k).toBitVec % 64).toNat).getLsbD i = _
  rw [e, BitVec.getLsbD_ushiftRight]
theorem bm_shl {k : Nat} (hk : k < 64) (x : Int64) {i : Nat} (hi : i < 64) : bm (x <<< ((nI k).toInt64 &&& 63)) i = (decide (k ≤ i) && bm x (i - k)) := by
  rw [wb_c k hk]
  unfold bm
  rw [Int64.toBitVec_shiftLeft]
  have e : ((lN k).toBitVec.smod 64).toNat = k := (by decide +kernel : ∀ k, k < 64 → ((lN k).toBitVec.smod 64).toNat = k) k hk
  show (x.toBitVec <<< ((lN k).toBitVec.smod 64).toNat).getLsbD i = _
  rw [e, BitVec.getLsbD_shiftLeft]
  rcases Nat.lt_or_ge i k with h | h
  · simp [h, Nat.not_le.mpr h]
  · simp [hi, h, Nat.not_lt.mpr h]
theorem bm_bit {k : Nat} (hk : k < 64) (x : Int64) : ((x.toUInt64 >>> ((nI k).toInt64.toUInt64 &&& Int64.toUInt64 63)).toInt64 &&& 1) = 0 ↔ bm x k = false := by
  rw [wb_cu k hk]
  exact ts_bit hk (u_tn (by omega))
theorem lg_0 {x y : Int64} : lg_cmp x y = 0 ↔ x = y := by
  unfold lg_cmp
  constructor
  · intro h
    split at h
    · exact absurd h (by decide)
    · split at h
      · assumption
      · exact absurd h (by decide)
  · intro h
    subst h
    rw [if_neg (fun q => absurd q Int64.lt_irrefl), if_pos rfl]
theorem mul8 (a : Nat) : (8 : Int32) * nI a = nI (8 * a) := pk_mul 8 a
theorem mul8b (a b : Nat) : (8 : Int32) * nI a + nI b = nI (8 * a + b) := by rw [mul8, nI_add]
/-- what a and b reach, and the table with that in the rows of all of them -/
def bo (x : Int64) (a b : Nat) : Int64 := ((x.toUInt64 >>> ((nI (8 * a)).toInt64.toUInt64 &&& Int64.toUInt64 63)).toInt64 ||| (x.toUInt64 >>> ((nI (8 * b)).toInt64.toUInt64 &&& Int64.toUInt64 63)).toInt64) &&& 255
def too (x m : Int64) : Nat → Int64
  | 0 => x
  | c + 1 => if bm m c = true then too x m c ||| (m <<< ((nI (8 * c)).toInt64 &&& 63)) else too x m c
theorem bo_bm {x : Int64} {a b : Nat} (ha : a < 8) (hb : b < 8) (i : Nat) : bm (bo x a b) i = (decide (i < 8) && (bm x (8 * a + i) || bm x (8 * b + i))) := by
  unfold bo
  rw [bm_and, bm_255, bm_or, bm_ushr (by omega), bm_ushr (by omega), Bool.and_comm]
theorem too_bm {x m : Int64} (hm : ∀ i, 8 ≤ i → bm m i = false) : ∀ n, n ≤ 8 → ∀ c d, c < 8 → d < 8 → bm (too x m n) (8 * c + d) = if c < n ∧ bm m c = true then (bm x (8 * c + d) || bm m d) else bm x (8 * c + d)
  | 0, _, c, d, _, _ => by rw [if_neg (fun q => absurd q.1 (Nat.not_lt_zero c))]; rfl
  | n + 1, hn, c, d, hc, hd => by
    have ih := too_bm (x := x) hm n (by omega) c d hc hd
    unfold too
    by_cases q : bm m n = true
    · rw [if_pos q, bm_or, bm_shl (by omega) _ (by omega), ih]
      rcases Nat.lt_trichotomy c n with e | e | e
      · rw [decide_eq_false (show ¬ 8 * n ≤ 8 * c + d by omega)]
        by_cases z : bm m c = true
        · rw [if_pos ⟨e, z⟩, if_pos ⟨by omega, z⟩]; simp
        · rw [if_neg (fun w => z w.2), if_neg (fun w => z w.2)]; simp
      · subst e
        rw [decide_eq_true (show 8 * c ≤ 8 * c + d by omega), show 8 * c + d - 8 * c = d by omega, if_neg (fun w => absurd w.1 (Nat.lt_irrefl c)), if_pos ⟨Nat.lt_succ_self c, q⟩]
        simp
      · rw [decide_eq_true (show 8 * n ≤ 8 * c + d by omega), hm _ (show 8 ≤ 8 * c + d - 8 * n by omega), if_neg (fun w => by have := w.1; omega), if_neg (fun w => by have := w.1; omega)]
        simp
    · rw [if_neg q, ih]
      by_cases z : c < n ∧ bm m c = true
      · rw [if_pos z, if_pos ⟨by omega, z.2⟩]
      · rw [if_neg z, if_neg (fun w => (Nat.lt_or_ge c n).elim (fun y => z ⟨y, w.2⟩) (fun y => q (by rw [show n = c by omega]; exact w.2)))]
set_option maxRecDepth 10000 in
set_option maxHeartbeats 2000000 in
theorem c_X1_joinedToo {g : gG} {h : gH} {x : Int64} {a b : Nat} (ha : a < 8) (hb : b < 8) : Rd g mX1_joinedToo [.long x, .int (nI a), .int (nI b)] h (.long (too x (bo x a b) 8)) := by
  refine Cn.of (L := [some (.long x), none, some (.int (nI a)), some (.int (nI b)), none, none, none, none, none]) (by decide) (Nat.le_of_ble_eq_true rfl) rfl ?_
  refine x_lload_n dX1_joinedToo_0 rfl ?_
  refine x_bipush (v := 8) dX1_joinedToo_1 (by decide) ?_
  refine x_iload_n dX1_joinedToo_3 rfl ?_
  refine x_imul dX1_joinedToo_4 ?_
  rw [mul8]
  refine x_lushr dX1_joinedToo_5 ?_
  refine x_lload_n dX1_joinedToo_6 rfl ?_
  refine x_bipush (v := 8) dX1_joinedToo_7 (by decide) ?_
  refine x_iload_n dX1_joinedToo_9 rfl ?_
  refine x_imul dX1_joinedToo_10 ?_
  rw [mul8]
  refine x_lushr dX1_joinedToo_11 ?_
  refine x_lor dX1_joinedToo_12 ?_
  refine x_ldc2 dX1_joinedToo_13 kX1_47 ?_
  refine x_land dX1_joinedToo_16 ?_
  refine sw_topl (show _ = bo x a b from rfl) ?_
  refine x_lst_4 dX1_joinedToo_17 (by decide) rfl ?_
  refine x_lload_n dX1_joinedToo_19 rfl ?_
  refine x_lst_6 dX1_joinedToo_20 (by decide) rfl ?_
  refine x_iconst (v := 0) dX1_joinedToo_22 (by decide) ?_
  refine x_ist_8 dX1_joinedToo_23 (by decide) rfl ?_
  obtain ⟨m, hm⟩ : ∃ m, m = bo x a b := ⟨_, rfl⟩
  rw [← hm]
  refine lp_up (P := fun i => Ex g mX1_joinedToo _ 25 [some (.long x), none, some (.int (nI a)), some (.int (nI b)), some (.long m), none, some (.long (too x m i)), none, some (.int (nI i))] [] h 0 0) 8 (fun i hi ih => ?_) ?_ 0 (by decide)
  · have eb := bm_bit (k := i) (by omega) m
    refine x_iload dX1_joinedToo_25 rfl ?_
    refine x_bipush (v := 8) dX1_joinedToo_27 (by decide) ?_
    refine x_icmp_ge_f 63 dX1_joinedToo_29 (by decide) (c8 hi) ?_
    refine x_lload dX1_joinedToo_32 rfl ?_
    refine x_iload dX1_joinedToo_34 rfl ?_
    refine x_lushr dX1_joinedToo_36 ?_
    refine x_lconst (v := 1) dX1_joinedToo_37 (by decide) ?_
    refine x_land dX1_joinedToo_38 ?_
    refine x_lconst (v := 0) dX1_joinedToo_39 (by decide) ?_
    refine x_lcmp dX1_joinedToo_40 ?_
    refine x_if_eq 57 dX1_joinedToo_41 (by decide) (fun c41 => ?_) (fun c41 => ?_)
    · refine x_inc_8  dX1_joinedToo_57 (by decide) (nI_inc _) rfl ?_
      refine x_goto 25 dX1_joinedToo_60 (by decide) ?_
      have c41 := eb.mp (lg_0.mp c41)
      rw [show too x m (i + 1) = too x m i from if_neg (by rw [c41]; decide)] at ih; exact ih
    · refine x_lload dX1_joinedToo_44 rfl ?_
      refine x_lload dX1_joinedToo_46 rfl ?_
      refine x_bipush (v := 8) dX1_joinedToo_48 (by decide) ?_
      refine x_iload dX1_joinedToo_50 rfl ?_
      refine x_imul dX1_joinedToo_52 ?_
      rw [mul8]
      refine x_lshl dX1_joinedToo_53 ?_
      refine x_lor dX1_joinedToo_54 ?_
      refine x_lst_6 dX1_joinedToo_55 (by decide) rfl ?_
      refine x_inc_8  dX1_joinedToo_57 (by decide) (nI_inc _) rfl ?_
      refine x_goto 25 dX1_joinedToo_60 (by decide) ?_
      have c41 : bm m i = true := by
        cases q : bm m i with
        | true => rfl
        | false => exact absurd (lg_0.mpr (eb.mpr q)) c41
      rw [show too x m (i + 1) = _ from if_pos c41] at ih; exact ih
  · refine x_iload dX1_joinedToo_25 rfl ?_
    refine x_bipush (v := 8) dX1_joinedToo_27 (by decide) ?_
    refine x_icmp_ge_t 63 dX1_joinedToo_29 (by decide) (by decide) ?_
    refine x_lload dX1_joinedToo_63 rfl ?_
    refine x_lret rfl dX1_joinedToo_65 ⟨by decide, by decide⟩ ?_
    exact ⟨by rw [hm], rfl⟩
abbrev cF (c : Nat) (s : Int32) (wh : Int64) : List Value := [.ref (c + 1), .ref (c + 2), .ref (c + 3), .int s, .long wh]
def isC (h : gH) (c : Nat) (J K X : Nat → Int64) (s : Int32) (wh : Int64) : Prop := h.1 c = some (.inr (1, cF c s wh)) ∧ h.1 (c + 1) = some (.inl (1, 256, .inr (.inl J))) ∧ h.1 (c + 2) = some (.inl (1, 256, .inr (.inl K))) ∧ h.1 (c + 3) = some (.inl (1, 2048, .inr (.inl X)))
section IC
variable {h h' : gH} {c : Nat} {J K X J' : Nat → Int64} {s s' : Int32} {wh wh' : Int64}
theorem isC.num (i : isC h c J K X s wh) : isC (hset h c (.inr (1, cF c s' wh'))) c J K X s' wh' := ⟨hset_s, by rw [hset_n (by omega)]; exact i.2.1, by rw [hset_n (by omega)]; exact i.2.2.1, by rw [hset_n (by omega)]; exact i.2.2.2⟩
theorem isC.rJ (i : isC h c J K X s wh) : isC (hset h (c + 1) (.inl (1, 256, .inr (.inl J')))) c J' K X s wh := ⟨by rw [hset_n (by omega)]; exact i.1, hset_s, by rw [hset_n (by omega)]; exact i.2.2.1, by rw [hset_n (by omega)]; exact i.2.2.2⟩
theorem isC.rK (i : isC h c J K X s wh) : isC (hset h (c + 2) (.inl (1, 256, .inr (.inl J')))) c J J' X s wh := ⟨by rw [hset_n (by omega)]; exact i.1, by rw [hset_n (by omega)]; exact i.2.1, hset_s, by rw [hset_n (by omega)]; exact i.2.2.2⟩
theorem isC.rX (i : isC h c J K X s wh) : isC (hset h (c + 3) (.inl (1, 2048, .inr (.inl J')))) c J K J' s wh := ⟨by rw [hset_n (by omega)]; exact i.1, by rw [hset_n (by omega)]; exact i.2.1, by rw [hset_n (by omega)]; exact i.2.2.1, hset_s⟩
theorem isC.fr {x n : Nat} (i : isC h c J K X s wh) (hf : Fr x n h h') (hd : c + 4 ≤ x ∨ x + n ≤ c) : isC h' c J K X s wh := ⟨by rw [hf.2 _ (by omega)]; exact i.1, by rw [hf.2 _ (by omega)]; exact i.2.1, by rw [hf.2 _ (by omega)]; exact i.2.2.1, by rw [hf.2 _ (by omega)]; exact i.2.2.2⟩
end IC
def okJ (V : VS) (J : Nat → Int64) (n : Nat) : Prop := ∀ s, s < n → ∀ a b, a < 8 → b < 8 → bm (J s) (8 * a + b) = (rea V s a 7).testBit b
theorem or_add {s p : Nat} (h : s < 2 ^ p) : s ||| 2 ^ p = 2 ^ p + s := by
  have e := Nat.two_pow_add_eq_or_of_lt h 1
  rw [Nat.mul_one] at e
  rw [Nat.or_comm]; exact e.symm
theorem tb_add {s p : Nat} (h : s < 2 ^ p) (q : Nat) : (2 ^ p + s).testBit q = (s.testBit q || decide (p = q)) := by rw [← or_add h, or_bit_tb]
theorem tb_big {s p q : Nat} (h : s < 2 ^ p) (hq : p ≤ q) : s.testBit q = false := Nat.testBit_lt_two_pow (Nat.lt_of_lt_of_le h (Nat.pow_le_pow_right (by decide) hq))
theorem p256 {p : Nat} (h : p ≤ 8) : 2 ^ p ≤ 256 := Nat.le_trans (Nat.pow_le_pow_right (by decide) h) (by decide)
/-- the row of a set and one more path -/
theorem okJ_too {V : VS} (hv : okV V) {x : Int64} {s p : Nat} (hp : p < V.1 0) (hs : s < 2 ^ p) (hx : ∀ a b, a < 8 → b < 8 → bm x (8 * a + b) = (rea V s a 7).testBit b) :
    ∀ a b, a < 8 → b < 8 → bm (too x (bo x (V.2.2 1 p) (V.2.2 2 p)) 8) (8 * a + b) = (rea V (2 ^ p + s) a 7).testBit b := by
  intro a b ha hb
  obtain ⟨-, e1, e2, -⟩ := hv.2.2.2.1 p hp
  have hbo : ∀ i, bm (bo x (V.2.2 1 p) (V.2.2 2 p)) i = (decide (i < 8) && (bm x (8 * V.2.2 1 p + i) || bm x (8 * V.2.2 2 p + i))) := bo_bm e1 e2
  rw [too_bm (fun i hi => by rw [hbo, decide_eq_false (by omega)]; rfl) 8 (Nat.le_refl _) a b ha hb, hbo, hbo, decide_eq_true ha, decide_eq_true hb]
  have hc := Con.add (V := V) (t := s) (u := 2 ^ p + s) (x := a) (y := b) hp (fun q _ => by rw [tb_add hs, Bool.or_eq_true, decide_eq_true_eq]; exact ⟨fun w => w.imp id Eq.symm, fun w => w.imp id Eq.symm⟩)
  rw [con_7 hv _ ha, con_7 hv _ e1, con_7 hv _ e2, con_7 hv _ e1, con_7 hv _ e2, con_7 hv _ ha] at hc
  rw [hx _ _ e1 ha, hx _ _ e2 ha, hx _ _ e1 hb, hx _ _ e2 hb, hx _ _ ha hb]
  by_cases q : (rea V s (V.2.2 1 p) 7).testBit a = true ∨ (rea V s (V.2.2 2 p) 7).testBit a = true
  · have ht : (rea V s a 7).testBit b = true → (rea V s (V.2.2 1 p) 7).testBit b = true ∨ (rea V s (V.2.2 2 p) 7).testBit b = true := fun w =>
      q.imp (fun z => (con_7 hv s e1).mp (((con_7 hv s e1).mpr z).tr ((con_7 hv s ha).mpr w))) (fun z => (con_7 hv s e2).mp (((con_7 hv s e2).mpr z).tr ((con_7 hv s ha).mpr w)))
    rw [if_pos ⟨ha, by simpa using q⟩, Bool.eq_iff_iff, hc]
    simp [q]
    exact ht
  · rw [if_neg (fun w => q (by simpa using w.2)), Bool.eq_iff_iff, hc]
    simp [q]
set_option maxRecDepth 10000 in
set_option maxHeartbeats 2000000 in
theorem c_X1_joins {g : gG} {h : gH} {c : Nat} {J K X : Nat → Int64} {s0 : Int32} {wh : Int64} {s a b : Nat} (hi0 : isC h c J K X s0 wh) (hs : s < 256) (ha : a < 8) (hb : b < 8) : Rd g mX1_joins [.ref c, .int (nI s), .int (nI a), .int (nI b)] h (.int (b2i (bm (J s) (8 * a + b) = true))) := by
  have c0 := hi0.1
  have c1 := hi0.2.1
  have c2 := hi0.2.2.1
  have c3 := hi0.2.2.2
  have eb := bm_bit (k := 8 * a + b) (by omega) (J s)
  refine Cn.of (L := [some (.ref c), some (.int (nI s)), some (.int (nI a)), some (.int (nI b))]) (by decide) (Nat.le_of_ble_eq_true rfl) rfl ?_
  refine x_aload_n dX1_joins_0 rfl ?_
  refine x_get fX1_9 (by assumption) rfl dX1_joins_1 ?_
  refine x_iload_n dX1_joins_4 rfl ?_
  refine x_lald _ (by assumption) rfl (by omega) (by decide) dX1_joins_5 ?_
  refine x_bipush (v := 8) dX1_joins_6 (by decide) ?_
  refine x_iload_n dX1_joins_8 rfl ?_
  refine x_imul dX1_joins_9 ?_
  refine x_iload_n dX1_joins_10 rfl ?_
  refine x_iadd dX1_joins_11 ?_
  rw [mul8b]
  refine x_lushr dX1_joins_12 ?_
  refine x_lconst (v := 1) dX1_joins_13 (by decide) ?_
  refine x_land dX1_joins_14 ?_
  refine x_lconst (v := 0) dX1_joins_15 (by decide) ?_
  refine x_lcmp dX1_joins_16 ?_
  refine x_if_eq 24 dX1_joins_17 (by decide) (fun c17 => ?_) (fun c17 => ?_)
  · refine x_iconst (v := 0) dX1_joins_24 (by decide) ?_
    refine x_zret rfl dX1_joins_25 ⟨by decide, by decide⟩ rfl ?_
    exact ⟨by rw [b2i_f (by rw [eb.mp (lg_0.mp c17)]; decide)], rfl⟩
  · refine x_iconst (v := 1) dX1_joins_20 (by decide) ?_
    refine x_goto 25 dX1_joins_21 (by decide) ?_
    refine x_zret rfl dX1_joins_25 ⟨by decide, by decide⟩ rfl ?_
    exact ⟨by rw [b2i_t (by cases q : bm (J s) (8 * a + b) with
      | true => rfl
      | false => exact absurd (lg_0.mpr (eb.mpr q)) c17)], rfl⟩
