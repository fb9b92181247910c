theorem rea_sy {V : VS} (hv : okV V) {t a b : Nat} (ha : a < 8) (hb : b < 8) : (rea V t a 7).testBit b = (rea V t b 7).testBit a := by
  rw [Bool.eq_iff_iff, ← con_7 hv t ha, ← con_7 hv t hb]
  exact ⟨fun z => z.sy, fun z => z.sy⟩
/-- one term: how often it is u, if there is a way between b and c by u -/
def wt_ (V : VS) (b t c u : Nat) : Nat := if (rea V u b 7).testBit c = true then cwt (ofc V t (heldS V (V.1 1))) u (V.1 0) else 0
def wn (V : VS) (b t c : Nat) : Nat → Nat := fb_sm (wt_ V b t c)
theorem cw_sum {c : Nat → Nat} : ∀ n, (∀ p, p < n → c p ≤ 8) → fb_sm (fun u => cwt c u n) (2 ^ n) = 8 ^ n
  | 0, _ => rfl
  | n + 1, h => by
    have ih := cw_sum n (fun p hp => h p (by omega))
    rw [show 2 ^ (n + 1) = 2 ^ n + 2 ^ n by rw [Nat.pow_succ]; omega, fb_sm_split]
    have e1 : fb_sm (fun u => cwt c u (n + 1)) (2 ^ n) = (8 - c n) * fb_sm (fun u => cwt c u n) (2 ^ n) := by
      rw [← fb_mul]
      apply fb_sm_cong
      intro u hu
      rw [cwt, if_neg (by rw [Nat.testBit_lt_two_pow hu]; decide), Nat.mul_comm]
    have e2 : fb_sm (fun u => cwt c (2 ^ n + u) (n + 1)) (2 ^ n) = c n * fb_sm (fun u => cwt c u n) (2 ^ n) := by
      rw [← fb_mul]
      apply fb_sm_cong
      intro u hu
      rw [cwt, if_pos (by rw [Nat.testBit_two_pow_add_eq, Nat.testBit_lt_two_pow hu]; rfl), Nat.mul_comm, cwt_c n (fun p hp2 => tb_low (k := n) (a := 2 ^ n + u) (b := u) (by rw [Nat.add_mod_left]) hp2)]
    rw [e1, e2, ← Nat.add_mul, show 8 - c n + c n = 8 by have := h n (by omega); omega, ih, Nat.pow_succ, Nat.mul_comm]
theorem wn_le {V : VS} (hv : okV V) (b t c : Nat) : wn V b t c (2 ^ V.1 0) ≤ 8 ^ V.1 0 := by
  rw [← cw_sum (c := ofc V t (heldS V (V.1 1))) (V.1 0) (fun p hp => ofc_le hv hp)]
  apply fb_sm_le
  intro u hu
  unfold wt_
  split
  · exact Nat.le_refl _
  · exact Nat.zero_le _
theorem wn_mono {V : VS} (b t c : Nat) {i n : Nat} (h : i ≤ n) : wn V b t c i ≤ wn V b t c n := by
  obtain ⟨d, rfl⟩ := Nat.exists_eq_add_of_le h
  exact fb_sm_mono _ _ _
theorem wn_b {V : VS} (hv : okV V) {b t : Nat} (hb : b < 8) : wn V b t b (2 ^ V.1 0) = 8 ^ V.1 0 := by
  rw [← cw_sum (c := ofc V t (heldS V (V.1 1))) (V.1 0) (fun p hp => ofc_le hv hp)]
  apply fb_sm_cong
  intro u hu
  unfold wt_
  rw [if_pos]
  have : (rea V u b 0).testBit b = true := by show (2 ^ b).testBit b = true; rw [Nat.testBit_two_pow]; simp
  have := rea_mono (V := V) (t := u) (x := b) (y := b) 7 0 this
  exact this
theorem wn_od {V : VS} (hv : okV V) {b t c : Nat} (hb : b < 8) (hc : c < 8) (n : Nat) : wn V b t c n = od V (ofc V t (heldS V (V.1 1))) c b n := fb_sm_cong (fun u _ => by unfold wt_; rw [rea_sy hv hb hc])
theorem wi1_eq {V : VS} (hv : okV V) {a b : Nat} (hb : b < 8) : wi1 V a b = bwt V (V.1 3) a (fun c => wn V b (V.1 3) c (2 ^ V.1 0)) 8 := by
  apply bwt_ext
  intro c hc _
  rw [wn_od hv hb hc, od_cg (fun p _ => ofc_chv p)]
  unfold vow od
  apply fb_sm_cong
  intro u hu
  unfold jv
  split
  · rw [Nat.mul_one]
  · rw [Nat.mul_zero]
theorem wx_eq {V : VS} (hv : okV V) {b s i : Nat} (hb : b < 8) (hi : i < 8) (hs : s < 2 ^ V.1 0) : mxs (cF0 V) (cT0 V) (jv V i b) (V.1 0) s = wn V b s i (2 ^ V.1 0) := by
  rw [wn_od hv hb hi, mxs_sum]
  unfold od
  apply fb_sm_cong
  intro u hu
  rw [Nat.div_eq_of_lt hs, Nat.zero_mul, Nat.zero_add]
  have e : cwt (fun p => if s.testBit p = true then cT0 V p else cF0 V p) u (V.1 0) = cwt (ofc V s (heldS V (V.1 1))) u (V.1 0) := cwt_cg _ (fun p hp => by
    unfold ofc cT0 cF0 chn
    by_cases z : onS V p (V.1 1) = 0
    · rw [if_neg (show ¬ (heldS V (V.1 1)).testBit p = true from fun y => (hs_bit _).mp y z)]
      by_cases q : s.testBit p = true
      · rw [if_pos q, if_pos q, if_neg (fun y => y z)]; rfl
      · rw [if_neg q, if_neg q, if_neg (fun y => y z)]; rfl
    · rw [if_pos ((hs_bit _).mpr z)]
      split <;> rfl)
  rw [e]
  unfold jv
  split
  · rw [Nat.one_mul]
  · rw [Nat.zero_mul]
/-- the best of what is behind one night of s, from c -/
def tw1_ (V : VS) (b s c : Nat) : Nat := bwt V s c (fun i => wn V b s i (2 ^ V.1 0)) 8
theorem bwt_ge {V : VS} {t a : Nat} {f : Nat → Nat} : ∀ n j, j < n → (rea V t a 7).testBit j = true → f j ≤ bwt V t a f n
  | 0, j, h, _ => absurd h (Nat.not_lt_zero j)
  | n + 1, j, h, q => by
    by_cases e : j = n
    · subst e; rw [bwt, if_pos q]; exact Nat.le_max_right _ _
    · have ih := bwt_ge (V := V) (t := t) (a := a) (f := f) n j (by omega) q
      rw [bwt]
      split
      · exact Nat.le_trans ih (Nat.le_max_left _ _)
      · exact ih
theorem tw1_full {V : VS} (hv : okV V) {b s c : Nat} (hb : b < 8) (hc : c < 8) (h : (rea V s b 7).testBit c = true) : tw1_ V b s c = 8 ^ V.1 0 := by
  apply Nat.le_antisymm (bwt_le (fun i => wn_le hv b s i) 8)
  have := bwt_ge (V := V) (t := s) (a := c) (f := fun i => wn V b s i (2 ^ V.1 0)) 8 b hb (by rw [rea_sy hv hc hb]; exact h)
  rw [wn_b hv hb] at this
  exact this
theorem wx2_eq {V : VS} (hv : okV V) {b s c : Nat} (hb : b < 8) (hs : s < 2 ^ V.1 0) : wx2 V b c s = tw1_ V b s c := bwt_ext 8 (fun i hi _ => wx_eq hv hb hi hs)
def tt_ (V : VS) (b c s : Nat) : Nat := cwt (chv V) s (V.1 0) * tw1_ V b s c
def tw (V : VS) (b c : Nat) : Nat → Nat := fb_sm (tt_ V b c)
theorem wi2_eq {V : VS} (hv : okV V) {a b : Nat} (hb : b < 8) : wi2 V a b = bwt V (V.1 3) a (fun c => tw V b c (2 ^ V.1 0)) 8 := by
  apply bwt_ext
  intro c hc _
  unfold vow tw
  apply fb_sm_cong
  intro s hs
  rw [wx2_eq hv hb hs]; rfl
theorem tw_le {V : VS} (hv : okV V) (b c : Nat) : tw V b c (2 ^ V.1 0) ≤ 8 ^ V.1 0 * 8 ^ V.1 0 := by
  have e : fb_sm (fun s => cwt (chv V) s (V.1 0) * 8 ^ V.1 0) (2 ^ V.1 0) = 8 ^ V.1 0 * 8 ^ V.1 0 := by
    rw [show (fun s => cwt (chv V) s (V.1 0) * 8 ^ V.1 0) = (fun s => 8 ^ V.1 0 * cwt (chv V) s (V.1 0)) from funext (fun s => Nat.mul_comm _ _), fb_mul, cw_sum (c := chv V) _ (fun p hp => chn_le hv hp _)]
  rw [← e]
  apply fb_sm_le
  intro s hs
  exact Nat.mul_le_mul_left _ (bwt_le (fun i => wn_le hv b s i) 8)
theorem tw_mono {V : VS} (b c : Nat) {i n : Nat} (h : i ≤ n) : tw V b c i ≤ tw V b c n := by
  obtain ⟨d, rfl⟩ := Nat.exists_eq_add_of_le h
  exact fb_sm_mono _ _ _
theorem tw_b {V : VS} (hv : okV V) {b : Nat} (hb : b < 8) : tw V b b (2 ^ V.1 0) = 8 ^ V.1 0 * 8 ^ V.1 0 := by
  have bb : ∀ s, (rea V s b 7).testBit b = true := fun s => by
    have : (rea V s b 0).testBit b = true := by show (2 ^ b).testBit b = true; rw [Nat.testBit_two_pow]; simp
    exact rea_mono (V := V) (t := s) (x := b) (y := b) 7 0 this
  have e : fb_sm (fun s => cwt (chv V) s (V.1 0) * 8 ^ V.1 0) (2 ^ V.1 0) = 8 ^ V.1 0 * 8 ^ V.1 0 := by
    rw [show (fun s => cwt (chv V) s (V.1 0) * 8 ^ V.1 0) = (fun s => 8 ^ V.1 0 * cwt (chv V) s (V.1 0)) from funext (fun s => Nat.mul_comm _ _), fb_mul, cw_sum (c := chv V) _ (fun p hp => chn_le hv hp _)]
  rw [← e]
  apply fb_sm_cong
  intro s hs
  unfold tt_
  rw [tw1_full hv hb hb (bb s)]
theorem rdN_p : ∀ K, rdN (2 ^ K) K = (1, 0)
  | 0 => rfl
  | k + 1 => by rw [rdN, if_pos (by rw [Nat.pow_succ]; omega), show 2 ^ (k + 1) / 2 = 2 ^ k by rw [Nat.pow_succ]; omega, rdN_p k]
set_option maxRecDepth 10000 in
set_option maxHeartbeats 2000000 in
theorem mo5 {g : gG} {h : gH} {m : Nat} {V : VS} {s : Nat → Int32} {l : Nat → Int64} {A : Nat → Nat → Int32} {B : Nat → Nat → Int64} (hm : MM h m V s l A B) (hv : rpV V A) {t a : Nat} (ha : a < 8) {y : Nat → Nat} (hY : ∀ c, y c < 2 ^ 60) (hy : ∀ c, c < 8 → B 13 c = lN (y c)) : ∀ i, i ≤ 8 → Ex g mX12_mostOf (gZm g mX12_mostOf (fun o h' => o = some (.long (lN (bwt V t a y 8))) ∧ h' = h)) 5 [some (.ref m), some (.int (nI (rea V t a 7))), some (.long (lN (bwt V t a y i))), none, some (.int (nI i))] [] h 0 0 := by
  have mo := hm.1
  have m14 : h.1 (m + 14) = some (.inl (1, 8, .inr (.inl (B 13)))) := hm.2 13 (by decide)
  refine lp_up 8 (fun i hi ih => ?_) ?_
  · have yb : bwt V t a y i < 2 ^ 60 := Nat.lt_of_le_of_lt (bwt_le (B := 2 ^ 60 - 1) (fun c => by have := hY c; omega) i) (by decide)
    refine x_iload dX12_mostOf_5 rfl ?_
    refine x_bipush (v := 8) dX12_mostOf_7 (by decide) ?_
    refine x_icmp_ge_f 52 dX12_mostOf_9 (by decide) (ge_f (N := 8) rfl hi (by decide)) ?_
    refine x_iload_n dX12_mostOf_12 rfl ?_
    refine x_iload dX12_mostOf_13 rfl ?_
    refine x_ishr dX12_mostOf_15 ?_
    refine x_iconst (v := 1) dX12_mostOf_16 (by decide) ?_
    refine x_iand dX12_mostOf_17 ?_
    rw [sr_bit _ (rea_lt hv.1 _ ha 7) i hi]
    refine x_iconst (v := 1) dX12_mostOf_18 (by decide) ?_
    refine x_icmp_ne 44 dX12_mostOf_19 (by decide) (fun c19 => ?_) (fun c19 => ?_)
    · refine x_lload_n dX12_mostOf_44 rfl ?_
      refine x_lst_2 dX12_mostOf_45 (by decide) rfl ?_
      refine x_inc_4  dX12_mostOf_46 (by decide) (nI_inc _) rfl ?_
      refine x_goto 5 dX12_mostOf_49 (by decide) ?_
      have E : bwt V t a y (i + 1) = bwt V t a y i := by
        rw [bwt]
        rw [if_neg (fun z => c19 (b2i_t z))]
      rw [E] at ih
      exact ih
    · refine x_aload_n dX12_mostOf_22 rfl ?_
      refine x_get fX12_53 mo rfl dX12_mostOf_23 ?_
      refine x_iload dX12_mostOf_26 rfl ?_
      refine x_lald i m14 rfl hi (by decide) dX12_mostOf_28 ?_
      rw [hy i hi]
      have hl : lN (bwt V t a y i) < lN (y i) ↔ bwt V t a y i < y i := l63_lt (by omega) (by have := hY i; omega)
      refine x_lload_n dX12_mostOf_29 rfl ?_
      refine x_lcmp dX12_mostOf_30 ?_
      refine x_if_le 44 dX12_mostOf_31 (by decide) (fun c31 => ?_) (fun c31 => ?_)
      · refine x_lload_n dX12_mostOf_44 rfl ?_
        refine x_lst_2 dX12_mostOf_45 (by decide) rfl ?_
        refine x_inc_4  dX12_mostOf_46 (by decide) (nI_inc _) rfl ?_
        refine x_goto 5 dX12_mostOf_49 (by decide) ?_
        have E : bwt V t a y (i + 1) = bwt V t a y i := by
          rw [bwt]
          rw [if_pos (b2i_1.mp c19), Nat.max_eq_left (Nat.not_lt.mp (fun z => lg_le.mp c31 (hl.mpr z)))]
        rw [E] at ih
        exact ih
      · refine x_aload_n dX12_mostOf_34 rfl ?_
        refine x_get fX12_53 mo rfl dX12_mostOf_35 ?_
        refine x_iload dX12_mostOf_38 rfl ?_
        refine x_lald i m14 rfl hi (by decide) dX12_mostOf_40 ?_
        rw [hy i hi]
        refine x_goto 45 dX12_mostOf_41 (by decide) ?_
        refine x_lst_2 dX12_mostOf_45 (by decide) rfl ?_
        refine x_inc_4  dX12_mostOf_46 (by decide) (nI_inc _) rfl ?_
        refine x_goto 5 dX12_mostOf_49 (by decide) ?_
        have E : bwt V t a y (i + 1) = y i := by
          rw [bwt]
          rw [if_pos (b2i_1.mp c19), Nat.max_eq_right (Nat.le_of_lt (hl.mp (lg_le2.mp c31)))]
        rw [E] at ih
        exact ih
  · refine x_iload dX12_mostOf_5 rfl ?_
    refine x_bipush (v := 8) dX12_mostOf_7 (by decide) ?_
    refine x_icmp_ge_t 52 dX12_mostOf_9 (by decide) (ge_t (N := 8) rfl (by decide)) ?_
    refine x_lload_n dX12_mostOf_52 rfl ?_
    refine x_lret rfl dX12_mostOf_53 ⟨by decide, by decide⟩ ?_
    exact ⟨rfl, rfl⟩
set_option maxRecDepth 10000 in
set_option maxHeartbeats 2000000 in
theorem c_X12_mostOf {g : gG} {h : gH} {m : Nat} {V : VS} {s : Nat → Int32} {l : Nat → Int64} {A : Nat → Nat → Int32} {B : Nat → Nat → Int64} (hm : MM h m V s l A B) (hv : rpV V A) {t a : Nat} (ha : a < 8) {y : Nat → Nat} (hY : ∀ c, y c < 2 ^ 60) (hy : ∀ c, c < 8 → B 13 c = lN (y c)) : Rd g mX12_mostOf [.ref m, .int (nI (rea V t a 7))] h (.long (lN (bwt V t a y 8))) := by
  refine Cn.of (L := [some (.ref m), some (.int (nI (rea V t a 7))), none, none, none]) (by decide) (Nat.le_of_ble_eq_true rfl) rfl ?_
  refine x_lconst (v := 0) dX12_mostOf_0 (by decide) ?_
  refine x_lst_2 dX12_mostOf_1 (by decide) rfl ?_
  refine x_iconst (v := 0) dX12_mostOf_2 (by decide) ?_
  refine x_ist_4 dX12_mostOf_3 (by decide) rfl ?_
  exact mo5 hm hv ha hY hy 0 (Nat.zero_le _)
set_option maxRecDepth 10000 in
set_option maxHeartbeats 2000000 in
theorem fw11 {g : gG} {h : gH} {m : Nat} {V : VS} {s : Nat → Int32} {l : Nat → Int64} {A : Nat → Nat → Int32} {B : Nat → Nat → Int64} {t0 : Int32} {Q : Option Value → gH → Prop} (kk : ∀ h1 w, MM h1 m V s l A (va_up B 13 w) → (∀ c, c < 8 → w c = 0) → Fr m 27 h h1 → Ex g mX12_findWins (gZm g mX12_findWins Q) 32 [some (.ref m), some (.int t0), some (.int 0), none, none, none] [] h1 0 0) : ∀ i, i ≤ 8 → ∀ h1 w, MM h1 m V s l A (va_up B 13 w) → (∀ c, c < i → w c = 0) → Fr m 27 h h1 → Ex g mX12_findWins (gZm g mX12_findWins Q) 11 [some (.ref m), some (.int t0), some (.int (nI i)), none, none, none] [] h1 0 0 := by
  refine lp_up 8 (fun i hi ih h1 w hm1 hw F => ?_) (fun h1 w hm1 hw F => ?_)
  · have m14 : h1.1 (m + 14) = some (.inl (1, 8, .inr (.inl (va_up B 13 w 13)))) := hm1.2 13 (by decide)
    refine x_iload_n dX12_findWins_11 rfl ?_
    refine x_bipush (v := 8) dX12_findWins_12 (by decide) ?_
    refine x_icmp_ge_f 30 dX12_findWins_14 (by decide) (ge_f (N := 8) rfl hi (by decide)) ?_
    refine x_aload_n dX12_findWins_17 rfl ?_
    refine x_get fX12_53 hm1.1 rfl dX12_findWins_18 ?_
    refine x_iload_n dX12_findWins_21 rfl ?_
    refine x_lconst (v := 0) dX12_findWins_22 (by decide) ?_
    refine x_last i m14 rfl hi (by decide) dX12_findWins_23 ?_
    refine x_inc_2  dX12_findWins_24 (by decide) (nI_inc _) rfl ?_
    refine x_goto 11 dX12_findWins_27 (by decide) ?_
    have hm2 := hm1.lng (i := 13) (f := va_up (va_up B 13 w 13) i 0) rfl
    have eB : va_up (va_up B 13 w) 13 (va_up (va_up B 13 w 13) i 0) = va_up B 13 (va_up w i 0) := by rw [va_2, va_up_self]
    exact ih _ _ (eB ▸ hm2) (fun c hc => by
      by_cases e : c = i
      · subst e; rw [va_up_self]
      · rw [va_up_ne _ _ e]; exact hw c (by omega)) (F.tr (Fr.set (by omega) (by omega)))
  · refine x_iload_n dX12_findWins_11 rfl ?_
    refine x_bipush (v := 8) dX12_findWins_12 (by decide) ?_
    refine x_icmp_ge_t 30 dX12_findWins_14 (by decide) (ge_t (N := 8) rfl (by decide)) ?_
    refine x_iconst (v := 0) dX12_findWins_30 (by decide) ?_
    refine x_ist_2 dX12_findWins_31 (by decide) rfl ?_
    exact kk _ _ hm1 hw F
set_option maxRecDepth 10000 in
set_option maxHeartbeats 2000000 in
theorem fw51 {g : gG} {h : gH} {m : Nat} {V : VS} {s : Nat → Int32} {l : Nat → Int64} {A : Nat → Nat → Int32} {B : Nat → Nat → Int64} (hv : rpV V A) {b : Nat} (hb : b < 8) (hre : ∀ u, u < 2 ^ V.1 0 → A 12 u = nI (rea V u b 7)) {t0 : Int32} {t u : Nat} (hu : u < 2 ^ V.1 0) {v : Nat} (ev : v = cwt (ofc V t (heldS V (V.1 1))) u (V.1 0)) (hv0 : v < 2 ^ 60) {Q : Option Value → gH → Prop} (kk : ∀ h1 w (w5 : Option Value), MM h1 m V s l A (va_up B 13 w) → (∀ c, c < 8 → w c = lN (wn V b t c (u + 1))) → Fr m 27 h h1 → Ex g mX12_findWins (gZm g mX12_findWins Q) 100 [some (.ref m), some (.int t0), some (.int (nI u)), some (.long (lN v)), none, w5] [] h1 0 0) : ∀ i, i ≤ 8 → ∀ h1 w, MM h1 m V s l A (va_up B 13 w) → (∀ c, c < 8 → w c = lN (wn V b t c (if c < i then u + 1 else u))) → Fr m 27 h h1 → Ex g mX12_findWins (gZm g mX12_findWins Q) 51 [some (.ref m), some (.int t0), some (.int (nI u)), some (.long (lN v)), none, some (.int (nI i))] [] h1 0 0 := by
  have ok8 : V.1 0 ≤ 8 := hv.1.1.1
  have ok4 : V.1 1 ≤ 4 := hv.1.1.2.1
  have okr : V.1 2 ≤ 4 := hv.1.1.2.2
  have t256 : V.1 3 < 256 := lt256 hv.1.2.1 hv.1.1.1
  have n8 := pw256 ok8
  have b8 := pow8 ok8
  refine lp_up 8 (fun i hi ih h1 w hm1 hw F => ?_) (fun h1 w hm1 hw F => ?_)
  · have m14 : h1.1 (m + 14) = some (.inl (1, 8, .inr (.inl (va_up B 13 w 13)))) := hm1.2 13 (by decide)
    have m13 : h1.1 (m + 13) = some (.inl (0, 256, .inl (A 12))) := hm1.2 12 (by decide)
    refine x_iload dX12_findWins_51 rfl ?_
    refine x_bipush (v := 8) dX12_findWins_53 (by decide) ?_
    refine x_icmp_ge_f 100 dX12_findWins_55 (by decide) (ge_f (N := 8) rfl hi (by decide)) ?_
    refine x_lload_n dX12_findWins_58 rfl ?_
    refine x_lconst (v := 0) dX12_findWins_59 (by decide) ?_
    refine x_lcmp dX12_findWins_60 ?_
    refine x_if_le 100 dX12_findWins_61 (by decide) (fun c61 => ?_) (fun c61 => ?_)
    · have v0 : v = 0 := by
        have h1 := lg_le.mp c61
        rcases Nat.eq_zero_or_pos v with z | z
        · exact z
        · exact absurd ((l63_lt (a := 0) (by decide) (by omega)).mpr z) h1
      exact kk _ w _ hm1 (fun c hc => by
        rw [hw c hc]
        split
        · rfl
        · show _ = lN (wn V b t c u + wt_ V b t c u)
          rw [wt_, ← ev, v0]; split <;> rfl) F
    · refine x_aload_n dX12_findWins_64 rfl ?_
      refine x_get fX12_53 hm1.1 rfl dX12_findWins_65 ?_
      refine x_iload dX12_findWins_68 rfl ?_
      refine x_dup2 dX12_findWins_70 rfl rfl ?_
      refine x_lald i m14 rfl hi (by decide) dX12_findWins_71 ?_
      refine x_aload_n dX12_findWins_72 rfl ?_
      refine x_get fX12_50 hm1.1 rfl dX12_findWins_73 ?_
      refine x_iload_n dX12_findWins_76 rfl ?_
      refine x_iald u m13 rfl (by omega) (by decide) dX12_findWins_77 ?_
      rw [hre u hu]
      refine x_iload dX12_findWins_78 rfl ?_
      refine x_ishr dX12_findWins_80 ?_
      refine x_iconst (v := 1) dX12_findWins_81 (by decide) ?_
      refine x_iand dX12_findWins_82 ?_
      rw [sr_bit _ (rea_lt hv.1 _ hb 7) i hi]
      refine x_iconst (v := 1) dX12_findWins_83 (by decide) ?_
      refine x_icmp_ne 91 dX12_findWins_84 (by decide) (fun c84 => ?_) (fun c84 => ?_)
      · refine x_lconst (v := 0) dX12_findWins_91 (by decide) ?_
        refine x_ladd dX12_findWins_92 ?_
        refine x_last i m14 rfl hi (by decide) dX12_findWins_93 ?_
        refine x_inc_5  dX12_findWins_94 (by decide) (nI_inc _) rfl ?_
        refine x_goto 51 dX12_findWins_97 (by decide) ?_
        have hm2 := hm1.lng (i := 13) (f := va_up (va_up B 13 w 13) i (va_up B 13 w 13 i + 0)) rfl
        have eB : va_up (va_up B 13 w) 13 (va_up (va_up B 13 w 13) i (va_up B 13 w 13 i + 0)) = va_up B 13 (va_up w i (w i + 0)) := by rw [va_2, va_up_self]
        exact ih _ _ (eB ▸ hm2) (fun c hc => by
          by_cases e : c = i
          · subst e
            rw [va_up_self, hw c hc, if_neg (Nat.lt_irrefl _), if_pos (Nat.lt_succ_self _)]
            show _ = lN (wn V b t c u + wt_ V b t c u)
            rw [wt_, if_neg (fun z => c84 (b2i_t z)), show (0 : Int64) = lN 0 from rfl, lN_add]
          · rw [va_up_ne _ _ e, hw c hc]
            by_cases q : c < i
            · rw [if_pos q, if_pos (by omega)]
            · rw [if_neg q, if_neg (by omega)]) (F.tr (Fr.set (by omega) (by omega)))
      · refine x_lload_n dX12_findWins_87 rfl ?_
        refine x_goto 92 dX12_findWins_88 (by decide) ?_
        refine x_ladd dX12_findWins_92 ?_
        refine x_last i m14 rfl hi (by decide) dX12_findWins_93 ?_
        refine x_inc_5  dX12_findWins_94 (by decide) (nI_inc _) rfl ?_
        refine x_goto 51 dX12_findWins_97 (by decide) ?_
        have hm2 := hm1.lng (i := 13) (f := va_up (va_up B 13 w 13) i (va_up B 13 w 13 i + lN v)) rfl
        have eB : va_up (va_up B 13 w) 13 (va_up (va_up B 13 w 13) i (va_up B 13 w 13 i + lN v)) = va_up B 13 (va_up w i (w i + lN v)) := by rw [va_2, va_up_self]
        exact ih _ _ (eB ▸ hm2) (fun c hc => by
          by_cases e : c = i
          · subst e
            rw [va_up_self, hw c hc, if_neg (Nat.lt_irrefl _), if_pos (Nat.lt_succ_self _)]
            show _ = lN (wn V b t c u + wt_ V b t c u)
            rw [wt_, if_pos (b2i_1.mp c84), ← ev, lN_add]
          · rw [va_up_ne _ _ e, hw c hc]
            by_cases q : c < i
            · rw [if_pos q, if_pos (by omega)]
            · rw [if_neg q, if_neg (by omega)]) (F.tr (Fr.set (by omega) (by omega)))
  · refine x_iload dX12_findWins_51 rfl ?_
    refine x_bipush (v := 8) dX12_findWins_53 (by decide) ?_
    refine x_icmp_ge_t 100 dX12_findWins_55 (by decide) (ge_t (N := 8) rfl (by decide)) ?_
    exact kk _ w _ hm1 (fun c hc => by rw [hw c hc, if_pos hc]) F
set_option maxRecDepth 10000 in
set_option maxHeartbeats 2000000 in
theorem fw32 {g : gG} {h : gH} {m : Nat} {V : VS} {s : Nat → Int32} {l : Nat → Int64} {A : Nat → Nat → Int32} {B : Nat → Nat → Int64} (hv : rpV V A) {b : Nat} (hb : b < 8) (hre : ∀ u, u < 2 ^ V.1 0 → A 12 u = nI (rea V u b 7)) {t0 : Int32} {t : Nat} (hof : ∀ p, p < V.1 0 → A 11 p = nI (ofc V t (heldS V (V.1 1)) p)) {Q : Option Value → gH → Prop} (hQ : ∀ h1 w, MM h1 m V s l A (va_up B 13 w) → (∀ c, c < 8 → w c = lN (wn V b t c (2 ^ V.1 0))) → Fr m 27 h h1 → Q none h1) : ∀ i, i ≤ 2 ^ V.1 0 → ∀ (x3 x5 : Option Value) h1 w, MM h1 m V s l A (va_up B 13 w) → (∀ c, c < 8 → w c = lN (wn V b t c i)) → Fr m 27 h h1 → Ex g mX12_findWins (gZm g mX12_findWins Q) 32 [some (.ref m), some (.int t0), some (.int (nI i)), x3, none, x5] [] h1 0 0 := by
  have ok8 : V.1 0 ≤ 8 := hv.1.1.1
  have ok4 : V.1 1 ≤ 4 := hv.1.1.2.1
  have okr : V.1 2 ≤ 4 := hv.1.1.2.2
  have t256 : V.1 3 < 256 := lt256 hv.1.2.1 hv.1.1.1
  have n8 := pw256 ok8
  have b8 := pow8 ok8
  refine lp_up (2 ^ V.1 0) (fun i hi ih x3 x5 h1 w hm1 hw F => ?_) (fun x3 x5 h1 w hm1 hw F => ?_)
  · refine x_iload_n dX12_findWins_32 rfl ?_
    refine x_iconst (v := 1) dX12_findWins_33 (by decide) ?_
    refine x_aload_n dX12_findWins_34 rfl ?_
    refine x_get fX12_97 hm1.1 rfl dX12_findWins_35 ?_
    refine x_ishl dX12_findWins_38 ?_
    refine x_icmp_ge_f 106 dX12_findWins_39 (by decide) (ge_f (N := 2 ^ V.1 0) (sh1 _ (by omega)) hi (by omega)) ?_
    refine x_aload_n dX12_findWins_42 rfl ?_
    refine x_iload_n dX12_findWins_43 rfl ?_
    refine x_rdV (c_X12_oftenOf (c := ofc V t (heldS V (V.1 1))) hm1 hv (fun p hp => ⟨hof p hp, ofc_le hv.1 hp⟩) (by omega)) hm1.1 lkX12_oftenOf sX12_305 dX12_findWins_44 rfl rfl (Nat.le_of_ble_eq_true rfl) (by decide) ⟨rfl, rfl, by decide, by decide⟩ ?_
    refine x_lst_3 dX12_findWins_47 (by decide) rfl ?_
    refine x_iconst (v := 0) dX12_findWins_48 (by decide) ?_
    refine x_ist_5 dX12_findWins_49 (by decide) rfl ?_
    refine fw51 (h := h) hv hb hre hi rfl (by have := cwt_le (c := ofc V t (heldS V (V.1 1))) (s := i) (V.1 0) (fun p hp => ofc_le hv.1 hp); omega) (fun h2 w2 w5 hm2 hw2 F2 => ?_) 0 (Nat.zero_le _) h1 w hm1 (fun c hc => by rw [hw c hc, if_neg (Nat.not_lt_zero c)]) F
    refine x_inc_2  dX12_findWins_100 (by decide) (nI_inc _) rfl ?_
    refine x_goto 32 dX12_findWins_103 (by decide) ?_
    exact ih _ _ _ _ hm2 hw2 F2
  · refine x_iload_n dX12_findWins_32 rfl ?_
    refine x_iconst (v := 1) dX12_findWins_33 (by decide) ?_
    refine x_aload_n dX12_findWins_34 rfl ?_
    refine x_get fX12_97 hm1.1 rfl dX12_findWins_35 ?_
    refine x_ishl dX12_findWins_38 ?_
    refine x_icmp_ge_t 106 dX12_findWins_39 (by decide) (ge_t (N := 2 ^ V.1 0) (sh1 _ (by omega)) (by omega)) ?_
    refine x_vret rfl dX12_findWins_106 ⟨by decide, by decide⟩ ?_
    exact hQ _ w hm1 hw F
set_option maxRecDepth 10000 in
set_option maxHeartbeats 2000000 in
theorem c_X12_findWins {g : gG} {h : gH} {m : Nat} {V : VS} {s : Nat → Int32} {l : Nat → Int64} {A : Nat → Nat → Int32} {B : Nat → Nat → Int64} (hm : MM h m V s l A B) (hv : rpV V A) {b : Nat} (hb : b < 8) (hre : ∀ u, u < 2 ^ V.1 0 → A 12 u = nI (rea V u b 7)) {t : Nat} (ht : t < 256) : Ct g mX12_findWins [.ref m, .int (nI t)] h none (fun h' => ∃ f w, MM h' m V s l (va_up A 11 f) (va_up B 13 w) ∧ (∀ c, c < 8 → w c = lN (wn V b t c (2 ^ V.1 0))) ∧ Fr m 27 h h') := by
  have mo := hm.1
  refine Cn.of (L := [some (.ref m), some (.int (nI t)), none, none, none, none]) (by decide) (Nat.le_of_ble_eq_true rfl) rfl ?_
  refine x_aload_n dX12_findWins_0 rfl ?_
  refine x_iload_n dX12_findWins_1 rfl ?_
  refine x_aload_n dX12_findWins_2 rfl ?_
  refine x_rdV (c_X12_heldSet hm hv) mo lkX12_heldSet sX12_274 dX12_findWins_3 rfl rfl (Nat.le_of_ble_eq_true rfl) (by decide) ⟨rfl, rfl, by decide, by decide⟩ ?_
  refine x_cnV (c_X12_findOften hm hv ht (lt256 (heldS_lt V hv.1 _ (Nat.le_refl _)) hv.1.1.1)) mo lkX12_findOften sX12_301 dX12_findWins_6 rfl rfl (Nat.le_of_ble_eq_true rfl) (by decide) ⟨rfl, rfl, by decide, by decide⟩ ?_
  rintro h1 ⟨f, hm1, hf, F1⟩
  refine x_iconst (v := 0) dX12_findWins_9 (by decide) ?_
  refine x_ist_2 dX12_findWins_10 (by decide) rfl ?_
  refine fw11 (h := h) (A := va_up A 11 f) (B := B) (fun h2 w hm2 hw F2 => ?_) 0 (Nat.zero_le _) h1 (B 13) (by rw [va_id]; exact hm1) (fun c hc => absurd hc (Nat.not_lt_zero c)) F1
  exact fw32 (h := h) (A := va_up A 11 f) (t := t) hv hb hre (fun p hp => by rw [va_up_self]; exact hf p hp) (fun h3 w3 hm3 hw3 F3 => ⟨rfl, f, w3, hm3, hw3, F3⟩) 0 (Nat.zero_le _) _ _ h2 w hm2 (fun c hc => hw c hc) F2
