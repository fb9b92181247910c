theorem gr_m {V : VS} {t S i : Nat} (hb : t.testBit i = true) : gr V t S (i + 1) = gr V t S i ||| ((if S.testBit (V.2.2 1 i) = true then 2 ^ V.2.2 2 i else 0) ||| (if S.testBit (V.2.2 2 i) = true then 2 ^ V.2.2 1 i else 0)) := by
  have sub : ∀ j, S.testBit j = true → (gr V t S i).testBit j = true := fun j q => (gr_bit V t S j i).mpr (.inl q)
  rw [gr]
  by_cases a : S.testBit (V.2.2 1 i) = true
  · rw [if_pos ⟨hb, .inl a⟩, if_pos a]
    by_cases b : S.testBit (V.2.2 2 i) = true
    · rw [if_pos b, Nat.or_comm (2 ^ V.2.2 1 i)]
    · rw [if_neg b]
      apply Nat.eq_of_testBit_eq
      intro j
      simp only [Nat.testBit_or, Nat.testBit_two_pow, Nat.zero_testBit, Bool.or_false]
      by_cases e : V.2.2 1 i = j
      · subst e; rw [sub _ a]; rfl
      · simp [e]
  · rw [if_neg a]
    by_cases b : S.testBit (V.2.2 2 i) = true
    · rw [if_pos ⟨hb, .inr b⟩, if_pos b]
      apply Nat.eq_of_testBit_eq
      intro j
      simp only [Nat.testBit_or, Nat.testBit_two_pow, Nat.zero_testBit, Bool.false_or]
      by_cases e : V.2.2 2 i = j
      · subst e; rw [sub _ b]; rfl
      · simp [e]
    · rw [if_neg (fun z => z.2.elim a b), if_neg b]; simp
set_option maxRecDepth 10000 in
set_option maxHeartbeats 2000000 in
theorem gw5 {g : gG} {h : gH} {m : Nat} {V : VS} {s : Nat → Int32} {l : Nat → Int64} {A : Nat → Nat → Int32} {B : Nat → Nat → Int64} (hm : MM h m V s l A B) (hv : rpV V A) {t S : Nat} (ht : t < 256) (hS : S < 256) : ∀ i, i ≤ V.1 0 → ∀ w5 w6 : Option Value, Ex g mX12_grown (gZm g mX12_grown (fun o h' => o = some (.int (nI (gr V t S (V.1 0)))) ∧ h' = h)) 5 [some (.ref m), some (.int (nI t)), some (.int (nI S)), some (.int (nI (gr V t S i))), some (.int (nI i)), w5, w6] [] h 0 0 := by
  have mo := hm.1
  have ok8 : V.1 0 ≤ 8 := hv.1.1.1
  have ok4 : V.1 1 ≤ 4 := hv.1.1.2.1
  have okr : V.1 2 ≤ 4 := hv.1.1.2.2
  have t256 : V.1 3 < 256 := lt256 hv.1.2.1 hv.1.1.1
  refine lp_up (V.1 0) (fun i hi ih w5 w6 => ?_) (fun w5 w6 => ?_)
  · have pp := hv.1.2.2.2.1 i hi
    refine x_iload dX12_grown_5 rfl ?_
    refine x_aload_n dX12_grown_7 rfl ?_
    refine x_get fX12_97 mo rfl dX12_grown_8 ?_
    refine x_icmp_ge_f 88 dX12_grown_11 (by decide) (ge_f (N := V.1 0) rfl hi (by omega)) ?_
    refine x_iload_n dX12_grown_14 rfl ?_
    refine x_iload dX12_grown_15 rfl ?_
    refine x_ishr dX12_grown_17 ?_
    refine x_iconst (v := 1) dX12_grown_18 (by decide) ?_
    refine x_iand dX12_grown_19 ?_
    rw [sr_bit t ht i (by omega)]
    refine x_iconst (v := 1) dX12_grown_20 (by decide) ?_
    refine x_icmp_ne 82 dX12_grown_21 (by decide) (fun c21 => ?_) (fun c21 => ?_)
    · refine x_inc_4  dX12_grown_82 (by decide) (nI_inc _) rfl ?_
      refine x_goto 5 dX12_grown_85 (by decide) ?_
      have E : gr V t S (i + 1) = gr V t S i := if_neg (fun z => c21 (b2i_t z.1))
      rw [E] at ih
      exact ih _ _
    · refine x_aload_n dX12_grown_24 rfl ?_
      refine x_iload dX12_grown_25 rfl ?_
      refine x_iconst (v := 1) dX12_grown_27 (by decide) ?_
      refine x_rdV (c_X12_its hm hv (f := 1) hi (by decide)) mo lkX12_its sX12_106 dX12_grown_28 rfl rfl (Nat.le_of_ble_eq_true rfl) (by decide) ⟨rfl, rfl, by decide, by decide⟩ ?_
      refine x_ist_5 dX12_grown_31 (by decide) rfl ?_
      refine x_aload_n dX12_grown_33 rfl ?_
      refine x_iload dX12_grown_34 rfl ?_
      refine x_iconst (v := 2) dX12_grown_36 (by decide) ?_
      refine x_rdV (c_X12_its hm hv (f := 2) hi (by decide)) mo lkX12_its sX12_106 dX12_grown_37 rfl rfl (Nat.le_of_ble_eq_true rfl) (by decide) ⟨rfl, rfl, by decide, by decide⟩ ?_
      refine x_ist_6 dX12_grown_40 (by decide) rfl ?_
      refine x_iload_n dX12_grown_42 rfl ?_
      refine x_iload_n dX12_grown_43 rfl ?_
      refine x_iload dX12_grown_44 rfl ?_
      refine x_ishr dX12_grown_46 ?_
      refine x_iconst (v := 1) dX12_grown_47 (by decide) ?_
      refine x_iand dX12_grown_48 ?_
      rw [sr_bit S hS _ pp.2.1]
      refine x_iconst (v := 1) dX12_grown_49 (by decide) ?_
      refine x_icmp_ne 60 dX12_grown_50 (by decide) (fun c50 => ?_) (fun c50 => ?_)
      · refine x_iconst (v := 0) dX12_grown_60 (by decide) ?_
        refine x_iload_n dX12_grown_61 rfl ?_
        refine x_iload dX12_grown_62 rfl ?_
        refine x_ishr dX12_grown_64 ?_
        refine x_iconst (v := 1) dX12_grown_65 (by decide) ?_
        refine x_iand dX12_grown_66 ?_
        rw [sr_bit S hS _ pp.2.2.1]
        refine x_iconst (v := 1) dX12_grown_67 (by decide) ?_
        refine x_icmp_ne 78 dX12_grown_68 (by decide) (fun c68 => ?_) (fun c68 => ?_)
        · refine x_iconst (v := 0) dX12_grown_78 (by decide) ?_
          refine x_ior dX12_grown_79 ?_
          refine x_ior dX12_grown_80 ?_
          refine x_ist_3 dX12_grown_81 (by decide) rfl ?_
          refine x_inc_4  dX12_grown_82 (by decide) (nI_inc _) rfl ?_
          refine x_goto 5 dX12_grown_85 (by decide) ?_
          have E : nI (gr V t S (i + 1)) = nI (gr V t S i) ||| (0 ||| 0) := by rw [gr_m (b2i_1.mp c21), if_neg (fun z => c50 (b2i_t z)), if_neg (fun z => c68 (b2i_t z)), ← fa_or, ← fa_or] <;> rfl
          rw [E] at ih
          exact ih _ _
        · refine x_iconst (v := 1) dX12_grown_71 (by decide) ?_
          refine x_iload dX12_grown_72 rfl ?_
          refine x_ishl dX12_grown_74 ?_
          rw [sh1 _ (by omega)]
          refine x_goto 79 dX12_grown_75 (by decide) ?_
          refine x_ior dX12_grown_79 ?_
          refine x_ior dX12_grown_80 ?_
          refine x_ist_3 dX12_grown_81 (by decide) rfl ?_
          refine x_inc_4  dX12_grown_82 (by decide) (nI_inc _) rfl ?_
          refine x_goto 5 dX12_grown_85 (by decide) ?_
          have E : nI (gr V t S (i + 1)) = nI (gr V t S i) ||| (0 ||| nI (2 ^ V.2.2 1 i)) := by rw [gr_m (b2i_1.mp c21), if_neg (fun z => c50 (b2i_t z)), if_pos (b2i_1.mp c68), ← fa_or, ← fa_or] <;> rfl
          rw [E] at ih
          exact ih _ _
      · refine x_iconst (v := 1) dX12_grown_53 (by decide) ?_
        refine x_iload dX12_grown_54 rfl ?_
        refine x_ishl dX12_grown_56 ?_
        rw [sh1 _ (by omega)]
        refine x_goto 61 dX12_grown_57 (by decide) ?_
        refine x_iload_n dX12_grown_61 rfl ?_
        refine x_iload dX12_grown_62 rfl ?_
        refine x_ishr dX12_grown_64 ?_
        refine x_iconst (v := 1) dX12_grown_65 (by decide) ?_
        refine x_iand dX12_grown_66 ?_
        rw [sr_bit S hS _ pp.2.2.1]
        refine x_iconst (v := 1) dX12_grown_67 (by decide) ?_
        refine x_icmp_ne 78 dX12_grown_68 (by decide) (fun c68 => ?_) (fun c68 => ?_)
        · refine x_iconst (v := 0) dX12_grown_78 (by decide) ?_
          refine x_ior dX12_grown_79 ?_
          refine x_ior dX12_grown_80 ?_
          refine x_ist_3 dX12_grown_81 (by decide) rfl ?_
          refine x_inc_4  dX12_grown_82 (by decide) (nI_inc _) rfl ?_
          refine x_goto 5 dX12_grown_85 (by decide) ?_
          have E : nI (gr V t S (i + 1)) = nI (gr V t S i) ||| (nI (2 ^ V.2.2 2 i) ||| 0) := by rw [gr_m (b2i_1.mp c21), if_pos (b2i_1.mp c50), if_neg (fun z => c68 (b2i_t z)), ← fa_or, ← fa_or] <;> rfl
          rw [E] at ih
          exact ih _ _
        · refine x_iconst (v := 1) dX12_grown_71 (by decide) ?_
          refine x_iload dX12_grown_72 rfl ?_
          refine x_ishl dX12_grown_74 ?_
          rw [sh1 _ (by omega)]
          refine x_goto 79 dX12_grown_75 (by decide) ?_
          refine x_ior dX12_grown_79 ?_
          refine x_ior dX12_grown_80 ?_
          refine x_ist_3 dX12_grown_81 (by decide) rfl ?_
          refine x_inc_4  dX12_grown_82 (by decide) (nI_inc _) rfl ?_
          refine x_goto 5 dX12_grown_85 (by decide) ?_
          have E : nI (gr V t S (i + 1)) = nI (gr V t S i) ||| (nI (2 ^ V.2.2 2 i) ||| nI (2 ^ V.2.2 1 i)) := by rw [gr_m (b2i_1.mp c21), if_pos (b2i_1.mp c50), if_pos (b2i_1.mp c68), ← fa_or, ← fa_or] <;> rfl
          rw [E] at ih
          exact ih _ _
  · refine x_iload dX12_grown_5 rfl ?_
    refine x_aload_n dX12_grown_7 rfl ?_
    refine x_get fX12_97 mo rfl dX12_grown_8 ?_
    refine x_icmp_ge_t 88 dX12_grown_11 (by decide) (ge_t (N := V.1 0) rfl (by omega)) ?_
    refine x_iload_n dX12_grown_88 rfl ?_
    refine x_iret rfl dX12_grown_89 ⟨by decide, by decide⟩ ?_
    exact ⟨rfl, rfl⟩
set_option maxRecDepth 10000 in
set_option maxHeartbeats 2000000 in
theorem c_X12_grown {g : gG} {h : gH} {m : Nat} {V : VS} {s : Nat → Int32} {l : Nat → Int64} {A : Nat → Nat → Int32} {B : Nat → Nat → Int64} (hm : MM h m V s l A B) (hv : rpV V A) {t S : Nat} (ht : t < 256) (hS : S < 256) : Rd g mX12_grown [.ref m, .int (nI t), .int (nI S)] h (.int (nI (gr V t S (V.1 0)))) := by
  refine Cn.of (L := [some (.ref m), some (.int (nI t)), some (.int (nI S)), none, none, none, none]) (by decide) (Nat.le_of_ble_eq_true rfl) rfl ?_
  refine x_iload_n dX12_grown_0 rfl ?_
  refine x_ist_3 dX12_grown_1 (by decide) rfl ?_
  refine x_iconst (v := 0) dX12_grown_2 (by decide) ?_
  refine x_ist_4 dX12_grown_3 (by decide) rfl ?_
  exact gw5 hm hv ht hS 0 (Nat.zero_le _) _ _
def wasR (V : VS) (t c : Nat) : Nat → Nat
  | 0 => 0
  | d + 1 => rea V t c d
theorem was_lt {V : VS} (hv : okV V) (t : Nat) {c : Nat} (hc : c < 8) : ∀ d, wasR V t c d < 256
  | 0 => (by decide : (0 : Nat) < 256)
  | d + 1 => rea_lt hv t hc d
theorem was_eq {V : VS} (hv : okV V) {t c d : Nat} (hc : c < 8) (h : rea V t c d = wasR V t c d) : 0 < d ∧ rea V t c d = rea V t c 7 ∧ ∀ j, d ≤ j + 1 → rea V t c j = rea V t c d := by
  cases d with
  | zero => exact absurd (h : 2 ^ c = 0) (Nat.ne_of_gt (Nat.two_pow_pos c))
  | succ k =>
    have h : rea V t c (k + 1) = rea V t c k := h
    refine ⟨Nat.succ_pos _, ?_, fun j hj => ?_⟩
    · rw [h]; exact rea_last hv hc h
    · obtain ⟨e, rfl⟩ : ∃ e, j = k + e := ⟨j - k, by omega⟩
      rw [rea_stop h e, h]
set_option maxRecDepth 10000 in
set_option maxHeartbeats 2000000 in
theorem rb7 {g : gG} {h : gH} {m : Nat} {V : VS} {s : Nat → Int32} {l : Nat → Int64} {A : Nat → Nat → Int32} {B : Nat → Nat → Int64} (hm : MM h m V s l A B) (hv : rpV V A) {t c : Nat} (ht : t < 256) (hc : c < 8) : ∀ d, d ≤ 8 → Ex g mX12_reachBy (gZm g mX12_reachBy (fun o h' => o = some (.int (nI (rea V t c 7))) ∧ h' = h)) 7 [some (.ref m), some (.int (nI t)), some (.int (nI c)), some (.int (nI (wasR V t c d))), some (.int (nI (rea V t c d)))] [] h 0 0 := by
  have mo := hm.1
  refine lp_up 8 (fun d hd ih => ?_) ?_
  · refine x_iload dX12_reachBy_7 rfl ?_
    refine x_iload_n dX12_reachBy_9 rfl ?_
    refine x_icmp_eq 27 dX12_reachBy_10 (by decide) (fun c10 => ?_) (fun c10 => ?_)
    · refine x_iload dX12_reachBy_27 rfl ?_
      refine x_iret rfl dX12_reachBy_29 ⟨by decide, by decide⟩ ?_
      have q := was_eq hv.1 hc (nI_eqn (by have := rea_lt hv.1 t hc d; omega) (by have := was_lt hv.1 t hc d; omega) c10)
      exact ⟨by rw [q.2.1], rfl⟩
    · refine x_iload dX12_reachBy_13 rfl ?_
      refine x_ist_3 dX12_reachBy_15 (by decide) rfl ?_
      refine x_aload_n dX12_reachBy_16 rfl ?_
      refine x_iload_n dX12_reachBy_17 rfl ?_
      refine x_iload_n dX12_reachBy_18 rfl ?_
      refine x_rdV (c_X12_grown hm hv ht (rea_lt hv.1 t hc d)) mo lkX12_grown sX12_286 dX12_reachBy_19 rfl rfl (Nat.le_of_ble_eq_true rfl) (by decide) ⟨rfl, rfl, by decide, by decide⟩ ?_
      refine x_ist_4 dX12_reachBy_22 (by decide) rfl ?_
      refine x_goto 7 dX12_reachBy_24 (by decide) ?_
      exact ih
  · refine x_iload dX12_reachBy_7 rfl ?_
    refine x_iload_n dX12_reachBy_9 rfl ?_
    refine x_icmp_eq_t 27 dX12_reachBy_10 (by decide) (show nI (rea V t c 8) = nI (wasR V t c 8) from congrArg nI (rea_7 hv.1 t hc 1)) ?_
    refine x_iload dX12_reachBy_27 rfl ?_
    refine x_iret rfl dX12_reachBy_29 ⟨by decide, by decide⟩ ?_
    exact ⟨by rw [show rea V t c 8 = rea V t c 7 from rea_7 hv.1 t hc 1], rfl⟩
set_option maxRecDepth 10000 in
set_option maxHeartbeats 2000000 in
theorem c_X12_reachBy {g : gG} {h : gH} {m : Nat} {V : VS} {s : Nat → Int32} {l : Nat → Int64} {A : Nat → Nat → Int32} {B : Nat → Nat → Int64} (hm : MM h m V s l A B) (hv : rpV V A) {t c : Nat} (ht : t < 256) (hc : c < 8) : Rd g mX12_reachBy [.ref m, .int (nI t), .int (nI c)] h (.int (nI (rea V t c 7))) := by
  refine Cn.of (L := [some (.ref m), some (.int (nI t)), some (.int (nI c)), none, none]) (by decide) (Nat.le_of_ble_eq_true rfl) rfl ?_
  refine x_iconst (v := 0) dX12_reachBy_0 (by decide) ?_
  refine x_ist_3 dX12_reachBy_1 (by decide) rfl ?_
  refine x_iconst (v := 1) dX12_reachBy_2 (by decide) ?_
  refine x_iload_n dX12_reachBy_3 rfl ?_
  refine x_ishl dX12_reachBy_4 ?_
  rw [sh1 c (by omega)]
  refine x_ist_4 dX12_reachBy_5 (by decide) rfl ?_
  exact rb7 hm hv ht hc 0 (Nat.zero_le _)
set_option maxRecDepth 10000 in
set_option maxHeartbeats 2000000 in
theorem wo10 {g : gG} {h : gH} {m : Nat} {V : VS} {s : Nat → Int32} {l : Nat → Int64} {A : Nat → Nat → Int32} {B : Nat → Nat → Int64} (hm : MM h m V s l A B) (hv : rpV V A) {a b : Nat} (ha : a < 8) (hb : b < 8) : ∀ d, d ≤ 8 → (∀ j, j < d → (rea V (V.1 3) a j).testBit b = false) → Ex g mX12_wayOf (gZm g mX12_wayOf (fun o h' => o = some (.int (dI (dist V (V.1 3) a b))) ∧ h' = h)) 10 [some (.ref m), some (.int (nI a)), some (.int (nI b)), some (.int (nI (wasR V (V.1 3) a d))), some (.int (nI (rea V (V.1 3) a d))), some (.int (nI d))] [] h 0 0 := by
  have mo := hm.1
  have ok8 : V.1 0 ≤ 8 := hv.1.1.1
  have ok4 : V.1 1 ≤ 4 := hv.1.1.2.1
  have okr : V.1 2 ≤ 4 := hv.1.1.2.2
  have t256 : V.1 3 < 256 := lt256 hv.1.2.1 hv.1.1.1
  refine lp_up 8 (fun d hd ih hb0 => ?_) (fun hb0 => ?_)
  · refine x_iload dX12_wayOf_10 rfl ?_
    refine x_iload_n dX12_wayOf_12 rfl ?_
    refine x_icmp_eq 49 dX12_wayOf_13 (by decide) (fun c13 => ?_) (fun c13 => ?_)
    · refine x_bipush (v := -3) dX12_wayOf_49 (by decide) ?_
      refine x_iret rfl dX12_wayOf_51 ⟨by decide, by decide⟩ ?_
      have q := was_eq hv.1 ha (nI_eqn (by have := rea_lt hv.1 (V.1 3) ha d; omega) (by have := was_lt hv.1 (V.1 3) ha d; omega) c13)
      have D : dist V (V.1 3) a b = 8 := first_no (fun j hj => by
        rcases Nat.lt_or_ge j d with z | z
        · exact hb0 j z
        · have e1 := q.2.2 j (by omega)
          have e2 := q.2.2 (d - 1) (by omega)
          show (rea V (V.1 3) a j).testBit b = false
          rw [e1, ← e2]
          exact hb0 (d - 1) (by omega))
      exact ⟨by rw [D] <;> rfl, rfl⟩
    · refine x_iload dX12_wayOf_16 rfl ?_
      refine x_iload_n dX12_wayOf_18 rfl ?_
      refine x_ishr dX12_wayOf_19 ?_
      refine x_iconst (v := 1) dX12_wayOf_20 (by decide) ?_
      refine x_iand dX12_wayOf_21 ?_
      rw [sr_bit _ (rea_lt hv.1 (V.1 3) ha d) b hb]
      refine x_iconst (v := 1) dX12_wayOf_22 (by decide) ?_
      refine x_icmp_ne 29 dX12_wayOf_23 (by decide) (fun c23 => ?_) (fun c23 => ?_)
      · refine x_iload dX12_wayOf_29 rfl ?_
        refine x_ist_3 dX12_wayOf_31 (by decide) rfl ?_
        refine x_aload_n dX12_wayOf_32 rfl ?_
        refine x_aload_n dX12_wayOf_33 rfl ?_
        refine x_get fX12_103 mo rfl dX12_wayOf_34 ?_
        refine x_iload_n dX12_wayOf_37 rfl ?_
        refine x_rdV (c_X12_grown hm hv t256 (rea_lt hv.1 (V.1 3) ha d)) mo lkX12_grown sX12_286 dX12_wayOf_38 rfl rfl (Nat.le_of_ble_eq_true rfl) (by decide) ⟨rfl, rfl, by decide, by decide⟩ ?_
        refine x_ist_4 dX12_wayOf_41 (by decide) rfl ?_
        refine x_inc_5  dX12_wayOf_43 (by decide) (nI_inc _) rfl ?_
        refine x_goto 10 dX12_wayOf_46 (by decide) ?_
        exact ih (fun j hj => by
          rcases Nat.lt_or_ge j d with z | z
          · exact hb0 j z
          · rw [show j = d by omega]; exact Bool.eq_false_iff.mpr (fun y => c23 (b2i_t y)))
      · refine x_iload dX12_wayOf_26 rfl ?_
        refine x_iret rfl dX12_wayOf_28 ⟨by decide, by decide⟩ ?_
        have D : dist V (V.1 3) a b = d := first_is hd (b2i_1.mp c23) hb0
        exact ⟨by rw [D, dI, if_pos hd], rfl⟩
  · refine x_iload dX12_wayOf_10 rfl ?_
    refine x_iload_n dX12_wayOf_12 rfl ?_
    refine x_icmp_eq_t 49 dX12_wayOf_13 (by decide) (show nI (rea V (V.1 3) a 8) = nI (wasR V (V.1 3) a 8) from congrArg nI (rea_7 hv.1 (V.1 3) ha 1)) ?_
    refine x_bipush (v := -3) dX12_wayOf_49 (by decide) ?_
    refine x_iret rfl dX12_wayOf_51 ⟨by decide, by decide⟩ ?_
    have D : dist V (V.1 3) a b = 8 := first_no hb0
    exact ⟨by rw [D] <;> rfl, rfl⟩
set_option maxRecDepth 10000 in
set_option maxHeartbeats 2000000 in
theorem c_X12_wayOf {g : gG} {h : gH} {m : Nat} {V : VS} {s : Nat → Int32} {l : Nat → Int64} {A : Nat → Nat → Int32} {B : Nat → Nat → Int64} (hm : MM h m V s l A B) (hv : rpV V A) {a b : Nat} (ha : a < 8) (hb : b < 8) : Rd g mX12_wayOf [.ref m, .int (nI a), .int (nI b)] h (.int (dI (dist V (V.1 3) a b))) := by
  refine Cn.of (L := [some (.ref m), some (.int (nI a)), some (.int (nI b)), none, none, none]) (by decide) (Nat.le_of_ble_eq_true rfl) rfl ?_
  refine x_iconst (v := 0) dX12_wayOf_0 (by decide) ?_
  refine x_ist_3 dX12_wayOf_1 (by decide) rfl ?_
  refine x_iconst (v := 1) dX12_wayOf_2 (by decide) ?_
  refine x_iload_n dX12_wayOf_3 rfl ?_
  refine x_ishl dX12_wayOf_4 ?_
  rw [sh1 a (by omega)]
  refine x_ist_4 dX12_wayOf_5 (by decide) rfl ?_
  refine x_iconst (v := 0) dX12_wayOf_7 (by decide) ?_
  refine x_ist_5 dX12_wayOf_8 (by decide) rfl ?_
  exact wo10 hm hv ha hb 0 (Nat.zero_le _) (fun j hj => absurd hj (Nat.not_lt_zero j))
set_option maxRecDepth 10000 in
set_option maxHeartbeats 2000000 in
theorem c_X12_way {g : gG} {h : gH} {m : Nat} {S : AS} (hn : isN h m S) {a b : Int32} : Rd g mX12_way [.ref m, .int a, .int b] h (.int (qWay S.1 a b)) := by
  obtain ⟨hz, s, l, A, B, hm, hv, hr⟩ := id hn
  have mo := hm.1
  have ok8 : S.1.1 0 ≤ 8 := hv.1.1.1
  have ok4 : S.1.1 1 ≤ 4 := hv.1.1.2.1
  have okr : S.1.1 2 ≤ 4 := hv.1.1.2.2
  have t256 : S.1.1 3 < 256 := lt256 hv.1.2.1 hv.1.1.1
  refine Cn.of (L := [some (.ref m), some (.int a), some (.int b)]) (by decide) (Nat.le_of_ble_eq_true rfl) rfl ?_
  refine x_iload_n dX12_way_0 rfl ?_
  refine x_rdS c_X12_isClearing lkX12_isClearing sX12_233 dX12_way_1 rfl rfl (Nat.le_of_ble_eq_true rfl) (by decide) ⟨rfl, rfl, by decide, by decide⟩ ?_
  refine x_if_eqB 23 dX12_way_4 (by decide) (fun c4 => ?_) (fun c4 => ?_)
  · refine x_iconst (v := -1) dX12_way_23 (by decide) ?_
    refine x_iret rfl dX12_way_24 ⟨by decide, by decide⟩ ?_
    exact ⟨by rw [qWay, if_neg (fun z => c4 z.1)] <;> rfl, rfl⟩
  · refine x_iload_n dX12_way_7 rfl ?_
    refine x_rdS c_X12_isClearing lkX12_isClearing sX12_233 dX12_way_8 rfl rfl (Nat.le_of_ble_eq_true rfl) (by decide) ⟨rfl, rfl, by decide, by decide⟩ ?_
    refine x_if_eqB 23 dX12_way_11 (by decide) (fun c11 => ?_) (fun c11 => ?_)
    · refine x_iconst (v := -1) dX12_way_23 (by decide) ?_
      refine x_iret rfl dX12_way_24 ⟨by decide, by decide⟩ ?_
      exact ⟨by rw [qWay, if_neg (fun z => c11 z.2)] <;> rfl, rfl⟩
    · obtain ⟨a1, ha, rfl⟩ := bl_E (b := 8) c4 (by decide)
      obtain ⟨b1, hb, rfl⟩ := bl_E (b := 8) c11 (by decide)
      refine x_aload_n dX12_way_14 rfl ?_
      refine x_iload_n dX12_way_15 rfl ?_
      refine x_iload_n dX12_way_16 rfl ?_
      refine x_rdV (c_X12_wayOf hm hv ha hb) mo lkX12_wayOf sX12_289 dX12_way_17 rfl rfl (Nat.le_of_ble_eq_true rfl) (by decide) ⟨rfl, rfl, by decide, by decide⟩ ?_
      refine x_goto 24 dX12_way_20 (by decide) ?_
      refine x_iret rfl dX12_way_24 ⟨by decide, by decide⟩ ?_
      exact ⟨by rw [qWay, if_pos ⟨c4, c11⟩, iN_nI (by omega), iN_nI (by omega)] <;> rfl, rfl⟩
set_option maxRecDepth 10000 in
set_option maxHeartbeats 2000000 in
theorem c_X12_reach {g : gG} {h : gH} {m : Nat} {S : AS} (hn : isN h m S) {a : Int32} : Rd g mX12_reach [.ref m, .int a] h (.int (qReach S.1 a)) := by
  obtain ⟨hz, s, l, A, B, hm, hv, hr⟩ := id hn
  have mo := hm.1
  have ok8 : S.1.1 0 ≤ 8 := hv.1.1.1
  have ok4 : S.1.1 1 ≤ 4 := hv.1.1.2.1
  have okr : S.1.1 2 ≤ 4 := hv.1.1.2.2
  have t256 : S.1.1 3 < 256 := lt256 hv.1.2.1 hv.1.1.1
  refine Cn.of (L := [some (.ref m), some (.int a)]) (by decide) (Nat.le_of_ble_eq_true rfl) rfl ?_
  refine x_iload_n dX12_reach_0 rfl ?_
  refine x_rdS c_X12_isClearing lkX12_isClearing sX12_233 dX12_reach_1 rfl rfl (Nat.le_of_ble_eq_true rfl) (by decide) ⟨rfl, rfl, by decide, by decide⟩ ?_
  refine x_if_eqB 19 dX12_reach_4 (by decide) (fun c4 => ?_) (fun c4 => ?_)
  · refine x_iconst (v := -1) dX12_reach_19 (by decide) ?_
    refine x_iret rfl dX12_reach_20 ⟨by decide, by decide⟩ ?_
    exact ⟨by rw [qReach, if_neg c4] <;> rfl, rfl⟩
  · obtain ⟨a1, ha, rfl⟩ := bl_E (b := 8) c4 (by decide)
    refine x_aload_n dX12_reach_7 rfl ?_
    refine x_aload_n dX12_reach_8 rfl ?_
    refine x_get fX12_103 mo rfl dX12_reach_9 ?_
    refine x_iload_n dX12_reach_12 rfl ?_
    refine x_rdV (c_X12_reachBy hm hv t256 ha) mo lkX12_reachBy sX12_292 dX12_reach_13 rfl rfl (Nat.le_of_ble_eq_true rfl) (by decide) ⟨rfl, rfl, by decide, by decide⟩ ?_
    refine x_goto 20 dX12_reach_16 (by decide) ?_
    refine x_iret rfl dX12_reach_20 ⟨by decide, by decide⟩ ?_
    exact ⟨by rw [qReach, if_pos c4, iN_nI (by omega)] <;> rfl, rfl⟩
