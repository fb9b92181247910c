section fnm
variable {h h' : gH} {m : Nat} {S : AS}
theorem isN.rf (hn : isN h m S) : Pn m S h h := ⟨hn, Fr.rf⟩
theorem fnV {r : Int32 × VS} {v : Int32} (hn : isN h m S) (E : r = (v, S.1)) : some (Value.int v) = some (.int r.1) ∧ Pn m (r.2, S.2) h h := by rw [E]; exact ⟨rfl, hn.rf⟩
theorem fnM {r : Int32 × VS} {v : Int32} {V' : VS} {s : Nat → Int32} {l : Nat → Int64} {A : Nat → Nat → Int32} {B : Nat → Nat → Int64} (hz : m + 27 ≤ h.2) (hm : MM h' m V' s l A B) (hv : rpV V' A) (hr : rpO S s A B) (hf : Fr m 27 h h') (E : r = (v, V')) : some (Value.int v) = some (.int r.1) ∧ Pn m (r.2, S.2) h h' := by
  rw [E]
  exact ⟨rfl, ⟨by rw [hf.1]; exact hz, s, l, A, B, hm, hv, hr⟩, hf⟩
theorem fnA {r : Int32 × AS} {v : Int32} {S' : AS} (hp : Pn m S' h h') (E : r = (v, S')) : some (Value.int v) = some (.int r.1) ∧ Pn m r.2 h h' := by rw [E]; exact ⟨rfl, hp⟩
theorem isN.of {s : Nat → Int32} {l : Nat → Int64} {A : Nat → Nat → Int32} {B : Nat → Nat → Int64} (hz : m + 27 ≤ h.2) (hm : MM h' m S.1 s l A B) (hv : rpV S.1 A) (hr : rpO S s A B) (hf : Fr m 27 h h') : Pn m S h h' := ⟨⟨by rw [hf.1]; exact hz, s, l, A, B, hm, hv, hr⟩, hf⟩
end fnm
theorem rp_mv {V : VS} {A A' : Nat → Nat → Int32} {u q : Nat} (hv : rpV V A) (hok : okV (mv V u q)) (e0 : A' 0 = A 0) (e3 : A' 3 = A 3) (e4 : A' 4 = A 4) (e5 : A' 5 = A 5) (h1 : (q < 8 → A' 1 u = nI q) ∧ ∀ w, w ≠ u → A' 1 w = A 1 w) (h2 : A' 2 u = onM q ∧ ∀ w, w ≠ u → A' 2 w = A 2 w) : rpV (mv V u q) A' := by
  refine ⟨hok, fun f p hf hp => ?_, fun w hw => ?_, fun c hc => ?_, fun r hr => ?_⟩
  · rw [e0]; simp only [mv]; rw [va_up_ne _ _ (by omega)]; exact hv.2.1 f p hf hp
  · simp only [mv, va_up_self]
    rw [e3, va_up_ne _ _ (show (6 : Nat) ≠ 5 by decide)]
    have old := hv.2.2.1 w hw
    by_cases e : w = u
    · subst e; rw [va_up_self]; exact ⟨h1.1, h2.1, old.2.2⟩
    · rw [va_up_ne _ _ e, h1.2 w e, h2.2 w e]; exact old
  · rw [e4]; simp only [mv]; rw [va_up_ne _ _ (show (7 : Nat) ≠ 5 by decide)]; exact hv.2.2.2.1 c hc
  · rw [e5]; simp only [mv]; rw [va_up_ne _ _ (show (8 : Nat) ≠ 5 by decide), va_up_ne _ _ (show (9 : Nat) ≠ 5 by decide)]; exact hv.2.2.2.2 r hr
set_option maxRecDepth 10000 in
set_option maxHeartbeats 2000000 in
theorem c_X12_pathOf {g : gG} {h : gH} {m : Nat} {S : AS} (hn : isN h m S) {p w : Int32} : Rd g mX12_pathOf [.ref m, .int p, .int w] h (.int (qPathOf S.1 p w)) := by
  obtain ⟨hz, s, l, A, B, hm, hv, hr⟩ := id hn
  have mo := hm.1
  have ok8 : S.1.1 0 ≤ 8 := hv.1.1.1
  have ok4 : S.1.1 1 ≤ 4 := hv.1.1.2.1
  have okr : S.1.1 2 ≤ 4 := hv.1.1.2.2
  have t256 : S.1.1 3 < 256 := lt256 hv.1.2.1 hv.1.1.1
  refine Cn.of (L := [some (.ref m), some (.int p), some (.int w)]) (by decide) (Nat.le_of_ble_eq_true rfl) rfl ?_
  refine x_aload_n dX12_pathOf_0 rfl ?_
  refine x_iload_n dX12_pathOf_1 rfl ?_
  refine x_rdV (c_X12_isPath hm hv) mo lkX12_isPath sX12_246 dX12_pathOf_2 rfl rfl (Nat.le_of_ble_eq_true rfl) (by decide) ⟨rfl, rfl, by decide, by decide⟩ ?_
  refine x_if_eqB 18 dX12_pathOf_5 (by decide) (fun c5 => ?_) (fun c5 => ?_)
  · refine x_iconst (v := -1) dX12_pathOf_18 (by decide) ?_
    refine x_iret rfl dX12_pathOf_19 ⟨by decide, by decide⟩ ?_
    exact ⟨by rw [qPathOf, if_neg c5] <;> rfl, rfl⟩
  · refine x_iload_n dX12_pathOf_8 rfl ?_
    refine x_iconst (v := 0) dX12_pathOf_9 (by decide) ?_
    refine x_bipush (v := 8) dX12_pathOf_10 (by decide) ?_
    refine x_rdS mc_in lkX12_in sX12_93 dX12_pathOf_12 rfl rfl (Nat.le_of_ble_eq_true rfl) (by decide) ⟨rfl, rfl, by decide, by decide⟩ ?_
    refine x_if_neB 20 dX12_pathOf_15 (by decide) (fun c15 => ?_) (fun c15 => ?_)
    · obtain ⟨p1, hp, rfl⟩ := bl_E c5 (by omega)
      have hp8 : p1 < 8 := by omega
      refine x_iload_n dX12_pathOf_20 rfl ?_
      refine swX12_pathOf_21 (fun c21 => ?_) (fun c21 => ?_) (fun c21 => ?_) (fun c21 => ?_) (fun c21_5 c21_6 c21_7 c21_8 => ?_)
      · refine x_aload_n dX12_pathOf_52 rfl ?_
        refine x_get fX12_103 mo rfl dX12_pathOf_53 ?_
        refine x_iload_n dX12_pathOf_56 rfl ?_
        refine x_ishr dX12_pathOf_57 ?_
        refine x_iconst (v := 1) dX12_pathOf_58 (by decide) ?_
        refine x_iand dX12_pathOf_59 ?_
        rw [sr_bit _ t256 p1 hp8]
        refine x_iret rfl dX12_pathOf_60 ⟨by decide, by decide⟩ ?_
        exact ⟨by rw [c21, qPathOf, if_pos c5, iN_nI (by omega)] <;> rfl, rfl⟩
      · refine x_aload_n dX12_pathOf_61 rfl ?_
        refine x_iload_n dX12_pathOf_62 rfl ?_
        refine x_rdV (c_X12_staysOf hm hv hp) mo lkX12_staysOf sX12_249 dX12_pathOf_63 rfl rfl (Nat.le_of_ble_eq_true rfl) (by decide) ⟨rfl, rfl, by decide, by decide⟩ ?_
        refine x_iret rfl dX12_pathOf_66 ⟨by decide, by decide⟩ ?_
        exact ⟨by rw [c21, qPathOf, if_pos c5, iN_nI (by omega)] <;> rfl, rfl⟩
      · refine x_aload_n dX12_pathOf_67 rfl ?_
        refine x_iload_n dX12_pathOf_68 rfl ?_
        refine x_rdV (c_X12_comesOf hm hv hp) mo lkX12_comesOf sX12_252 dX12_pathOf_69 rfl rfl (Nat.le_of_ble_eq_true rfl) (by decide) ⟨rfl, rfl, by decide, by decide⟩ ?_
        refine x_iret rfl dX12_pathOf_72 ⟨by decide, by decide⟩ ?_
        exact ⟨by rw [c21, qPathOf, if_pos c5, iN_nI (by omega)] <;> rfl, rfl⟩
      · refine x_aload_n dX12_pathOf_73 rfl ?_
        refine x_iload_n dX12_pathOf_74 rfl ?_
        refine x_rdV (c_X12_onWhich hm hv hp8) mo lkX12_onWhich sX12_255 dX12_pathOf_75 rfl rfl (Nat.le_of_ble_eq_true rfl) (by decide) ⟨rfl, rfl, by decide, by decide⟩ ?_
        refine x_iret rfl dX12_pathOf_78 ⟨by decide, by decide⟩ ?_
        exact ⟨by rw [c21, qPathOf, if_pos c5, iN_nI (by omega)] <;> rfl, rfl⟩
      · have u8 := (ut_E (b := 8) c15 (by decide))
        obtain ⟨w1, hw1, rfl⟩ := u8
        have hw5 : w1 < 5 := by
          have n5 : ¬ w1 = 5 := fun z => c21_5 (by rw [z]; rfl)
          have n6 : ¬ w1 = 6 := fun z => c21_6 (by rw [z]; rfl)
          have n7 : ¬ w1 = 7 := fun z => c21_7 (by rw [z]; rfl)
          have n8 : ¬ w1 = 8 := fun z => c21_8 (by rw [z]; rfl)
          omega
        refine x_aload_n dX12_pathOf_79 rfl ?_
        refine x_iload_n dX12_pathOf_80 rfl ?_
        refine x_iload_n dX12_pathOf_81 rfl ?_
        refine x_rdV (c_X12_its hm hv hp hw5) mo lkX12_its sX12_106 dX12_pathOf_82 rfl rfl (Nat.le_of_ble_eq_true rfl) (by decide) ⟨rfl, rfl, by decide, by decide⟩ ?_
        refine x_iret rfl dX12_pathOf_85 ⟨by decide, by decide⟩ ?_
        rcases w1 with _ | _ | _ | _ | _ | w1
        · exact ⟨by rw [qPathOf, if_pos c5, iN_nI (by omega)] <;> rfl, rfl⟩
        · exact ⟨by rw [qPathOf, if_pos c5, iN_nI (by omega)] <;> rfl, rfl⟩
        · exact ⟨by rw [qPathOf, if_pos c5, iN_nI (by omega)] <;> rfl, rfl⟩
        · exact ⟨by rw [qPathOf, if_pos c5, iN_nI (by omega)] <;> rfl, rfl⟩
        · exact ⟨by rw [qPathOf, if_pos c5, iN_nI (by omega)] <;> rfl, rfl⟩
        · omega
    · refine x_iconst (v := -1) dX12_pathOf_18 (by decide) ?_
      refine x_iret rfl dX12_pathOf_19 ⟨by decide, by decide⟩ ?_
      exact ⟨by rw [qPathOf, if_pos c5, if_neg (show ¬ w = 0 from fun z => c15 (by rw [z]; decide)), if_neg (show ¬ w = 1 from fun z => c15 (by rw [z]; decide)), if_neg (show ¬ w = 2 from fun z => c15 (by rw [z]; decide)), if_neg (show ¬ w = 3 from fun z => c15 (by rw [z]; decide)), if_neg (show ¬ w = 4 from fun z => c15 (by rw [z]; decide)), if_neg (show ¬ w = 5 from fun z => c15 (by rw [z]; decide)), if_neg (show ¬ w = 6 from fun z => c15 (by rw [z]; decide)), if_neg (show ¬ w = 7 from fun z => c15 (by rw [z]; decide)), if_neg (show ¬ w = 8 from fun z => c15 (by rw [z]; decide))] <;> rfl, rfl⟩
theorem xo_bit : ∀ x, x < 256 → ∀ k, k < 8 → (x.testBit k = false → nI x ^^^ nI (2 ^ k) = nI (x ||| 2 ^ k)) ∧ (x.testBit k = true → nI x ^^^ nI (2 ^ k) = nI (clr x k)) := by decide +kernel
theorem or_id : ∀ x, x < 256 → ∀ k, k < 8 → x.testBit k = true → x ||| 2 ^ k = x := by decide +kernel
theorem stT_id {V : VS} {k : Nat} {b : Bool} (hx : V.1 3 < 256) (hk : k < 8) (h : (V.1 3).testBit k = b) : stT V k b = V := by
  have e : (if b then V.1 3 ||| 2 ^ k else clr (V.1 3) k) = V.1 3 := by
    cases b
    · rw [if_neg (by decide), clr, if_neg (by rw [h]; decide)]
    · rw [if_pos rfl, or_id _ hx k hk h]
  have e2 : va_up V.1 3 (V.1 3) = V.1 := by funext j; unfold va_up; split <;> simp_all
  rw [stT, e, e2]
theorem rp_st {V : VS} {A : Nat → Nat → Int32} {k : Nat} {b : Bool} (hv : rpV V A) (hok : okV (stT V k b)) : rpV (stT V k b) A := ⟨hok, hv.2.1, hv.2.2.1, hv.2.2.2.1, hv.2.2.2.2⟩
theorem b2i_bb {a b : Bool} : b2i (a = true) = b2i (b = true) ↔ a = b := by cases a <;> cases b <;> decide
set_option maxRecDepth 10000 in
set_option maxHeartbeats 2000000 in
theorem c_X12_open {g : gG} {h : gH} {m : Nat} {S : AS} (hn : isN h m S) {p : Int32} {b : Bool} : Ct g mX12_open [.ref m, .int p, .int (b2i (b = true))] h (some (.int (oOpen S.1 p b).1)) (Pn m ((oOpen S.1 p b).2, S.2) h) := by
  obtain ⟨hz, s, l, A, B, hm, hv, hr⟩ := id hn
  have mo := hm.1
  have ok8 : S.1.1 0 ≤ 8 := hv.1.1.1
  have ok4 : S.1.1 1 ≤ 4 := hv.1.1.2.1
  have okr : S.1.1 2 ≤ 4 := hv.1.1.2.2
  have t256 : S.1.1 3 < 256 := lt256 hv.1.2.1 hv.1.1.1
  refine Cn.of (L := [some (.ref m), some (.int p), some (.int (b2i (b = true)))]) (by decide) (Nat.le_of_ble_eq_true rfl) rfl ?_
  refine x_aload_n dX12_open_0 rfl ?_
  refine x_iload_n dX12_open_1 rfl ?_
  refine x_rdV (c_X12_isPath hm hv) mo lkX12_isPath sX12_246 dX12_open_2 rfl rfl (Nat.le_of_ble_eq_true rfl) (by decide) ⟨rfl, rfl, by decide, by decide⟩ ?_
  refine x_if_neB 10 dX12_open_5 (by decide) (fun c5 => ?_) (fun c5 => ?_)
  · obtain ⟨p1, hp, rfl⟩ := bl_E c5 (by omega)
    have hp8 : p1 < 8 := by omega
    have oz : nI (onS S.1 p1 (S.1.1 1)) = 0 ↔ onS S.1 p1 (S.1.1 1) = 0 := nI_z (Nat.lt_of_lt_of_le (onS_lt S.1 p1 (S.1.1 1)) (Nat.pow_le_pow_right (by decide) (by omega)))
    refine x_aload_n dX12_open_10 rfl ?_
    refine x_iload_n dX12_open_11 rfl ?_
    refine x_rdV (c_X12_onWhich hm hv hp8) mo lkX12_onWhich sX12_255 dX12_open_12 rfl rfl (Nat.le_of_ble_eq_true rfl) (by decide) ⟨rfl, rfl, by decide, by decide⟩ ?_
    refine x_if_eq 21 dX12_open_15 (by decide) (fun c15 => ?_) (fun c15 => ?_)
    · refine x_aload_n dX12_open_21 rfl ?_
      refine x_iload_n dX12_open_22 rfl ?_
      refine x_rdV (c_X12_isThere hm hv hp8) mo lkX12_isThere sX12_258 dX12_open_23 rfl rfl (Nat.le_of_ble_eq_true rfl) (by decide) ⟨rfl, rfl, by decide, by decide⟩ ?_
      refine x_iload_n dX12_open_26 rfl ?_
      refine x_icmp_ne 32 dX12_open_27 (by decide) (fun c27 => ?_) (fun c27 => ?_)
      · refine x_aload_n dX12_open_32 rfl ?_
        refine x_dup dX12_open_33 rfl ?_
        refine x_get fX12_103 mo rfl dX12_open_34 ?_
        refine x_iconst (v := 1) dX12_open_37 (by decide) ?_
        refine x_iload_n dX12_open_38 rfl ?_
        refine x_ishl dX12_open_39 ?_
        rw [sh1 p1 (by omega)]
        refine x_ixor dX12_open_40 ?_
        have nb : ¬ (S.1.1 3).testBit p1 = b := fun z => c27 (b2i_bb.mpr z)
        have E : nI (S.1.1 3) ^^^ nI (2 ^ p1) = nI ((stT S.1 p1 b).1 3) := by
          cases b
          · exact (xo_bit _ t256 p1 hp8).2 (by simpa using nb)
          · exact (xo_bit _ t256 p1 hp8).1 (by simpa using nb)
        rw [E]
        refine x_put (fs' := mF m (stT S.1 p1 b) s l) fX12_103 mo (Nat.le_of_ble_eq_true rfl) rfl rfl rfl dX12_open_41 ?_
        refine x_iconst (v := 1) dX12_open_44 (by decide) ?_
        refine x_iret rfl dX12_open_45 ⟨by decide, by decide⟩ ?_
        refine fnM hz hm.num (rp_st hv (stT_ok hv.1 hp (fun _ => oz.mp c15))) hr (Fr.set (by omega) (by omega)) ?_
        (rw [oOpen, if_pos c5, iN_nI (by omega), if_pos (oz.mp c15), b2i_t nb]) <;> rfl
      · refine x_iconst (v := 0) dX12_open_30 (by decide) ?_
        refine x_iret rfl dX12_open_31 ⟨by decide, by decide⟩ ?_
        have eb := b2i_bb.mp c27
        exact fnV hn (by rw [oOpen, if_pos c5, iN_nI (by omega), if_pos (oz.mp c15), stT_id t256 hp8 eb, b2i_f (fun z => z eb)] <;> rfl)
    · refine x_bipush (v := -4) dX12_open_18 (by decide) ?_
      refine x_iret rfl dX12_open_20 ⟨by decide, by decide⟩ ?_
      exact fnV hn (by rw [oOpen, if_pos c5, iN_nI (by omega), if_neg (fun z => c15 (oz.mpr z))] <;> rfl)
  · refine x_iconst (v := -1) dX12_open_8 (by decide) ?_
    refine x_iret rfl dX12_open_9 ⟨by decide, by decide⟩ ?_
    exact fnV hn (by simp only [oOpen, c5, eq_self, Bool.false_eq_true, reduceCtorEq, and_true, true_and, and_false, false_and, not_true_eq_false, not_false_eq_true, if_true, if_false, ne_eq, or_true, true_or, or_false, false_or])
set_option maxRecDepth 10000 in
set_option maxHeartbeats 2000000 in
theorem c_X12_rain {g : gG} {h : gH} {m : Nat} {S : AS} (hn : isN h m S) {b : Bool} : Ct g mX12_rain [.ref m, .int (b2i (b = true))] h (some (.int (oRain S.1 b).1)) (Pn m ((oRain S.1 b).2, S.2) h) := by
  obtain ⟨hz, s, l, A, B, hm, hv, hr⟩ := id hn
  have mo := hm.1
  have ok8 : S.1.1 0 ≤ 8 := hv.1.1.1
  have ok4 : S.1.1 1 ≤ 4 := hv.1.1.2.1
  have okr : S.1.1 2 ≤ 4 := hv.1.1.2.2
  have t256 : S.1.1 3 < 256 := lt256 hv.1.2.1 hv.1.1.1
  have r1 : S.1.1 4 ≤ 1 := hv.1.2.2.1
  have eb : b2i (b = true) = nI (bN b) := by cases b <;> rfl
  have nb : narrow .boolean (.int (nI (bN b))) = .int (nI (bN b)) := by cases b <;> rfl
  have e4 : nI (S.1.1 4) = nI (bN b) ↔ S.1.1 4 = bN b := nI_eq (by omega) (by cases b <;> decide)
  have rv : rpV (va_up S.1.1 4 (bN b), S.1.2) A := ⟨⟨hv.1.1, hv.1.2.1, (by cases b <;> decide : bN b ≤ 1), hv.1.2.2.2⟩, hv.2⟩
  refine Cn.of (L := [some (.ref m), some (.int (b2i (b = true))), none]) (by decide) (Nat.le_of_ble_eq_true rfl) rfl ?_
  refine x_aload_n dX12_rain_0 rfl ?_
  refine x_get fX12_224 mo rfl dX12_rain_1 ?_
  refine x_ist_2 dX12_rain_4 (by decide) rfl ?_
  refine x_aload_n dX12_rain_5 rfl ?_
  refine x_iload_n dX12_rain_6 rfl ?_
  rw [eb]
  refine x_put (fs' := mF m (va_up S.1.1 4 (bN b), S.1.2) s l) fX12_224 mo (Nat.le_of_ble_eq_true rfl) nb (by cases b <;> rfl) rfl dX12_rain_7 ?_
  refine x_iload_n dX12_rain_10 rfl ?_
  refine x_iload_n dX12_rain_11 rfl ?_
  refine x_icmp_ne 19 dX12_rain_12 (by decide) (fun c12 => ?_) (fun c12 => ?_)
  · refine x_iconst (v := 1) dX12_rain_19 (by decide) ?_
    refine x_iret rfl dX12_rain_20 ⟨by decide, by decide⟩ ?_
    refine fnM hz hm.num rv hr (Fr.set (by omega) (by omega)) ?_
    (rw [oRain, b2i_t (show ¬ S.1.1 4 = bN b from fun z => c12 (e4.mpr z))]) <;> rfl
  · refine x_iconst (v := 0) dX12_rain_15 (by decide) ?_
    refine x_goto 20 dX12_rain_16 (by decide) ?_
    refine x_iret rfl dX12_rain_20 ⟨by decide, by decide⟩ ?_
    refine fnM hz hm.num rv hr (Fr.set (by omega) (by omega)) ?_
    (rw [oRain, b2i_f (fun z => z (e4.mp c12))]) <;> rfl
theorem rp_wg {V : VS} {A : Nat → Nat → Int32} {c v : Nat} (hv : rpV V A) (h9 : v ≤ 9) : rpV (wgV V c v) (va_up A 4 (va_up (A 4) c (nI v))) := by
  refine ⟨wgV_ok hv.1 h9, fun f p hf hp => ?_, fun w hw => ?_, fun d hd => ?_, fun r hr => ?_⟩
  · simp only [wgV]; rw [va_up_ne _ _ (show (0 : Nat) ≠ 4 by decide), va_up_ne _ _ (show f ≠ 7 by omega)]; exact hv.2.1 f p hf hp
  · simp only [wgV]; rw [va_up_ne A _ (show (1 : Nat) ≠ 4 by decide), va_up_ne A _ (show (2 : Nat) ≠ 4 by decide), va_up_ne A _ (show (3 : Nat) ≠ 4 by decide), va_up_ne _ _ (show (5 : Nat) ≠ 7 by decide), va_up_ne _ _ (show (6 : Nat) ≠ 7 by decide)]; exact hv.2.2.1 w hw
  · simp only [wgV, va_up_self]
    by_cases e : d = c
    · subst e; rw [va_up_self, va_up_self]
    · rw [va_up_ne _ _ e, va_up_ne _ _ e]; exact hv.2.2.2.1 d hd
  · simp only [wgV]; rw [va_up_ne A _ (show (5 : Nat) ≠ 4 by decide), va_up_ne _ _ (show (8 : Nat) ≠ 7 by decide), va_up_ne _ _ (show (9 : Nat) ≠ 7 by decide)]; exact hv.2.2.2.2 r hr
set_option maxRecDepth 10000 in
set_option maxHeartbeats 2000000 in
theorem c_X12_weigh {g : gG} {h : gH} {m : Nat} {S : AS} (hn : isN h m S) {c v : Int32} : Ct g mX12_weigh [.ref m, .int c, .int v] h (some (.int (oWeigh S.1 c v).1)) (Pn m ((oWeigh S.1 c v).2, S.2) h) := by
  obtain ⟨hz, s, l, A, B, hm, hv, hr⟩ := id hn
  have mo := hm.1
  have m5 : h.1 (m + 5) = some (.inl (0, 8, .inl (A 4))) := hm.2 4 (by decide)
  have ok8 : S.1.1 0 ≤ 8 := hv.1.1.1
  have ok4 : S.1.1 1 ≤ 4 := hv.1.1.2.1
  have okr : S.1.1 2 ≤ 4 := hv.1.1.2.2
  have t256 : S.1.1 3 < 256 := lt256 hv.1.2.1 hv.1.1.1
  refine Cn.of (L := [some (.ref m), some (.int c), some (.int v), none]) (by decide) (Nat.le_of_ble_eq_true rfl) rfl ?_
  refine x_iload_n dX12_weigh_0 rfl ?_
  refine x_rdS c_X12_isClearing lkX12_isClearing sX12_233 dX12_weigh_1 rfl rfl (Nat.le_of_ble_eq_true rfl) (by decide) ⟨rfl, rfl, by decide, by decide⟩ ?_
  refine x_if_eqB 17 dX12_weigh_4 (by decide) (fun c4 => ?_) (fun c4 => ?_)
  · refine x_iconst (v := -1) dX12_weigh_17 (by decide) ?_
    refine x_iret rfl dX12_weigh_18 ⟨by decide, by decide⟩ ?_
    exact fnV hn (by simp only [oWeigh, c4, eq_self, Bool.false_eq_true, reduceCtorEq, and_true, true_and, and_false, false_and, not_true_eq_false, not_false_eq_true, if_true, if_false, ne_eq, or_true, true_or, or_false, false_or])
  · refine x_iload_n dX12_weigh_7 rfl ?_
    refine x_iconst (v := 0) dX12_weigh_8 (by decide) ?_
    refine x_bipush (v := 9) dX12_weigh_9 (by decide) ?_
    refine x_rdS mc_in lkX12_in sX12_93 dX12_weigh_11 rfl rfl (Nat.le_of_ble_eq_true rfl) (by decide) ⟨rfl, rfl, by decide, by decide⟩ ?_
    refine x_if_neB 19 dX12_weigh_14 (by decide) (fun c14 => ?_) (fun c14 => ?_)
    · obtain ⟨c1, hc, rfl⟩ := bl_E (b := 8) c4 (by decide)
      obtain ⟨v1, hv9, rfl⟩ := ut_E (b := 9) c14 (by decide)
      refine x_aload_n dX12_weigh_19 rfl ?_
      refine x_get fX12_22 mo rfl dX12_weigh_20 ?_
      refine x_iload_n dX12_weigh_23 rfl ?_
      refine x_iald c1 m5 rfl hc (by decide) dX12_weigh_24 ?_
      refine x_ist_3 dX12_weigh_25 (by decide) rfl ?_
      refine x_aload_n dX12_weigh_26 rfl ?_
      refine x_get fX12_22 mo rfl dX12_weigh_27 ?_
      refine x_iload_n dX12_weigh_30 rfl ?_
      refine x_iload_n dX12_weigh_31 rfl ?_
      refine x_iast c1 m5 rfl hc (by decide) dX12_weigh_32 ?_
      refine x_iload_n dX12_weigh_33 rfl ?_
      refine x_iret rfl dX12_weigh_34 ⟨by decide, by decide⟩ ?_
      refine fnM (V' := wgV S.1 c1 v1) hz (hm.int (i := 4) rfl) (rp_wg hv hv9) hr (Fr.set (by omega) (by omega)) ?_
      rw [oWeigh, if_pos ⟨c4, c14⟩, iN_nI (by omega), iN_nI (by omega), hv.2.2.2.1 c1 hc]
    · refine x_iconst (v := -1) dX12_weigh_17 (by decide) ?_
      refine x_iret rfl dX12_weigh_18 ⟨by decide, by decide⟩ ?_
      exact fnV hn (by simp only [oWeigh, c4, c14, eq_self, Bool.false_eq_true, reduceCtorEq, and_true, true_and, and_false, false_and, not_true_eq_false, not_false_eq_true, if_true, if_false, ne_eq, or_true, true_or, or_false, false_or])
theorem rp_aw {V : VS} {A A' : Nat → Nat → Int32} {c y : Nat} (hv : rpV V A) (hn : V.1 1 < 4) (hc : c < 8) (hy : y ≤ 99) (e0 : A' 0 = A 0) (e4 : A' 4 = A 4) (e5 : A' 5 = A 5) (h1 : A' 1 = va_up (A 1) (V.1 1) (nI c)) (h2 : A' 2 = va_up (A 2) (V.1 1) (-1)) (h3 : A' 3 = va_up (A 3) (V.1 1) (nI y)) : rpV (adW V c y) A' := by
  refine ⟨adW_ok hv.1 hn hc hy, fun f p hf hp => ?_, fun w hw => ?_, fun d hd => ?_, fun r hr => ?_⟩
  · rw [e0]; simp only [adW]; rw [va_up_ne _ _ (show f ≠ 5 by omega), va_up_ne _ _ (show f ≠ 6 by omega)]; exact hv.2.1 f p hf hp
  · have hw : w < V.1 1 + 1 := hw
    rw [h1, h2, h3]
    simp only [adW, va_up_self]
    rw [va_up_ne _ _ (show (6 : Nat) ≠ 5 by decide), va_up_self]
    by_cases e : w = V.1 1
    · subst e; rw [va_up_self, va_up_self, va_up_self, va_up_self, va_up_self]
      exact ⟨fun _ => rfl, (if_pos hc).symm, rfl⟩
    · rw [va_up_ne _ _ e, va_up_ne _ _ e, va_up_ne _ _ e, va_up_ne _ _ e, va_up_ne _ _ e]; exact hv.2.2.1 w (by omega)
  · rw [e4]; simp only [adW]; rw [va_up_ne _ _ (show (7 : Nat) ≠ 5 by decide), va_up_ne _ _ (show (7 : Nat) ≠ 6 by decide)]; exact hv.2.2.2.1 d hd
  · rw [e5]; simp only [adW]; rw [va_up_ne _ _ (show (8 : Nat) ≠ 5 by decide), va_up_ne _ _ (show (8 : Nat) ≠ 6 by decide), va_up_ne _ _ (show (9 : Nat) ≠ 5 by decide), va_up_ne _ _ (show (9 : Nat) ≠ 6 by decide)]; exact hv.2.2.2.2 r hr
set_option maxRecDepth 10000 in
set_option maxHeartbeats 2000000 in
theorem c_X12_walker {g : gG} {h : gH} {m : Nat} {S : AS} (hn : isN h m S) {c y : Int32} : Ct g mX12_walker [.ref m, .int c, .int y] h (some (.int (oWalker S.1 c y).1)) (Pn m ((oWalker S.1 c y).2, S.2) h) := by
  obtain ⟨hz, s, l, A, B, hm, hv, hr⟩ := id hn
  have mo := hm.1
  have m2 : h.1 (m + 2) = some (.inl (0, 4, .inl (A 1))) := hm.2 1 (by decide)
  have m3 : h.1 (m + 3) = some (.inl (0, 4, .inl (A 2))) := hm.2 2 (by decide)
  have m4 : h.1 (m + 4) = some (.inl (0, 4, .inl (A 3))) := hm.2 3 (by decide)
  have ok8 : S.1.1 0 ≤ 8 := hv.1.1.1
  have ok4 : S.1.1 1 ≤ 4 := hv.1.1.2.1
  have okr : S.1.1 2 ≤ 4 := hv.1.1.2.2
  have t256 : S.1.1 3 < 256 := lt256 hv.1.2.1 hv.1.1.1
  have e4 : nI (S.1.1 1) = 4 ↔ S.1.1 1 = 4 := nI_eq (b := 4) (by omega) (by decide)
  refine Cn.of (L := [some (.ref m), some (.int c), some (.int y)]) (by decide) (Nat.le_of_ble_eq_true rfl) rfl ?_
  refine x_iload_n dX12_walker_0 rfl ?_
  refine x_rdS c_X12_isClearing lkX12_isClearing sX12_233 dX12_walker_1 rfl rfl (Nat.le_of_ble_eq_true rfl) (by decide) ⟨rfl, rfl, by decide, by decide⟩ ?_
  refine x_if_eqB 17 dX12_walker_4 (by decide) (fun c4 => ?_) (fun c4 => ?_)
  · refine x_iconst (v := -1) dX12_walker_17 (by decide) ?_
    refine x_iret rfl dX12_walker_18 ⟨by decide, by decide⟩ ?_
    exact fnV hn (by simp only [oWalker, c4, eq_self, Bool.false_eq_true, reduceCtorEq, and_true, true_and, and_false, false_and, not_true_eq_false, not_false_eq_true, if_true, if_false, ne_eq, or_true, true_or, or_false, false_or])
  · refine x_iload_n dX12_walker_7 rfl ?_
    refine x_iconst (v := 0) dX12_walker_8 (by decide) ?_
    refine x_bipush (v := 99) dX12_walker_9 (by decide) ?_
    refine x_rdS mc_in lkX12_in sX12_93 dX12_walker_11 rfl rfl (Nat.le_of_ble_eq_true rfl) (by decide) ⟨rfl, rfl, by decide, by decide⟩ ?_
    refine x_if_neB 19 dX12_walker_14 (by decide) (fun c14 => ?_) (fun c14 => ?_)
    · obtain ⟨c1, hc, rfl⟩ := bl_E (b := 8) c4 (by decide)
      obtain ⟨y1, hy9, rfl⟩ := ut_E (b := 99) c14 (by decide)
      refine x_aload_n dX12_walker_19 rfl ?_
      refine x_get fX12_100 mo rfl dX12_walker_20 ?_
      refine x_iconst (v := 4) dX12_walker_23 (by decide) ?_
      refine x_icmp_ne 30 dX12_walker_24 (by decide) (fun c24 => ?_) (fun c24 => ?_)
      · have n4 : S.1.1 1 < 4 := by have : ¬ S.1.1 1 = 4 := fun z => c24 (e4.mpr z); omega
        refine x_aload_n dX12_walker_30 rfl ?_
        refine x_get fX12_13 mo rfl dX12_walker_31 ?_
        refine x_aload_n dX12_walker_34 rfl ?_
        refine x_get fX12_100 mo rfl dX12_walker_35 ?_
        refine x_iload_n dX12_walker_38 rfl ?_
        refine x_iast (S.1.1 1) m2 rfl n4 (by decide) dX12_walker_39 ?_
        refine x_aload_n dX12_walker_40 rfl ?_
        refine x_get fX12_16 ((hset_n (by omega)).trans mo) rfl dX12_walker_41 ?_
        refine x_aload_n dX12_walker_44 rfl ?_
        refine x_get fX12_100 ((hset_n (by omega)).trans mo) rfl dX12_walker_45 ?_
        refine x_iconst (v := -1) dX12_walker_48 (by decide) ?_
        refine x_iast (S.1.1 1) ((hset_n (by omega)).trans m3) rfl n4 (by decide) dX12_walker_49 ?_
        refine x_aload_n dX12_walker_50 rfl ?_
        refine x_get fX12_19 ((hset_n (by omega)).trans ((hset_n (by omega)).trans mo)) rfl dX12_walker_51 ?_
        refine x_aload_n dX12_walker_54 rfl ?_
        refine x_get fX12_100 ((hset_n (by omega)).trans ((hset_n (by omega)).trans mo)) rfl dX12_walker_55 ?_
        refine x_iload_n dX12_walker_58 rfl ?_
        refine x_iast (S.1.1 1) ((hset_n (by omega)).trans ((hset_n (by omega)).trans m4)) rfl n4 (by decide) dX12_walker_59 ?_
        refine x_aload_n dX12_walker_60 rfl ?_
        refine x_dup dX12_walker_61 rfl ?_
        refine x_get fX12_100 ((hset_n (by omega)).trans ((hset_n (by omega)).trans ((hset_n (by omega)).trans mo))) rfl dX12_walker_62 ?_
        refine x_iconst (v := 1) dX12_walker_65 (by decide) ?_
        refine x_iadd dX12_walker_66 ?_
        rw [show nI (S.1.1 1) + 1 = nI (S.1.1 1 + 1) from nI_1 _]
        refine x_put (fs' := mF m (adW S.1 c1 y1) s l) fX12_100 ((hset_n (by omega)).trans ((hset_n (by omega)).trans ((hset_n (by omega)).trans mo))) (Nat.le_of_ble_eq_true rfl) rfl rfl rfl dX12_walker_67 ?_
        refine x_aload_n dX12_walker_70 rfl ?_
        refine x_get fX12_100 hset_s rfl dX12_walker_71 ?_
        refine x_iconst (v := 1) dX12_walker_74 (by decide) ?_
        refine x_isub dX12_walker_75 ?_
        skip
        refine x_iret rfl dX12_walker_76 ⟨by decide, by decide⟩ ?_
        refine fnM hz (((hm.int (i := 1) rfl).int (i := 2) rfl).int (i := 3) rfl).num (rp_aw hv n4 hc hy9 rfl rfl rfl rfl rfl rfl) hr ((((Fr.set (by omega) (by omega)).tr (Fr.set (by omega) (by omega))).tr (Fr.set (by omega) (by omega))).tr (Fr.set (by omega) (by omega))) ?_
        rw [oWalker, if_pos ⟨c4, c14⟩, if_pos n4, iN_nI (by omega), iN_nI (by omega)]
        exact congrArg (·, _) (nI_pred _).symm
      · refine x_bipush (v := -2) dX12_walker_27 (by decide) ?_
        refine x_iret rfl dX12_walker_29 ⟨by decide, by decide⟩ ?_
        exact fnV hn (by rw [oWalker, if_pos ⟨c4, c14⟩, if_neg (by have := e4.mp c24; omega)] <;> rfl)
    · refine x_iconst (v := -1) dX12_walker_17 (by decide) ?_
      refine x_iret rfl dX12_walker_18 ⟨by decide, by decide⟩ ?_
      exact fnV hn (by simp only [oWalker, c4, c14, eq_self, Bool.false_eq_true, reduceCtorEq, and_true, true_and, and_false, false_and, not_true_eq_false, not_false_eq_true, if_true, if_false, ne_eq, or_true, true_or, or_false, false_or])
