theorem rp_ap {V : VS} {A A' : Nat → Nat → Int32} {f : Nat → Nat} (hv : rpV V A) (hn : V.1 0 < 8) (h0 : f 0 < 6) (h1 : f 1 < 8) (h2 : f 2 < 8) (h3 : f 1 ≠ f 2) (h4 : f 3 ≤ 8) (h5 : f 4 ≤ 8) (e1 : A' 1 = A 1) (e2 : A' 2 = A 2) (e3 : A' 3 = A 3) (e4 : A' 4 = A 4) (e5 : A' 5 = A 5) (q0 : ∀ i, i < 5 * V.1 0 → A' 0 i = A 0 i) (q1 : ∀ i, i < 5 → A' 0 (5 * V.1 0 + i) = nI (f i)) : rpV (stT (adP V f) (V.1 0) true) A' := by
  refine ⟨stT_ok (adP_ok hv.1 hn h0 h1 h2 h3 h4 h5) (by show V.1 0 < V.1 0 + 1; omega) (fun z => by cases z), fun i p hi hp => ?_, fun w hw => ?_, fun d hd => ?_, fun r hr => ?_⟩
  · have hp : p < V.1 0 + 1 := hp
    show A' 0 (5 * p + i) = nI (if i < 5 ∧ p = V.1 0 then f i else V.2.2 i p)
    by_cases e : p = V.1 0
    · subst e; rw [if_pos ⟨hi, rfl⟩]; exact q1 i hi
    · rw [if_neg (fun z => e z.2), q0 _ (by omega)]; exact hv.2.1 i p hi (by omega)
  · rw [e1, e2, e3]
    show (((if (5 : Nat) < 5 ∧ w = V.1 0 then f 5 else V.2.2 5 w) < 8 → A 1 w = nI (if (5 : Nat) < 5 ∧ w = V.1 0 then f 5 else V.2.2 5 w)) ∧ A 2 w = onM (if (5 : Nat) < 5 ∧ w = V.1 0 then f 5 else V.2.2 5 w) ∧ A 3 w = nI (if (6 : Nat) < 5 ∧ w = V.1 0 then f 6 else V.2.2 6 w))
    rw [if_neg (fun z => by omega), if_neg (fun z => by omega)]
    exact hv.2.2.1 w hw
  · rw [e4]
    show A 4 d = nI (if (7 : Nat) < 5 ∧ d = V.1 0 then f 7 else V.2.2 7 d)
    rw [if_neg (fun z => by omega)]
    exact hv.2.2.2.1 d hd
  · rw [e5]
    show A 5 (2 * r) = nI (if (8 : Nat) < 5 ∧ r = V.1 0 then f 8 else V.2.2 8 r) ∧ A 5 (2 * r + 1) = nI (if (9 : Nat) < 5 ∧ r = V.1 0 then f 9 else V.2.2 9 r)
    rw [if_neg (fun z => by omega), if_neg (fun z => by omega)]
    exact hv.2.2.2.2 r hr
set_option maxRecDepth 10000 in
set_option maxHeartbeats 2000000 in
theorem c_X12_path {g : gG} {h : gH} {m : Nat} {S : AS} (hn : isN h m S) {kd a b st c : Int32} : Ct g mX12_path [.ref m, .int kd, .int a, .int b, .int st, .int c] h (some (.int (oPath S.1 kd a b st c).1)) (Pn m ((oPath S.1 kd a b st c).2, S.2) h) := by
  obtain ⟨hz, s, l, A, B, hm, hv, hr⟩ := id hn
  have mo := hm.1
  have m1 : h.1 (m + 1) = some (.inl (0, 40, .inl (A 0))) := hm.2 0 (by decide)
  have ok8 : S.1.1 0 ≤ 8 := hv.1.1.1
  have ok4 : S.1.1 1 ≤ 4 := hv.1.1.2.1
  have okr : S.1.1 2 ≤ 4 := hv.1.1.2.2
  have t256 : S.1.1 3 < 256 := lt256 hv.1.2.1 hv.1.1.1
  refine Cn.of (L := [some (.ref m), some (.int kd), some (.int a), some (.int b), some (.int st), some (.int c), none]) (by decide) (Nat.le_of_ble_eq_true rfl) rfl ?_
  refine x_iload_n dX12_path_0 rfl ?_
  refine x_iconst (v := 0) dX12_path_1 (by decide) ?_
  refine x_iconst (v := 5) dX12_path_2 (by decide) ?_
  refine x_rdS (mc_inC 6 (by decide) (by decide)) lkX12_in sX12_93 dX12_path_3 rfl rfl (Nat.le_of_ble_eq_true rfl) (by decide) ⟨rfl, rfl, by decide, by decide⟩ ?_
  refine x_if_eqB 50 dX12_path_6 (by decide) (fun c6 => ?_) (fun c6 => ?_)
  · refine x_iconst (v := -1) dX12_path_50 (by decide) ?_
    refine x_iret rfl dX12_path_51 ⟨by decide, by decide⟩ ?_
    exact fnV hn (by rw [oPath, if_neg (fun z => c6 z.2.2.2.1)] <;> rfl)
  · refine x_iload_n dX12_path_9 rfl ?_
    refine x_rdS c_X12_isClearing lkX12_isClearing sX12_233 dX12_path_10 rfl rfl (Nat.le_of_ble_eq_true rfl) (by decide) ⟨rfl, rfl, by decide, by decide⟩ ?_
    refine x_if_eqB 50 dX12_path_13 (by decide) (fun c13 => ?_) (fun c13 => ?_)
    · refine x_iconst (v := -1) dX12_path_50 (by decide) ?_
      refine x_iret rfl dX12_path_51 ⟨by decide, by decide⟩ ?_
      exact fnV hn (by rw [oPath, if_neg (fun z => c13 z.1)] <;> rfl)
    · refine x_iload_n dX12_path_16 rfl ?_
      refine x_rdS c_X12_isClearing lkX12_isClearing sX12_233 dX12_path_17 rfl rfl (Nat.le_of_ble_eq_true rfl) (by decide) ⟨rfl, rfl, by decide, by decide⟩ ?_
      refine x_if_eqB 50 dX12_path_20 (by decide) (fun c20 => ?_) (fun c20 => ?_)
      · refine x_iconst (v := -1) dX12_path_50 (by decide) ?_
        refine x_iret rfl dX12_path_51 ⟨by decide, by decide⟩ ?_
        exact fnV hn (by rw [oPath, if_neg (fun z => c20 z.2.1)] <;> rfl)
      · refine x_iload_n dX12_path_23 rfl ?_
        refine x_iload_n dX12_path_24 rfl ?_
        refine x_icmp_eq 50 dX12_path_25 (by decide) (fun c25 => ?_) (fun c25 => ?_)
        · refine x_iconst (v := -1) dX12_path_50 (by decide) ?_
          refine x_iret rfl dX12_path_51 ⟨by decide, by decide⟩ ?_
          exact fnV hn (by rw [oPath, if_neg (fun z => z.2.2.1 c25)] <;> rfl)
        · refine x_iload dX12_path_28 rfl ?_
          refine x_iconst (v := 0) dX12_path_30 (by decide) ?_
          refine x_bipush (v := 8) dX12_path_31 (by decide) ?_
          refine x_rdS mc_in lkX12_in sX12_93 dX12_path_33 rfl rfl (Nat.le_of_ble_eq_true rfl) (by decide) ⟨rfl, rfl, by decide, by decide⟩ ?_
          refine x_if_eqB 50 dX12_path_36 (by decide) (fun c36 => ?_) (fun c36 => ?_)
          · refine x_iconst (v := -1) dX12_path_50 (by decide) ?_
            refine x_iret rfl dX12_path_51 ⟨by decide, by decide⟩ ?_
            exact fnV hn (by rw [oPath, if_neg (fun z => c36 z.2.2.2.2.1)] <;> rfl)
          · refine x_iload dX12_path_39 rfl ?_
            refine x_iconst (v := 0) dX12_path_41 (by decide) ?_
            refine x_bipush (v := 8) dX12_path_42 (by decide) ?_
            refine x_rdS mc_in lkX12_in sX12_93 dX12_path_44 rfl rfl (Nat.le_of_ble_eq_true rfl) (by decide) ⟨rfl, rfl, by decide, by decide⟩ ?_
            refine x_if_neB 52 dX12_path_47 (by decide) (fun c47 => ?_) (fun c47 => ?_)
            · obtain ⟨k1, hk, rfl⟩ := bl_E (b := 6) c6 (by decide)
              obtain ⟨a1, ha, rfl⟩ := bl_E (b := 8) c13 (by decide)
              obtain ⟨b1, hb, rfl⟩ := bl_E (b := 8) c20 (by decide)
              obtain ⟨s1, hs, rfl⟩ := ut_E (b := 8) c36 (by decide)
              obtain ⟨m1', hm1, rfl⟩ := ut_E (b := 8) c47 (by decide)
              have e8 : nI (S.1.1 0) = 8 ↔ S.1.1 0 = 8 := nI_eq (b := 8) (by omega) (by decide)
              refine x_aload_n dX12_path_52 rfl ?_
              refine x_get fX12_97 mo rfl dX12_path_53 ?_
              refine x_bipush (v := 8) dX12_path_56 (by decide) ?_
              refine x_icmp_ne 64 dX12_path_58 (by decide) (fun c58 => ?_) (fun c58 => ?_)
              · have n8 : S.1.1 0 < 8 := by have : ¬ S.1.1 0 = 8 := fun z => c58 (e8.mpr z); omega
                refine x_iconst (v := 5) dX12_path_64 (by decide) ?_
                refine x_aload_n dX12_path_65 rfl ?_
                refine x_get fX12_97 mo rfl dX12_path_66 ?_
                refine x_imul dX12_path_69 ?_
                rw [show (5 : Int32) * nI (S.1.1 0) = nI (5 * S.1.1 0) by rw [show (5 : Int32) = nI 5 from rfl, ts_mul]]
                refine x_ist_6 dX12_path_70 (by decide) rfl ?_
                refine x_aload_n dX12_path_72 rfl ?_
                refine x_get fX12_7 mo rfl dX12_path_73 ?_
                refine x_iload dX12_path_76 rfl ?_
                refine x_iload_n dX12_path_78 rfl ?_
                refine x_iast (5 * S.1.1 0 + 0) m1 (rfl) (by omega) (by decide) dX12_path_79 ?_
                refine x_aload_n dX12_path_80 rfl ?_
                refine x_get fX12_7 ((hset_n (by omega)).trans mo) rfl dX12_path_81 ?_
                refine x_iload dX12_path_84 rfl ?_
                refine x_iconst (v := 1) dX12_path_86 (by decide) ?_
                refine x_iadd dX12_path_87 ?_
                refine x_iload_n dX12_path_88 rfl ?_
                refine x_iast (5 * S.1.1 0 + 1) hset_s (nI_add _ _) (by omega) (by decide) dX12_path_89 ?_
                refine x_aload_n dX12_path_90 rfl ?_
                refine x_get fX12_7 ((hset_n (by omega)).trans ((hset_n (by omega)).trans mo)) rfl dX12_path_91 ?_
                refine x_iload dX12_path_94 rfl ?_
                refine x_iconst (v := 2) dX12_path_96 (by decide) ?_
                refine x_iadd dX12_path_97 ?_
                refine x_iload_n dX12_path_98 rfl ?_
                refine x_iast (5 * S.1.1 0 + 2) hset_s (nI_add _ _) (by omega) (by decide) dX12_path_99 ?_
                refine x_aload_n dX12_path_100 rfl ?_
                refine x_get fX12_7 ((hset_n (by omega)).trans ((hset_n (by omega)).trans ((hset_n (by omega)).trans mo))) rfl dX12_path_101 ?_
                refine x_iload dX12_path_104 rfl ?_
                refine x_iconst (v := 3) dX12_path_106 (by decide) ?_
                refine x_iadd dX12_path_107 ?_
                refine x_iload dX12_path_108 rfl ?_
                refine x_iast (5 * S.1.1 0 + 3) hset_s (nI_add _ _) (by omega) (by decide) dX12_path_110 ?_
                refine x_aload_n dX12_path_111 rfl ?_
                refine x_get fX12_7 ((hset_n (by omega)).trans ((hset_n (by omega)).trans ((hset_n (by omega)).trans ((hset_n (by omega)).trans mo)))) rfl dX12_path_112 ?_
                refine x_iload dX12_path_115 rfl ?_
                refine x_iconst (v := 4) dX12_path_117 (by decide) ?_
                refine x_iadd dX12_path_118 ?_
                refine x_iload dX12_path_119 rfl ?_
                refine x_iast (5 * S.1.1 0 + 4) hset_s (nI_add _ _) (by omega) (by decide) dX12_path_121 ?_
                refine x_aload_n dX12_path_122 rfl ?_
                refine x_dup dX12_path_123 rfl ?_
                refine x_get fX12_103 ((hset_n (by omega)).trans ((hset_n (by omega)).trans ((hset_n (by omega)).trans ((hset_n (by omega)).trans ((hset_n (by omega)).trans mo))))) rfl dX12_path_124 ?_
                refine x_iconst (v := 1) dX12_path_127 (by decide) ?_
                refine x_aload_n dX12_path_128 rfl ?_
                refine x_get fX12_97 ((hset_n (by omega)).trans ((hset_n (by omega)).trans ((hset_n (by omega)).trans ((hset_n (by omega)).trans ((hset_n (by omega)).trans mo))))) rfl dX12_path_129 ?_
                refine x_ishl dX12_path_132 ?_
                rw [sh1 _ (by omega)]
                refine x_ior dX12_path_133 ?_
                rw [fa_or]
                refine x_put (fs' := mF m (va_up S.1.1 3 (S.1.1 3 ||| 2 ^ S.1.1 0), S.1.2) s l) fX12_103 ((hset_n (by omega)).trans ((hset_n (by omega)).trans ((hset_n (by omega)).trans ((hset_n (by omega)).trans ((hset_n (by omega)).trans mo))))) (Nat.le_of_ble_eq_true rfl) rfl rfl rfl dX12_path_134 ?_
                refine x_aload_n dX12_path_137 rfl ?_
                refine x_dup dX12_path_138 rfl ?_
                refine x_get fX12_97 hset_s rfl dX12_path_139 ?_
                refine x_iconst (v := 1) dX12_path_142 (by decide) ?_
                refine x_iadd dX12_path_143 ?_
                rw [nI_1]
                refine x_put (fs' := mF m (stT (adP S.1 (f5 k1 a1 b1 s1 m1')) (S.1.1 0) true) s l) fX12_97 hset_s (Nat.le_of_ble_eq_true rfl) rfl rfl rfl dX12_path_144 ?_
                refine x_aload_n dX12_path_147 rfl ?_
                refine x_get fX12_97 hset_s rfl dX12_path_148 ?_
                refine x_iconst (v := 1) dX12_path_151 (by decide) ?_
                refine x_isub dX12_path_152 ?_
                refine x_iret rfl dX12_path_153 ⟨by decide, by decide⟩ ?_
                refine fnM hz (((((((hm.int (i := 0) rfl).int (i := 0) rfl).int (i := 0) rfl).int (i := 0) rfl).int (i := 0) rfl).num).num) (rp_ap hv n8 hk ha hb (fun z => c25 (congrArg nI z)) hs hm1 rfl rfl rfl rfl rfl (fun i hi => ?_) (fun i hi => ?_)) hr (((((((Fr.set (by omega) (by omega)).tr (Fr.set (by omega) (by omega))).tr (Fr.set (by omega) (by omega))).tr (Fr.set (by omega) (by omega))).tr (Fr.set (by omega) (by omega))).tr (Fr.set (by omega) (by omega))).tr (Fr.set (by omega) (by omega))) ?_
                · simp only [va_up_self]
                  rw [va_up_ne _ _ (by omega), va_up_ne _ _ (by omega), va_up_ne _ _ (by omega), va_up_ne _ _ (by omega), va_up_ne _ _ (by omega)]
                · simp only [va_up_self]
                  rcases (show i = 0 ∨ i = 1 ∨ i = 2 ∨ i = 3 ∨ i = 4 by omega) with rfl | rfl | rfl | rfl | rfl
                  · rw [va_up_ne _ _ (by omega), va_up_ne _ _ (by omega), va_up_ne _ _ (by omega), va_up_ne _ _ (by omega)]; exact va_up_self _ _ _
                  · rw [va_up_ne _ _ (by omega), va_up_ne _ _ (by omega), va_up_ne _ _ (by omega)]; exact va_up_self _ _ _
                  · rw [va_up_ne _ _ (by omega), va_up_ne _ _ (by omega)]; exact va_up_self _ _ _
                  · rw [va_up_ne _ _ (by omega)]; exact va_up_self _ _ _
                  · exact va_up_self _ _ _
                · rw [oPath, if_pos ⟨c13, c20, c25, c6, c36, c47⟩, if_pos n8, iN_nI (by omega), iN_nI (by omega), iN_nI (by omega), iN_nI (by omega), iN_nI (by omega)]
                  exact congrArg (·, _) (nI_pred _).symm
              · refine x_bipush (v := -2) dX12_path_61 (by decide) ?_
                refine x_iret rfl dX12_path_63 ⟨by decide, by decide⟩ ?_
                exact fnV hn (by rw [oPath, if_pos ⟨c13, c20, c25, c6, c36, c47⟩, if_neg (by have := e8.mp c58; omega)] <;> rfl)
            · refine x_iconst (v := -1) dX12_path_50 (by decide) ?_
              refine x_iret rfl dX12_path_51 ⟨by decide, by decide⟩ ?_
              exact fnV hn (by rw [oPath, if_neg (fun z => c47 z.2.2.2.2.2)] <;> rfl)
theorem rp_ar {V : VS} {A A' : Nat → Nat → Int32} {x c : Nat} (hv : rpV V A) (hn : V.1 2 < 4) (h0 : x < 4) (h1 : c < 8) (e0 : A' 0 = A 0) (e1 : A' 1 = A 1) (e2 : A' 2 = A 2) (e3 : A' 3 = A 3) (e4 : A' 4 = A 4) (q0 : ∀ i, i < 2 * V.1 2 → A' 5 i = A 5 i) (q1 : A' 5 (2 * V.1 2) = nI x) (q2 : A' 5 (2 * V.1 2 + 1) = nI c) : rpV (adR V x c) A' := by
  refine ⟨adR_ok hv.1 hn h0 h1, fun f p hf hp => ?_, fun w hw => ?_, fun d hd => ?_, fun r hr => ?_⟩
  · rw [e0]; simp only [adR]; rw [va_up_ne _ _ (show f ≠ 9 by omega), va_up_ne _ _ (show f ≠ 8 by omega)]; exact hv.2.1 f p hf hp
  · rw [e1, e2, e3]; simp only [adR]; rw [va_up_ne _ _ (show (5 : Nat) ≠ 9 by decide), va_up_ne _ _ (show (5 : Nat) ≠ 8 by decide), va_up_ne _ _ (show (6 : Nat) ≠ 9 by decide), va_up_ne _ _ (show (6 : Nat) ≠ 8 by decide)]; exact hv.2.2.1 w hw
  · rw [e4]; simp only [adR]; rw [va_up_ne _ _ (show (7 : Nat) ≠ 9 by decide), va_up_ne _ _ (show (7 : Nat) ≠ 8 by decide)]; exact hv.2.2.2.1 d hd
  · have hr : r < V.1 2 + 1 := hr
    simp only [adR, va_up_self]
    rw [va_up_ne _ _ (show (8 : Nat) ≠ 9 by decide), va_up_self]
    by_cases e : r = V.1 2
    · subst e; rw [va_up_self, va_up_self]; exact ⟨q1, q2⟩
    · rw [va_up_ne _ _ e, va_up_ne _ _ e, q0 _ (by omega), q0 _ (by omega)]; exact hv.2.2.2.2 r (by omega)
set_option maxRecDepth 10000 in
set_option maxHeartbeats 2000000 in
theorem c_X12_rule {g : gG} {h : gH} {m : Nat} {S : AS} (hn : isN h m S) {k c : Int32} : Ct g mX12_rule [.ref m, .int k, .int c] h (some (.int (oRule S.1 k c).1)) (Pn m ((oRule S.1 k c).2, S.2) h) := by
  obtain ⟨hz, s, l, A, B, hm, hv, hr⟩ := id hn
  have mo := hm.1
  have m6 : h.1 (m + 6) = some (.inl (0, 8, .inl (A 5))) := hm.2 5 (by decide)
  have ok8 : S.1.1 0 ≤ 8 := hv.1.1.1
  have ok4 : S.1.1 1 ≤ 4 := hv.1.1.2.1
  have okr : S.1.1 2 ≤ 4 := hv.1.1.2.2
  have t256 : S.1.1 3 < 256 := lt256 hv.1.2.1 hv.1.1.1
  refine Cn.of (L := [some (.ref m), some (.int k), some (.int c)]) (by decide) (Nat.le_of_ble_eq_true rfl) rfl ?_
  refine x_iload_n dX12_rule_0 rfl ?_
  refine x_iconst (v := 0) dX12_rule_1 (by decide) ?_
  refine x_iconst (v := 3) dX12_rule_2 (by decide) ?_
  refine x_rdS (mc_inC 4 (by decide) (by decide)) lkX12_in sX12_93 dX12_rule_3 rfl rfl (Nat.le_of_ble_eq_true rfl) (by decide) ⟨rfl, rfl, by decide, by decide⟩ ?_
  refine x_if_eqB 16 dX12_rule_6 (by decide) (fun c6 => ?_) (fun c6 => ?_)
  · refine x_iconst (v := -1) dX12_rule_16 (by decide) ?_
    refine x_iret rfl dX12_rule_17 ⟨by decide, by decide⟩ ?_
    exact fnV hn (by rw [oRule, if_neg (fun z => c6 z.1)] <;> rfl)
  · refine x_iload_n dX12_rule_9 rfl ?_
    refine x_rdS c_X12_isClearing lkX12_isClearing sX12_233 dX12_rule_10 rfl rfl (Nat.le_of_ble_eq_true rfl) (by decide) ⟨rfl, rfl, by decide, by decide⟩ ?_
    refine x_if_neB 18 dX12_rule_13 (by decide) (fun c13 => ?_) (fun c13 => ?_)
    · obtain ⟨k1, hk, rfl⟩ := bl_E (b := 4) c6 (by decide)
      obtain ⟨c1, hc, rfl⟩ := bl_E (b := 8) c13 (by decide)
      have e4 : nI (S.1.1 2) = 4 ↔ S.1.1 2 = 4 := nI_eq (b := 4) (by omega) (by decide)
      refine x_aload_n dX12_rule_18 rfl ?_
      refine x_get fX12_339 mo rfl dX12_rule_19 ?_
      refine x_iconst (v := 4) dX12_rule_22 (by decide) ?_
      refine x_icmp_ne 29 dX12_rule_23 (by decide) (fun c23 => ?_) (fun c23 => ?_)
      · have n4 : S.1.1 2 < 4 := by have : ¬ S.1.1 2 = 4 := fun z => c23 (e4.mpr z); omega
        refine x_aload_n dX12_rule_29 rfl ?_
        refine x_get fX12_29 mo rfl dX12_rule_30 ?_
        refine x_iconst (v := 2) dX12_rule_33 (by decide) ?_
        refine x_aload_n dX12_rule_34 rfl ?_
        refine x_get fX12_339 mo rfl dX12_rule_35 ?_
        refine x_imul dX12_rule_38 ?_
        refine x_iload_n dX12_rule_39 rfl ?_
        refine x_iast (2 * S.1.1 2) m6 (by rw [show (2 : Int32) = nI 2 from rfl, ts_mul]) (by omega) (by decide) dX12_rule_40 ?_
        refine x_aload_n dX12_rule_41 rfl ?_
        refine x_get fX12_29 ((hset_n (by omega)).trans mo) rfl dX12_rule_42 ?_
        refine x_iconst (v := 2) dX12_rule_45 (by decide) ?_
        refine x_aload_n dX12_rule_46 rfl ?_
        refine x_get fX12_339 ((hset_n (by omega)).trans mo) rfl dX12_rule_47 ?_
        refine x_imul dX12_rule_50 ?_
        refine x_iconst (v := 1) dX12_rule_51 (by decide) ?_
        refine x_iadd dX12_rule_52 ?_
        refine x_iload_n dX12_rule_53 rfl ?_
        refine x_iast (2 * S.1.1 2 + 1) hset_s (by rw [show (2 : Int32) = nI 2 from rfl, ts_mul]; exact nI_1 _) (by omega) (by decide) dX12_rule_54 ?_
        refine x_aload_n dX12_rule_55 rfl ?_
        refine x_dup dX12_rule_56 rfl ?_
        refine x_get fX12_339 ((hset_n (by omega)).trans ((hset_n (by omega)).trans mo)) rfl dX12_rule_57 ?_
        refine x_iconst (v := 1) dX12_rule_60 (by decide) ?_
        refine x_iadd dX12_rule_61 ?_
        rw [show nI (S.1.1 2) + 1 = nI (S.1.1 2 + 1) from nI_1 _]
        refine x_put (fs' := mF m (adR S.1 k1 c1) s l) fX12_339 ((hset_n (by omega)).trans ((hset_n (by omega)).trans mo)) (Nat.le_of_ble_eq_true rfl) rfl rfl rfl dX12_rule_62 ?_
        refine x_aload_n dX12_rule_65 rfl ?_
        refine x_get fX12_339 hset_s rfl dX12_rule_66 ?_
        refine x_iconst (v := 1) dX12_rule_69 (by decide) ?_
        refine x_isub dX12_rule_70 ?_
        refine x_iret rfl dX12_rule_71 ⟨by decide, by decide⟩ ?_
        refine fnM hz (((hm.int (i := 5) rfl).int (i := 5) rfl).num) (rp_ar hv n4 hk hc rfl rfl rfl rfl rfl (fun i hi => ?_) ?_ ?_) hr (((Fr.set (by omega) (by omega)).tr (Fr.set (by omega) (by omega))).tr (Fr.set (by omega) (by omega))) ?_
        · simp only [va_up_self]; rw [va_up_ne _ _ (by omega), va_up_ne _ _ (by omega)]
        · simp only [va_up_self]; rw [va_up_ne _ _ (by omega), va_up_self]
        · simp only [va_up_self]
        · rw [oRule, if_pos ⟨c6, c13⟩, if_pos n4, iN_nI (by omega), iN_nI (by omega)]
          exact congrArg (·, _) (nI_pred _).symm
      · refine x_bipush (v := -2) dX12_rule_26 (by decide) ?_
        refine x_iret rfl dX12_rule_28 ⟨by decide, by decide⟩ ?_
        exact fnV hn (by rw [oRule, if_pos ⟨c6, c13⟩, if_neg (by have := e4.mp c23; omega)] <;> rfl)
    · refine x_iconst (v := -1) dX12_rule_16 (by decide) ?_
      refine x_iret rfl dX12_rule_17 ⟨by decide, by decide⟩ ?_
      exact fnV hn (by rw [oRule, if_neg (fun z => c13 z.2)] <;> rfl)
set_option maxRecDepth 10000 in
set_option maxHeartbeats 2000000 in
theorem c_X12_ruleOf {g : gG} {h : gH} {m : Nat} {S : AS} (hn : isN h m S) {r w : Int32} : Rd g mX12_ruleOf [.ref m, .int r, .int w] h (.int (qRuleOf S.1 r w)) := by
  obtain ⟨hz, s, l, A, B, hm, hv, hr⟩ := id hn
  have mo := hm.1
  have m6 : h.1 (m + 6) = some (.inl (0, 8, .inl (A 5))) := hm.2 5 (by decide)
  have ok8 : S.1.1 0 ≤ 8 := hv.1.1.1
  have ok4 : S.1.1 1 ≤ 4 := hv.1.1.2.1
  have okr : S.1.1 2 ≤ 4 := hv.1.1.2.2
  have t256 : S.1.1 3 < 256 := lt256 hv.1.2.1 hv.1.1.1
  refine Cn.of (L := [some (.ref m), some (.int r), some (.int w)]) (by decide) (Nat.le_of_ble_eq_true rfl) rfl ?_
  refine x_aload_n dX12_ruleOf_0 rfl ?_
  refine x_iload_n dX12_ruleOf_1 rfl ?_
  refine x_rdV (c_X12_isRule hm hv) mo lkX12_isRule sX12_342 dX12_ruleOf_2 rfl rfl (Nat.le_of_ble_eq_true rfl) (by decide) ⟨rfl, rfl, by decide, by decide⟩ ?_
  refine x_if_eqB 28 dX12_ruleOf_5 (by decide) (fun c5 => ?_) (fun c5 => ?_)
  · refine x_iconst (v := -1) dX12_ruleOf_28 (by decide) ?_
    refine x_iret rfl dX12_ruleOf_29 ⟨by decide, by decide⟩ ?_
    exact ⟨by rw [qRuleOf, if_neg c5] <;> rfl, rfl⟩
  · refine x_iload_n dX12_ruleOf_8 rfl ?_
    refine x_rdS c_X12_isSide lkX12_isSide sX12_313 dX12_ruleOf_9 rfl rfl (Nat.le_of_ble_eq_true rfl) (by decide) ⟨rfl, rfl, by decide, by decide⟩ ?_
    refine x_if_eqB 28 dX12_ruleOf_12 (by decide) (fun c12 => ?_) (fun c12 => ?_)
    · refine x_iconst (v := -1) dX12_ruleOf_28 (by decide) ?_
      refine x_iret rfl dX12_ruleOf_29 ⟨by decide, by decide⟩ ?_
      exact ⟨by rw [qRuleOf, if_pos c5, if_neg (show ¬ w = 0 from fun z => c12 (by rw [z]; decide)), if_neg (show ¬ w = 1 from fun z => c12 (by rw [z]; decide))] <;> rfl, rfl⟩
    · obtain ⟨r1, hr1, rfl⟩ := bl_E c5 (by omega)
      obtain ⟨w1, hw1, rfl⟩ := bl_E (b := 2) c12 (by decide)
      have q := hv.2.2.2.2 r1 hr1
      refine x_aload_n dX12_ruleOf_15 rfl ?_
      refine x_get fX12_29 mo rfl dX12_ruleOf_16 ?_
      refine x_iconst (v := 2) dX12_ruleOf_19 (by decide) ?_
      refine x_iload_n dX12_ruleOf_20 rfl ?_
      refine x_imul dX12_ruleOf_21 ?_
      refine x_iload_n dX12_ruleOf_22 rfl ?_
      refine x_iadd dX12_ruleOf_23 ?_
      refine x_iald (2 * r1 + w1) m6 (by rw [show (2 : Int32) = nI 2 from rfl, ts_mul, nI_add]) (by omega) (by decide) dX12_ruleOf_24 ?_
      refine x_goto 29 dX12_ruleOf_25 (by decide) ?_
      refine x_iret rfl dX12_ruleOf_29 ⟨by decide, by decide⟩ ?_
      rcases (show w1 = 0 ∨ w1 = 1 by omega) with rfl | rfl
      · exact ⟨by rw [qRuleOf, if_pos c5, iN_nI (by omega), show 2 * r1 + 0 = 2 * r1 from rfl, q.1] <;> rfl, rfl⟩
      · exact ⟨by rw [qRuleOf, if_pos c5, iN_nI (by omega), q.2] <;> rfl, rfl⟩
set_option maxRecDepth 10000 in
set_option maxHeartbeats 2000000 in
theorem ct53_3 {g : gG} {h : gH} {m : Nat} {V : VS} {s : Nat → Int32} {l : Nat → Int64} {A : Nat → Nat → Int32} {B : Nat → Nat → Int64} (hm : MM h m V s l A B) (hv : rpV V A) : ∀ i, i ≤ V.1 1 → Ex g mX12_count (gZm g mX12_count (fun o h' => o = some (.int (nI (payS V false (V.1 1)))) ∧ h' = h)) 53 [some (.ref m), some (.int 3), some (.int (nI (payS V false i))), some (.int (nI i))] [] h 0 0 := by
  have mo := hm.1
  have m3 : h.1 (m + 3) = some (.inl (0, 4, .inl (A 2))) := hm.2 2 (by decide)
  have m4 : h.1 (m + 4) = some (.inl (0, 4, .inl (A 3))) := hm.2 3 (by decide)
  have ok8 : V.1 0 ≤ 8 := hv.1.1.1
  have ok4 : V.1 1 ≤ 4 := hv.1.1.2.1
  have okr : V.1 2 ≤ 4 := hv.1.1.2.2
  have t256 : V.1 3 < 256 := lt256 hv.1.2.1 hv.1.1.1
  refine lp_up (V.1 1) (fun i hi ih => ?_) ?_
  · refine x_iload_n dX12_count_53 rfl ?_
    refine x_aload_n dX12_count_54 rfl ?_
    refine x_get fX12_100 mo rfl dX12_count_55 ?_
    refine x_icmp_ge_f 94 dX12_count_58 (by decide) (ge_f (N := V.1 1) rfl hi (by omega)) ?_
    refine x_iload_n dX12_count_61 rfl ?_
    refine x_iload_n dX12_count_62 rfl ?_
    refine x_iconst (v := 3) dX12_count_63 (by decide) ?_
    refine x_icmp_eq_t 76 dX12_count_64 (by decide) rfl ?_
    refine x_aload_n dX12_count_76 rfl ?_
    refine x_get fX12_19 mo rfl dX12_count_77 ?_
    refine x_iload_n dX12_count_80 rfl ?_
    refine x_iald i m4 rfl (by omega) (by decide) dX12_count_81 ?_
    rw [(hv.2.2.1 i hi).2.2]
    refine x_goto 86 dX12_count_82 (by decide) ?_
    refine x_iadd dX12_count_86 ?_
    refine x_ist_2 dX12_count_87 (by decide) rfl ?_
    refine x_inc_3  dX12_count_88 (by decide) (nI_inc _) rfl ?_
    refine x_goto 53 dX12_count_91 (by decide) ?_
    have E : nI (payS V false (i + 1)) = nI (payS V false i) + nI (V.2.2 6 i) := by rw [payS, if_pos (.inl rfl), nI_add]
    rw [E] at ih
    exact ih
  · refine x_iload_n dX12_count_53 rfl ?_
    refine x_aload_n dX12_count_54 rfl ?_
    refine x_get fX12_100 mo rfl dX12_count_55 ?_
    refine x_icmp_ge_t 94 dX12_count_58 (by decide) (ge_t (N := V.1 1) rfl (by omega)) ?_
    refine x_iload_n dX12_count_94 rfl ?_
    refine x_iret rfl dX12_count_95 ⟨by decide, by decide⟩ ?_
    exact ⟨rfl, rfl⟩
set_option maxRecDepth 10000 in
set_option maxHeartbeats 2000000 in
theorem ct53_4 {g : gG} {h : gH} {m : Nat} {V : VS} {s : Nat → Int32} {l : Nat → Int64} {A : Nat → Nat → Int32} {B : Nat → Nat → Int64} (hm : MM h m V s l A B) (hv : rpV V A) : ∀ i, i ≤ V.1 1 → Ex g mX12_count (gZm g mX12_count (fun o h' => o = some (.int (nI (payS V true (V.1 1)))) ∧ h' = h)) 53 [some (.ref m), some (.int 4), some (.int (nI (payS V true i))), some (.int (nI i))] [] h 0 0 := by
  have mo := hm.1
  have m3 : h.1 (m + 3) = some (.inl (0, 4, .inl (A 2))) := hm.2 2 (by decide)
  have m4 : h.1 (m + 4) = some (.inl (0, 4, .inl (A 3))) := hm.2 3 (by decide)
  have ok8 : V.1 0 ≤ 8 := hv.1.1.1
  have ok4 : V.1 1 ≤ 4 := hv.1.1.2.1
  have okr : V.1 2 ≤ 4 := hv.1.1.2.2
  have t256 : V.1 3 < 256 := lt256 hv.1.2.1 hv.1.1.1
  refine lp_up (V.1 1) (fun i hi ih => ?_) ?_
  · refine x_iload_n dX12_count_53 rfl ?_
    refine x_aload_n dX12_count_54 rfl ?_
    refine x_get fX12_100 mo rfl dX12_count_55 ?_
    refine x_icmp_ge_f 94 dX12_count_58 (by decide) (ge_f (N := V.1 1) rfl hi (by omega)) ?_
    refine x_iload_n dX12_count_61 rfl ?_
    refine x_iload_n dX12_count_62 rfl ?_
    refine x_iconst (v := 3) dX12_count_63 (by decide) ?_
    refine x_icmp_eq_f 76 dX12_count_64 (by decide) (by decide) ?_
    refine x_aload_n dX12_count_67 rfl ?_
    refine x_get fX12_16 mo rfl dX12_count_68 ?_
    refine x_iload_n dX12_count_71 rfl ?_
    refine x_iald i m3 rfl (by omega) (by decide) dX12_count_72 ?_
    rw [(hv.2.2.1 i hi).2.1]
    refine x_if_lt 85 dX12_count_73 (by decide) (fun c73 => ?_) (fun c73 => ?_)
    · refine x_iconst (v := 0) dX12_count_85 (by decide) ?_
      refine x_iadd dX12_count_86 ?_
      refine x_ist_2 dX12_count_87 (by decide) rfl ?_
      refine x_inc_3  dX12_count_88 (by decide) (nI_inc _) rfl ?_
      refine x_goto 53 dX12_count_91 (by decide) ?_
      have q8 := (onM_lt (wl16 hv hi)).mp c73
      have E : nI (payS V true (i + 1)) = nI (payS V true i) + 0 := by rw [payS, if_neg (fun z => z.elim (fun y => by cases y) (fun y => by omega)), show (0 : Int32) = nI 0 from rfl, nI_add]; rfl
      rw [E] at ih
      exact ih
    · refine x_aload_n dX12_count_76 rfl ?_
      refine x_get fX12_19 mo rfl dX12_count_77 ?_
      refine x_iload_n dX12_count_80 rfl ?_
      refine x_iald i m4 rfl (by omega) (by decide) dX12_count_81 ?_
      rw [(hv.2.2.1 i hi).2.2]
      refine x_goto 86 dX12_count_82 (by decide) ?_
      refine x_iadd dX12_count_86 ?_
      refine x_ist_2 dX12_count_87 (by decide) rfl ?_
      refine x_inc_3  dX12_count_88 (by decide) (nI_inc _) rfl ?_
      refine x_goto 53 dX12_count_91 (by decide) ?_
      have E : nI (payS V true (i + 1)) = nI (payS V true i) + nI (V.2.2 6 i) := by rw [payS, if_pos (.inr (Nat.not_lt.mp (fun z => c73 ((onM_lt (wl16 hv hi)).mpr z)))), nI_add]
      rw [E] at ih
      exact ih
  · refine x_iload_n dX12_count_53 rfl ?_
    refine x_aload_n dX12_count_54 rfl ?_
    refine x_get fX12_100 mo rfl dX12_count_55 ?_
    refine x_icmp_ge_t 94 dX12_count_58 (by decide) (ge_t (N := V.1 1) rfl (by omega)) ?_
    refine x_iload_n dX12_count_94 rfl ?_
    refine x_iret rfl dX12_count_95 ⟨by decide, by decide⟩ ?_
    exact ⟨rfl, rfl⟩
set_option maxRecDepth 10000 in
set_option maxHeartbeats 2000000 in
theorem c_X12_count {g : gG} {h : gH} {m : Nat} {S : AS} (hn : isN h m S) {w : Int32} : Rd g mX12_count [.ref m, .int w] h (.int (qCount S.1 w)) := by
  obtain ⟨hz, s, l, A, B, hm, hv, hr⟩ := id hn
  have mo := hm.1
  have ok8 : S.1.1 0 ≤ 8 := hv.1.1.1
  have ok4 : S.1.1 1 ≤ 4 := hv.1.1.2.1
  have okr : S.1.1 2 ≤ 4 := hv.1.1.2.2
  have t256 : S.1.1 3 < 256 := lt256 hv.1.2.1 hv.1.1.1
  refine Cn.of (L := [some (.ref m), some (.int w), none, none]) (by decide) (Nat.le_of_ble_eq_true rfl) rfl ?_
  refine x_iconst (v := 0) dX12_count_0 (by decide) ?_
  refine x_ist_2 dX12_count_1 (by decide) rfl ?_
  refine x_iload_n dX12_count_2 rfl ?_
  refine swX12_count_3 (fun c3 => ?_) (fun c3 => ?_) (fun c3 => ?_) (fun c3 => ?_) (fun c3 => ?_) (fun c3_0 c3_1 c3_2 c3_3 c3_4 => ?_)
  · refine x_aload_n dX12_count_36 rfl ?_
    refine x_get fX12_227 mo rfl dX12_count_37 ?_
    refine x_iret rfl dX12_count_40 ⟨by decide, by decide⟩ ?_
    exact ⟨by rw [c3] <;> rfl, rfl⟩
  · refine x_aload_n dX12_count_41 rfl ?_
    refine x_get fX12_103 mo rfl dX12_count_42 ?_
    refine x_iret rfl dX12_count_45 ⟨by decide, by decide⟩ ?_
    exact ⟨by rw [c3] <;> rfl, rfl⟩
  · refine x_aload_n dX12_count_46 rfl ?_
    refine x_rdV (c_X12_heldSet hm hv) mo lkX12_heldSet sX12_274 dX12_count_47 rfl rfl (Nat.le_of_ble_eq_true rfl) (by decide) ⟨rfl, rfl, by decide, by decide⟩ ?_
    refine x_iret rfl dX12_count_50 ⟨by decide, by decide⟩ ?_
    exact ⟨by rw [c3] <;> rfl, rfl⟩
  · refine x_iconst (v := 0) dX12_count_51 (by decide) ?_
    refine x_ist_3 dX12_count_52 (by decide) rfl ?_
    subst c3
    exact ct53_3 hm hv 0 (Nat.zero_le _)
  · refine x_iconst (v := 0) dX12_count_51 (by decide) ?_
    refine x_ist_3 dX12_count_52 (by decide) rfl ?_
    subst c3
    exact ct53_4 hm hv 0 (Nat.zero_le _)
  · refine x_iconst (v := -1) dX12_count_96 (by decide) ?_
    refine x_iret rfl dX12_count_97 ⟨by decide, by decide⟩ ?_
    exact ⟨by rw [qCount, if_neg c3_0, if_neg c3_1, if_neg c3_2, if_neg c3_3, if_neg c3_4] <;> rfl, rfl⟩
set_option maxRecDepth 10000 in
set_option maxHeartbeats 2000000 in
theorem c_X12_isRow {g : gG} {h : gH} {m : Nat} {V : VS} {R : Nat × (Nat → Int32) × (Nat → Int32)} {s : Nat → Int32} {l : Nat → Int64} {A : Nat → Nat → Int32} {B : Nat → Nat → Int64} (hm : MM h m V s l A B) (hw : rpR R s A) {i w : Int32} : Rd g mX12_isRow [.ref m, .int i, .int w] h (.int (b2i (bl i (nI R.1) = true ∧ ut w 1 = true))) := by
  have mo := hm.1
  have r12 := hw.1
  refine Cn.of (L := [some (.ref m), some (.int i), some (.int w)]) (by decide) (Nat.le_of_ble_eq_true rfl) rfl ?_
  refine x_iload_n dX12_isRow_0 rfl ?_
  refine x_iconst (v := 0) dX12_isRow_1 (by decide) ?_
  refine x_aload_n dX12_isRow_2 rfl ?_
  refine x_get fX12_230 mo rfl dX12_isRow_3 ?_
  rw [hw.2.1]
  refine x_iconst (v := 1) dX12_isRow_6 (by decide) ?_
  refine x_isub dX12_isRow_7 ?_
  refine x_rdS (mc_inB (n := R.1) (by omega)) lkX12_in sX12_93 dX12_isRow_8 rfl rfl (Nat.le_of_ble_eq_true rfl) (by decide) ⟨rfl, rfl, by decide, by decide⟩ ?_
  refine x_if_eqB 25 dX12_isRow_11 (by decide) (fun c11 => ?_) (fun c11 => ?_)
  · refine x_iconst (v := 0) dX12_isRow_25 (by decide) ?_
    refine x_zret rfl dX12_isRow_26 ⟨by decide, by decide⟩ rfl ?_
    exact ⟨by rw [b2i_f (fun z => c11 z.1)], rfl⟩
  · refine x_iload_n dX12_isRow_14 rfl ?_
    refine x_rdS c_X12_isSide lkX12_isSide sX12_313 dX12_isRow_15 rfl rfl (Nat.le_of_ble_eq_true rfl) (by decide) ⟨rfl, rfl, by decide, by decide⟩ ?_
    refine x_if_eqB 25 dX12_isRow_18 (by decide) (fun c18 => ?_) (fun c18 => ?_)
    · refine x_iconst (v := 0) dX12_isRow_25 (by decide) ?_
      refine x_zret rfl dX12_isRow_26 ⟨by decide, by decide⟩ rfl ?_
      exact ⟨by rw [b2i_f (fun z => c18 (by obtain ⟨w1, h1, rfl⟩ := ut_E (b := 1) z.2 (by decide); exact bl_I (b := 2) (by omega) (by decide)))], rfl⟩
    · refine x_iconst (v := 1) dX12_isRow_21 (by decide) ?_
      refine x_goto 26 dX12_isRow_22 (by decide) ?_
      refine x_zret rfl dX12_isRow_26 ⟨by decide, by decide⟩ rfl ?_
      exact ⟨by rw [b2i_t ⟨c11, by obtain ⟨w1, h1, rfl⟩ := bl_E (b := 2) c18 (by decide); exact ut_p.mpr ⟨nI_pos' (by omega), nI_le (b := 1) (by omega) (by decide)⟩⟩], rfl⟩
set_option maxRecDepth 10000 in
set_option maxHeartbeats 2000000 in
theorem c_X12_row {g : gG} {h : gH} {m : Nat} {S : AS} (hn : isN h m S) {i w : Int32} : Rd g mX12_row [.ref m, .int i, .int w] h (.int (qRow S i w)) := by
  obtain ⟨hz, s, l, A, B, hm, hv, hr⟩ := id hn
  have mo := hm.1
  have m16 : h.1 (m + 16) = some (.inl (0, 24, .inl (A 15))) := hm.2 15 (by decide)
  have ok8 : S.1.1 0 ≤ 8 := hv.1.1.1
  have ok4 : S.1.1 1 ≤ 4 := hv.1.1.2.1
  have okr : S.1.1 2 ≤ 4 := hv.1.1.2.2
  have t256 : S.1.1 3 < 256 := lt256 hv.1.2.1 hv.1.1.1
  have hw := hr.2.2.1
  have r12 := hw.1
  refine Cn.of (L := [some (.ref m), some (.int i), some (.int w)]) (by decide) (Nat.le_of_ble_eq_true rfl) rfl ?_
  refine x_aload_n dX12_row_0 rfl ?_
  refine x_iload_n dX12_row_1 rfl ?_
  refine x_iload_n dX12_row_2 rfl ?_
  refine x_rdV (c_X12_isRow hm hw) mo lkX12_isRow sX12_359 dX12_row_3 rfl rfl (Nat.le_of_ble_eq_true rfl) (by decide) ⟨rfl, rfl, by decide, by decide⟩ ?_
  refine x_if_eqB 22 dX12_row_6 (by decide) (fun c6 => ?_) (fun c6 => ?_)
  · refine x_bipush (v := -9) dX12_row_22 (by decide) ?_
    refine x_iret rfl dX12_row_24 ⟨by decide, by decide⟩ ?_
    exact ⟨by rw [qRow, if_neg c6] <;> rfl, rfl⟩
  · obtain ⟨i1, hi, rfl⟩ := bl_E c6.1 (by omega)
    obtain ⟨w1, hw1, rfl⟩ := ut_E (b := 1) c6.2 (by decide)
    refine x_aload_n dX12_row_9 rfl ?_
    refine x_get fX12_60 mo rfl dX12_row_10 ?_
    refine x_iconst (v := 2) dX12_row_13 (by decide) ?_
    refine x_iload_n dX12_row_14 rfl ?_
    refine x_imul dX12_row_15 ?_
    refine x_iload_n dX12_row_16 rfl ?_
    refine x_iadd dX12_row_17 ?_
    refine x_iald (2 * i1 + w1) m16 (by rw [show (2 : Int32) = nI 2 from rfl, ts_mul, nI_add]) (by omega) (by decide) dX12_row_18 ?_
    refine x_goto 24 dX12_row_19 (by decide) ?_
    refine x_iret rfl dX12_row_24 ⟨by decide, by decide⟩ ?_
    rcases (show w1 = 0 ∨ w1 = 1 by omega) with rfl | rfl
    · exact ⟨by rw [qRow, if_pos c6, iN_nI (by omega), show 2 * i1 + 0 = 2 * i1 from rfl, (hw.2.2 i1 hi).1] <;> rfl, rfl⟩
    · exact ⟨by rw [qRow, if_pos c6, iN_nI (by omega), (hw.2.2 i1 hi).2] <;> rfl, rfl⟩
set_option maxRecDepth 10000 in
set_option maxHeartbeats 2000000 in
theorem c_X12_alterRow {g : gG} {h : gH} {m : Nat} {S : AS} (hn : isN h m S) {i w v : Int32} : Ct g mX12_alterRow [.ref m, .int i, .int w, .int v] h (some (.int (oAlter S i w v).1)) (Pn m (oAlter S i w v).2 h) := by
  obtain ⟨hz, s, l, A, B, hm, hv, hr⟩ := id hn
  have mo := hm.1
  have m16 : h.1 (m + 16) = some (.inl (0, 24, .inl (A 15))) := hm.2 15 (by decide)
  have ok8 : S.1.1 0 ≤ 8 := hv.1.1.1
  have ok4 : S.1.1 1 ≤ 4 := hv.1.1.2.1
  have okr : S.1.1 2 ≤ 4 := hv.1.1.2.2
  have t256 : S.1.1 3 < 256 := lt256 hv.1.2.1 hv.1.1.1
  have hw := hr.2.2.1
  have r12 := hw.1
  refine Cn.of (L := [some (.ref m), some (.int i), some (.int w), some (.int v), none]) (by decide) (Nat.le_of_ble_eq_true rfl) rfl ?_
  refine x_aload_n dX12_alterRow_0 rfl ?_
  refine x_iload_n dX12_alterRow_1 rfl ?_
  refine x_iload_n dX12_alterRow_2 rfl ?_
  refine x_rdV (c_X12_isRow hm hw) mo lkX12_isRow sX12_359 dX12_alterRow_3 rfl rfl (Nat.le_of_ble_eq_true rfl) (by decide) ⟨rfl, rfl, by decide, by decide⟩ ?_
  refine x_if_neB 12 dX12_alterRow_6 (by decide) (fun c6 => ?_) (fun c6 => ?_)
  · obtain ⟨i1, hi, rfl⟩ := bl_E c6.1 (by omega)
    obtain ⟨w1, hw1, rfl⟩ := ut_E (b := 1) c6.2 (by decide)
    refine x_aload_n dX12_alterRow_12 rfl ?_
    refine x_get fX12_60 mo rfl dX12_alterRow_13 ?_
    refine x_iconst (v := 2) dX12_alterRow_16 (by decide) ?_
    refine x_iload_n dX12_alterRow_17 rfl ?_
    refine x_imul dX12_alterRow_18 ?_
    refine x_iload_n dX12_alterRow_19 rfl ?_
    refine x_iadd dX12_alterRow_20 ?_
    refine x_iald (2 * i1 + w1) m16 (by rw [show (2 : Int32) = nI 2 from rfl, ts_mul, nI_add]) (by omega) (by decide) dX12_alterRow_21 ?_
    refine x_ist_4 dX12_alterRow_22 (by decide) rfl ?_
    refine x_aload_n dX12_alterRow_24 rfl ?_
    refine x_get fX12_60 mo rfl dX12_alterRow_25 ?_
    refine x_iconst (v := 2) dX12_alterRow_28 (by decide) ?_
    refine x_iload_n dX12_alterRow_29 rfl ?_
    refine x_imul dX12_alterRow_30 ?_
    refine x_iload_n dX12_alterRow_31 rfl ?_
    refine x_iadd dX12_alterRow_32 ?_
    refine x_iload_n dX12_alterRow_33 rfl ?_
    refine x_iast (2 * i1 + w1) m16 (by rw [show (2 : Int32) = nI 2 from rfl, ts_mul, nI_add]) (by omega) (by decide) dX12_alterRow_34 ?_
    refine x_iload dX12_alterRow_35 rfl ?_
    refine x_iret rfl dX12_alterRow_37 ⟨by decide, by decide⟩ ?_
    rcases (show w1 = 0 ∨ w1 = 1 by omega) with rfl | rfl
    · refine fnA (S' := rwS S S.2.2.2.1.1 (va_up S.2.2.2.1.2.1 i1 v) (S.2.2.2.1.2.2)) (isN.of hz (hm.int (i := 15) rfl) hv ⟨hr.1, hr.2.1, ⟨r12, hw.2.1, fun j hj => ?_⟩, hr.2.2.2⟩ (Fr.set (by omega) (by omega))) ?_
      · have old := hw.2.2 j hj
        simp only [va_up_self]
        by_cases e : j = i1
        · subst e
          rw [va_up_self, show 2 * j + 0 = 2 * j from rfl, va_up_self, va_up_ne _ _ (by omega)]; exact ⟨rfl, old.2⟩
        · rw [va_up_ne _ _ (by omega), va_up_ne _ _ (by omega), va_up_ne _ _ (by omega)]; exact old
      · (rw [oAlter, if_pos c6, iN_nI (by omega), ← (hw.2.2 i1 hi).1]) <;> rfl
    · refine fnA (S' := rwS S S.2.2.2.1.1 (S.2.2.2.1.2.1) (va_up S.2.2.2.1.2.2 i1 v)) (isN.of hz (hm.int (i := 15) rfl) hv ⟨hr.1, hr.2.1, ⟨r12, hw.2.1, fun j hj => ?_⟩, hr.2.2.2⟩ (Fr.set (by omega) (by omega))) ?_
      · have old := hw.2.2 j hj
        simp only [va_up_self]
        by_cases e : j = i1
        · subst e
          rw [va_up_self, va_up_self, va_up_ne _ _ (by omega)]; exact ⟨old.1, rfl⟩
        · rw [va_up_ne _ _ (by omega), va_up_ne _ _ (by omega), va_up_ne _ _ (by omega)]; exact old
      · (rw [oAlter, if_pos c6, iN_nI (by omega), ← (hw.2.2 i1 hi).2]) <;> rfl
  · refine x_bipush (v := -9) dX12_alterRow_9 (by decide) ?_
    refine x_iret rfl dX12_alterRow_11 ⟨by decide, by decide⟩ ?_
    exact fnA hn.rf (by rw [oAlter, if_neg c6] <;> rfl)
