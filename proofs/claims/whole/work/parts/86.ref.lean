def rpF (U : VS) (s : Nat → Int32) (A : Nat → Nat → Int32) : Prop := okV U ∧ (s 13 = nI (U.1 0) ∧ s 14 = nI (U.1 3) ∧ s 15 = nI (U.1 1) ∧ s 16 = nI (U.1 4)) ∧ (∀ f p, f < 5 → p < U.1 0 → A 7 (5 * p + f) = nI (U.2.2 f p)) ∧ (∀ w, w < U.1 1 → U.2.2 5 w < 8 ∧ A 8 w = nI (U.2.2 5 w) ∧ A 9 w = nI (U.2.2 6 w)) ∧ ∀ c, c < 8 → A 10 c = nI (U.2.2 7 c)
theorem rpF.s {U : VS} {s s1 : Nat → Int32} {A : Nat → Nat → Int32} (h : rpF U s A) (f : frS s s1) : rpF U s1 A := by
  obtain ⟨a, ⟨b, c, d, e⟩, r⟩ := h
  exact ⟨a, ⟨(f 13 (by omega)).trans b, (f 14 (by omega)).trans c, (f 15 (by omega)).trans d, (f 16 (by omega)).trans e⟩, r⟩
theorem frS.tr {s s1 s2 : Nat → Int32} (a : frS s s1) (b : frS s1 s2) : frS s s2 := fun i hi => (b i hi).trans (a i hi)
theorem frL.tr {s s1 s2 : Nat → Int64} (a : frL s s1) (b : frL s1 s2) : frL s s2 := fun i hi => (b i hi).trans (a i hi)
/-- what a clause leaves as it was -/
def frC (s s1 : Nat → Int32) (A A1 : Nat → Nat → Int32) : Prop := (∀ i, i < 8 ∨ 17 ≤ i → s1 i = s i) ∧ ∀ i, i < 7 ∨ 11 ≤ i → A1 i = A i
theorem frS.c {s s1 : Nat → Int32} {A : Nat → Nat → Int32} (f : frS s s1) : frC s s1 A A := ⟨fun i hi => f i (by omega), fun _ _ => rfl⟩
theorem frC.tr {s s1 s2 : Nat → Int32} {A A1 A2 : Nat → Nat → Int32} (a : frC s s1 A A1) (b : frC s1 s2 A1 A2) : frC s s2 A A2 := ⟨fun i hi => (b.1 i hi).trans (a.1 i hi), fun i hi => (b.2 i hi).trans (a.2 i hi)⟩
def CLP (m : Nat) (V : VS) (T : TT) (s : Nat → Int32) (l : Nat → Int64) (A : Nat → Nat → Int32) (B : Nat → Nat → Int64) (r : TS × VS) (h h' : gH) : Prop := ∃ s1 l1 A1, MM h' m V s1 l1 A1 B ∧ TZ T r.1 s1 l1 ∧ (r.1.2 = true → rpF r.2 s1 A1) ∧ frC s s1 A A1 ∧ frL l l1 ∧ Fr m 27 h h'
theorem or_two (x n : Nat) : (x ||| 2 ^ n) ||| 2 ^ n = x ||| 2 ^ n := by rw [Nat.or_assoc, Nat.or_self]
theorem clr_or : ∀ n, n ≤ 8 → ∀ x, x < 256 → x < 2 ^ n → clr (x ||| 2 ^ n) n = x := by decide +kernel
theorem rp_fp {U : VS} {s s1 : Nat → Int32} {A A' : Nat → Nat → Int32} {f : Nat → Nat} {gb : Bool} (hv : rpF U s A) (hn : U.1 0 < 8) (h0 : f 0 < 6) (h1 : f 1 < 8) (h2 : f 2 < 8) (h3 : f 1 ≠ f 2) (h4 : f 3 ≤ 8) (h5 : f 4 ≤ 8) (e13 : s1 13 = nI (U.1 0 + 1)) (e14 : s1 14 = if gb = true then nI (U.1 3) else nI (U.1 3 ||| 2 ^ U.1 0)) (e15 : s1 15 = s 15) (e16 : s1 16 = s 16) (e8 : A' 8 = A 8) (e9 : A' 9 = A 9) (e10 : A' 10 = A 10) (q0 : ∀ i, i < 5 * U.1 0 → A' 7 i = A 7 i) (q1 : ∀ i, i < 5 → A' 7 (5 * U.1 0 + i) = nI (f i)) : rpF (stT (stT (adP U f) (U.1 0) true) (U.1 0) (!gb)) s1 A' := by
  have ok1 : okV (stT (adP U f) (U.1 0) true) := stT_ok (adP_ok hv.1 hn h0 h1 h2 h3 h4 h5) (by show U.1 0 < U.1 0 + 1; omega) (fun z => by cases z)
  have t256 := lt256 hv.1.2.1 (by omega : U.1 0 ≤ 8)
  refine ⟨stT_ok ok1 (by show U.1 0 < U.1 0 + 1; omega) (fun _ => (onS_0 _).mpr (fun u a => by have := (hv.1.2.2.2.2.1 u a).1; show U.2.2 5 u ≠ _; omega)), ⟨e13, ?_, e15.trans hv.2.1.2.2.1, e16.trans hv.2.1.2.2.2⟩, fun i p hi hp => ?_, fun w hw => ?_, fun c hc => ?_⟩
  · rw [e14]
    cases gb
    · show nI (U.1 3 ||| 2 ^ U.1 0) = nI ((U.1 3 ||| 2 ^ U.1 0) ||| 2 ^ U.1 0)
      rw [or_two]
    · show nI (U.1 3) = nI (clr (U.1 3 ||| 2 ^ U.1 0) (U.1 0))
      rw [clr_or _ (by omega) _ t256 hv.1.2.1]
  · have hp : p < U.1 0 + 1 := hp
    show A' 7 (5 * p + i) = nI (if i < 5 ∧ p = U.1 0 then f i else U.2.2 i p)
    by_cases e : p = U.1 0
    · subst e; rw [if_pos ⟨hi, rfl⟩]; exact q1 i hi
    · rw [if_neg (fun z => e z.2), q0 _ (by omega)]; exact hv.2.2.1 i p hi (by omega)
  · rw [e8, e9]
    show ((if (5 : Nat) < 5 ∧ w = U.1 0 then f 5 else U.2.2 5 w) < 8 ∧ A 8 w = nI (if (5 : Nat) < 5 ∧ w = U.1 0 then f 5 else U.2.2 5 w) ∧ A 9 w = nI (if (6 : Nat) < 5 ∧ w = U.1 0 then f 6 else U.2.2 6 w))
    rw [if_neg (fun z => by omega), if_neg (fun z => by omega)]
    exact hv.2.2.2.1 w hw
  · rw [e10]
    show A 10 c = nI (if (7 : Nat) < 5 ∧ c = U.1 0 then f 7 else U.2.2 7 c)
    rw [if_neg (fun z => by omega)]
    exact hv.2.2.2.2 c hc
theorem tkE_t {T : TT} {s : TS} (h : (tkE T s).2 = true) : s.2 = true := by
  unfold tkE at h
  split at h
  · next q => exact q.1
  · cases h
set_option maxRecDepth 10000 in
set_option maxHeartbeats 2000000 in
theorem wp138_0 {g : gG} {h h1 : gH} {m : Nat} {V : VS} {s s1 : Nat → Int32} {l l1 : Nat → Int64} {A : Nat → Nat → Int32} {B : Nat → Nat → Int64} {U : VS} {T : TT} (h240 : T.1 ≤ 240) (hT : ∀ i, i < T.1 → T.2 i < 256 ∧ A 6 i = nI (T.2 i)) (hs7 : s 7 = nI T.1) {t1 : TS} {x1 x2 x3 x4 : Int32} {k : Nat} {w7 : Option Value} {tf_ : Nat → Nat} {U' : VS} (hm1 : MM h1 m V s1 l1 A B) (hz1 : TZ T t1 s1 l1) (fs1 : frS s s1) (fl1 : frL l l1) (F1 : Fr m 27 h h1) (hF : rpF U s1 A) (hn8 : t1.2 = true → U.1 0 < 8) (hvv : t1.2 = true → x1 = nI (tf_ 1) ∧ x2 = nI (tf_ 2) ∧ x3 = nI (tf_ 3) ∧ x4 = nI (tf_ 4)) (hk : k = tf_ 0) (hfb : t1.2 = true → tf_ 0 < 6 ∧ tf_ 1 < 8 ∧ tf_ 2 < 8 ∧ tf_ 1 ≠ tf_ 2 ∧ tf_ 3 ≤ 8 ∧ tf_ 4 ≤ 8) (eU : t1.2 = true → U' = stT (stT (adP U tf_) (U.1 0) true) (U.1 0) true) : Ex g mX12_wantPath (gZm g mX12_wantPath (fun o h' => o = none ∧ CLP m V T s l A B (tkE T t1, U') h h')) 138 [some (.ref m), some (.int (nI k)), some (.int x1), some (.int x2), some (.int x3), some (.int x4), some (.int 0), w7] [] h1 0 0 := by
  subst hk
  have ok8 := hF.1.1.1
  refine x_aload_n dX12_wantPath_138 rfl ?_
  refine x_cnV (c_X12_wantEnd hm1 h240 hT ((fs1 7 (by omega)).trans hs7) hz1) hm1.1 lkX12_wantEnd sX12_190 dX12_wantPath_139 rfl rfl (Nat.le_of_ble_eq_true rfl) (by decide) ⟨rfl, rfl, by decide, by decide⟩ ?_
  rintro h2 ⟨s2, l2, hm2, hz2, fa, fb, F2⟩
  have fs2 := fs1.tr fa
  have fl2 := fl1.tr fb
  have m8 : h2.1 (m + 8) = some (.inl (0, 40, .inl (A 7))) := hm2.2 7 (by decide)
  have mo2 := hm2.1
  refine x_aload_n dX12_wantPath_142 rfl ?_
  refine x_get fX12_164 mo2 rfl dX12_wantPath_143 ?_
  rw [hz2.2]
  refine x_if_eq 241 dX12_wantPath_146 (by decide) (fun c146 => ?_) (fun c146 => ?_)
  · refine x_vret rfl dX12_wantPath_241 ⟨by decide, by decide⟩ ?_
    have g8 : ¬ (tkE T t1).2 = true := b2i_0.mp c146
    exact ⟨rfl, s2, l2, A, hm2, hz2, fun z => absurd z g8, fs2.c, fl2, F1.tr F2⟩
  · have g8 : (tkE T t1).2 = true := Decidable.not_not.mp (fun z => c146 (b2i_0.mpr z))
    have g1 : t1.2 = true := tkE_t g8
    have n8 := hn8 g1
    have hF2 := hF.s fa
    have hf := hfb g1
    obtain ⟨v1, v2, v3, v4⟩ := hvv g1
    rw [v1, v2, v3, v4]
    refine x_iconst (v := 5) dX12_wantPath_149 (by decide) ?_
    refine x_aload_n dX12_wantPath_150 rfl ?_
    refine x_get fX12_174 mo2 rfl dX12_wantPath_151 ?_
    refine x_imul dX12_wantPath_154 ?_
    rw [hF2.2.1.1, show (5 : Int32) * nI (U.1 0) = nI (5 * U.1 0) by rw [show (5 : Int32) = nI 5 from rfl, ts_mul]]
    refine x_ist_7 dX12_wantPath_155 (by decide) rfl ?_
    refine x_aload_n dX12_wantPath_157 rfl ?_
    refine x_get fX12_35 mo2 rfl dX12_wantPath_158 ?_
    refine x_iload dX12_wantPath_161 rfl ?_
    refine x_iload_n dX12_wantPath_163 rfl ?_
    refine x_iast (5 * U.1 0 + 0) m8 (rfl) (by omega) (by decide) dX12_wantPath_164 ?_
    refine x_aload_n dX12_wantPath_165 rfl ?_
    refine x_get fX12_35 ((hset_n (by omega)).trans mo2) rfl dX12_wantPath_166 ?_
    refine x_iload dX12_wantPath_169 rfl ?_
    refine x_iconst (v := 1) dX12_wantPath_171 (by decide) ?_
    refine x_iadd dX12_wantPath_172 ?_
    refine x_iload_n dX12_wantPath_173 rfl ?_
    refine x_iast (5 * U.1 0 + 1) hset_s (nI_add _ _) (by omega) (by decide) dX12_wantPath_174 ?_
    refine x_aload_n dX12_wantPath_175 rfl ?_
    refine x_get fX12_35 ((hset_n (by omega)).trans ((hset_n (by omega)).trans mo2)) rfl dX12_wantPath_176 ?_
    refine x_iload dX12_wantPath_179 rfl ?_
    refine x_iconst (v := 2) dX12_wantPath_181 (by decide) ?_
    refine x_iadd dX12_wantPath_182 ?_
    refine x_iload_n dX12_wantPath_183 rfl ?_
    refine x_iast (5 * U.1 0 + 2) hset_s (nI_add _ _) (by omega) (by decide) dX12_wantPath_184 ?_
    refine x_aload_n dX12_wantPath_185 rfl ?_
    refine x_get fX12_35 ((hset_n (by omega)).trans ((hset_n (by omega)).trans ((hset_n (by omega)).trans mo2))) rfl dX12_wantPath_186 ?_
    refine x_iload dX12_wantPath_189 rfl ?_
    refine x_iconst (v := 3) dX12_wantPath_191 (by decide) ?_
    refine x_iadd dX12_wantPath_192 ?_
    refine x_iload dX12_wantPath_193 rfl ?_
    refine x_iast (5 * U.1 0 + 3) hset_s (nI_add _ _) (by omega) (by decide) dX12_wantPath_195 ?_
    refine x_aload_n dX12_wantPath_196 rfl ?_
    refine x_get fX12_35 ((hset_n (by omega)).trans ((hset_n (by omega)).trans ((hset_n (by omega)).trans ((hset_n (by omega)).trans mo2)))) rfl dX12_wantPath_197 ?_
    refine x_iload dX12_wantPath_200 rfl ?_
    refine x_iconst (v := 4) dX12_wantPath_202 (by decide) ?_
    refine x_iadd dX12_wantPath_203 ?_
    refine x_iload dX12_wantPath_204 rfl ?_
    refine x_iast (5 * U.1 0 + 4) hset_s (nI_add _ _) (by omega) (by decide) dX12_wantPath_206 ?_
    refine x_aload_n dX12_wantPath_207 rfl ?_
    refine x_dup dX12_wantPath_208 rfl ?_
    refine x_get fX12_193 ((hset_n (by omega)).trans ((hset_n (by omega)).trans ((hset_n (by omega)).trans ((hset_n (by omega)).trans ((hset_n (by omega)).trans mo2))))) rfl dX12_wantPath_209 ?_
    rw [hF2.2.1.2.1]
    refine x_iload dX12_wantPath_212 rfl ?_
    refine x_if_eq_t 221 dX12_wantPath_214 (by decide) rfl ?_
    refine x_iconst (v := 1) dX12_wantPath_221 (by decide) ?_
    refine x_aload_n dX12_wantPath_222 rfl ?_
    refine x_get fX12_174 ((hset_n (by omega)).trans ((hset_n (by omega)).trans ((hset_n (by omega)).trans ((hset_n (by omega)).trans ((hset_n (by omega)).trans mo2))))) rfl dX12_wantPath_223 ?_
    rw [hF2.2.1.1]
    refine x_ishl dX12_wantPath_226 ?_
    refine x_ior dX12_wantPath_227 ?_
    rw [sh1 _ (by omega), fa_or]
    refine x_put (fs' := mF m V (va_up s2 14 (nI (U.1 3 ||| 2 ^ U.1 0))) l2) fX12_193 ((hset_n (by omega)).trans ((hset_n (by omega)).trans ((hset_n (by omega)).trans ((hset_n (by omega)).trans ((hset_n (by omega)).trans mo2))))) (Nat.le_of_ble_eq_true rfl) rfl rfl rfl dX12_wantPath_228 ?_
    refine x_aload_n dX12_wantPath_231 rfl ?_
    refine x_dup dX12_wantPath_232 rfl ?_
    refine x_get fX12_174 hset_s rfl dX12_wantPath_233 ?_
    refine x_iconst (v := 1) dX12_wantPath_236 (by decide) ?_
    refine x_iadd dX12_wantPath_237 ?_
    rw [show (va_up s2 14 (nI (U.1 3 ||| 2 ^ U.1 0))) 13 + 1 = nI (U.1 0 + 1) by rw [va_up_ne _ _ (by decide), hF2.2.1.1]; exact nI_1 _]
    refine x_put (fs' := mF m V (va_up (va_up s2 14 (nI (U.1 3 ||| 2 ^ U.1 0))) 13 (nI (U.1 0 + 1))) l2) fX12_174 hset_s (Nat.le_of_ble_eq_true rfl) rfl rfl rfl dX12_wantPath_238 ?_
    refine x_vret rfl dX12_wantPath_241 ⟨by decide, by decide⟩ ?_
    refine ⟨rfl, _, _, _, ((((((hm2.int (i := 7) rfl).int (i := 7) rfl).int (i := 7) rfl).int (i := 7) rfl).int (i := 7) rfl).num).num, ⟨⟨hz2.1.1, hz2.1.2.1, hz2.1.2.2.1, hz2.1.2.2.2.1, hz2.1.2.2.2.2.1, hz2.1.2.2.2.2.2⟩, hz2.2⟩, fun _ => ?_, ⟨fun i hi => (va_up_ne _ _ (by omega)).trans ((va_up_ne _ _ (by omega)).trans (fs2 i (by omega))), fun i hi => ?_⟩, fl2, ((((((((F1.tr F2).tr (Fr.set (by omega) (by omega))).tr (Fr.set (by omega) (by omega))).tr (Fr.set (by omega) (by omega))).tr (Fr.set (by omega) (by omega))).tr (Fr.set (by omega) (by omega))).tr (Fr.set (by omega) (by omega)))).tr (Fr.set (by omega) (by omega))⟩
    · rw [eU g1]
      refine rp_fp (gb := false) (f := tf_) hF2 n8 hf.1 hf.2.1 hf.2.2.1 hf.2.2.2.1 hf.2.2.2.2.1 hf.2.2.2.2.2 (va_up_self _ _ _) rfl rfl rfl rfl rfl rfl (fun i hi => ?_) (fun i hi => ?_)
      · simp only [va_up_self]
        rw [va_up_ne _ _ (by omega), va_up_ne _ _ (by omega), va_up_ne _ _ (by omega), va_up_ne _ _ (by omega), va_up_ne _ _ (by omega)]
      · simp only [va_up_self]
        rcases (show i = 0 ∨ i = 1 ∨ i = 2 ∨ i = 3 ∨ i = 4 by omega) with rfl | rfl | rfl | rfl | rfl
        · rw [va_up_ne _ _ (by omega), va_up_ne _ _ (by omega), va_up_ne _ _ (by omega), va_up_ne _ _ (by omega)]; exact va_up_self _ _ _
        · rw [va_up_ne _ _ (by omega), va_up_ne _ _ (by omega), va_up_ne _ _ (by omega)]; exact va_up_self _ _ _
        · rw [va_up_ne _ _ (by omega), va_up_ne _ _ (by omega)]; exact va_up_self _ _ _
        · rw [va_up_ne _ _ (by omega)]; exact va_up_self _ _ _
        · exact va_up_self _ _ _
    · rw [va_up_ne _ _ (by omega), va_up_ne _ _ (by omega), va_up_ne _ _ (by omega), va_up_ne _ _ (by omega), va_up_ne _ _ (by omega)]
set_option maxRecDepth 10000 in
set_option maxHeartbeats 2000000 in
theorem wp138_1 {g : gG} {h h1 : gH} {m : Nat} {V : VS} {s s1 : Nat → Int32} {l l1 : Nat → Int64} {A : Nat → Nat → Int32} {B : Nat → Nat → Int64} {U : VS} {T : TT} (h240 : T.1 ≤ 240) (hT : ∀ i, i < T.1 → T.2 i < 256 ∧ A 6 i = nI (T.2 i)) (hs7 : s 7 = nI T.1) {t1 : TS} {x1 x2 x3 x4 : Int32} {k : Nat} {w7 : Option Value} {tf_ : Nat → Nat} {U' : VS} (hm1 : MM h1 m V s1 l1 A B) (hz1 : TZ T t1 s1 l1) (fs1 : frS s s1) (fl1 : frL l l1) (F1 : Fr m 27 h h1) (hF : rpF U s1 A) (hn8 : t1.2 = true → U.1 0 < 8) (hvv : t1.2 = true → x1 = nI (tf_ 1) ∧ x2 = nI (tf_ 2) ∧ x3 = nI (tf_ 3) ∧ x4 = nI (tf_ 4)) (hk : k = tf_ 0) (hfb : t1.2 = true → tf_ 0 < 6 ∧ tf_ 1 < 8 ∧ tf_ 2 < 8 ∧ tf_ 1 ≠ tf_ 2 ∧ tf_ 3 ≤ 8 ∧ tf_ 4 ≤ 8) (eU : t1.2 = true → U' = stT (stT (adP U tf_) (U.1 0) true) (U.1 0) false) : Ex g mX12_wantPath (gZm g mX12_wantPath (fun o h' => o = none ∧ CLP m V T s l A B (tkE T t1, U') h h')) 138 [some (.ref m), some (.int (nI k)), some (.int x1), some (.int x2), some (.int x3), some (.int x4), some (.int 1), w7] [] h1 0 0 := by
  subst hk
  have ok8 := hF.1.1.1
  refine x_aload_n dX12_wantPath_138 rfl ?_
  refine x_cnV (c_X12_wantEnd hm1 h240 hT ((fs1 7 (by omega)).trans hs7) hz1) hm1.1 lkX12_wantEnd sX12_190 dX12_wantPath_139 rfl rfl (Nat.le_of_ble_eq_true rfl) (by decide) ⟨rfl, rfl, by decide, by decide⟩ ?_
  rintro h2 ⟨s2, l2, hm2, hz2, fa, fb, F2⟩
  have fs2 := fs1.tr fa
  have fl2 := fl1.tr fb
  have m8 : h2.1 (m + 8) = some (.inl (0, 40, .inl (A 7))) := hm2.2 7 (by decide)
  have mo2 := hm2.1
  refine x_aload_n dX12_wantPath_142 rfl ?_
  refine x_get fX12_164 mo2 rfl dX12_wantPath_143 ?_
  rw [hz2.2]
  refine x_if_eq 241 dX12_wantPath_146 (by decide) (fun c146 => ?_) (fun c146 => ?_)
  · refine x_vret rfl dX12_wantPath_241 ⟨by decide, by decide⟩ ?_
    have g8 : ¬ (tkE T t1).2 = true := b2i_0.mp c146
    exact ⟨rfl, s2, l2, A, hm2, hz2, fun z => absurd z g8, fs2.c, fl2, F1.tr F2⟩
  · have g8 : (tkE T t1).2 = true := Decidable.not_not.mp (fun z => c146 (b2i_0.mpr z))
    have g1 : t1.2 = true := tkE_t g8
    have n8 := hn8 g1
    have hF2 := hF.s fa
    have hf := hfb g1
    obtain ⟨v1, v2, v3, v4⟩ := hvv g1
    rw [v1, v2, v3, v4]
    refine x_iconst (v := 5) dX12_wantPath_149 (by decide) ?_
    refine x_aload_n dX12_wantPath_150 rfl ?_
    refine x_get fX12_174 mo2 rfl dX12_wantPath_151 ?_
    refine x_imul dX12_wantPath_154 ?_
    rw [hF2.2.1.1, show (5 : Int32) * nI (U.1 0) = nI (5 * U.1 0) by rw [show (5 : Int32) = nI 5 from rfl, ts_mul]]
    refine x_ist_7 dX12_wantPath_155 (by decide) rfl ?_
    refine x_aload_n dX12_wantPath_157 rfl ?_
    refine x_get fX12_35 mo2 rfl dX12_wantPath_158 ?_
    refine x_iload dX12_wantPath_161 rfl ?_
    refine x_iload_n dX12_wantPath_163 rfl ?_
    refine x_iast (5 * U.1 0 + 0) m8 (rfl) (by omega) (by decide) dX12_wantPath_164 ?_
    refine x_aload_n dX12_wantPath_165 rfl ?_
    refine x_get fX12_35 ((hset_n (by omega)).trans mo2) rfl dX12_wantPath_166 ?_
    refine x_iload dX12_wantPath_169 rfl ?_
    refine x_iconst (v := 1) dX12_wantPath_171 (by decide) ?_
    refine x_iadd dX12_wantPath_172 ?_
    refine x_iload_n dX12_wantPath_173 rfl ?_
    refine x_iast (5 * U.1 0 + 1) hset_s (nI_add _ _) (by omega) (by decide) dX12_wantPath_174 ?_
    refine x_aload_n dX12_wantPath_175 rfl ?_
    refine x_get fX12_35 ((hset_n (by omega)).trans ((hset_n (by omega)).trans mo2)) rfl dX12_wantPath_176 ?_
    refine x_iload dX12_wantPath_179 rfl ?_
    refine x_iconst (v := 2) dX12_wantPath_181 (by decide) ?_
    refine x_iadd dX12_wantPath_182 ?_
    refine x_iload_n dX12_wantPath_183 rfl ?_
    refine x_iast (5 * U.1 0 + 2) hset_s (nI_add _ _) (by omega) (by decide) dX12_wantPath_184 ?_
    refine x_aload_n dX12_wantPath_185 rfl ?_
    refine x_get fX12_35 ((hset_n (by omega)).trans ((hset_n (by omega)).trans ((hset_n (by omega)).trans mo2))) rfl dX12_wantPath_186 ?_
    refine x_iload dX12_wantPath_189 rfl ?_
    refine x_iconst (v := 3) dX12_wantPath_191 (by decide) ?_
    refine x_iadd dX12_wantPath_192 ?_
    refine x_iload dX12_wantPath_193 rfl ?_
    refine x_iast (5 * U.1 0 + 3) hset_s (nI_add _ _) (by omega) (by decide) dX12_wantPath_195 ?_
    refine x_aload_n dX12_wantPath_196 rfl ?_
    refine x_get fX12_35 ((hset_n (by omega)).trans ((hset_n (by omega)).trans ((hset_n (by omega)).trans ((hset_n (by omega)).trans mo2)))) rfl dX12_wantPath_197 ?_
    refine x_iload dX12_wantPath_200 rfl ?_
    refine x_iconst (v := 4) dX12_wantPath_202 (by decide) ?_
    refine x_iadd dX12_wantPath_203 ?_
    refine x_iload dX12_wantPath_204 rfl ?_
    refine x_iast (5 * U.1 0 + 4) hset_s (nI_add _ _) (by omega) (by decide) dX12_wantPath_206 ?_
    refine x_aload_n dX12_wantPath_207 rfl ?_
    refine x_dup dX12_wantPath_208 rfl ?_
    refine x_get fX12_193 ((hset_n (by omega)).trans ((hset_n (by omega)).trans ((hset_n (by omega)).trans ((hset_n (by omega)).trans ((hset_n (by omega)).trans mo2))))) rfl dX12_wantPath_209 ?_
    rw [hF2.2.1.2.1]
    refine x_iload dX12_wantPath_212 rfl ?_
    refine x_if_eq_f 221 dX12_wantPath_214 (by decide) (show ¬ (1 : Int32) = 0 by decide) ?_
    refine x_iconst (v := 0) dX12_wantPath_217 (by decide) ?_
    refine x_goto 227 dX12_wantPath_218 (by decide) ?_
    refine x_ior dX12_wantPath_227 ?_
    rw [show nI (U.1 3) ||| 0 = nI (U.1 3) by rw [show (0 : Int32) = nI 0 from rfl, fa_or, Nat.or_zero]]
    refine x_put (fs' := mF m V (va_up s2 14 (nI (U.1 3))) l2) fX12_193 ((hset_n (by omega)).trans ((hset_n (by omega)).trans ((hset_n (by omega)).trans ((hset_n (by omega)).trans ((hset_n (by omega)).trans mo2))))) (Nat.le_of_ble_eq_true rfl) rfl rfl rfl dX12_wantPath_228 ?_
    refine x_aload_n dX12_wantPath_231 rfl ?_
    refine x_dup dX12_wantPath_232 rfl ?_
    refine x_get fX12_174 hset_s rfl dX12_wantPath_233 ?_
    refine x_iconst (v := 1) dX12_wantPath_236 (by decide) ?_
    refine x_iadd dX12_wantPath_237 ?_
    rw [show (va_up s2 14 (nI (U.1 3))) 13 + 1 = nI (U.1 0 + 1) by rw [va_up_ne _ _ (by decide), hF2.2.1.1]; exact nI_1 _]
    refine x_put (fs' := mF m V (va_up (va_up s2 14 (nI (U.1 3))) 13 (nI (U.1 0 + 1))) l2) fX12_174 hset_s (Nat.le_of_ble_eq_true rfl) rfl rfl rfl dX12_wantPath_238 ?_
    refine x_vret rfl dX12_wantPath_241 ⟨by decide, by decide⟩ ?_
    refine ⟨rfl, _, _, _, ((((((hm2.int (i := 7) rfl).int (i := 7) rfl).int (i := 7) rfl).int (i := 7) rfl).int (i := 7) rfl).num).num, ⟨⟨hz2.1.1, hz2.1.2.1, hz2.1.2.2.1, hz2.1.2.2.2.1, hz2.1.2.2.2.2.1, hz2.1.2.2.2.2.2⟩, hz2.2⟩, fun _ => ?_, ⟨fun i hi => (va_up_ne _ _ (by omega)).trans ((va_up_ne _ _ (by omega)).trans (fs2 i (by omega))), fun i hi => ?_⟩, fl2, ((((((((F1.tr F2).tr (Fr.set (by omega) (by omega))).tr (Fr.set (by omega) (by omega))).tr (Fr.set (by omega) (by omega))).tr (Fr.set (by omega) (by omega))).tr (Fr.set (by omega) (by omega))).tr (Fr.set (by omega) (by omega)))).tr (Fr.set (by omega) (by omega))⟩
    · rw [eU g1]
      refine rp_fp (gb := true) (f := tf_) hF2 n8 hf.1 hf.2.1 hf.2.2.1 hf.2.2.2.1 hf.2.2.2.2.1 hf.2.2.2.2.2 (va_up_self _ _ _) rfl rfl rfl rfl rfl rfl (fun i hi => ?_) (fun i hi => ?_)
      · simp only [va_up_self]
        rw [va_up_ne _ _ (by omega), va_up_ne _ _ (by omega), va_up_ne _ _ (by omega), va_up_ne _ _ (by omega), va_up_ne _ _ (by omega)]
      · simp only [va_up_self]
        rcases (show i = 0 ∨ i = 1 ∨ i = 2 ∨ i = 3 ∨ i = 4 by omega) with rfl | rfl | rfl | rfl | rfl
        · rw [va_up_ne _ _ (by omega), va_up_ne _ _ (by omega), va_up_ne _ _ (by omega), va_up_ne _ _ (by omega)]; exact va_up_self _ _ _
        · rw [va_up_ne _ _ (by omega), va_up_ne _ _ (by omega), va_up_ne _ _ (by omega)]; exact va_up_self _ _ _
        · rw [va_up_ne _ _ (by omega), va_up_ne _ _ (by omega)]; exact va_up_self _ _ _
        · rw [va_up_ne _ _ (by omega)]; exact va_up_self _ _ _
        · exact va_up_self _ _ _
    · rw [va_up_ne _ _ (by omega), va_up_ne _ _ (by omega), va_up_ne _ _ (by omega), va_up_ne _ _ (by omega), va_up_ne _ _ (by omega)]
