/-! THE REFERENCE'S TAPE -/
def mB (T : TT) (i : Nat) : Int32 := if i < T.1 then nI (T.2 i) else -1
theorem mB_in {T : TT} {i : Nat} (h : i < T.1) : mB T i = nI (T.2 i) := if_pos h
theorem mB_out {T : TT} {i : Nat} (h : T.1 ≤ i) : mB T i = -1 := if_neg (by omega)
theorem mB_so (T : TT) (i : Nat) : sO (mB T i) = sO (tB T i) := by
  by_cases h : i < T.1
  · rw [mB_in h, tB_in h]
  · rw [mB_out (by omega), tB_out (by omega)]; decide
theorem mB_eq {T : TT} {i : Nat} {x : Int32} (h1 : x ≠ -1) (h9 : x ≠ -9) : mB T i = x ↔ tB T i = x := by
  by_cases h : i < T.1
  · rw [mB_in h, tB_in h]
  · rw [mB_out (by omega), tB_out (by omega)]; exact ⟨fun z => absurd z.symm h1, fun z => absurd z.symm h9⟩
def b27 (f : Nat → Nat) : Nat → Nat
  | 0 => 0
  | n + 1 => 27 * b27 f n + (f n - 96)
theorem b27_inj {f g : Nat → Nat} : ∀ n k, (∀ i, i < n → 97 ≤ f i ∧ f i ≤ 122) → (∀ i, i < k → 97 ≤ g i ∧ g i ≤ 122) → b27 f n = b27 g k → n = k ∧ ∀ i, i < n → f i = g i
  | 0, 0, _, _, _ => ⟨rfl, fun i h => absurd h (Nat.not_lt_zero i)⟩
  | 0, k + 1, _, hg, h => by have := hg k (by omega); rw [b27, b27] at h; omega
  | n + 1, 0, hf, _, h => by have := hf n (by omega); rw [b27, b27] at h; omega
  | n + 1, k + 1, hf, hg, h => by
    have a := hf n (by omega)
    have b := hg k (by omega)
    rw [b27, b27] at h
    have e : b27 f n = b27 g k := by omega
    obtain ⟨rfl, q⟩ := b27_inj n k (fun i hi => hf i (by omega)) (fun i hi => hg i (by omega)) e
    exact ⟨rfl, fun i hi => by
      by_cases z : i = n
      · subst z; omega
      · exact q i (by omega)⟩
theorem b27_lt {f : Nat → Nat} : ∀ n, (∀ i, i < n → f i ≤ 122) → b27 f n < 27 ^ n
  | 0, _ => by rw [b27]; decide
  | n + 1, h => by
    have ih := b27_lt n (fun i hi => h i (by omega))
    have := h n (by omega)
    rw [b27, Nat.pow_succ]; omega
theorem b27_cg {f g : Nat → Nat} : ∀ n, (∀ i, i < n → f i = g i) → b27 f n = b27 g n
  | 0, _ => rfl
  | n + 1, h => by rw [b27, b27, b27_cg n (fun i hi => h i (by omega)), h n (by omega)]
/-- the word from s on, n letters -/
def wdL (T : TT) (s n : Nat) : Int64 := if n ≤ 8 then lN (b27 (fun i => T.2 (s + i)) n) else -1
def vlM (T : TT) (s n : Nat) : Int32 := if n = 0 then 0 else if n = 1 then nI (T.2 s - 48) else if n = 2 then nI ((T.2 s - 48) * 10 + T.2 (s + 1) - 48) else -1
def TKm (T : TT) (K : KS) (s : Nat → Int32) (l : Nat → Int64) : Prop := (K.1 < 4 ∧ K.2.1 ≤ K.2.2 ∧ K.2.2 ≤ T.1) ∧ (s 8 = nI K.1 ∧ s 9 = nI K.2.1 ∧ s 10 = nI K.2.2) ∧ (K.1 = 1 → l 0 = wdL T K.2.1 (K.2.2 - K.2.1)) ∧ (K.1 = 2 → s 11 = vlM T K.2.1 (K.2.2 - K.2.1) ∧ K.2.1 < K.2.2) ∧ (K.1 ≠ 2 → s 11 = mB T K.2.1) ∧ ∀ q, K.2.1 ≤ q → q < K.2.2 → K.1 = 1 ∨ K.1 = 2 → sO (tB T q) = K.1
theorem sO_1 {b : Int32} (h : sO b = 1) : 97 ≤ b ∧ b ≤ 122 := by
  unfold sO at h
  split at h
  · cases h
  · split at h
    · assumption
    · split at h <;> cases h
theorem lt_1 {T : TT} {i : Nat} (hb : T.2 i < 256) (h : sO (tB T i) = 1) : i < T.1 ∧ 97 ≤ T.2 i ∧ T.2 i ≤ 122 := by
  have hl : i < T.1 := so_lt (by omega)
  have e := tB_in hl
  have q := sO_1 h
  rw [e] at q
  exact ⟨hl, (nI_leI (a := 97) (by decide) (by omega)).mp q.1, (nI_leI (b := 122) (by omega) (by decide)).mp q.2⟩
theorem isL {b : Int32} : (97 ≤ b ∧ b ≤ 122) ↔ sO b = 1 := by
  refine ⟨fun h => ?_, sO_1⟩
  unfold sO
  rw [if_neg (Int32.not_lt.mpr (Int32.le_trans (by decide) h.1)), if_pos h]
theorem isD {b : Int32} : (48 ≤ b ∧ b ≤ 57) ↔ sO b = 2 := by
  refine ⟨fun h => ?_, sO_2⟩
  unfold sO
  rw [if_neg (Int32.not_lt.mpr (Int32.le_trans (by decide) h.1)), if_neg (fun z => absurd (Int32.le_trans z.1 h.2) (by decide)), if_pos h]
set_option maxRecDepth 10000 in
set_option maxHeartbeats 2000000 in
theorem c_X12_byteAt {g : gG} {h : gH} {m : Nat} {V : VS} {s : Nat → Int32} {l : Nat → Int64} {A : Nat → Nat → Int32} {B : Nat → Nat → Int64} (hm : MM h m V s l A B) {T : TT} (h240 : T.1 ≤ 240) (hT : ∀ i, i < T.1 → T.2 i < 256 ∧ A 6 i = nI (T.2 i)) (h7 : s 7 = nI T.1) {i : Nat} (hi : i < 2 ^ 31) : Rd g mX12_byteAt [.ref m, .int (nI i)] h (.int (mB T i)) := by
  have mo := hm.1
  have m7 : h.1 (m + 7) = some (.inl (0, 240, .inl (A 6))) := hm.2 6 (by decide)
  have li : nI T.1 ≤ nI i ↔ T.1 ≤ i := nI_leI (by omega) hi
  refine Cn.of (L := [some (.ref m), some (.int (nI i))]) (by decide) (Nat.le_of_ble_eq_true rfl) rfl ?_
  refine x_iload_n dX12_byteAt_0 rfl ?_
  refine x_aload_n dX12_byteAt_1 rfl ?_
  refine x_get fX12_110 mo rfl dX12_byteAt_2 ?_
  rw [h7]
  refine x_icmp_ge 17 dX12_byteAt_5 (by decide) (fun c5 => ?_) (fun c5 => ?_)
  · refine x_iconst (v := -1) dX12_byteAt_17 (by decide) ?_
    refine x_iret rfl dX12_byteAt_18 ⟨by decide, by decide⟩ ?_
    exact ⟨by rw [mB_out (li.mp c5)] <;> rfl, rfl⟩
  · refine x_aload_n dX12_byteAt_8 rfl ?_
    refine x_get fX12_32 mo rfl dX12_byteAt_9 ?_
    refine x_iload_n dX12_byteAt_12 rfl ?_
    refine x_iald i m7 rfl (by have : ¬ T.1 ≤ i := fun z => c5 (li.mpr z); omega) (by decide) dX12_byteAt_13 ?_
    refine x_goto 18 dX12_byteAt_14 (by decide) ?_
    refine x_iret rfl dX12_byteAt_18 ⟨by decide, by decide⟩ ?_
    have lt : i < T.1 := by have : ¬ T.1 ≤ i := fun z => c5 (li.mpr z); omega
    exact ⟨by rw [mB_in lt, (hT i lt).2], rfl⟩
set_option maxRecDepth 10000 in
set_option maxHeartbeats 2000000 in
theorem c_X12_isLetter {g : gG} {h : gH} {v : Int32} : Rd g mX12_isLetter [.int v] h (.int (b2i (sO v = 1))) := by
  refine Cn.of (L := [some (.int v)]) (by decide) (Nat.le_of_ble_eq_true rfl) rfl ?_
  refine x_iload_n dX12_isLetter_0 rfl ?_
  refine x_bipush (v := 97) dX12_isLetter_1 (by decide) ?_
  refine x_bipush (v := 122) dX12_isLetter_3 (by decide) ?_
  refine x_rdS (c_X12_in (v := v) (a := 97) (b := 122)) lkX12_in sX12_93 dX12_isLetter_5 rfl rfl (Nat.le_of_ble_eq_true rfl) (by decide) ⟨rfl, rfl, by decide, by decide⟩ ?_
  refine x_zret rfl dX12_isLetter_8 ⟨by decide, by decide⟩ b2i_n ?_
  exact ⟨by rw [b2i_c (p := 97 ≤ v ∧ v ≤ 122) isL], rfl⟩
set_option maxRecDepth 10000 in
set_option maxHeartbeats 2000000 in
theorem c_X12_isDigit {g : gG} {h : gH} {v : Int32} : Rd g mX12_isDigit [.int v] h (.int (b2i (sO v = 2))) := by
  refine Cn.of (L := [some (.int v)]) (by decide) (Nat.le_of_ble_eq_true rfl) rfl ?_
  refine x_iload_n dX12_isDigit_0 rfl ?_
  refine x_bipush (v := 48) dX12_isDigit_1 (by decide) ?_
  refine x_bipush (v := 57) dX12_isDigit_3 (by decide) ?_
  refine x_rdS (c_X12_in (v := v) (a := 48) (b := 57)) lkX12_in sX12_93 dX12_isDigit_5 rfl rfl (Nat.le_of_ble_eq_true rfl) (by decide) ⟨rfl, rfl, by decide, by decide⟩ ?_
  refine x_zret rfl dX12_isDigit_8 ⟨by decide, by decide⟩ b2i_n ?_
  exact ⟨by rw [b2i_c (p := 48 ≤ v ∧ v ≤ 57) isD], rfl⟩
theorem vlM_s {T : TT} {s n : Nat} (hb : 48 ≤ T.2 (s + n)) (h2 : n < 2) (h0 : n = 1 → 48 ≤ T.2 s) : nI 10 * vlM T s n + nI (T.2 (s + n)) - nI 48 = vlM T s (n + 1) := by
  rcases (show n = 0 ∨ n = 1 by omega) with rfl | rfl
  · show nI 10 * nI 0 + nI (T.2 s) - nI 48 = nI (T.2 s - 48)
    rw [ts_mul, nI_add, Nat.mul_zero, Nat.zero_add, ts_sub (show 48 ≤ T.2 s from hb)]
  · have := h0 rfl
    show nI 10 * nI (T.2 s - 48) + nI (T.2 (s + 1)) - nI 48 = nI ((T.2 s - 48) * 10 + T.2 (s + 1) - 48)
    rw [ts_mul, nI_add, ts_sub (by omega), Nat.mul_comm 10]
theorem TK2 {T : TT} {q j : Nat} {s : Nat → Int32} {l : Nat → Int64} (qj : q < j) (jT : j ≤ T.1) (e8 : s 8 = nI 2) (e9 : s 9 = nI q) (e10 : s 10 = nI j) (e11 : s 11 = vlM T q (j - q)) (hr : ∀ r, q ≤ r → r < j → sO (tB T r) = 2) : TKm T (2, q, j) s l := ⟨⟨(by decide : (2 : Nat) < 4), Nat.le_of_lt qj, jT⟩, ⟨e8, e9, e10⟩, fun z => absurd (show (2 : Nat) = 1 from z) (show ¬ (2 : Nat) = 1 by decide), fun _ => ⟨e11, qj⟩, fun z => absurd rfl z, fun r a b _ => hr r a b⟩
theorem TK1 {T : TT} {q j : Nat} {s : Nat → Int32} {l : Nat → Int64} (qj : q < j) (jT : j ≤ T.1) (e8 : s 8 = nI 1) (e9 : s 9 = nI q) (e10 : s 10 = nI j) (e11 : s 11 = mB T q) (ew : l 0 = wdL T q (j - q)) (hr : ∀ r, q ≤ r → r < j → sO (tB T r) = 1) : TKm T (1, q, j) s l := ⟨⟨(by decide : (1 : Nat) < 4), Nat.le_of_lt qj, jT⟩, ⟨e8, e9, e10⟩, fun _ => ew, fun z => absurd (show (1 : Nat) = 2 from z) (show ¬ (1 : Nat) = 2 by decide), fun _ => e11, fun r a b _ => hr r a b⟩
theorem TK0 {T : TT} {k q j : Nat} {s : Nat → Int32} {l : Nat → Int64} (k4 : k < 4) (k1 : ¬ k = 1) (k2 : ¬ k = 2) (qj : q ≤ j) (jT : j ≤ T.1) (e8 : s 8 = nI k) (e9 : s 9 = nI q) (e10 : s 10 = nI j) (e11 : s 11 = mB T q) : TKm T (k, q, j) s l := ⟨⟨k4, qj, jT⟩, ⟨e8, e9, e10⟩, fun z => absurd z k1, fun z => absurd z k2, fun _ => e11, fun r a b z => absurd z (fun y => y.elim k1 k2)⟩
set_option maxRecDepth 10000 in
set_option maxHeartbeats 2000000 in
theorem ad207n {g : gG} {h : gH} {m : Nat} {V : VS} {s : Nat → Int32} {l : Nat → Int64} {A : Nat → Nat → Int32} {B : Nat → Nat → Int64} {T : TT} (h240 : T.1 ≤ 240) (hT : ∀ i, i < T.1 → T.2 i < 256 ∧ A 6 i = nI (T.2 i)) {p : Nat} {b0 : Option Value} {Q : Option Value → gH → Prop} (kk : ∀ h1 s1 l1, MM h1 m V s1 l1 A B → TKm T (nx T p) s1 l1 → (∀ i, i < 8 ∨ 12 ≤ i → s1 i = s i) → (∀ i, i ≠ 0 → l1 i = l i) → Fr m 27 h h1 → Q none h1) {s1 : Nat → Int32} {l1 : Nat → Int64} {h1 : gH} (hm1 : MM h1 m V s1 l1 A B) (hk : TKm T (nx T p) s1 l1) (n2 : ¬ (nx T p).1 = 2) (fs : ∀ i, i < 8 ∨ 12 ≤ i → s1 i = s i) (fl : ∀ i, i ≠ 0 → l1 i = l i) (F : Fr m 27 h h1) : Ex g mX12_advance (gZm g mX12_advance Q) 207 [some (.ref m), b0] [] h1 0 0 := by
  refine x_aload_n dX12_advance_207 rfl ?_
  refine x_get fX12_132 hm1.1 rfl dX12_advance_208 ?_
  refine x_iconst (v := 2) dX12_advance_211 (by decide) ?_
  refine x_icmp_ne_t 282 dX12_advance_212 (by decide) (fun z => n2 (nI_eqn (b := 2) (by have := hk.1.1; omega) (by decide) (hk.2.1.1.symm.trans z))) ?_
  refine x_vret rfl dX12_advance_282 ⟨by decide, by decide⟩ ?_
  exact kk _ _ _ hm1 hk fs fl F
set_option maxRecDepth 10000 in
set_option maxHeartbeats 2000000 in
theorem ad207 {g : gG} {h : gH} {m : Nat} {V : VS} {s : Nat → Int32} {l : Nat → Int64} {A : Nat → Nat → Int32} {B : Nat → Nat → Int64} {T : TT} (h240 : T.1 ≤ 240) (hT : ∀ i, i < T.1 → T.2 i < 256 ∧ A 6 i = nI (T.2 i)) (hs7 : s 7 = nI T.1) {p q : Nat} (hs : nxS T p = q) (so2 : sO (tB T q) = 2) {b0 : Option Value} {Q : Option Value → gH → Prop} (kk : ∀ h1 s1 l1, MM h1 m V s1 l1 A B → TKm T (nx T p) s1 l1 → (∀ i, i < 8 ∨ 12 ≤ i → s1 i = s i) → (∀ i, i ≠ 0 → l1 i = l i) → Fr m 27 h h1 → Q none h1) : ∀ j, j ≤ T.1 → q ≤ j → (∀ r, q ≤ r → r < j → sO (tB T r) = 2) → ∀ s1 l1 h1, MM h1 m V s1 l1 A B → s1 8 = nI 2 → s1 9 = nI q → s1 10 = nI j → s1 11 = vlM T q (j - q) → (∀ i, i < 8 ∨ 12 ≤ i → s1 i = s i) → (∀ i, i ≠ 0 → l1 i = l i) → Fr m 27 h h1 → Ex g mX12_advance (gZm g mX12_advance Q) 207 [some (.ref m), b0] [] h1 0 0 := by
  refine lp_up T.1 (fun j hj ih hqj hr s1 l1 h1 hm1 e8 e9 e10 e11 fs fl F => ?_) (fun hqj hr s1 l1 h1 hm1 e8 e9 e10 e11 fs fl F => ?_)
  · have mo := hm1.1
    have h7 : s1 7 = nI T.1 := (fs 7 (.inl (by decide))).trans hs7
    refine x_aload_n dX12_advance_207 rfl ?_
    refine x_get fX12_132 mo rfl dX12_advance_208 ?_
    refine x_iconst (v := 2) dX12_advance_211 (by decide) ?_
    refine x_icmp_ne_f 282 dX12_advance_212 (by decide) e8 ?_
    refine x_aload_n dX12_advance_215 rfl ?_
    refine x_aload_n dX12_advance_216 rfl ?_
    refine x_get fX12_115 mo rfl dX12_advance_217 ?_
    rw [e10]
    refine x_rdV (c_X12_byteAt hm1 h240 hT h7 (i := j) (by omega)) mo lkX12_byteAt sX12_121 dX12_advance_220 rfl rfl (Nat.le_of_ble_eq_true rfl) (by decide) ⟨rfl, rfl, by decide, by decide⟩ ?_
    refine x_rdS c_X12_isDigit lkX12_isDigit sX12_129 dX12_advance_223 rfl rfl (Nat.le_of_ble_eq_true rfl) (by decide) ⟨rfl, rfl, by decide, by decide⟩ ?_
    refine x_if_eqB 282 dX12_advance_226 (by decide) (fun c226 => ?_) (fun c226 => ?_)
    · refine x_vret rfl dX12_advance_282 ⟨by decide, by decide⟩ ?_
      have nd : ¬ sO (tB T j) = 2 := by rw [← mB_so]; exact c226
      have qj : q < j := by
        rcases Nat.lt_or_ge q j with z | z
        · exact z
        · exact absurd so2 (by rw [show q = j by omega]; exact nd)
      have hn : nx T p = (sO (tB T q), q, j) := nx_of hs (by rw [if_neg (by omega), if_neg (by omega)]; exact wh_run (decide_eq_false (by rw [so2]; exact nd)) 240 (q + 1) (by omega) (by omega) (fun k a b => decide_eq_true (by rw [so2]; exact hr k (by omega) b)))
      exact kk _ _ _ hm1 (by
        rw [hn, so2]
        exact TK2 qj (by omega) e8 e9 e10 e11 hr) fs fl F
    · have dj : sO (tB T j) = 2 := by rw [← mB_so]; exact c226
      have jl : j < T.1 := so_lt (by omega)
      have db := dg (hT j jl).1 dj
      have l2 : (2 : Int32) ≤ nI (j - q) ↔ 2 ≤ j - q := nI_leI (a := 2) (by decide) (by omega)
      refine x_aload_n dX12_advance_229 rfl ?_
      refine x_aload_n dX12_advance_230 rfl ?_
      refine x_get fX12_115 mo rfl dX12_advance_231 ?_
      refine x_aload_n dX12_advance_234 rfl ?_
      refine x_get fX12_118 mo rfl dX12_advance_235 ?_
      refine x_isub dX12_advance_238 ?_
      rw [e10, e9, ts_sub hqj]
      refine x_iconst (v := 2) dX12_advance_239 (by decide) ?_
      refine x_icmp_ge 265 dX12_advance_240 (by decide) (fun c240 => ?_) (fun c240 => ?_)
      · refine x_iconst (v := -1) dX12_advance_265 (by decide) ?_
        have n2 := l2.mp c240
        rw [show (-1 : Int32) = vlM T q (j + 1 - q) by rw [vlM, if_neg (by omega), if_neg (by omega), if_neg (by omega)]]
        refine x_put (fs' := mF m V (va_up s1 11 (vlM T q (j + 1 - q))) l1) fX12_139 mo (Nat.le_of_ble_eq_true rfl) rfl rfl rfl dX12_advance_266 ?_
        refine x_aload_n dX12_advance_269 rfl ?_
        refine x_dup dX12_advance_270 rfl ?_
        refine x_get fX12_115 hset_s rfl dX12_advance_271 ?_
        refine x_iconst (v := 1) dX12_advance_274 (by decide) ?_
        refine x_iadd dX12_advance_275 ?_
        rw [show va_up s1 11 (vlM T q (j + 1 - q)) 10 + 1 = nI (j + 1) by rw [va_up_ne _ _ (by decide), e10]; exact nI_1 _]
        refine x_put (fs' := mF m V (va_up (va_up s1 11 (vlM T q (j + 1 - q))) 10 (nI (j + 1))) l1) fX12_115 hset_s (Nat.le_of_ble_eq_true rfl) rfl rfl rfl dX12_advance_276 ?_
        refine x_goto 207 dX12_advance_279 (by decide) ?_
        exact ih (by omega) (fun r a b => by
          by_cases z : r = j
          · subst z; exact dj
          · exact hr r a (by omega)) _ _ _ hm1.num.num e8 e9 (va_up_self _ _ _) rfl (fun i hi => (va_up_ne _ _ (by omega)).trans ((va_up_ne _ _ (by omega)).trans (fs i hi))) fl ((F.tr (Fr.set (by omega) (by omega))).tr (Fr.set (by omega) (by omega)))
      · refine x_bipush (v := 10) dX12_advance_243 (by decide) ?_
        refine x_aload_n dX12_advance_245 rfl ?_
        refine x_get fX12_139 mo rfl dX12_advance_246 ?_
        rw [e11]
        refine x_imul dX12_advance_249 ?_
        refine x_aload_n dX12_advance_250 rfl ?_
        refine x_aload_n dX12_advance_251 rfl ?_
        refine x_get fX12_115 mo rfl dX12_advance_252 ?_
        rw [e10]
        refine x_rdV (c_X12_byteAt hm1 h240 hT h7 (i := j) (by omega)) mo lkX12_byteAt sX12_121 dX12_advance_255 rfl rfl (Nat.le_of_ble_eq_true rfl) (by decide) ⟨rfl, rfl, by decide, by decide⟩ ?_
        rw [mB_in jl]
        refine x_iadd dX12_advance_258 ?_
        refine x_bipush (v := 48) dX12_advance_259 (by decide) ?_
        refine x_isub dX12_advance_261 ?_
        refine x_goto 266 dX12_advance_262 (by decide) ?_
        have n2 : ¬ 2 ≤ j - q := fun z => c240 (l2.mpr z)
        rw [show (10 : Int32) * vlM T q (j - q) + nI (T.2 j) - 48 = vlM T q (j + 1 - q) by
          have := vlM_s (T := T) (s := q) (n := j - q) (by rw [show q + (j - q) = j by omega]; exact db.2.1) (by omega) (fun z => (dg (hT q (by omega)).1 so2).2.1)
          rw [show q + (j - q) = j by omega, show j - q + 1 = j + 1 - q by omega] at this
          exact this]
        refine x_put (fs' := mF m V (va_up s1 11 (vlM T q (j + 1 - q))) l1) fX12_139 mo (Nat.le_of_ble_eq_true rfl) rfl rfl rfl dX12_advance_266 ?_
        refine x_aload_n dX12_advance_269 rfl ?_
        refine x_dup dX12_advance_270 rfl ?_
        refine x_get fX12_115 hset_s rfl dX12_advance_271 ?_
        refine x_iconst (v := 1) dX12_advance_274 (by decide) ?_
        refine x_iadd dX12_advance_275 ?_
        rw [show va_up s1 11 (vlM T q (j + 1 - q)) 10 + 1 = nI (j + 1) by rw [va_up_ne _ _ (by decide), e10]; exact nI_1 _]
        refine x_put (fs' := mF m V (va_up (va_up s1 11 (vlM T q (j + 1 - q))) 10 (nI (j + 1))) l1) fX12_115 hset_s (Nat.le_of_ble_eq_true rfl) rfl rfl rfl dX12_advance_276 ?_
        refine x_goto 207 dX12_advance_279 (by decide) ?_
        exact ih (by omega) (fun r a b => by
          by_cases z : r = j
          · subst z; exact dj
          · exact hr r a (by omega)) _ _ _ hm1.num.num e8 e9 (va_up_self _ _ _) rfl (fun i hi => (va_up_ne _ _ (by omega)).trans ((va_up_ne _ _ (by omega)).trans (fs i hi))) fl ((F.tr (Fr.set (by omega) (by omega))).tr (Fr.set (by omega) (by omega)))
  · have mo := hm1.1
    have h7 : s1 7 = nI T.1 := (fs 7 (.inl (by decide))).trans hs7
    refine x_aload_n dX12_advance_207 rfl ?_
    refine x_get fX12_132 mo rfl dX12_advance_208 ?_
    refine x_iconst (v := 2) dX12_advance_211 (by decide) ?_
    refine x_icmp_ne_f 282 dX12_advance_212 (by decide) e8 ?_
    refine x_aload_n dX12_advance_215 rfl ?_
    refine x_aload_n dX12_advance_216 rfl ?_
    refine x_get fX12_115 mo rfl dX12_advance_217 ?_
    rw [e10]
    refine x_rdV (c_X12_byteAt hm1 h240 hT h7 (i := T.1) (by omega)) mo lkX12_byteAt sX12_121 dX12_advance_220 rfl rfl (Nat.le_of_ble_eq_true rfl) (by decide) ⟨rfl, rfl, by decide, by decide⟩ ?_
    refine x_rdS c_X12_isDigit lkX12_isDigit sX12_129 dX12_advance_223 rfl rfl (Nat.le_of_ble_eq_true rfl) (by decide) ⟨rfl, rfl, by decide, by decide⟩ ?_
    refine x_if_eqB_t 282 dX12_advance_226 (by decide) (by rw [mB_so, tB_out (Nat.le_refl _)]; decide) ?_
    refine x_vret rfl dX12_advance_282 ⟨by decide, by decide⟩ ?_
    have c226 : ¬ sO (mB T T.1) = 2 := by rw [mB_so, tB_out (Nat.le_refl _)]; decide
    have nd : ¬ sO (tB T T.1) = 2 := by rw [← mB_so]; exact c226
    have qj : q < T.1 := by
      rcases Nat.lt_or_ge q T.1 with z | z
      · exact z
      · exact absurd so2 (by rw [show q = T.1 by omega]; exact nd)
    have hn : nx T p = (sO (tB T q), q, T.1) := nx_of hs (by rw [if_neg (by omega), if_neg (by omega)]; exact wh_run (decide_eq_false (by rw [so2]; exact nd)) 240 (q + 1) (by omega) (by omega) (fun k a b => decide_eq_true (by rw [so2]; exact hr k (by omega) b)))
    exact kk _ _ _ hm1 (by
      rw [hn, so2]
      exact TK2 qj (by omega) e8 e9 e10 e11 hr) fs fl F
set_option maxRecDepth 10000 in
set_option maxHeartbeats 2000000 in
theorem ad126 {g : gG} {h : gH} {m : Nat} {V : VS} {s : Nat → Int32} {l : Nat → Int64} {A : Nat → Nat → Int32} {B : Nat → Nat → Int64} {T : TT} (h240 : T.1 ≤ 240) (hT : ∀ i, i < T.1 → T.2 i < 256 ∧ A 6 i = nI (T.2 i)) (hs7 : s 7 = nI T.1) {p q : Nat} (hs : nxS T p = q) (so1 : sO (tB T q) = 1) {b0 : Option Value} {Q : Option Value → gH → Prop} (kk : ∀ h1 s1 l1, MM h1 m V s1 l1 A B → TKm T (nx T p) s1 l1 → (∀ i, i < 8 ∨ 12 ≤ i → s1 i = s i) → (∀ i, i ≠ 0 → l1 i = l i) → Fr m 27 h h1 → Q none h1) : ∀ j, j ≤ T.1 → q ≤ j → (∀ r, q ≤ r → r < j → sO (tB T r) = 1) → ∀ s1 l1 h1, MM h1 m V s1 l1 A B → s1 8 = nI 1 → s1 9 = nI q → s1 10 = nI j → s1 11 = mB T q → l1 0 = wdL T q (j - q) → (∀ i, i < 8 ∨ 12 ≤ i → s1 i = s i) → (∀ i, i ≠ 0 → l1 i = l i) → Fr m 27 h h1 → Ex g mX12_advance (gZm g mX12_advance Q) 126 [some (.ref m), b0] [] h1 0 0 := by
  refine lp_up T.1 (fun j hj ih hqj hr s1 l1 h1 hm1 e8 e9 e10 e11 ew fs fl F => ?_) (fun hqj hr s1 l1 h1 hm1 e8 e9 e10 e11 ew fs fl F => ?_)
  · have mo := hm1.1
    have h7 : s1 7 = nI T.1 := (fs 7 (.inl (by decide))).trans hs7
    refine x_aload_n dX12_advance_126 rfl ?_
    refine x_get fX12_132 mo rfl dX12_advance_127 ?_
    refine x_iconst (v := 1) dX12_advance_130 (by decide) ?_
    refine x_icmp_ne_f 207 dX12_advance_131 (by decide) e8 ?_
    refine x_aload_n dX12_advance_134 rfl ?_
    refine x_aload_n dX12_advance_135 rfl ?_
    refine x_get fX12_115 mo rfl dX12_advance_136 ?_
    rw [e10]
    refine x_rdV (c_X12_byteAt hm1 h240 hT h7 (i := j) (by omega)) mo lkX12_byteAt sX12_121 dX12_advance_139 rfl rfl (Nat.le_of_ble_eq_true rfl) (by decide) ⟨rfl, rfl, by decide, by decide⟩ ?_
    refine x_rdS c_X12_isLetter lkX12_isLetter sX12_125 dX12_advance_142 rfl rfl (Nat.le_of_ble_eq_true rfl) (by decide) ⟨rfl, rfl, by decide, by decide⟩ ?_
    refine x_if_eqB 207 dX12_advance_145 (by decide) (fun c145 => ?_) (fun c145 => ?_)
    · have nd : ¬ sO (tB T j) = 1 := by rw [← mB_so]; exact c145
      have qj : q < j := by
        rcases Nat.lt_or_ge q j with z | z
        · exact z
        · exact absurd so1 (by rw [show q = j by omega]; exact nd)
      have hn : nx T p = (sO (tB T q), q, j) := nx_of hs (by rw [if_neg (by omega), if_neg (by omega)]; exact wh_run (decide_eq_false (by rw [so1]; exact nd)) 240 (q + 1) (by omega) (by omega) (fun k a b => decide_eq_true (by rw [so1]; exact hr k (by omega) b)))
      exact ad207n h240 hT kk hm1 (by
        rw [hn, so1]
        exact TK1 qj (by omega) e8 e9 e10 e11 ew hr) (by rw [hn, so1]; exact (by decide : ¬ (1 : Nat) = 2)) fs fl F
    · have dj : sO (tB T j) = 1 := by rw [← mB_so]; exact c145
      have jl : j < T.1 := so_lt (by omega)
      have db := lt_1 (hT j jl).1 dj
      have l8 : (8 : Int32) ≤ nI (j - q) ↔ 8 ≤ j - q := nI_leI (a := 8) (by decide) (by omega)
      refine x_aload_n dX12_advance_148 rfl ?_
      refine x_aload_n dX12_advance_149 rfl ?_
      refine x_get fX12_115 mo rfl dX12_advance_150 ?_
      refine x_aload_n dX12_advance_153 rfl ?_
      refine x_get fX12_118 mo rfl dX12_advance_154 ?_
      refine x_isub dX12_advance_157 ?_
      rw [e10, e9, ts_sub hqj]
      refine x_bipush (v := 8) dX12_advance_158 (by decide) ?_
      refine x_icmp_ge 188 dX12_advance_160 (by decide) (fun c160 => ?_) (fun c160 => ?_)
      · refine x_ldc2 dX12_advance_188 kX12_146 ?_
        have n8 := l8.mp c160
        rw [show (-1 : Int64) = wdL T q (j + 1 - q) by rw [wdL, if_neg (by omega)]]
        refine x_put (fs' := mF m V s1 (va_up l1 0 (wdL T q (j + 1 - q)))) fX12_135 mo (Nat.le_of_ble_eq_true rfl) rfl rfl rfl dX12_advance_191 ?_
        refine x_aload_n dX12_advance_194 rfl ?_
        refine x_dup dX12_advance_195 rfl ?_
        refine x_get fX12_115 hset_s rfl dX12_advance_196 ?_
        refine x_iconst (v := 1) dX12_advance_199 (by decide) ?_
        refine x_iadd dX12_advance_200 ?_
        rw [e10, nI_1]
        refine x_put (fs' := mF m V (va_up s1 10 (nI (j + 1))) (va_up l1 0 (wdL T q (j + 1 - q)))) fX12_115 hset_s (Nat.le_of_ble_eq_true rfl) rfl rfl rfl dX12_advance_201 ?_
        refine x_goto 126 dX12_advance_204 (by decide) ?_
        exact ih (by omega) (fun r a b => by
          by_cases z : r = j
          · subst z; exact dj
          · exact hr r a (by omega)) _ _ _ hm1.num.num e8 e9 (va_up_self _ _ _) e11 (va_up_self _ _ _) (fun i hi => (va_up_ne _ _ (by omega)).trans (fs i hi)) (fun i hi => (va_up_ne _ _ hi).trans (fl i hi)) ((F.tr (Fr.set (by omega) (by omega))).tr (Fr.set (by omega) (by omega)))
      · refine x_ldc2 dX12_advance_163 kX12_142 ?_
        refine x_aload_n dX12_advance_166 rfl ?_
        refine x_get fX12_135 mo rfl dX12_advance_167 ?_
        rw [ew]
        refine x_lmul dX12_advance_170 ?_
        refine x_aload_n dX12_advance_171 rfl ?_
        refine x_aload_n dX12_advance_172 rfl ?_
        refine x_get fX12_115 mo rfl dX12_advance_173 ?_
        rw [e10]
        refine x_rdV (c_X12_byteAt hm1 h240 hT h7 (i := j) (by omega)) mo lkX12_byteAt sX12_121 dX12_advance_176 rfl rfl (Nat.le_of_ble_eq_true rfl) (by decide) ⟨rfl, rfl, by decide, by decide⟩ ?_
        rw [mB_in jl]
        refine x_i2l dX12_advance_179 ?_
        refine x_ladd dX12_advance_180 ?_
        refine x_ldc2 dX12_advance_181 kX12_144 ?_
        refine x_lsub dX12_advance_184 ?_
        refine x_goto 191 dX12_advance_185 (by decide) ?_
        have n8 : ¬ 8 ≤ j - q := fun z => c160 (l8.mpr z)
        rw [show (27 : Int64) * wdL T q (j - q) + (nI (T.2 j)).toInt64 - 96 = wdL T q (j + 1 - q) by
          have hb := (hT j jl).1
          rw [wdL, if_pos (by omega), wdL, if_pos (by omega), show (27 : Int64) = lN 27 from rfl, lN_mul, nI_l (by omega), lN_add, show (96 : Int64) = lN 96 from rfl, lN_sub (by omega), show j + 1 - q = (j - q) + 1 by omega, b27, show q + (j - q) = j by omega]
          congr 1
          omega]
        refine x_put (fs' := mF m V s1 (va_up l1 0 (wdL T q (j + 1 - q)))) fX12_135 mo (Nat.le_of_ble_eq_true rfl) rfl rfl rfl dX12_advance_191 ?_
        refine x_aload_n dX12_advance_194 rfl ?_
        refine x_dup dX12_advance_195 rfl ?_
        refine x_get fX12_115 hset_s rfl dX12_advance_196 ?_
        refine x_iconst (v := 1) dX12_advance_199 (by decide) ?_
        refine x_iadd dX12_advance_200 ?_
        rw [e10, nI_1]
        refine x_put (fs' := mF m V (va_up s1 10 (nI (j + 1))) (va_up l1 0 (wdL T q (j + 1 - q)))) fX12_115 hset_s (Nat.le_of_ble_eq_true rfl) rfl rfl rfl dX12_advance_201 ?_
        refine x_goto 126 dX12_advance_204 (by decide) ?_
        exact ih (by omega) (fun r a b => by
          by_cases z : r = j
          · subst z; exact dj
          · exact hr r a (by omega)) _ _ _ hm1.num.num e8 e9 (va_up_self _ _ _) e11 (va_up_self _ _ _) (fun i hi => (va_up_ne _ _ (by omega)).trans (fs i hi)) (fun i hi => (va_up_ne _ _ hi).trans (fl i hi)) ((F.tr (Fr.set (by omega) (by omega))).tr (Fr.set (by omega) (by omega)))
  · have mo := hm1.1
    have h7 : s1 7 = nI T.1 := (fs 7 (.inl (by decide))).trans hs7
    refine x_aload_n dX12_advance_126 rfl ?_
    refine x_get fX12_132 mo rfl dX12_advance_127 ?_
    refine x_iconst (v := 1) dX12_advance_130 (by decide) ?_
    refine x_icmp_ne_f 207 dX12_advance_131 (by decide) e8 ?_
    refine x_aload_n dX12_advance_134 rfl ?_
    refine x_aload_n dX12_advance_135 rfl ?_
    refine x_get fX12_115 mo rfl dX12_advance_136 ?_
    rw [e10]
    refine x_rdV (c_X12_byteAt hm1 h240 hT h7 (i := T.1) (by omega)) mo lkX12_byteAt sX12_121 dX12_advance_139 rfl rfl (Nat.le_of_ble_eq_true rfl) (by decide) ⟨rfl, rfl, by decide, by decide⟩ ?_
    refine x_rdS c_X12_isLetter lkX12_isLetter sX12_125 dX12_advance_142 rfl rfl (Nat.le_of_ble_eq_true rfl) (by decide) ⟨rfl, rfl, by decide, by decide⟩ ?_
    refine x_if_eqB_t 207 dX12_advance_145 (by decide) (by rw [mB_so, tB_out (Nat.le_refl _)]; decide) ?_
    have c145 : ¬ sO (mB T T.1) = 1 := by rw [mB_so, tB_out (Nat.le_refl _)]; decide
    have nd : ¬ sO (tB T T.1) = 1 := by rw [← mB_so]; exact c145
    have qj : q < T.1 := by
      rcases Nat.lt_or_ge q T.1 with z | z
      · exact z
      · exact absurd so1 (by rw [show q = T.1 by omega]; exact nd)
    have hn : nx T p = (sO (tB T q), q, T.1) := nx_of hs (by rw [if_neg (by omega), if_neg (by omega)]; exact wh_run (decide_eq_false (by rw [so1]; exact nd)) 240 (q + 1) (by omega) (by omega) (fun k a b => decide_eq_true (by rw [so1]; exact hr k (by omega) b)))
    exact ad207n h240 hT kk hm1 (by
      rw [hn, so1]
      exact TK1 qj (by omega) e8 e9 e10 e11 ew hr) (by rw [hn, so1]; exact (by decide : ¬ (1 : Nat) = 2)) fs fl F
set_option maxRecDepth 10000 in
set_option maxHeartbeats 2000000 in
theorem ad34 {g : gG} {h : gH} {m : Nat} {V : VS} {s : Nat → Int32} {l : Nat → Int64} {A : Nat → Nat → Int32} {B : Nat → Nat → Int64} {T : TT} (h240 : T.1 ≤ 240) (hT : ∀ i, i < T.1 → T.2 i < 256 ∧ A 6 i = nI (T.2 i)) (hs7 : s 7 = nI T.1) {p q : Nat} (hs : nxS T p = q) (hq : q ≤ T.1) {b0 : Option Value} {Q : Option Value → gH → Prop} (kk : ∀ h1 s1 l1, MM h1 m V s1 l1 A B → TKm T (nx T p) s1 l1 → (∀ i, i < 8 ∨ 12 ≤ i → s1 i = s i) → (∀ i, i ≠ 0 → l1 i = l i) → Fr m 27 h h1 → Q none h1) {s1 : Nat → Int32} {l1 : Nat → Int64} {h1 : gH} (hm1 : MM h1 m V s1 l1 A B) (e9 : s1 9 = nI q) (fs : ∀ i, i < 8 ∨ 12 ≤ i → s1 i = s i) (fl : ∀ i, i ≠ 0 → l1 i = l i) (F : Fr m 27 h h1) : Ex g mX12_advance (gZm g mX12_advance Q) 34 [some (.ref m), b0] [] h1 0 0 := by
  have mo := hm1.1
  have h7x : va_up s1 10 (nI q) 7 = nI T.1 := (fs 7 (.inl (by decide))).trans hs7
  refine x_aload_n dX12_advance_34 rfl ?_
  refine x_aload_n dX12_advance_35 rfl ?_
  refine x_get fX12_118 mo rfl dX12_advance_36 ?_
  rw [e9]
  refine x_put (fs' := mF m V (va_up s1 10 (nI q)) l1) fX12_115 mo (Nat.le_of_ble_eq_true rfl) rfl rfl rfl dX12_advance_39 ?_
  refine x_aload_n dX12_advance_42 rfl ?_
  refine x_aload_n dX12_advance_43 rfl ?_
  refine x_get fX12_118 hset_s rfl dX12_advance_44 ?_
  rw [show va_up s1 10 (nI q) 9 = nI q from e9]
  refine x_rdV (c_X12_byteAt (hm1.num (V' := V) (s' := va_up s1 10 (nI q)) (l' := l1)) h240 hT h7x (i := q) (by omega)) hset_s lkX12_byteAt sX12_121 dX12_advance_47 rfl rfl (Nat.le_of_ble_eq_true rfl) (by decide) ⟨rfl, rfl, by decide, by decide⟩ ?_
  refine x_ist_1 dX12_advance_50 (by decide) rfl ?_
  refine x_aload_n dX12_advance_51 rfl ?_
  refine x_iload_n dX12_advance_52 rfl ?_
  refine x_if_ge 60 dX12_advance_53 (by decide) (fun c53 => ?_) (fun c53 => ?_)
  · refine x_iload_n dX12_advance_60 rfl ?_
    refine x_rdS c_X12_isLetter lkX12_isLetter sX12_125 dX12_advance_61 rfl rfl (Nat.le_of_ble_eq_true rfl) (by decide) ⟨rfl, rfl, by decide, by decide⟩ ?_
    refine x_if_eqB 71 dX12_advance_64 (by decide) (fun c64 => ?_) (fun c64 => ?_)
    · refine x_iload_n dX12_advance_71 rfl ?_
      refine x_rdS c_X12_isDigit lkX12_isDigit sX12_129 dX12_advance_72 rfl rfl (Nat.le_of_ble_eq_true rfl) (by decide) ⟨rfl, rfl, by decide, by decide⟩ ?_
      refine x_if_eqB 82 dX12_advance_75 (by decide) (fun c75 => ?_) (fun c75 => ?_)
      · refine x_iconst (v := 3) dX12_advance_82 (by decide) ?_
        refine x_put (fs' := mF m V (va_up (va_up s1 10 (nI q)) 8 (nI 3)) l1) fX12_132 hset_s (Nat.le_of_ble_eq_true rfl) rfl rfl rfl dX12_advance_83 ?_
        refine x_aload_n dX12_advance_86 rfl ?_
        refine x_lconst (v := 0) dX12_advance_87 (by decide) ?_
        refine x_put (fs' := mF m V (va_up (va_up s1 10 (nI q)) 8 (nI 3)) (va_up l1 0 0)) fX12_135 hset_s (Nat.le_of_ble_eq_true rfl) rfl rfl rfl dX12_advance_88 ?_
        refine x_aload_n dX12_advance_91 rfl ?_
        refine x_aload_n dX12_advance_92 rfl ?_
        refine x_get fX12_132 hset_s rfl dX12_advance_93 ?_
        refine x_iconst (v := 2) dX12_advance_96 (by decide) ?_
        refine x_icmp_ne_t 104 dX12_advance_97 (by decide) (show ¬ nI 3 = 2 by decide) ?_
        refine x_iload_n dX12_advance_104 rfl ?_
        refine x_put (fs' := mF m V (va_up (va_up (va_up s1 10 (nI q)) 8 (nI 3)) 11 (mB T q)) (va_up l1 0 0)) fX12_139 hset_s (Nat.le_of_ble_eq_true rfl) rfl rfl rfl dX12_advance_105 ?_
        refine x_aload_n dX12_advance_108 rfl ?_
        refine x_get fX12_132 hset_s rfl dX12_advance_109 ?_
        refine x_iconst (v := 3) dX12_advance_112 (by decide) ?_
        refine x_icmp_ne_f 126 dX12_advance_113 (by decide) rfl ?_
        refine x_aload_n dX12_advance_116 rfl ?_
        refine x_dup dX12_advance_117 rfl ?_
        refine x_get fX12_115 hset_s rfl dX12_advance_118 ?_
        refine x_iconst (v := 1) dX12_advance_121 (by decide) ?_
        refine x_iadd dX12_advance_122 ?_
        rw [show (va_up (va_up (va_up s1 10 (nI q)) 8 (nI 3)) 11 (mB T q)) 10 + 1 = nI (q + 1) from nI_1 _]
        refine x_put (fs' := mF m V (va_up (va_up (va_up (va_up s1 10 (nI q)) 8 (nI 3)) 11 (mB T q)) 10 (nI (q + 1))) (va_up l1 0 0)) fX12_115 hset_s (Nat.le_of_ble_eq_true rfl) rfl rfl rfl dX12_advance_123 ?_
        have k0 : sO (tB T q) = 3 := by
          have a0 : ¬ sO (tB T q) = 0 := by
            rw [← mB_so, sO, if_neg (Int32.not_lt.mpr c53)]
            split
            · decide
            · split <;> decide
          have a1 : ¬ sO (tB T q) = 1 := by rw [← mB_so]; exact c64
          have a2 : ¬ sO (tB T q) = 2 := by rw [← mB_so]; exact c75
          have := sO_lt (tB T q)
          omega
        refine x_aload_n dX12_advance_126 rfl ?_
        refine x_get fX12_132 hset_s rfl dX12_advance_127 ?_
        refine x_iconst (v := 1) dX12_advance_130 (by decide) ?_
        refine x_icmp_ne_t 207 dX12_advance_131 (by decide) (show ¬ nI 3 = 1 by decide) ?_
        exact ad207n h240 hT kk (((((hm1.num (V' := V) (s' := va_up s1 10 (nI q)) (l' := l1)).num (V' := V) (s' := (va_up (va_up s1 10 (nI q)) 8 (nI 3))) (l' := l1)).num (V' := V) (s' := (va_up (va_up s1 10 (nI q)) 8 (nI 3))) (l' := va_up l1 0 0)).num (V' := V) (s' := (va_up (va_up (va_up s1 10 (nI q)) 8 (nI 3)) 11 (mB T q))) (l' := va_up l1 0 0)).num (V' := V) (s' := va_up (va_up (va_up (va_up s1 10 (nI q)) 8 (nI 3)) 11 (mB T q)) 10 (nI (q + 1))) (l' := va_up l1 0 0)) (by rw [nx_of hs (show _ = q + 1 by rw [if_neg (by omega), if_pos k0]), k0]; exact TK0 (by decide) (by decide) (by decide) (Nat.le_succ _) (so_lt (by omega)) rfl e9 rfl rfl) (by rw [nx_of hs (show _ = q + 1 by rw [if_neg (by omega), if_pos k0]), k0]; exact (by decide : ¬ (3 : Nat) = 2)) (fun i hi => (va_up_ne _ _ (by omega)).trans ((fun i hi => (va_up_ne _ _ (by omega)).trans ((va_up_ne _ _ (by omega)).trans ((va_up_ne _ _ (by omega)).trans (fs i hi)))) i hi)) (fun i hi => (va_up_ne _ _ hi).trans (fl i hi)) (((((F.tr (Fr.set (by omega) (by omega))).tr (Fr.set (by omega) (by omega))).tr (Fr.set (by omega) (by omega))).tr (Fr.set (by omega) (by omega))).tr (Fr.set (by omega) (by omega)))
      · refine x_iconst (v := 2) dX12_advance_78 (by decide) ?_
        refine x_goto 83 dX12_advance_79 (by decide) ?_
        refine x_put (fs' := mF m V (va_up (va_up s1 10 (nI q)) 8 (nI 2)) l1) fX12_132 hset_s (Nat.le_of_ble_eq_true rfl) rfl rfl rfl dX12_advance_83 ?_
        refine x_aload_n dX12_advance_86 rfl ?_
        refine x_lconst (v := 0) dX12_advance_87 (by decide) ?_
        refine x_put (fs' := mF m V (va_up (va_up s1 10 (nI q)) 8 (nI 2)) (va_up l1 0 0)) fX12_135 hset_s (Nat.le_of_ble_eq_true rfl) rfl rfl rfl dX12_advance_88 ?_
        refine x_aload_n dX12_advance_91 rfl ?_
        refine x_aload_n dX12_advance_92 rfl ?_
        refine x_get fX12_132 hset_s rfl dX12_advance_93 ?_
        refine x_iconst (v := 2) dX12_advance_96 (by decide) ?_
        refine x_icmp_ne_f 104 dX12_advance_97 (by decide) rfl ?_
        refine x_iconst (v := 0) dX12_advance_100 (by decide) ?_
        refine x_goto 105 dX12_advance_101 (by decide) ?_
        refine x_put (fs' := mF m V (va_up (va_up (va_up s1 10 (nI q)) 8 (nI 2)) 11 (0)) (va_up l1 0 0)) fX12_139 hset_s (Nat.le_of_ble_eq_true rfl) rfl rfl rfl dX12_advance_105 ?_
        refine x_aload_n dX12_advance_108 rfl ?_
        refine x_get fX12_132 hset_s rfl dX12_advance_109 ?_
        refine x_iconst (v := 3) dX12_advance_112 (by decide) ?_
        refine x_icmp_ne_t 126 dX12_advance_113 (by decide) (show ¬ nI 2 = 3 by decide) ?_
        have k0 : sO (tB T q) = 2 := by rw [← mB_so]; exact c75
        refine x_aload_n dX12_advance_126 rfl ?_
        refine x_get fX12_132 hset_s rfl dX12_advance_127 ?_
        refine x_iconst (v := 1) dX12_advance_130 (by decide) ?_
        refine x_icmp_ne_t 207 dX12_advance_131 (by decide) (show ¬ nI 2 = 1 by decide) ?_
        exact ad207 (s := s) (l := l) (h := h) h240 hT hs7 hs k0 kk q hq (Nat.le_refl _) (fun r a b => by omega) _ _ _ ((((hm1.num (V' := V) (s' := va_up s1 10 (nI q)) (l' := l1)).num (V' := V) (s' := (va_up (va_up s1 10 (nI q)) 8 (nI 2))) (l' := l1)).num (V' := V) (s' := (va_up (va_up s1 10 (nI q)) 8 (nI 2))) (l' := va_up l1 0 0)).num (V' := V) (s' := (va_up (va_up (va_up s1 10 (nI q)) 8 (nI 2)) 11 (0))) (l' := va_up l1 0 0)) rfl e9 rfl (by rw [Nat.sub_self]; rfl) (fun i hi => (va_up_ne _ _ (by omega)).trans ((va_up_ne _ _ (by omega)).trans ((va_up_ne _ _ (by omega)).trans (fs i hi)))) (fun i hi => (va_up_ne _ _ hi).trans (fl i hi)) ((((F.tr (Fr.set (by omega) (by omega))).tr (Fr.set (by omega) (by omega))).tr (Fr.set (by omega) (by omega))).tr (Fr.set (by omega) (by omega)))
    · refine x_iconst (v := 1) dX12_advance_67 (by decide) ?_
      refine x_goto 83 dX12_advance_68 (by decide) ?_
      refine x_put (fs' := mF m V (va_up (va_up s1 10 (nI q)) 8 (nI 1)) l1) fX12_132 hset_s (Nat.le_of_ble_eq_true rfl) rfl rfl rfl dX12_advance_83 ?_
      refine x_aload_n dX12_advance_86 rfl ?_
      refine x_lconst (v := 0) dX12_advance_87 (by decide) ?_
      refine x_put (fs' := mF m V (va_up (va_up s1 10 (nI q)) 8 (nI 1)) (va_up l1 0 0)) fX12_135 hset_s (Nat.le_of_ble_eq_true rfl) rfl rfl rfl dX12_advance_88 ?_
      refine x_aload_n dX12_advance_91 rfl ?_
      refine x_aload_n dX12_advance_92 rfl ?_
      refine x_get fX12_132 hset_s rfl dX12_advance_93 ?_
      refine x_iconst (v := 2) dX12_advance_96 (by decide) ?_
      refine x_icmp_ne_t 104 dX12_advance_97 (by decide) (show ¬ nI 1 = 2 by decide) ?_
      refine x_iload_n dX12_advance_104 rfl ?_
      refine x_put (fs' := mF m V (va_up (va_up (va_up s1 10 (nI q)) 8 (nI 1)) 11 (mB T q)) (va_up l1 0 0)) fX12_139 hset_s (Nat.le_of_ble_eq_true rfl) rfl rfl rfl dX12_advance_105 ?_
      refine x_aload_n dX12_advance_108 rfl ?_
      refine x_get fX12_132 hset_s rfl dX12_advance_109 ?_
      refine x_iconst (v := 3) dX12_advance_112 (by decide) ?_
      refine x_icmp_ne_t 126 dX12_advance_113 (by decide) (show ¬ nI 1 = 3 by decide) ?_
      have k0 : sO (tB T q) = 1 := by rw [← mB_so]; exact c64
      exact ad126 (s := s) (l := l) (h := h) h240 hT hs7 hs k0 kk q hq (Nat.le_refl _) (fun r a b => by omega) _ _ _ ((((hm1.num (V' := V) (s' := va_up s1 10 (nI q)) (l' := l1)).num (V' := V) (s' := (va_up (va_up s1 10 (nI q)) 8 (nI 1))) (l' := l1)).num (V' := V) (s' := (va_up (va_up s1 10 (nI q)) 8 (nI 1))) (l' := va_up l1 0 0)).num (V' := V) (s' := (va_up (va_up (va_up s1 10 (nI q)) 8 (nI 1)) 11 (mB T q))) (l' := va_up l1 0 0)) rfl e9 rfl rfl (by rw [Nat.sub_self]; rfl) (fun i hi => (va_up_ne _ _ (by omega)).trans ((va_up_ne _ _ (by omega)).trans ((va_up_ne _ _ (by omega)).trans (fs i hi)))) (fun i hi => (va_up_ne _ _ hi).trans (fl i hi)) ((((F.tr (Fr.set (by omega) (by omega))).tr (Fr.set (by omega) (by omega))).tr (Fr.set (by omega) (by omega))).tr (Fr.set (by omega) (by omega)))
  · refine x_iconst (v := 0) dX12_advance_56 (by decide) ?_
    refine x_goto 83 dX12_advance_57 (by decide) ?_
    refine x_put (fs' := mF m V (va_up (va_up s1 10 (nI q)) 8 (nI 0)) l1) fX12_132 hset_s (Nat.le_of_ble_eq_true rfl) rfl rfl rfl dX12_advance_83 ?_
    refine x_aload_n dX12_advance_86 rfl ?_
    refine x_lconst (v := 0) dX12_advance_87 (by decide) ?_
    refine x_put (fs' := mF m V (va_up (va_up s1 10 (nI q)) 8 (nI 0)) (va_up l1 0 0)) fX12_135 hset_s (Nat.le_of_ble_eq_true rfl) rfl rfl rfl dX12_advance_88 ?_
    refine x_aload_n dX12_advance_91 rfl ?_
    refine x_aload_n dX12_advance_92 rfl ?_
    refine x_get fX12_132 hset_s rfl dX12_advance_93 ?_
    refine x_iconst (v := 2) dX12_advance_96 (by decide) ?_
    refine x_icmp_ne_t 104 dX12_advance_97 (by decide) (show ¬ nI 0 = 2 by decide) ?_
    refine x_iload_n dX12_advance_104 rfl ?_
    refine x_put (fs' := mF m V (va_up (va_up (va_up s1 10 (nI q)) 8 (nI 0)) 11 (mB T q)) (va_up l1 0 0)) fX12_139 hset_s (Nat.le_of_ble_eq_true rfl) rfl rfl rfl dX12_advance_105 ?_
    refine x_aload_n dX12_advance_108 rfl ?_
    refine x_get fX12_132 hset_s rfl dX12_advance_109 ?_
    refine x_iconst (v := 3) dX12_advance_112 (by decide) ?_
    refine x_icmp_ne_t 126 dX12_advance_113 (by decide) (show ¬ nI 0 = 3 by decide) ?_
    have k0 : sO (tB T q) = 0 := by rw [← mB_so, sO, if_pos (Int32.not_le.mp c53)]
    refine x_aload_n dX12_advance_126 rfl ?_
    refine x_get fX12_132 hset_s rfl dX12_advance_127 ?_
    refine x_iconst (v := 1) dX12_advance_130 (by decide) ?_
    refine x_icmp_ne_t 207 dX12_advance_131 (by decide) (show ¬ nI 0 = 1 by decide) ?_
    exact ad207n h240 hT kk ((((hm1.num (V' := V) (s' := va_up s1 10 (nI q)) (l' := l1)).num (V' := V) (s' := (va_up (va_up s1 10 (nI q)) 8 (nI 0))) (l' := l1)).num (V' := V) (s' := (va_up (va_up s1 10 (nI q)) 8 (nI 0))) (l' := va_up l1 0 0)).num (V' := V) (s' := (va_up (va_up (va_up s1 10 (nI q)) 8 (nI 0)) 11 (mB T q))) (l' := va_up l1 0 0)) (by rw [nx_of hs (show _ = q by rw [if_pos k0]), k0]; exact TK0 (by decide) (by decide) (by decide) (Nat.le_refl _) hq rfl e9 rfl rfl) (by rw [nx_of hs (show _ = q by rw [if_pos k0]), k0]; exact (by decide : ¬ (0 : Nat) = 2)) (fun i hi => (va_up_ne _ _ (by omega)).trans ((va_up_ne _ _ (by omega)).trans ((va_up_ne _ _ (by omega)).trans (fs i hi)))) (fun i hi => (va_up_ne _ _ hi).trans (fl i hi)) ((((F.tr (Fr.set (by omega) (by omega))).tr (Fr.set (by omega) (by omega))).tr (Fr.set (by omega) (by omega))).tr (Fr.set (by omega) (by omega)))
set_option maxRecDepth 10000 in
set_option maxHeartbeats 2000000 in
theorem ad8 {g : gG} {h : gH} {m : Nat} {V : VS} {s : Nat → Int32} {l : Nat → Int64} {A : Nat → Nat → Int32} {B : Nat → Nat → Int64} {T : TT} (h240 : T.1 ≤ 240) (hT : ∀ i, i < T.1 → T.2 i < 256 ∧ A 6 i = nI (T.2 i)) (hs7 : s 7 = nI T.1) {p : Nat} {b0 : Option Value} {Q : Option Value → gH → Prop} (kk : ∀ h1 s1 l1, MM h1 m V s1 l1 A B → TKm T (nx T p) s1 l1 → (∀ i, i < 8 ∨ 12 ≤ i → s1 i = s i) → (∀ i, i ≠ 0 → l1 i = l i) → Fr m 27 h h1 → Q none h1) : ∀ j, j ≤ T.1 → p ≤ j → (∀ k, p ≤ k → k < j → tSp T k = true) → ∀ s1 l1 h1, MM h1 m V s1 l1 A B → s1 9 = nI j → (∀ i, i < 8 ∨ 12 ≤ i → s1 i = s i) → (∀ i, i ≠ 0 → l1 i = l i) → Fr m 27 h h1 → Ex g mX12_advance (gZm g mX12_advance Q) 8 [some (.ref m), b0] [] h1 0 0 := by
  refine lp_up T.1 (fun j hj ih hpj hr s1 l1 h1 hm1 e9 fs fl F => ?_) (fun hpj hr s1 l1 h1 hm1 e9 fs fl F => ?_)
  · have mo := hm1.1
    have h7 : s1 7 = nI T.1 := (fs 7 (.inl (by decide))).trans hs7
    refine x_aload_n dX12_advance_8 rfl ?_
    refine x_aload_n dX12_advance_9 rfl ?_
    refine x_get fX12_118 mo rfl dX12_advance_10 ?_
    rw [e9]
    refine x_rdV (c_X12_byteAt hm1 h240 hT h7 (i := j) (by omega)) mo lkX12_byteAt sX12_121 dX12_advance_13 rfl rfl (Nat.le_of_ble_eq_true rfl) (by decide) ⟨rfl, rfl, by decide, by decide⟩ ?_
    refine x_bipush (v := 32) dX12_advance_16 (by decide) ?_
    refine x_icmp_ne 34 dX12_advance_18 (by decide) (fun c18 => ?_) (fun c18 => ?_)
    · exact ad34 h240 hT hs7 (wh_run (decide_eq_false (fun z => c18 ((mB_eq (by decide) (by decide)).mpr z))) 240 p hpj (by omega) hr) (by omega) kk hm1 e9 fs fl F
    · refine x_aload_n dX12_advance_21 rfl ?_
      refine x_dup dX12_advance_22 rfl ?_
      refine x_get fX12_118 mo rfl dX12_advance_23 ?_
      refine x_iconst (v := 1) dX12_advance_26 (by decide) ?_
      refine x_iadd dX12_advance_27 ?_
      rw [e9, nI_1]
      refine x_put (fs' := mF m V (va_up s1 9 (nI (j + 1))) l1) fX12_118 mo (Nat.le_of_ble_eq_true rfl) rfl rfl rfl dX12_advance_28 ?_
      refine x_goto 8 dX12_advance_31 (by decide) ?_
      have sj : tSp T j = true := decide_eq_true ((mB_eq (by decide) (by decide)).mp c18)
      exact ih (by omega) (fun k a b => by
        by_cases z : k = j
        · subst z; exact sj
        · exact hr k a (by omega)) _ _ _ hm1.num (va_up_self _ _ _) (fun i hi => (va_up_ne _ _ (by omega)).trans (fs i hi)) fl (F.tr (Fr.set (by omega) (by omega)))
  · have mo := hm1.1
    have h7 : s1 7 = nI T.1 := (fs 7 (.inl (by decide))).trans hs7
    refine x_aload_n dX12_advance_8 rfl ?_
    refine x_aload_n dX12_advance_9 rfl ?_
    refine x_get fX12_118 mo rfl dX12_advance_10 ?_
    rw [e9]
    refine x_rdV (c_X12_byteAt hm1 h240 hT h7 (i := T.1) (by omega)) mo lkX12_byteAt sX12_121 dX12_advance_13 rfl rfl (Nat.le_of_ble_eq_true rfl) (by decide) ⟨rfl, rfl, by decide, by decide⟩ ?_
    refine x_bipush (v := 32) dX12_advance_16 (by decide) ?_
    refine x_icmp_ne_t 34 dX12_advance_18 (by decide) (by rw [mB_out (Nat.le_refl _)]; decide) ?_
    exact ad34 h240 hT hs7 (wh_run (decide_eq_false (by rw [tB_out (Nat.le_refl _)]; decide)) 240 p hpj (by omega) hr) (Nat.le_refl _) kk hm1 e9 fs fl F
set_option maxRecDepth 10000 in
set_option maxHeartbeats 2000000 in
theorem c_X12_advance {g : gG} {h : gH} {m : Nat} {V : VS} {s : Nat → Int32} {l : Nat → Int64} {A : Nat → Nat → Int32} {B : Nat → Nat → Int64} (hm : MM h m V s l A B) {T : TT} (h240 : T.1 ≤ 240) (hT : ∀ i, i < T.1 → T.2 i < 256 ∧ A 6 i = nI (T.2 i)) (hs7 : s 7 = nI T.1) {p : Nat} (hp : p ≤ T.1) (e10 : s 10 = nI p) : Ct g mX12_advance [.ref m] h none (fun h' => ∃ s1 l1, MM h' m V s1 l1 A B ∧ TKm T (nx T p) s1 l1 ∧ (∀ i, i < 8 ∨ 12 ≤ i → s1 i = s i) ∧ (∀ i, i ≠ 0 → l1 i = l i) ∧ Fr m 27 h h') := by
  have mo := hm.1
  refine Cn.of (L := [some (.ref m), none]) (by decide) (Nat.le_of_ble_eq_true rfl) rfl ?_
  refine x_aload_n dX12_advance_0 rfl ?_
  refine x_aload_n dX12_advance_1 rfl ?_
  refine x_get fX12_115 mo rfl dX12_advance_2 ?_
  rw [e10]
  refine x_put (fs' := mF m V (va_up s 9 (nI p)) l) fX12_118 mo (Nat.le_of_ble_eq_true rfl) rfl rfl rfl dX12_advance_5 ?_
  exact ad8 (s := s) (l := l) (h := h) h240 hT hs7 (fun h1 s1 l1 a b c d e => ⟨rfl, s1, l1, a, b, c, d, e⟩) p hp (Nat.le_refl _) (fun k a b => by omega) _ _ _ hm.num (va_up_self _ _ _) (fun i hi => va_up_ne _ _ (by omega)) (fun _ _ => rfl) (Fr.set (by omega) (by omega))
