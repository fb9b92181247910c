/-! TAPE: looking at names, numbers, other bytes -/
theorem ts_sub {a b : Nat} (h : b ≤ a) : nI a - nI b = nI (a - b) := by
  have e : nI a = nI (a - b) + nI b := by rw [nI_add, Nat.sub_add_cancel h]
  rw [e, Int32.add_sub_cancel]
theorem ts_mul (a b : Nat) : nI a * nI b = nI (a * b) := (Int32.ofNat_mul a b).symm
abbrev TT : Type := Nat × (Nat → Nat)
def tB (T : TT) (i : Nat) : Int32 := if i < T.1 then nI (T.2 i) else -9
def sO (b : Int32) : Nat := if b < 0 then 0 else if 97 ≤ b ∧ b ≤ 122 then 1 else if 48 ≤ b ∧ b ≤ 57 then 2 else 3
def wh (P : Nat → Bool) (i : Nat) : Nat → Nat
  | 0 => i
  | n + 1 => if P i = true then wh P (i + 1) n else i
theorem wh_run {P : Nat → Bool} {j : Nat} (hj : P j = false) : ∀ n i, i ≤ j → j ≤ i + n → (∀ k, i ≤ k → k < j → P k = true) → wh P i n = j
  | 0, i, h1, h2, _ => by rw [wh]; omega
  | n + 1, i, h1, h2, h3 => by
    rw [wh]
    by_cases e : i = j
    · subst e; rw [if_neg (by rw [hj]; decide)]
    · rw [if_pos (h3 i (Nat.le_refl _) (by omega))]
      exact wh_run hj n (i + 1) (by omega) (by omega) (fun k a b => h3 k (by omega) b)
def tSp (T : TT) (i : Nat) : Bool := decide (tB T i = 32)
def isSo (T : TT) (a i : Nat) : Bool := decide (sO (tB T i) = a)
abbrev KS : Type := Nat × Nat × Nat
/-- the next thing behind place p: its sort, where it begins, where it is past -/
def nxS (T : TT) (p : Nat) : Nat := wh (tSp T) p 240
def nx (T : TT) (p : Nat) : KS := (sO (tB T (nxS T p)), nxS T p, if sO (tB T (nxS T p)) = 0 then nxS T p else if sO (tB T (nxS T p)) = 3 then nxS T p + 1 else wh (isSo T (sO (tB T (nxS T p)))) (nxS T p + 1) 240)
def tv (T : TT) (K : KS) : Nat := if K.2.2 - K.2.1 = 2 then (T.2 K.2.1 - 48) * 10 + T.2 (K.2.1 + 1) - 48 else T.2 K.2.1 - 48
theorem sO_lt (b : Int32) : sO b < 4 := by unfold sO; split <;> (try split) <;> (try split) <;> decide
theorem sO_n : sO (-9) = 0 := by decide
theorem tB_in {T : TT} {i : Nat} (h : i < T.1) : tB T i = nI (T.2 i) := if_pos h
theorem tB_out {T : TT} {i : Nat} (h : T.1 ≤ i) : tB T i = -9 := if_neg (by omega)
theorem sp_lt {T : TT} {i : Nat} (h : tSp T i = true) : i < T.1 := by
  rcases Nat.lt_or_ge i T.1 with q | q
  · exact q
  · have := of_decide_eq_true h; rw [tB_out q] at this; exact absurd this (by decide)
theorem so_lt {T : TT} {i : Nat} (h : sO (tB T i) ≠ 0) : i < T.1 := by
  rcases Nat.lt_or_ge i T.1 with q | q
  · exact q
  · rw [tB_out q] at h; exact absurd sO_n h
theorem sO_2 {b : Int32} (h : sO b = 2) : 48 ≤ b ∧ b ≤ 57 := by
  unfold sO at h
  split at h
  · cases h
  · split at h
    · cases h
    · split at h
      · assumption
      · cases h
theorem dg {T : TT} {i : Nat} (hb : T.2 i < 256) (h : sO (tB T i) = 2) : tB T i = nI (T.2 i) ∧ 48 ≤ T.2 i ∧ T.2 i ≤ 57 := by
  have hl : i < T.1 := so_lt (by omega)
  have e := tB_in hl
  have q := sO_2 h
  rw [e] at q
  exact ⟨e, (nI_leI (a := 48) (by decide) (by omega)).mp q.1, (nI_leI (b := 57) (by omega) (by decide)).mp q.2⟩
abbrev uG (t : Nat) (T : TT) (a b c nu fl : Int32) : List Value := [.ref (t + 1), .int (nI T.1), .int a, .int b, .int c, .int nu, .int fl]
def uB (h : gH) (t : Nat) (T : TT) : Prop := T.1 ≤ 240 ∧ ∃ b, h.1 (t + 1) = some (.inl (2, 240, .inl b)) ∧ ∀ i, i < T.1 → T.2 i < 256 ∧ b i &&& 255 = nI (T.2 i)
def uO (h : gH) (t : Nat) (T : TT) (a b c nu fl : Int32) : Prop := h.1 t = some (.inr (6, uG t T a b c nu fl))
def isU (h : gH) (t : Nat) (T : TT) (K : KS) (fl : Int32) : Prop := uB h t T ∧ (K.1 < 4 ∧ K.2.1 ≤ K.2.2 ∧ K.2.2 ≤ T.1) ∧ ∃ nu, uO h t T (nI K.1) (nI K.2.1) (nI K.2.2) nu fl ∧ (K.1 = 2 → nu = nI (tv T K) ∧ tv T K < 1000)
theorem uB.st {h : gH} {t : Nat} {T : TT} {e : va_E} (hb : uB h t T) : uB (hset h t e) t T := by
  obtain ⟨h0, b, h1, h2⟩ := hb
  exact ⟨h0, b, (hset_n (by omega)).trans h1, h2⟩
theorem uB.by {h : gH} {t : Nat} {T : TT} (hb : uB h t T) {i : Nat} (hi : i < T.1) : T.2 i < 256 := by
  obtain ⟨h0, b, h1, h2⟩ := hb
  exact (h2 i hi).1
set_option maxRecDepth 10000 in
set_option maxHeartbeats 2000000 in
theorem c_X6_byteAt {g : gG} {h : gH} {t i : Nat} {T : TT} {a b c nu fl : Int32} (hb : uB h t T) (ho : uO h t T a b c nu fl) (hi : i < 2 ^ 31) : Rd g mX6_byteAt [.ref t, .int (nI i)] h (.int (tB T i)) := by
  obtain ⟨h0, b, h1, h2⟩ := hb
  have ho : h.1 t = _ := ho
  have li : nI T.1 ≤ nI i ↔ T.1 ≤ i := nI_leI (by omega) hi
  refine Cn.of (L := [some (.ref t), some (.int (nI i))]) (by decide) (Nat.le_of_ble_eq_true rfl) rfl ?_
  refine x_iload_n dX6_byteAt_0 rfl ?_
  refine x_if_lt_f 25 dX6_byteAt_1 (by decide) (nI_pos hi) ?_
  refine x_iload_n dX6_byteAt_4 rfl ?_
  refine x_aload_n dX6_byteAt_5 rfl ?_
  refine x_get fX6_15 ho rfl dX6_byteAt_6 ?_
  refine x_icmp_ge 25 dX6_byteAt_9 (by decide) (fun c9 => ?_) (fun c9 => ?_)
  · refine x_bipush (v := -9) dX6_byteAt_25 (by decide) ?_
    refine x_iret rfl dX6_byteAt_27 ⟨by decide, by decide⟩ ?_
    exact ⟨by rw [tB_out (li.mp c9)], rfl⟩
  · refine x_aload_n dX6_byteAt_12 rfl ?_
    refine x_get fX6_9 ho rfl dX6_byteAt_13 ?_
    refine x_iload_n dX6_byteAt_16 rfl ?_
    refine x_bald i h1 rfl (by have : ¬ T.1 ≤ i := fun z => c9 (li.mpr z); omega) (by decide) dX6_byteAt_17 ?_
    refine x_sipush (v := 255) dX6_byteAt_18 (by decide) ?_
    refine x_iand dX6_byteAt_21 ?_
    refine x_goto 27 dX6_byteAt_22 (by decide) ?_
    refine x_iret rfl dX6_byteAt_27 ⟨by decide, by decide⟩ ?_
    have lt : i < T.1 := by have : ¬ T.1 ≤ i := fun z => c9 (li.mpr z); omega
    exact ⟨by rw [tB_in lt, ← (h2 i lt).2], rfl⟩
set_option maxRecDepth 10000 in
set_option maxHeartbeats 2000000 in
theorem c_X6_sortOf {g : gG} {h : gH} {b : Int32} : Rd g mX6_sortOf [.int b] h (.int (nI (sO b))) := by
  refine Cn.of (L := [some (.int b)]) (by decide) (Nat.le_of_ble_eq_true rfl) rfl ?_
  refine x_iload_n dX6_sortOf_0 rfl ?_
  refine x_if_ge 6 dX6_sortOf_1 (by decide) (fun c1 => ?_) (fun c1 => ?_)
  · refine x_iload_n dX6_sortOf_6 rfl ?_
    refine x_bipush (v := 97) dX6_sortOf_7 (by decide) ?_
    refine x_icmp_lt 20 dX6_sortOf_9 (by decide) (fun c9 => ?_) (fun c9 => ?_)
    · refine x_iload_n dX6_sortOf_20 rfl ?_
      refine x_bipush (v := 48) dX6_sortOf_21 (by decide) ?_
      refine x_icmp_lt 36 dX6_sortOf_23 (by decide) (fun c23 => ?_) (fun c23 => ?_)
      · refine x_iconst (v := 3) dX6_sortOf_36 (by decide) ?_
        refine x_iret rfl dX6_sortOf_37 ⟨by decide, by decide⟩ ?_
        exact ⟨by rw [sO, if_neg (Int32.not_lt.mpr c1), if_neg (fun z => absurd c9 (Int32.not_lt.mpr z.1)), if_neg (fun z => absurd c23 (Int32.not_lt.mpr z.1))]; rfl, rfl⟩
      · refine x_iload_n dX6_sortOf_26 rfl ?_
        refine x_bipush (v := 57) dX6_sortOf_27 (by decide) ?_
        refine x_icmp_gt 36 dX6_sortOf_29 (by decide) (fun c29 => ?_) (fun c29 => ?_)
        · refine x_iconst (v := 3) dX6_sortOf_36 (by decide) ?_
          refine x_iret rfl dX6_sortOf_37 ⟨by decide, by decide⟩ ?_
          exact ⟨by rw [sO, if_neg (Int32.not_lt.mpr c1), if_neg (fun z => absurd c9 (Int32.not_lt.mpr z.1)), if_neg (fun z => absurd c29 (Int32.not_lt.mpr z.2))]; rfl, rfl⟩
        · refine x_iconst (v := 2) dX6_sortOf_32 (by decide) ?_
          refine x_goto 37 dX6_sortOf_33 (by decide) ?_
          refine x_iret rfl dX6_sortOf_37 ⟨by decide, by decide⟩ ?_
          exact ⟨by rw [sO, if_neg (Int32.not_lt.mpr c1), if_neg (fun z => absurd c9 (Int32.not_lt.mpr z.1)), if_pos ⟨Int32.not_lt.mp c23, Int32.not_lt.mp c29⟩]; rfl, rfl⟩
    · refine x_iload_n dX6_sortOf_12 rfl ?_
      refine x_bipush (v := 122) dX6_sortOf_13 (by decide) ?_
      refine x_icmp_gt 20 dX6_sortOf_15 (by decide) (fun c15 => ?_) (fun c15 => ?_)
      · refine x_iload_n dX6_sortOf_20 rfl ?_
        refine x_bipush (v := 48) dX6_sortOf_21 (by decide) ?_
        refine x_icmp_lt 36 dX6_sortOf_23 (by decide) (fun c23 => ?_) (fun c23 => ?_)
        · refine x_iconst (v := 3) dX6_sortOf_36 (by decide) ?_
          refine x_iret rfl dX6_sortOf_37 ⟨by decide, by decide⟩ ?_
          exact ⟨by rw [sO, if_neg (Int32.not_lt.mpr c1), if_neg (fun z => absurd c15 (Int32.not_lt.mpr z.2)), if_neg (fun z => absurd c23 (Int32.not_lt.mpr z.1))]; rfl, rfl⟩
        · refine x_iload_n dX6_sortOf_26 rfl ?_
          refine x_bipush (v := 57) dX6_sortOf_27 (by decide) ?_
          refine x_icmp_gt 36 dX6_sortOf_29 (by decide) (fun c29 => ?_) (fun c29 => ?_)
          · refine x_iconst (v := 3) dX6_sortOf_36 (by decide) ?_
            refine x_iret rfl dX6_sortOf_37 ⟨by decide, by decide⟩ ?_
            exact ⟨by rw [sO, if_neg (Int32.not_lt.mpr c1), if_neg (fun z => absurd c15 (Int32.not_lt.mpr z.2)), if_neg (fun z => absurd c29 (Int32.not_lt.mpr z.2))]; rfl, rfl⟩
          · refine x_iconst (v := 2) dX6_sortOf_32 (by decide) ?_
            refine x_goto 37 dX6_sortOf_33 (by decide) ?_
            refine x_iret rfl dX6_sortOf_37 ⟨by decide, by decide⟩ ?_
            exact ⟨by rw [sO, if_neg (Int32.not_lt.mpr c1), if_neg (fun z => absurd c15 (Int32.not_lt.mpr z.2)), if_pos ⟨Int32.not_lt.mp c23, Int32.not_lt.mp c29⟩]; rfl, rfl⟩
      · refine x_iconst (v := 1) dX6_sortOf_18 (by decide) ?_
        refine x_iret rfl dX6_sortOf_19 ⟨by decide, by decide⟩ ?_
        exact ⟨by rw [sO, if_neg (Int32.not_lt.mpr c1), if_pos ⟨Int32.not_lt.mp c9, Int32.not_lt.mp c15⟩]; rfl, rfl⟩
  · refine x_iconst (v := 0) dX6_sortOf_4 (by decide) ?_
    refine x_iret rfl dX6_sortOf_5 ⟨by decide, by decide⟩ ?_
    exact ⟨by rw [sO, if_pos (Int32.not_le.mp c1)]; rfl, rfl⟩
theorem nx_of {T : TT} {p s e : Nat} (hs : nxS T p = s) (he : (if sO (tB T s) = 0 then s else if sO (tB T s) = 3 then s + 1 else wh (isSo T (sO (tB T s))) (s + 1) 240) = e) : nx T p = (sO (tB T s), s, e) := by subst hs; subst he; rfl
set_option maxRecDepth 10000 in
set_option maxHeartbeats 2000000 in
theorem st144 {g : gG} {h h1 : gH} {t p : Nat} {T : TT} {nu fl : Int32} {s e : Nat} {i : Int32} (hn : nx T p = (sO (tB T s), s, e)) (hse : s ≤ e) (heT : e ≤ T.1) (hrun : ∀ q, s ≤ q → q < e → sO (tB T s) = 2 → sO (tB T q) = sO (tB T s)) (hb : uB h1 t T) (ho : uO h1 t T (nI (sO (tB T s))) (nI s) (nI e) nu fl) (F : Fr t 2 h h1) : Ex g mX6_step (gZm g mX6_step (fun o h' => o = none ∧ isU h' t T (nx T p) fl ∧ Fr t 2 h h')) 144 [some (.ref t), some (.int i)] [] h1 0 0 := by
  have h240 := hb.1
  have ho : h1.1 t = _ := ho
  refine x_aload_n dX6_step_144 rfl ?_
  refine x_get fX6_28 ho rfl dX6_step_145 ?_
  refine x_iconst (v := 2) dX6_step_148 (by decide) ?_
  skip
  refine x_icmp_ne 205 dX6_step_149 (by decide) (fun c149 => ?_) (fun c149 => ?_)
  · refine x_vret rfl dX6_step_205 ⟨by decide, by decide⟩ ?_
    refine ⟨rfl, ⟨hb, by rw [hn]; exact ⟨sO_lt _, hse, heT⟩, nu, by rw [hn]; exact ho, fun z => ?_⟩, F⟩
    rw [hn] at z ⊢
    exact absurd (show nI (sO (tB T s)) = 2 by rw [show sO (tB T s) = 2 from z]; rfl) c149
  · have so2 : sO (tB T s) = 2 := nI_eqn (b := 2) (by have := sO_lt (tB T s); omega) (by decide) c149
    have d0 := dg (hb.by (so_lt (by omega))) so2
    refine x_aload_n dX6_step_152 rfl ?_
    refine x_aload_n dX6_step_153 rfl ?_
    refine x_aload_n dX6_step_154 rfl ?_
    refine x_get fX6_74 ho rfl dX6_step_155 ?_
    refine x_rdV (c_X6_byteAt (i := s) hb ho (by omega)) ho lkX6_byteAt sX6_125 dX6_step_158 rfl rfl (Nat.le_of_ble_eq_true rfl) (by decide) ⟨rfl, rfl, by decide, by decide⟩ ?_
    refine x_bipush (v := 48) dX6_step_161 (by decide) ?_
    refine x_isub dX6_step_163 ?_
    rw [d0.1, show (48 : Int32) = nI 48 from rfl, ts_sub d0.2.1]
    refine x_put fX6_122 ho (Nat.le_of_ble_eq_true rfl) rfl rfl rfl dX6_step_164 ?_
    refine x_aload_n dX6_step_167 rfl ?_
    refine x_get fX6_19 hset_s rfl dX6_step_168 ?_
    refine x_aload_n dX6_step_171 rfl ?_
    refine x_get fX6_74 hset_s rfl dX6_step_172 ?_
    refine x_isub dX6_step_175 ?_
    refine x_iconst (v := 2) dX6_step_176 (by decide) ?_
    rw [ts_sub hse]
    refine x_icmp_ne 205 dX6_step_177 (by decide) (fun c177 => ?_) (fun c177 => ?_)
    · refine x_vret rfl dX6_step_205 ⟨by decide, by decide⟩ ?_
      refine ⟨rfl, ⟨hb.st, by rw [hn]; exact ⟨sO_lt _, hse, heT⟩, nI (T.2 s - 48), by rw [hn]; exact hset_s, fun z => ?_⟩, F.tr (Fr.set (by omega) (by omega))⟩
      rw [hn] at z ⊢
      rw [tv, if_neg (fun q => c177 (show nI (e - s) = 2 by rw [show e - s = 2 from q]; rfl))]
      exact ⟨rfl, by show T.2 s - 48 < 1000; omega⟩
    · have es : e - s = 2 := nI_eqn (b := 2) (by omega) (by decide) c177
      have d1 := dg (hb.by (so_lt (by rw [hrun (s + 1) (by omega) (by omega) so2]; omega))) ((hrun (s + 1) (by omega) (by omega) so2).trans so2)
      refine x_aload_n dX6_step_180 rfl ?_
      refine x_aload_n dX6_step_181 rfl ?_
      refine x_get fX6_122 hset_s rfl dX6_step_182 ?_
      refine x_bipush (v := 10) dX6_step_185 (by decide) ?_
      refine x_imul dX6_step_187 ?_
      refine x_aload_n dX6_step_188 rfl ?_
      refine x_aload_n dX6_step_189 rfl ?_
      refine x_get fX6_74 hset_s rfl dX6_step_190 ?_
      refine x_iconst (v := 1) dX6_step_193 (by decide) ?_
      refine x_iadd dX6_step_194 ?_
      rw [show nI s + 1 = nI (s + 1) from nI_1 s]
      refine x_rdV (c_X6_byteAt (i := (s + 1)) hb.st hset_s (by omega)) hset_s lkX6_byteAt sX6_125 dX6_step_195 rfl rfl (Nat.le_of_ble_eq_true rfl) (by decide) ⟨rfl, rfl, by decide, by decide⟩ ?_
      refine x_iadd dX6_step_198 ?_
      refine x_bipush (v := 48) dX6_step_199 (by decide) ?_
      refine x_isub dX6_step_201 ?_
      rw [d1.1, show (10 : Int32) = nI 10 from rfl, ts_mul, nI_add, show (48 : Int32) = nI 48 from rfl, ts_sub (by omega)]
      refine x_put fX6_122 hset_s (Nat.le_of_ble_eq_true rfl) rfl rfl rfl dX6_step_202 ?_
      refine x_vret rfl dX6_step_205 ⟨by decide, by decide⟩ ?_
      refine ⟨rfl, ⟨hb.st.st, by rw [hn]; exact ⟨sO_lt _, hse, heT⟩, nI ((T.2 s - 48) * 10 + T.2 (s + 1) - 48), by rw [hn]; exact hset_s, fun z => ?_⟩, (F.tr (Fr.set (by omega) (by omega))).tr (Fr.set (by omega) (by omega))⟩
      rw [hn] at z ⊢
      rw [tv, if_pos es]
      exact ⟨rfl, by show (T.2 s - 48) * 10 + T.2 (s + 1) - 48 < 1000; omega⟩
set_option maxRecDepth 10000 in
set_option maxHeartbeats 2000000 in
theorem st103 {g : gG} {h : gH} {t p : Nat} {T : TT} {nu fl : Int32} {s : Nat} (hs : nxS T p = s) (s12 : sO (tB T s) = 1 ∨ sO (tB T s) = 2) (h240 : T.1 ≤ 240) : ∀ i, i ≤ 240 → ∀ h1, uB h1 t T → (∀ k, s ≤ k → k < s + 1 + i → sO (tB T k) = sO (tB T s)) → s + 1 + i ≤ T.1 → uO h1 t T (nI (sO (tB T s))) (nI s) (nI (s + 1 + i)) nu fl → Fr t 2 h h1 → Ex g mX6_step (gZm g mX6_step (fun o h' => o = none ∧ isU h' t T (nx T p) fl ∧ Fr t 2 h h')) 103 [some (.ref t), some (.int (nI i))] [] h1 0 0 := by
  refine lp_up 240 (fun i hi ih h1 hb hr hle ho F => ?_) (fun h1 hb hr hle ho F => ?_)
  · have ho : h1.1 t = _ := ho
    refine x_iload_n dX6_step_103 rfl ?_
    refine x_sipush (v := 240) dX6_step_104 (by decide) ?_
    refine x_icmp_ge_f 144 dX6_step_107 (by decide) (ge_f (N := 240) rfl hi (by decide)) ?_
    refine x_aload_n dX6_step_110 rfl ?_
    refine x_aload_n dX6_step_111 rfl ?_
    refine x_get fX6_19 ho rfl dX6_step_112 ?_
    refine x_rdV (c_X6_byteAt (i := (s + 1 + i)) hb ho (by omega)) (by assumption) lkX6_byteAt sX6_125 dX6_step_115 rfl rfl (Nat.le_of_ble_eq_true rfl) (by decide) ⟨rfl, rfl, by decide, by decide⟩ ?_
    refine x_rdS c_X6_sortOf lkX6_sortOf sX6_137 dX6_step_118 rfl rfl (Nat.le_of_ble_eq_true rfl) (by decide) ⟨rfl, rfl, by decide, by decide⟩ ?_
    refine x_aload_n dX6_step_121 rfl ?_
    refine x_get fX6_28 ho rfl dX6_step_122 ?_
    refine x_icmp_ne 144 dX6_step_125 (by decide) (fun c125 => ?_) (fun c125 => ?_)
    · have ne : ¬ sO (tB T (s + 1 + i)) = sO (tB T s) := fun z => c125 (by rw [z])
      exact st144 (nx_of hs (by rw [if_neg (by omega), if_neg (by omega)]; exact wh_run (decide_eq_false ne) 240 (s + 1) (by omega) (by omega) (fun k a b => decide_eq_true (hr k (by omega) b)))) (by omega) hle (fun q a b z => hr q a b) hb ho F
    · refine x_aload_n dX6_step_128 rfl ?_
      refine x_dup dX6_step_129 rfl ?_
      refine x_get fX6_19 ho rfl dX6_step_130 ?_
      refine x_iconst (v := 1) dX6_step_133 (by decide) ?_
      refine x_iadd dX6_step_134 ?_
      rw [show nI (s + 1 + i) + 1 = nI (s + 1 + (i + 1)) from nI_1 _]
      refine x_put fX6_19 ho (Nat.le_of_ble_eq_true rfl) rfl rfl rfl dX6_step_135 ?_
      refine x_inc_1  dX6_step_138 (by decide) (nI_inc _) rfl ?_
      refine x_goto 103 dX6_step_141 (by decide) ?_
      have eq : sO (tB T (s + 1 + i)) = sO (tB T s) := nI_eqn (by have := sO_lt (tB T (s + 1 + i)); omega) (by have := sO_lt (tB T s); omega) c125
      exact ih _ hb.st (fun k a b => by
        by_cases z : k = s + 1 + i
        · subst z; exact eq
        · exact hr k a (by omega)) (by have := so_lt (T := T) (i := s + 1 + i) (by omega); omega) hset_s (F.tr (Fr.set (by omega) (by omega)))
  · omega
set_option maxRecDepth 10000 in
set_option maxHeartbeats 2000000 in
theorem st46 {g : gG} {h h1 : gH} {t p : Nat} {T : TT} {nu fl : Int32} {s : Nat} {a i : Int32} (hs : nxS T p = s) (hsT : s ≤ T.1) (hb : uB h1 t T) (ho : uO h1 t T a (nI s) (nI p) nu fl) (F : Fr t 2 h h1) : Ex g mX6_step (gZm g mX6_step (fun o h' => o = none ∧ isU h' t T (nx T p) fl ∧ Fr t 2 h h')) 46 [some (.ref t), some (.int i)] [] h1 0 0 := by
  have h240 := hb.1
  have ho : h1.1 t = _ := ho
  refine x_aload_n dX6_step_46 rfl ?_
  refine x_aload_n dX6_step_47 rfl ?_
  refine x_aload_n dX6_step_48 rfl ?_
  refine x_get fX6_74 ho rfl dX6_step_49 ?_
  refine x_rdV (c_X6_byteAt (i := s) hb ho (by omega)) ho lkX6_byteAt sX6_125 dX6_step_52 rfl rfl (Nat.le_of_ble_eq_true rfl) (by decide) ⟨rfl, rfl, by decide, by decide⟩ ?_
  refine x_rdS c_X6_sortOf lkX6_sortOf sX6_137 dX6_step_55 rfl rfl (Nat.le_of_ble_eq_true rfl) (by decide) ⟨rfl, rfl, by decide, by decide⟩ ?_
  refine x_put fX6_28 ho (Nat.le_of_ble_eq_true rfl) rfl rfl rfl dX6_step_58 ?_
  refine x_aload_n dX6_step_61 rfl ?_
  refine x_aload_n dX6_step_62 rfl ?_
  refine x_get fX6_28 hset_s rfl dX6_step_63 ?_
  refine x_if_ne 76 dX6_step_66 (by decide) (fun c66 => ?_) (fun c66 => ?_)
  · have n0 : ¬ sO (tB T s) = 0 := fun z => c66 (by rw [z]; rfl)
    refine x_aload_n dX6_step_76 rfl ?_
    refine x_get fX6_74 hset_s rfl dX6_step_77 ?_
    refine x_iconst (v := 1) dX6_step_80 (by decide) ?_
    refine x_iadd dX6_step_81 ?_
    rw [show nI s + 1 = nI (s + 1) from nI_1 s]
    refine x_put fX6_19 hset_s (Nat.le_of_ble_eq_true rfl) rfl rfl rfl dX6_step_82 ?_
    refine x_aload_n dX6_step_85 rfl ?_
    refine x_get fX6_28 hset_s rfl dX6_step_86 ?_
    refine x_iconst (v := 1) dX6_step_89 (by decide) ?_
    refine x_icmp_eq 101 dX6_step_90 (by decide) (fun c90 => ?_) (fun c90 => ?_)
    · refine x_iconst (v := 0) dX6_step_101 (by decide) ?_
      refine x_ist_1 dX6_step_102 (by decide) rfl ?_
      exact st103 hs (.inl (nI_eqn (b := 1) (by have := sO_lt (tB T s); omega) (by decide) c90)) h240 0 (by omega) _ hb.st.st (fun k a b => by rw [show k = s by omega]) (so_lt (by omega)) hset_s ((F.tr (Fr.set (by omega) (by omega))).tr (Fr.set (by omega) (by omega)))
    · refine x_aload_n dX6_step_93 rfl ?_
      refine x_get fX6_28 hset_s rfl dX6_step_94 ?_
      refine x_iconst (v := 2) dX6_step_97 (by decide) ?_
      refine x_icmp_ne 144 dX6_step_98 (by decide) (fun c98 => ?_) (fun c98 => ?_)
      · have n1 : ¬ sO (tB T s) = 1 := fun z => c90 (by rw [z]; rfl)
        have n2 : ¬ sO (tB T s) = 2 := fun z => c98 (by rw [z]; rfl)
        have n3 : sO (tB T s) = 3 := by have := sO_lt (tB T s); omega
        exact st144 (nx_of hs (by rw [if_neg n0, if_pos n3])) (by omega) (so_lt n0) (fun q a b z => absurd z n2) hb.st.st hset_s ((F.tr (Fr.set (by omega) (by omega))).tr (Fr.set (by omega) (by omega)))
      · refine x_iconst (v := 0) dX6_step_101 (by decide) ?_
        refine x_ist_1 dX6_step_102 (by decide) rfl ?_
        exact st103 hs (.inr (nI_eqn (b := 2) (by have := sO_lt (tB T s); omega) (by decide) c98)) h240 0 (by omega) _ hb.st.st (fun k a b => by rw [show k = s by omega]) (so_lt (by omega)) hset_s ((F.tr (Fr.set (by omega) (by omega))).tr (Fr.set (by omega) (by omega)))
  · have so0 : sO (tB T s) = 0 := nI_eqn (b := 0) (by have := sO_lt (tB T s); omega) (by decide) c66
    refine x_aload_n dX6_step_69 rfl ?_
    refine x_get fX6_74 hset_s rfl dX6_step_70 ?_
    refine x_goto 82 dX6_step_73 (by decide) ?_
    refine x_put fX6_19 hset_s (Nat.le_of_ble_eq_true rfl) rfl rfl rfl dX6_step_82 ?_
    refine x_aload_n dX6_step_85 rfl ?_
    refine x_get fX6_28 hset_s rfl dX6_step_86 ?_
    refine x_iconst (v := 1) dX6_step_89 (by decide) ?_
    refine x_icmp_eq_f 101 dX6_step_90 (by decide) (fun z => absurd (so0 ▸ z : nI 0 = 1) (by decide)) ?_
    refine x_aload_n dX6_step_93 rfl ?_
    refine x_get fX6_28 hset_s rfl dX6_step_94 ?_
    refine x_iconst (v := 2) dX6_step_97 (by decide) ?_
    refine x_icmp_ne_t 144 dX6_step_98 (by decide) (fun z => absurd (so0 ▸ z : nI 0 = 2) (by decide)) ?_
    exact st144 (nx_of hs (by rw [if_pos so0])) (Nat.le_refl _) hsT (fun q a b z => by omega) hb.st.st hset_s ((F.tr (Fr.set (by omega) (by omega))).tr (Fr.set (by omega) (by omega)))
set_option maxRecDepth 10000 in
set_option maxHeartbeats 2000000 in
theorem st10 {g : gG} {h : gH} {t p : Nat} {T : TT} {a nu fl : Int32} (h240 : T.1 ≤ 240) : ∀ i, i ≤ 240 → ∀ h1, uB h1 t T → (∀ k, p ≤ k → k < p + i → tSp T k = true) → p + i ≤ T.1 → uO h1 t T a (nI (p + i)) (nI p) nu fl → Fr t 2 h h1 → Ex g mX6_step (gZm g mX6_step (fun o h' => o = none ∧ isU h' t T (nx T p) fl ∧ Fr t 2 h h')) 10 [some (.ref t), some (.int (nI i))] [] h1 0 0 := by
  refine lp_up 240 (fun i hi ih h1 hb hr hle ho F => ?_) (fun h1 hb hr hle ho F => ?_)
  · have ho : h1.1 t = _ := ho
    refine x_iload_n dX6_step_10 rfl ?_
    refine x_sipush (v := 240) dX6_step_11 (by decide) ?_
    refine x_icmp_ge_f 46 dX6_step_14 (by decide) (ge_f (N := 240) rfl hi (by decide)) ?_
    refine x_aload_n dX6_step_17 rfl ?_
    refine x_aload_n dX6_step_18 rfl ?_
    refine x_get fX6_74 ho rfl dX6_step_19 ?_
    refine x_rdV (c_X6_byteAt (i := (p + i)) hb ho (by omega)) ho lkX6_byteAt sX6_125 dX6_step_22 rfl rfl (Nat.le_of_ble_eq_true rfl) (by decide) ⟨rfl, rfl, by decide, by decide⟩ ?_
    refine x_bipush (v := 32) dX6_step_25 (by decide) ?_
    refine x_icmp_ne 46 dX6_step_27 (by decide) (fun c27 => ?_) (fun c27 => ?_)
    · exact st46 (wh_run (decide_eq_false c27) 240 p (by omega) (by omega) hr) hle hb ho F
    · refine x_aload_n dX6_step_30 rfl ?_
      refine x_dup dX6_step_31 rfl ?_
      refine x_get fX6_74 ho rfl dX6_step_32 ?_
      refine x_iconst (v := 1) dX6_step_35 (by decide) ?_
      refine x_iadd dX6_step_36 ?_
      rw [show nI (p + i) + 1 = nI (p + (i + 1)) from nI_1 _]
      refine x_put fX6_74 ho (Nat.le_of_ble_eq_true rfl) rfl rfl rfl dX6_step_37 ?_
      refine x_inc_1  dX6_step_40 (by decide) (nI_inc _) rfl ?_
      refine x_goto 10 dX6_step_43 (by decide) ?_
      have eq : tSp T (p + i) = true := decide_eq_true c27
      exact ih _ hb.st (fun k a b => by
        by_cases z : k = p + i
        · subst z; exact eq
        · exact hr k a (by omega)) (by have := sp_lt eq; omega) hset_s (F.tr (Fr.set (by omega) (by omega)))
  · have ho : h1.1 t = _ := ho
    refine x_iload_n dX6_step_10 rfl ?_
    refine x_sipush (v := 240) dX6_step_11 (by decide) ?_
    refine x_icmp_ge_t 46 dX6_step_14 (by decide) (ge_t (N := 240) rfl (by decide)) ?_
    exact st46 (wh_run (decide_eq_false (by rw [tB_out (by omega)]; decide)) 240 p (by omega) (by omega) hr) hle hb ho F
set_option maxRecDepth 10000 in
set_option maxHeartbeats 2000000 in
theorem c_X6_step {g : gG} {h : gH} {t p : Nat} {T : TT} {a b nu fl : Int32} (hb : uB h t T) (hp : p ≤ T.1) (ho : uO h t T a b (nI p) nu fl) : Ct g mX6_step [.ref t] h none (fun h' => isU h' t T (nx T p) fl ∧ Fr t 2 h h') := by
  have ho : h.1 t = _ := ho
  refine Cn.of (L := [some (.ref t), none]) (by decide) (Nat.le_of_ble_eq_true rfl) rfl ?_
  refine x_aload_n dX6_step_0 rfl ?_
  refine x_aload_n dX6_step_1 rfl ?_
  refine x_get fX6_19 ho rfl dX6_step_2 ?_
  refine x_put fX6_74 ho (Nat.le_of_ble_eq_true rfl) rfl rfl rfl dX6_step_5 ?_
  refine x_iconst (v := 0) dX6_step_8 (by decide) ?_
  refine x_ist_1 dX6_step_9 (by decide) rfl ?_
  exact st10 hb.1 0 (by omega) _ hb.st (fun k a b => by omega) hp hset_s (Fr.set (by omega) (by omega))
