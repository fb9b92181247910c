set_option maxRecDepth 10000 in
set_option maxHeartbeats 2000000 in
theorem wd203 {g : gG} {h : gH} {m : Nat} {V : VS} {s : Nat → Int32} {l : Nat → Int64} {A : Nat → Nat → Int32} {B : Nat → Nat → Int64} {Q : Option Value → gH → Prop} (kk : ∀ h1, MM h1 m V s l (va_up A 4 (rf (A 4) (A 10) 0 8)) B → Fr m 27 h h1 → Ex g mX12_wood (gZm g mX12_wood Q) 227 [some (.ref m), some (.int (nI 8))] [] h1 0 0) : ∀ i, i ≤ 8 → ∀ h1, MM h1 m V s l (va_up A 4 (rf (A 4) (A 10) 0 i)) B → Fr m 27 h h1 → Ex g mX12_wood (gZm g mX12_wood Q) 203 [some (.ref m), some (.int (nI i))] [] h1 0 0 := by
  refine lp_up 8 (fun i hi ih h1 hm1 F => ?_) (fun h1 hm1 F => ?_)
  · have md : h1.1 (m + 5) = some (.inl (0, 8, .inl ((va_up A 4 (rf (A 4) (A 10) 0 i)) 4))) := hm1.2 4 (by decide)
    have ms_ : h1.1 (m + 11) = some (.inl (0, 8, .inl (A 10))) := hm1.2 10 (by decide)
    refine x_iload_n dX12_wood_203 rfl ?_
    refine x_bipush (v := 8) dX12_wood_204 (by decide) ?_
    refine x_icmp_ge_f 227 dX12_wood_206 (by decide) (ge_f (N := 8) rfl hi (by decide)) ?_
    refine x_aload_n dX12_wood_209 rfl ?_
    refine x_get fX12_22 hm1.1 rfl dX12_wood_210 ?_
    refine x_iload_n dX12_wood_213 rfl ?_
    refine x_aload_n dX12_wood_214 rfl ?_
    refine x_get fX12_44 hm1.1 rfl dX12_wood_215 ?_
    refine x_iload_n dX12_wood_218 rfl ?_
    refine x_iald i ms_ rfl (by omega) (by decide) dX12_wood_219 ?_
    rw [show A 10 i = A 10 (0 + i) by rw [Nat.zero_add]]
    refine x_iast i md rfl (by omega) (by decide) dX12_wood_220 ?_
    refine x_inc_1  dX12_wood_221 (by decide) (nI_inc _) rfl ?_
    refine x_goto 203 dX12_wood_224 (by decide) ?_
    have hm2 := hm1.int (i := 4) (f := va_up ((va_up A 4 (rf (A 4) (A 10) 0 i)) 4) i (A 10 (0 + i))) rfl
    have eA : va_up (va_up A 4 (rf (A 4) (A 10) 0 i)) 4 (va_up ((va_up A 4 (rf (A 4) (A 10) 0 i)) 4) i (A 10 (0 + i))) = (va_up A 4 (rf (A 4) (A 10) 0 (i + 1))) := by rw [va_2, va_up_self, rf_s]
    exact ih _ (eA ▸ hm2) (F.tr (Fr.set (by omega) (by omega)))
  · refine x_iload_n dX12_wood_203 rfl ?_
    refine x_bipush (v := 8) dX12_wood_204 (by decide) ?_
    refine x_icmp_ge_t 227 dX12_wood_206 (by decide) (ge_t (N := 8) rfl (by decide)) ?_
    exact kk _ hm1 F
set_option maxRecDepth 10000 in
set_option maxHeartbeats 2000000 in
theorem wd130 {g : gG} {h : gH} {m : Nat} {V : VS} {s : Nat → Int32} {l : Nat → Int64} {A : Nat → Nat → Int32} {B : Nat → Nat → Int64} {Q : Option Value → gH → Prop} (kk : ∀ h1, MM h1 m V s l (va_up A 0 (rf (A 0) (A 7) 0 40)) B → Fr m 27 h h1 → Ex g mX12_wood (gZm g mX12_wood Q) 154 [some (.ref m), some (.int (nI 40))] [] h1 0 0) : ∀ i, i ≤ 40 → ∀ h1, MM h1 m V s l (va_up A 0 (rf (A 0) (A 7) 0 i)) B → Fr m 27 h h1 → Ex g mX12_wood (gZm g mX12_wood Q) 130 [some (.ref m), some (.int (nI i))] [] h1 0 0 := by
  refine lp_up 40 (fun i hi ih h1 hm1 F => ?_) (fun h1 hm1 F => ?_)
  · have md : h1.1 (m + 1) = some (.inl (0, 40, .inl ((va_up A 0 (rf (A 0) (A 7) 0 i)) 0))) := hm1.2 0 (by decide)
    have ms_ : h1.1 (m + 8) = some (.inl (0, 40, .inl (A 7))) := hm1.2 7 (by decide)
    refine x_iload_n dX12_wood_130 rfl ?_
    refine x_bipush (v := 40) dX12_wood_131 (by decide) ?_
    refine x_icmp_ge_f 154 dX12_wood_133 (by decide) (ge_f (N := 40) rfl hi (by decide)) ?_
    refine x_aload_n dX12_wood_136 rfl ?_
    refine x_get fX12_7 hm1.1 rfl dX12_wood_137 ?_
    refine x_iload_n dX12_wood_140 rfl ?_
    refine x_aload_n dX12_wood_141 rfl ?_
    refine x_get fX12_35 hm1.1 rfl dX12_wood_142 ?_
    refine x_iload_n dX12_wood_145 rfl ?_
    refine x_iald i ms_ rfl (by omega) (by decide) dX12_wood_146 ?_
    rw [show A 7 i = A 7 (0 + i) by rw [Nat.zero_add]]
    refine x_iast i md rfl (by omega) (by decide) dX12_wood_147 ?_
    refine x_inc_1  dX12_wood_148 (by decide) (nI_inc _) rfl ?_
    refine x_goto 130 dX12_wood_151 (by decide) ?_
    have hm2 := hm1.int (i := 0) (f := va_up ((va_up A 0 (rf (A 0) (A 7) 0 i)) 0) i (A 7 (0 + i))) rfl
    have eA : va_up (va_up A 0 (rf (A 0) (A 7) 0 i)) 0 (va_up ((va_up A 0 (rf (A 0) (A 7) 0 i)) 0) i (A 7 (0 + i))) = (va_up A 0 (rf (A 0) (A 7) 0 (i + 1))) := by rw [va_2, va_up_self, rf_s]
    exact ih _ (eA ▸ hm2) (F.tr (Fr.set (by omega) (by omega)))
  · refine x_iload_n dX12_wood_130 rfl ?_
    refine x_bipush (v := 40) dX12_wood_131 (by decide) ?_
    refine x_icmp_ge_t 154 dX12_wood_133 (by decide) (ge_t (N := 40) rfl (by decide)) ?_
    exact kk _ hm1 F
def m1f (a : Nat → Int32) (i : Nat) : Nat → Int32 := fun j => if j < i then -1 else a j
theorem m1f_0 (a : Nat → Int32) : m1f a 0 = a := by funext j; exact if_neg (by omega)
theorem m1f_s (a : Nat → Int32) (i : Nat) : va_up (m1f a i) i (-1) = m1f a (i + 1) := by
  funext j
  unfold va_up m1f
  by_cases q : j = i
  · subst q; rw [if_pos rfl, if_pos (by omega)]
  · rw [if_neg q]
    by_cases z : j < i
    · rw [if_pos z, if_pos (by omega)]
    · rw [if_neg z, if_neg (by omega)]
def wAr (A : Nat → Nat → Int32) (i : Nat) : Nat → Nat → Int32 := va_up (va_up (va_up A 1 (rf (A 1) (A 8) 0 i)) 2 (m1f (A 2) i)) 3 (rf (A 3) (A 9) 0 i)
theorem wAr_s (A : Nat → Nat → Int32) (i : Nat) : va_up (va_up (va_up (wAr A i) 1 (va_up (wAr A i 1) i (A 8 (0 + i)))) 2 (va_up (wAr A i 2) i (-1))) 3 (va_up (wAr A i 3) i (A 9 (0 + i))) = wAr A (i + 1) := by
  have e1 : va_up (wAr A i 1) i (A 8 (0 + i)) = rf (A 1) (A 8) 0 (i + 1) := rf_s _ _ 0 i
  have e2 : va_up (wAr A i 2) i (-1) = m1f (A 2) (i + 1) := m1f_s _ i
  have e3 : va_up (wAr A i 3) i (A 9 (0 + i)) = rf (A 3) (A 9) 0 (i + 1) := rf_s _ _ 0 i
  rw [e1, e2, e3]
  funext j
  unfold wAr va_up
  by_cases h3 : j = 3
  · simp [h3]
  · by_cases h2 : j = 2
    · simp [h2]
    · by_cases h1 : j = 1
      · simp [h1]
      · simp [h1, h2, h3]
theorem wAr_0 (A : Nat → Nat → Int32) : wAr A 0 = A := by unfold wAr; rw [rf_0, va_id, m1f_0, va_id, rf_0, va_id]
set_option maxRecDepth 10000 in
set_option maxHeartbeats 2000000 in
theorem wd156 {g : gG} {h : gH} {m : Nat} {V : VS} {s : Nat → Int32} {l : Nat → Int64} {A : Nat → Nat → Int32} {B : Nat → Nat → Int64} {Q : Option Value → gH → Prop} (h4 : V.1 1 ≤ 4) (kk : ∀ h1, MM h1 m V s l (wAr A (V.1 1)) B → Fr m 27 h h1 → Ex g mX12_wood (gZm g mX12_wood Q) 201 [some (.ref m), some (.int (nI (V.1 1)))] [] h1 0 0) : ∀ i, i ≤ V.1 1 → ∀ h1, MM h1 m V s l (wAr A i) B → Fr m 27 h h1 → Ex g mX12_wood (gZm g mX12_wood Q) 156 [some (.ref m), some (.int (nI i))] [] h1 0 0 := by
  refine lp_up (V.1 1) (fun i hi ih h1 hm1 F => ?_) (fun h1 hm1 F => ?_)
  · have mo := hm1.1
    have x2 : h1.1 (m + 2) = some (.inl (0, 4, .inl (wAr A i 1))) := hm1.2 1 (by decide)
    have x3 : h1.1 (m + 3) = some (.inl (0, 4, .inl (wAr A i 2))) := hm1.2 2 (by decide)
    have x4 : h1.1 (m + 4) = some (.inl (0, 4, .inl (wAr A i 3))) := hm1.2 3 (by decide)
    have x9 : h1.1 (m + 9) = some (.inl (0, 4, .inl (A 8))) := hm1.2 8 (by decide)
    have x10 : h1.1 (m + 10) = some (.inl (0, 4, .inl (A 9))) := hm1.2 9 (by decide)
    refine x_iload_n dX12_wood_156 rfl ?_
    refine x_aload_n dX12_wood_157 rfl ?_
    refine x_get fX12_100 mo rfl dX12_wood_158 ?_
    refine x_icmp_ge_f 201 dX12_wood_161 (by decide) (ge_f (N := V.1 1) rfl hi (by omega)) ?_
    refine x_aload_n dX12_wood_164 rfl ?_
    refine x_get fX12_13 mo rfl dX12_wood_165 ?_
    refine x_iload_n dX12_wood_168 rfl ?_
    refine x_aload_n dX12_wood_169 rfl ?_
    refine x_get fX12_38 mo rfl dX12_wood_170 ?_
    refine x_iload_n dX12_wood_173 rfl ?_
    refine x_iald i x9 rfl (by omega) (by decide) dX12_wood_174 ?_
    rw [show A 8 i = A 8 (0 + i) by rw [Nat.zero_add]]
    refine x_iast i x2 rfl (by omega) (by decide) dX12_wood_175 ?_
    refine x_aload_n dX12_wood_176 rfl ?_
    refine x_get fX12_16 ((hset_n (by omega)).trans mo) rfl dX12_wood_177 ?_
    refine x_iload_n dX12_wood_180 rfl ?_
    refine x_iconst (v := -1) dX12_wood_181 (by decide) ?_
    refine x_iast i ((hset_n (by omega)).trans x3) rfl (by omega) (by decide) dX12_wood_182 ?_
    refine x_aload_n dX12_wood_183 rfl ?_
    refine x_get fX12_19 ((hset_n (by omega)).trans ((hset_n (by omega)).trans mo)) rfl dX12_wood_184 ?_
    refine x_iload_n dX12_wood_187 rfl ?_
    refine x_aload_n dX12_wood_188 rfl ?_
    refine x_get fX12_41 ((hset_n (by omega)).trans ((hset_n (by omega)).trans mo)) rfl dX12_wood_189 ?_
    refine x_iload_n dX12_wood_192 rfl ?_
    refine x_iald i ((hset_n (by omega)).trans ((hset_n (by omega)).trans x10)) rfl (by omega) (by decide) dX12_wood_193 ?_
    rw [show A 9 i = A 9 (0 + i) by rw [Nat.zero_add]]
    refine x_iast i ((hset_n (by omega)).trans ((hset_n (by omega)).trans x4)) rfl (by omega) (by decide) dX12_wood_194 ?_
    refine x_inc_1  dX12_wood_195 (by decide) (nI_inc _) rfl ?_
    refine x_goto 156 dX12_wood_198 (by decide) ?_
    have hm2 := ((hm1.int (i := 1) (f := va_up (wAr A i 1) i (A 8 (0 + i))) rfl).int (i := 2) (f := va_up (wAr A i 2) i (-1)) rfl).int (i := 3) (f := va_up (wAr A i 3) i (A 9 (0 + i))) rfl
    exact ih _ (wAr_s A i ▸ hm2) (((F.tr (Fr.set (by omega) (by omega))).tr (Fr.set (by omega) (by omega))).tr (Fr.set (by omega) (by omega)))
  · refine x_iload_n dX12_wood_156 rfl ?_
    refine x_aload_n dX12_wood_157 rfl ?_
    refine x_get fX12_100 hm1.1 rfl dX12_wood_158 ?_
    refine x_icmp_ge_t 201 dX12_wood_161 (by decide) (ge_t (N := V.1 1) rfl (by omega)) ?_
    exact kk _ hm1 F
set_option maxRecDepth 10000 in
set_option maxHeartbeats 2000000 in
theorem wd32 {g : gG} {h : gH} {m : Nat} {V : VS} {s : Nat → Int32} {l : Nat → Int64} {A : Nat → Nat → Int32} {B : Nat → Nat → Int64} {Q : Option Value → gH → Prop} (kk : ∀ h1 w, MM h1 m V s l (va_up A 10 w) B → (∀ c, c < 8 → w c = 1) → Fr m 27 h h1 → Ex g mX12_wood (gZm g mX12_wood Q) 51 [some (.ref m), some (.int (nI 8))] [] h1 0 0) : ∀ i, i ≤ 8 → ∀ h1 w, MM h1 m V s l (va_up A 10 w) B → (∀ c, c < i → w c = 1) → Fr m 27 h h1 → Ex g mX12_wood (gZm g mX12_wood Q) 32 [some (.ref m), some (.int (nI i))] [] h1 0 0 := by
  refine lp_up 8 (fun i hi ih h1 w hm1 hw F => ?_) (fun h1 w hm1 hw F => ?_)
  · have x11 : h1.1 (m + 11) = some (.inl (0, 8, .inl (va_up A 10 w 10))) := hm1.2 10 (by decide)
    refine x_iload_n dX12_wood_32 rfl ?_
    refine x_bipush (v := 8) dX12_wood_33 (by decide) ?_
    refine x_icmp_ge_f 51 dX12_wood_35 (by decide) (ge_f (N := 8) rfl hi (by decide)) ?_
    refine x_aload_n dX12_wood_38 rfl ?_
    refine x_get fX12_44 hm1.1 rfl dX12_wood_39 ?_
    refine x_iload_n dX12_wood_42 rfl ?_
    refine x_iconst (v := 1) dX12_wood_43 (by decide) ?_
    refine x_iast i x11 rfl hi (by decide) dX12_wood_44 ?_
    refine x_inc_1  dX12_wood_45 (by decide) (nI_inc _) rfl ?_
    refine x_goto 32 dX12_wood_48 (by decide) ?_
    have hm2 := hm1.int (i := 10) (f := va_up ((va_up A 10 w) 10) i 1) rfl
    have eA : va_up (va_up A 10 w) 10 (va_up ((va_up A 10 w) 10) i 1) = va_up A 10 (va_up w i 1) := by rw [va_2, va_up_self]
    exact ih _ _ (eA ▸ hm2) (fun c hc => by
      by_cases e : c = i
      · subst e; rw [va_up_self]
      · rw [va_up_ne _ _ e]; exact hw c (by omega)) (F.tr (Fr.set (by omega) (by omega)))
  · refine x_iload_n dX12_wood_32 rfl ?_
    refine x_bipush (v := 8) dX12_wood_33 (by decide) ?_
    refine x_icmp_ge_t 51 dX12_wood_35 (by decide) (ge_t (N := 8) rfl (by decide)) ?_
    exact kk _ _ hm1 hw F
theorem wh_ge {P : Nat → Bool} : ∀ n i, i ≤ wh P i n
  | 0, i => Nat.le_refl _
  | n + 1, i => by
    rw [wh]
    split
    · exact Nat.le_trans (Nat.le_succ i) (wh_ge n (i + 1))
    · exact Nat.le_refl _
theorem nx_g (T : TT) (p : Nat) : p ≤ (nx T p).2.1 ∧ (nx T p).2.1 ≤ (nx T p).2.2 ∧ (¬ (nx T p).1 = 0 → (nx T p).2.1 < (nx T p).2.2) ∧ (nx T p).1 = sO (tB T (nx T p).2.1) := by
  have h1 : p ≤ nxS T p := wh_ge _ _
  refine ⟨h1, ?_, fun h => ?_, rfl⟩
  · show nxS T p ≤ if _ then _ else if _ then _ else _
    split
    · exact Nat.le_refl _
    · split
      · exact Nat.le_succ _
      · have := wh_ge (P := isSo T (sO (tB T (nxS T p)))) 240 (nxS T p + 1); omega
  · have h : ¬ sO (tB T (nxS T p)) = 0 := h
    show nxS T p < if _ then _ else if _ then _ else _
    rw [if_neg h]
    split
    · omega
    · have := wh_ge (P := isSo T (sO (tB T (nxS T p)))) 240 (nxS T p + 1); omega
theorem nx_p (T : TT) (p : Nat) : p ≤ (nx T p).2.2 := Nat.le_trans (nx_g T p).1 (nx_g T p).2.1
theorem tkN_p {T : TT} {t : TS} {q : Nat} {u : Int32} : t.1.2.2 ≤ (tkN T t q u).1.2.2 := by unfold tkN; split; exact nx_p T _; exact Nat.le_refl _
theorem tkW_p {T : TT} {t : TS} {j : Nat} : t.1.2.2 ≤ (tkW T t j).1.2.2 := by unfold tkW; split; exact nx_p T _; exact Nat.le_refl _
theorem tkI_p {T : TT} {t : TS} {j : Nat} : t.1.2.2 ≤ (tkI T t j).1.2.2 := by unfold tkI; split; exact nx_p T _; exact Nat.le_refl _
theorem tp6_p {T : TT} {t : TS} : t.1.2.2 ≤ (tp6 T t).1.2.2 := Nat.le_trans (Nat.le_trans (Nat.le_trans (Nat.le_trans (Nat.le_trans (tkN_p (T := T) (q := 7) (u := -9)) tkN_p) tkW_p) tkN_p) tkW_p) tkN_p
theorem tlP_p {T : TT} {t : TS} {U : VS} {k : Nat} : t.1.2.2 ≤ (tlP T t U k).1.1.2.2 := by
  unfold tlP
  split
  · exact Nat.le_trans tp6_p tkI_p
  · exact tp6_p
theorem tlW_p {T : TT} {t : TS} {U : VS} : t.1.2.2 ≤ (tlW T t U).1.1.2.2 := by
  show _ ≤ (tw3 T t).1.2.2
  have h2 : t.1.2.2 ≤ (tw2 T t).1.2.2 := Nat.le_trans (tkN_p (T := T) (q := 7) (u := -9)) tkI_p
  unfold tw3
  split
  · exact Nat.le_trans h2 tkN_p
  · exact h2
theorem tlQ_p {T : TT} {K : KS} {U : VS} : K.2.2 ≤ (tlQ T K U).1.1.2.2 := by
  unfold tlQ
  split
  · exact Nat.le_trans (nx_p T _) (tlP_p (t := (nx T K.2.2, true)))
  · split
    · exact Nat.le_trans (nx_p T _) (tlW_p (t := (nx T K.2.2, true)))
    · split
      · exact nx_p T _
      · split
        · exact Nat.le_trans (nx_p T _) (Nat.le_trans (tkN_p (T := T) (t := (nx T K.2.2, true)) (q := 7) (u := -9)) tkN_p)
        · exact Nat.le_refl _
theorem tlT_p {T : TT} {K : KS} {U : VS} (h : (tlT T K U).1.2 = true) : K.2.2 ≤ (tlT T K U).1.1.2.1 ∧ (tlT T K U).1.1.1 = sO (tB T (tlT T K U).1.1.2.1) ∧ (¬ (tlT T K U).1.1.1 = 0 → (tlT T K U).1.1.2.1 < (tlT T K U).1.1.2.2) := by
  have e : (tlT T K U).1 = tkE T (tlQ T K U).1 := rfl
  rw [e] at h ⊢
  unfold tkE at h ⊢
  split at h
  · next q =>
    rw [if_pos q]
    exact ⟨Nat.le_trans tlQ_p (nx_g T _).1, (nx_g T _).2.2.2, (nx_g T _).2.2.1⟩
  · cases h
/-- rules and z stay -/
def kpU (V U : VS) : Prop := U.1 2 = V.1 2 ∧ U.1 5 = 0 ∧ U.2.1 = V.2.1 ∧ U.2.2 8 = V.2.2 8 ∧ U.2.2 9 = V.2.2 9
theorem adP_hi {V : VS} {f : Nat → Nat} {i : Nat} (hi : ¬ i < 5) : (adP V f).2.2 i = V.2.2 i := by
  funext j
  show (if i < 5 ∧ j = V.1 0 then f i else V.2.2 i j) = _
  rw [if_neg (fun z => hi z.1)]
theorem kp_T {V U : VS} {T : TT} {K : KS} (h : kpU V U) : kpU V (tlT T K U).2 := by
  show kpU V (tlQ T K U).2
  unfold tlQ
  split
  · unfold tlP
    split
    · refine ⟨h.1, h.2.1, h.2.2.1, ?_, ?_⟩
      · exact (adP_hi (V := U) (by decide)).trans h.2.2.2.1
      · exact (adP_hi (V := U) (by decide)).trans h.2.2.2.2
    · exact h
  · split
    · show kpU V (if _ then _ else _)
      split
      · exact ⟨h.1, h.2.1, h.2.2.1, h.2.2.2.1, h.2.2.2.2⟩
      · exact h
    · split
      · exact ⟨h.1, h.2.1, h.2.2.1, h.2.2.2.1, h.2.2.2.2⟩
      · split
        · show kpU V (if _ then _ else _)
          split
          · exact ⟨h.1, h.2.1, h.2.2.1, h.2.2.2.1, h.2.2.2.2⟩
          · exact h
        · exact h
