theorem clW_ok {V : VS} (hv : okV V) : okV (clW V) := by
  obtain ⟨k1, k2, k3, k4, k5, k6, k7⟩ := hv
  refine ⟨⟨Nat.zero_le _, Nat.zero_le _, k1.2.2⟩, by show 0 < 2 ^ 0; decide, Nat.zero_le _, fun p hp => absurd hp (Nat.not_lt_zero p), fun p hp => absurd hp (Nat.not_lt_zero p), fun c _ => ?_, fun r q => ?_⟩
  · simp [clW, va_up]
  · have := k7 r q
    simp [clW, va_up]; exact this
theorem rp_f0 {V : VS} {s : Nat → Int32} {A : Nat → Nat → Int32} (hv : okV V) (e13 : s 13 = 0) (e14 : s 14 = 0) (e15 : s 15 = 0) (e16 : s 16 = 0) (hw : ∀ c, c < 8 → A 10 c = 1) : rpF (clW V) s A :=
  ⟨clW_ok hv, ⟨e13, e14, e15, e16⟩, fun f p _ hp => absurd hp (Nat.not_lt_zero p), fun w hw => absurd hw (Nat.not_lt_zero w), fun c hc => (hw c hc).trans rfl⟩
theorem kp_0 (V : VS) : kpU V (clW V) := ⟨rfl, rfl, rfl, rfl, rfl⟩
theorem mF_eq {m : Nat} {V V' : VS} {s : Nat → Int32} {l : Nat → Int64} (e0 : V.1 0 = V'.1 0) (e1 : V.1 1 = V'.1 1) (e2 : V.1 2 = V'.1 2) (e3 : V.1 3 = V'.1 3) (e4 : V.1 4 = V'.1 4) (e5 : V.1 5 = V'.1 5) (ez : V.2.1 = V'.2.1) : mF m V s l = mF m V' s l := by
  unfold mF; rw [e0, e1, e2, e3, e4, e5, ez]
theorem MM.eV {h : gH} {m : Nat} {V V' : VS} {s : Nat → Int32} {l : Nat → Int64} {A : Nat → Nat → Int32} {B : Nat → Nat → Int64} (hm : MM h m V s l A B) (e : mF m V s l = mF m V' s l) : MM h m V' s l A B := ⟨by rw [← e]; exact hm.1, hm.2⟩
theorem rpO.wd {S : AS} {U : VS} {b : Nat → Nat} {R : Nat × (Nat → Int32) × (Nat → Int32)} {s s' : Nat → Int32} {A A' : Nat → Nat → Int32} {B : Nat → Nat → Int64} (hr : rpO S s A B) (e7 : s' 7 = nI 0) (e22 : s' 22 = s 22) (e24 : s' 24 = s 24) (h : ∀ i, 11 ≤ i → A' i = A i) (hR : rpR R s' A') : rpO (U, S.2.1, (0, b), R, S.2.2.2.2) s' A' B := by
  obtain ⟨⟨⟨k1, k2⟩, k3⟩, _, _, hH, hL, ⟨q1, q2, q3⟩⟩ := hr
  refine ⟨⟨⟨k1, e24.trans k2⟩, ?_⟩, ⟨Nat.zero_le _, e7, fun i q => absurd q (Nat.not_lt_zero i)⟩, hR, fun i hi => ?_, fun i hi => ?_, ⟨q1, e22.trans q2, by rw [h 23 (by decide)]; exact q3⟩⟩
  · rw [h 24 (by decide)]; exact k3
  · rw [h 17 (by decide), h 18 (by decide)]; exact hH i hi
  · rw [h 20 (by decide), h 21 (by decide), h 22 (by decide)]; exact hL i hi
/-- the fresh wood is the wood -/
def wdA (A : Nat → Nat → Int32) (n : Nat) : Nat → Nat → Int32 := va_up (wAr (va_up A 0 (rf (A 0) (A 7) 0 40)) n) 4 (rf (A 4) (A 10) 0 8)
theorem rp_wd {V U : VS} {s : Nat → Int32} {A0 A : Nat → Nat → Int32} (hv : rpV V A0) (hF : rpF U s A) (kp : kpU V U) (e5 : A 5 = A0 5) : rpV U (wdA A (U.1 1)) := by
  have o8 := hF.1.1.1
  refine ⟨hF.1, fun f p hf hp => ?_, fun w hw => ?_, fun c hc => ?_, fun r hr => ?_⟩
  · show (if 5 * p + f < 40 then A 7 (0 + (5 * p + f)) else A 0 (5 * p + f)) = _
    rw [if_pos (by omega), Nat.zero_add]
    exact hF.2.2.1 f p hf hp
  · obtain ⟨w1, w2, w3⟩ := hF.2.2.2.1 w hw
    refine ⟨fun _ => ?_, ?_, ?_⟩
    · show (if w < U.1 1 then A 8 (0 + w) else A 1 w) = _
      rw [if_pos hw, Nat.zero_add]; exact w2
    · show (if w < U.1 1 then (-1 : Int32) else A 2 w) = _
      rw [if_pos hw, onM, if_pos w1]
    · show (if w < U.1 1 then A 9 (0 + w) else A 3 w) = _
      rw [if_pos hw, Nat.zero_add]; exact w3
  · show (if c < 8 then A 10 (0 + c) else A 4 c) = _
    rw [if_pos hc, Nat.zero_add]; exact hF.2.2.2.2 c hc
  · have e : wdA A (U.1 1) 5 = A 5 := rfl
    rw [e, e5, kp.2.2.2.1, kp.2.2.2.2]
    exact hv.2.2.2.2 r (by rw [← kp.1]; exact hr)
theorem rpO.w10 {S : AS} {s : Nat → Int32} {A : Nat → Nat → Int32} {B : Nat → Nat → Int64} {w : Nat → Int32} {a b c d e f : Int32} (hr : rpO S s A B) : rpO S (va_up (va_up (va_up (va_up (va_up (va_up s 10 a) 12 b) 13 c) 14 d) 15 e) 16 f) (va_up A 10 w) B := hr
set_option maxRecDepth 10000 in
set_option maxHeartbeats 2000000 in
theorem wd55 {g : gG} {h : gH} {m : Nat} {V : VS} {s : Nat → Int32} {l : Nat → Int64} {A : Nat → Nat → Int32} {B : Nat → Nat → Int64} {Q : Option Value → gH → Prop} {T : TT} (h240 : T.1 ≤ 240) (hT : ∀ i, i < T.1 → T.2 i < 256 ∧ A 6 i = nI (T.2 i)) (hs7 : s 7 = nI T.1) {R : TS × VS} {w : Option Value} (kk : ∀ h1 s1 l1 A1, MM h1 m V s1 l1 A1 B → TZ T R.1 s1 l1 → (R.1.2 = true → rpF R.2 s1 A1) → kpU V R.2 → frC s s1 A A1 → frL l l1 → Fr m 27 h h1 → Ex g mX12_wood (gZm g mX12_wood Q) 76 [some (.ref m), w] [] h1 0 0) : ∀ n (r : TS × VS) h1 s1 l1 A1, tlL T n r = R → MM h1 m V s1 l1 A1 B → TZ T r.1 s1 l1 → (r.1.2 = true → rpF r.2 s1 A1) → kpU V r.2 → (r.1.2 = true → T.1 ≤ r.1.1.2.1 + n ∧ r.1.1.1 = sO (tB T r.1.1.2.1) ∧ (¬ r.1.1.1 = 0 → r.1.1.2.1 < r.1.1.2.2)) → frC s s1 A A1 → frL l l1 → Fr m 27 h h1 → Ex g mX12_wood (gZm g mX12_wood Q) 55 [some (.ref m), w] [] h1 0 0 := by
  intro n
  induction n with
  | zero =>
    intro r h1 s1 l1 A1 hR hm1 hz1 hF1 hk1 hb1 fc1 fl1 F1
    have eR : r = R := hR
    refine x_aload_n dX12_wood_55 rfl ?_
    refine x_get fX12_164 hm1.1 rfl dX12_wood_56 ?_
    rw [hz1.2]
    refine x_if_eq 76 dX12_wood_59 (by decide) (fun c59 => ?_) (fun c59 => ?_)
    · have gd : ¬ r.1.2 = true := b2i_0.mp c59
      subst eR
      exact kk _ _ _ _ hm1 hz1 hF1 hk1 fc1 fl1 F1
    · have gd : r.1.2 = true := Decidable.not_not.mp (fun z => c59 (b2i_0.mpr z))
      have k4 := hz1.1.1.1
      refine x_aload_n dX12_wood_62 rfl ?_
      refine x_get fX12_132 hm1.1 rfl dX12_wood_63 ?_
      rw [hz1.1.2.1.1]
      refine x_if_eq 76 dX12_wood_66 (by decide) (fun c66 => ?_) (fun c66 => ?_)
      · have so : r.1.1.1 = 0 := nI_eqn (b := 0) (by omega) (by decide) c66
        subst eR
        exact kk _ _ _ _ hm1 hz1 hF1 hk1 fc1 fl1 F1
      · exact absurd (by have := (hb1 gd).2.1; rw [tB_out (by have := (hb1 gd).1; omega), sO_n] at this; rw [this]; rfl) c66
  | succ n ih =>
    intro r h1 s1 l1 A1 hR hm1 hz1 hF1 hk1 hb1 fc1 fl1 F1
    refine x_aload_n dX12_wood_55 rfl ?_
    refine x_get fX12_164 hm1.1 rfl dX12_wood_56 ?_
    rw [hz1.2]
    refine x_if_eq 76 dX12_wood_59 (by decide) (fun c59 => ?_) (fun c59 => ?_)
    · have gd : ¬ r.1.2 = true := b2i_0.mp c59
      have eR : r = R := by rw [← hR, tlL]; exact (if_neg (fun z => gd z.1)).symm
      subst eR
      exact kk _ _ _ _ hm1 hz1 hF1 hk1 fc1 fl1 F1
    · have gd : r.1.2 = true := Decidable.not_not.mp (fun z => c59 (b2i_0.mpr z))
      have k4 := hz1.1.1.1
      refine x_aload_n dX12_wood_62 rfl ?_
      refine x_get fX12_132 hm1.1 rfl dX12_wood_63 ?_
      rw [hz1.1.2.1.1]
      refine x_if_eq 76 dX12_wood_66 (by decide) (fun c66 => ?_) (fun c66 => ?_)
      · have so : r.1.1.1 = 0 := nI_eqn (b := 0) (by omega) (by decide) c66
        have eR : r = R := by rw [← hR, tlL]; exact (if_neg (fun z => z.2 so)).symm
        subst eR
        exact kk _ _ _ _ hm1 hz1 hF1 hk1 fc1 fl1 F1
      · refine x_aload_n dX12_wood_69 rfl ?_
        refine x_cnV (c_X12_wantClause hm1 h240 (fun i hi => by rw [fc1.2 6 (by omega)]; exact hT i hi) ((fc1.1 7 (by omega)).trans hs7) hz1.1 (by rw [hz1.2, b2i_t gd]) (hF1 gd)) hm1.1 lkX12_wantClause sX12_221 dX12_wood_70 rfl rfl (Nat.le_of_ble_eq_true rfl) (by decide) ⟨rfl, rfl, by decide, by decide⟩ ?_
        rintro h2 ⟨s2, l2, A2, hm2, hz2, hF2, fc2, fl2, F2⟩
        refine x_goto 55 dX12_wood_73 (by decide) ?_
        have so : ¬ r.1.1.1 = 0 := fun z => c66 (by rw [z]; rfl)
        have hR2 : tlL T n (tlT T r.1.1 r.2) = R := by rw [← hR, tlL, if_pos ⟨gd, so⟩]
        refine ih (tlT T r.1.1 r.2) h2 s2 l2 A2 hR2 hm2 hz2 hF2 (kp_T hk1) (fun z => ?_) (fc1.tr fc2) (fl1.tr fl2) (F1.tr F2)
        have b := hb1 gd
        have b3 := b.2.2 so
        have q := tlT_p z
        exact ⟨by have := q.1; have := b.1; omega, q.2⟩
theorem wdA_hi {A : Nat → Nat → Int32} {n i : Nat} (hi : 11 ≤ i) : wdA A n i = A i := by
  unfold wdA wAr
  rw [va_up_ne _ _ (show i ≠ 4 by omega), va_up_ne _ _ (show i ≠ 3 by omega), va_up_ne _ _ (show i ≠ 2 by omega), va_up_ne _ _ (show i ≠ 1 by omega), va_up_ne _ _ (show i ≠ 0 by omega)]
set_option maxRecDepth 10000 in
set_option maxHeartbeats 2000000 in
theorem wd76 {g : gG} {h h1 : gH} {m : Nat} {S : AS} {R : TS × VS} {s s1 : Nat → Int32} {l l1 : Nat → Int64} {A A1 : Nat → Nat → Int32} {B : Nat → Nat → Int64} {w : Option Value} (eR : wdR S = R) (hz : m + 27 ≤ h.2) (hv : rpV S.1 A) (hr : rpO S s A B) (hm1 : MM h1 m S.1 s1 l1 A1 B) (hz1 : TZ S.2.2.1 R.1 s1 l1) (hF1 : R.1.2 = true → rpF R.2 s1 A1) (hk1 : kpU S.1 R.2) (fc1 : frC s s1 A A1) (fl1 : frL l l1) (F1 : Fr m 27 h h1) : Ex g mX12_wood (gZm g mX12_wood (fun o h' => o = some (.int (oWood S).1) ∧ Pn m (oWood S).2 h h')) 76 [some (.ref m), w] [] h1 0 0 := by
  refine x_aload_n dX12_wood_76 rfl ?_
  refine x_iconst (v := 0) dX12_wood_77 (by decide) ?_
  refine x_put (fs' := mF m S.1 (va_up s1 7 (nI 0)) l1) fX12_110 hm1.1 (Nat.le_of_ble_eq_true rfl) rfl rfl rfl dX12_wood_78 ?_
  refine x_aload_n dX12_wood_81 rfl ?_
  refine x_get fX12_164 hset_s rfl dX12_wood_82 ?_
  rw [show (va_up s1 7 (nI 0)) 12 = s1 12 from rfl, hz1.2]
  refine x_if_ne 96 dX12_wood_85 (by decide) (fun c85 => ?_) (fun c85 => ?_)
  · have gd : R.1.2 = true := Decidable.not_not.mp (fun z => c85 (b2i_0.mpr z))
    have hF := hF1 gd
    obtain ⟨f0, f3, f1, f4⟩ := hF.2.1
    have r41 : R.2.1 4 = 0 ∨ R.2.1 4 = 1 := by have := hF.1.2.2.1; omega
    refine x_aload_n dX12_wood_96 rfl ?_
    refine x_aload_n dX12_wood_97 rfl ?_
    refine x_get fX12_174 hset_s rfl dX12_wood_98 ?_
    rw [show (va_up s1 7 (nI 0)) 13 = s1 13 from rfl, f0]
    refine x_put (fs' := mF m ((va_up S.1.1 0 (R.2.1 0)), S.1.2) (va_up s1 7 (nI 0)) l1) fX12_97 hset_s (Nat.le_of_ble_eq_true rfl) rfl rfl rfl dX12_wood_101 ?_
    refine x_aload_n dX12_wood_104 rfl ?_
    refine x_aload_n dX12_wood_105 rfl ?_
    refine x_get fX12_193 hset_s rfl dX12_wood_106 ?_
    rw [show (va_up s1 7 (nI 0)) 14 = s1 14 from rfl, f3]
    refine x_put (fs' := mF m ((va_up (va_up S.1.1 0 (R.2.1 0)) 3 (R.2.1 3)), S.1.2) (va_up s1 7 (nI 0)) l1) fX12_103 hset_s (Nat.le_of_ble_eq_true rfl) rfl rfl rfl dX12_wood_109 ?_
    refine x_aload_n dX12_wood_112 rfl ?_
    refine x_aload_n dX12_wood_113 rfl ?_
    refine x_get fX12_196 hset_s rfl dX12_wood_114 ?_
    rw [show (va_up s1 7 (nI 0)) 15 = s1 15 from rfl, f1]
    refine x_put (fs' := mF m ((va_up (va_up (va_up S.1.1 0 (R.2.1 0)) 3 (R.2.1 3)) 1 (R.2.1 1)), S.1.2) (va_up s1 7 (nI 0)) l1) fX12_100 hset_s (Nat.le_of_ble_eq_true rfl) rfl rfl rfl dX12_wood_117 ?_
    refine x_aload_n dX12_wood_120 rfl ?_
    refine x_aload_n dX12_wood_121 rfl ?_
    refine x_get fX12_216 hset_s rfl dX12_wood_122 ?_
    rw [show (va_up s1 7 (nI 0)) 16 = s1 16 from rfl, f4]
    refine x_put (fs' := mF m ((va_up (va_up (va_up (va_up S.1.1 0 (R.2.1 0)) 3 (R.2.1 3)) 1 (R.2.1 1)) 4 (R.2.1 4)), S.1.2) (va_up s1 7 (nI 0)) l1) fX12_224 hset_s (Nat.le_of_ble_eq_true rfl) (by rcases r41 with e | e <;> rw [e] <;> rfl) (by rcases r41 with e | e <;> rw [e] <;> rfl) rfl dX12_wood_125 ?_
    refine x_iconst (v := 0) dX12_wood_128 (by decide) ?_
    refine x_ist_1 dX12_wood_129 (by decide) rfl ?_
    refine wd130 (h := h) (V := ((va_up (va_up (va_up (va_up S.1.1 0 (R.2.1 0)) 3 (R.2.1 3)) 1 (R.2.1 1)) 4 (R.2.1 4)), S.1.2)) (s := (va_up s1 7 (nI 0))) (l := l1) (A := A1) (B := B) (fun h3 hm3 F3 => ?_) 0 (by decide) _ (by rw [rf_0, va_id]; exact ((((hm1.num (s' := (va_up s1 7 (nI 0)))).num (V' := ((va_up S.1.1 0 (R.2.1 0)), S.1.2))).num (V' := ((va_up (va_up S.1.1 0 (R.2.1 0)) 3 (R.2.1 3)), S.1.2))).num (V' := ((va_up (va_up (va_up S.1.1 0 (R.2.1 0)) 3 (R.2.1 3)) 1 (R.2.1 1)), S.1.2))).num (V' := ((va_up (va_up (va_up (va_up S.1.1 0 (R.2.1 0)) 3 (R.2.1 3)) 1 (R.2.1 1)) 4 (R.2.1 4)), S.1.2))) (((((F1.tr (Fr.set (by omega) (by omega))).tr (Fr.set (by omega) (by omega))).tr (Fr.set (by omega) (by omega))).tr (Fr.set (by omega) (by omega))).tr (Fr.set (by omega) (by omega)))
    refine x_iconst (v := 0) dX12_wood_154 (by decide) ?_
    refine x_ist_1 dX12_wood_155 (by decide) rfl ?_
    refine wd156 (h := h) (V := ((va_up (va_up (va_up (va_up S.1.1 0 (R.2.1 0)) 3 (R.2.1 3)) 1 (R.2.1 1)) 4 (R.2.1 4)), S.1.2)) (s := (va_up s1 7 (nI 0))) (l := l1) (A := va_up A1 0 (rf (A1 0) (A1 7) 0 40)) (B := B) hF.1.1.2.1 (fun h4 hm4 F4 => ?_) 0 (Nat.zero_le _) _ (by rw [wAr_0]; exact hm3) F3
    refine x_iconst (v := 0) dX12_wood_201 (by decide) ?_
    refine x_ist_1 dX12_wood_202 (by decide) rfl ?_
    refine wd203 (h := h) (V := ((va_up (va_up (va_up (va_up S.1.1 0 (R.2.1 0)) 3 (R.2.1 3)) 1 (R.2.1 1)) 4 (R.2.1 4)), S.1.2)) (s := (va_up s1 7 (nI 0))) (l := l1) (A := wAr (va_up A1 0 (rf (A1 0) (A1 7) 0 40)) (R.2.1 1)) (B := B) (fun h5 hm5 F5 => ?_) 0 (by decide) _ (by rw [rf_0, va_id]; exact hm4) F4
    refine x_aload_n dX12_wood_227 rfl ?_
    refine x_iconst (v := 0) dX12_wood_228 (by decide) ?_
    refine x_put (fs' := mF m (va_up (((va_up (va_up (va_up (va_up S.1.1 0 (R.2.1 0)) 3 (R.2.1 3)) 1 (R.2.1 1)) 4 (R.2.1 4)), S.1.2)).1 5 0, S.1.2) (va_up s1 7 (nI 0)) l1) fX12_227 hm5.1 (Nat.le_of_ble_eq_true rfl) rfl rfl rfl dX12_wood_229 ?_
    refine x_aload_n dX12_wood_232 rfl ?_
    refine x_iconst (v := 0) dX12_wood_233 (by decide) ?_
    refine x_put (fs' := mF m (va_up (((va_up (va_up (va_up (va_up S.1.1 0 (R.2.1 0)) 3 (R.2.1 3)) 1 (R.2.1 1)) 4 (R.2.1 4)), S.1.2)).1 5 0, S.1.2) (va_up (va_up s1 7 (nI 0)) 18 (nI 0)) l1) fX12_230 hset_s (Nat.le_of_ble_eq_true rfl) rfl rfl rfl dX12_wood_234 ?_
    refine x_aload_n dX12_wood_237 rfl ?_
    refine x_get fX12_97 hset_s rfl dX12_wood_238 ?_
    refine x_iret rfl dX12_wood_241 ⟨by decide, by decide⟩ ?_
    have hm6 : MM _ m (va_up (((va_up (va_up (va_up (va_up S.1.1 0 (R.2.1 0)) 3 (R.2.1 3)) 1 (R.2.1 1)) 4 (R.2.1 4)), S.1.2)).1 5 0, S.1.2) (va_up (va_up s1 7 (nI 0)) 18 (nI 0)) l1 _ B := (hm5.num (V' := (va_up (((va_up (va_up (va_up (va_up S.1.1 0 (R.2.1 0)) 3 (R.2.1 3)) 1 (R.2.1 1)) 4 (R.2.1 4)), S.1.2)).1 5 0, S.1.2)) (s' := (va_up s1 7 (nI 0))) (l' := l1)).num
    refine fnA (S' := (R.2, S.2.1, (0, S.2.2.1.2), (0, S.2.2.2.1.2), S.2.2.2.2)) (isN.of hz (hm6.eV (mF_eq (V' := R.2) rfl rfl hk1.1.symm rfl rfl hk1.2.1.symm hk1.2.2.1.symm)) (rp_wd hv hF hk1 (fc1.2 5 (by omega))) (hr.wd rfl (fc1.1 22 (by omega)) (fc1.1 24 (by omega)) (fun i hi => ?_) ⟨Nat.zero_le _, rfl, fun i q => absurd q (Nat.not_lt_zero i)⟩) ((F5.tr (Fr.set (by omega) (by omega))).tr (Fr.set (by omega) (by omega)))) ?_
    · exact (wdA_hi (by omega)).trans (fc1.2 i (by omega))
    · (rw [oWood, eR, if_pos gd]) <;> rfl
  · refine x_bipush (v := -100) dX12_wood_88 (by decide) ?_
    refine x_aload_n dX12_wood_90 rfl ?_
    refine x_get fX12_118 hset_s rfl dX12_wood_91 ?_
    refine x_isub dX12_wood_94 ?_
    refine x_iret rfl dX12_wood_95 ⟨by decide, by decide⟩ ?_
    have gd : ¬ R.1.2 = true := b2i_0.mp c85
    rw [show (va_up s1 7 (nI 0)) 9 = s1 9 from rfl, hz1.1.2.1.2.1]
    refine fnA (S' := (S.1, S.2.1, (0, S.2.2.1.2), S.2.2.2)) (isN.of hz (hm1.num (V' := S.1) (s' := (va_up s1 7 (nI 0)))) (hv.cg (fun i hi j hj => by rw [fc1.2 i (by omega)])) (hr.wd (va_up_self _ _ _) (fc1.1 22 (by omega)) (fc1.1 24 (by omega)) (fun i hi => fc1.2 i (by omega)) ⟨hr.2.2.1.1, (fc1.1 18 (by omega)).trans hr.2.2.1.2.1, by rw [fc1.2 15 (by omega)]; exact hr.2.2.1.2.2⟩) (F1.tr (Fr.set (by omega) (by omega)))) ?_
    rw [oWood, eR, if_neg gd]
set_option maxRecDepth 10000 in
set_option maxHeartbeats 2000000 in
theorem c_X12_wood {g : gG} {h : gH} {m : Nat} {S : AS} (hn : isN h m S) : Ct g mX12_wood [.ref m] h (some (.int (oWood S).1)) (Pn m (oWood S).2 h) := by
  obtain ⟨hz, s, l, A, B, hm, hv, hr⟩ := id hn
  have mo := hm.1
  have ok8 : S.1.1 0 ≤ 8 := hv.1.1.1
  have ok4 : S.1.1 1 ≤ 4 := hv.1.1.2.1
  have okr : S.1.1 2 ≤ 4 := hv.1.1.2.2
  have t256 : S.1.1 3 < 256 := lt256 hv.1.2.1 hv.1.1.1
  refine Cn.of (L := [some (.ref m), none]) (by decide) (Nat.le_of_ble_eq_true rfl) rfl ?_
  refine x_aload_n dX12_wood_0 rfl ?_
  refine x_iconst (v := 0) dX12_wood_1 (by decide) ?_
  refine x_put (fs' := mF m S.1 (va_up s 10 0) l) fX12_115 mo (Nat.le_of_ble_eq_true rfl) rfl rfl rfl dX12_wood_2 ?_
  refine x_aload_n dX12_wood_5 rfl ?_
  refine x_iconst (v := 1) dX12_wood_6 (by decide) ?_
  refine x_put (fs' := mF m S.1 (va_up (va_up s 10 0) 12 1) l) fX12_164 hset_s (Nat.le_of_ble_eq_true rfl) rfl rfl rfl dX12_wood_7 ?_
  refine x_aload_n dX12_wood_10 rfl ?_
  refine x_iconst (v := 0) dX12_wood_11 (by decide) ?_
  refine x_put (fs' := mF m S.1 (va_up (va_up (va_up s 10 0) 12 1) 13 0) l) fX12_174 hset_s (Nat.le_of_ble_eq_true rfl) rfl rfl rfl dX12_wood_12 ?_
  refine x_aload_n dX12_wood_15 rfl ?_
  refine x_iconst (v := 0) dX12_wood_16 (by decide) ?_
  refine x_put (fs' := mF m S.1 (va_up (va_up (va_up (va_up s 10 0) 12 1) 13 0) 14 0) l) fX12_193 hset_s (Nat.le_of_ble_eq_true rfl) rfl rfl rfl dX12_wood_17 ?_
  refine x_aload_n dX12_wood_20 rfl ?_
  refine x_iconst (v := 0) dX12_wood_21 (by decide) ?_
  refine x_put (fs' := mF m S.1 (va_up (va_up (va_up (va_up (va_up s 10 0) 12 1) 13 0) 14 0) 15 0) l) fX12_196 hset_s (Nat.le_of_ble_eq_true rfl) rfl rfl rfl dX12_wood_22 ?_
  refine x_aload_n dX12_wood_25 rfl ?_
  refine x_iconst (v := 0) dX12_wood_26 (by decide) ?_
  refine x_put (fs' := mF m S.1 (va_up (va_up (va_up (va_up (va_up (va_up s 10 0) 12 1) 13 0) 14 0) 15 0) 16 0) l) fX12_216 hset_s (Nat.le_of_ble_eq_true rfl) rfl rfl rfl dX12_wood_27 ?_
  refine x_iconst (v := 0) dX12_wood_30 (by decide) ?_
  refine x_ist_1 dX12_wood_31 (by decide) rfl ?_
  refine wd32 (h := h) (V := S.1) (s := (va_up (va_up (va_up (va_up (va_up (va_up s 10 0) 12 1) 13 0) 14 0) 15 0) 16 0)) (l := l) (A := A) (B := B) (fun h1 w hm1 hw F1 => ?_) 0 (by decide) _ (A 10) (by rw [va_id]; exact hm.num.num.num.num.num.num) (fun c q => absurd q (Nat.not_lt_zero c)) ((((((Fr.set (by omega) (by omega)).tr (Fr.set (by omega) (by omega))).tr (Fr.set (by omega) (by omega))).tr (Fr.set (by omega) (by omega))).tr (Fr.set (by omega) (by omega))).tr (Fr.set (by omega) (by omega)))
  refine x_aload_n dX12_wood_51 rfl ?_
  refine x_cnV (c_X12_advance (T := S.2.2.1) (p := 0) hm1 hr.2.1.1 hr.2.1.2.2 hr.2.1.2.1 (Nat.zero_le _) rfl) hm1.1 lkX12_advance sX12_168 dX12_wood_52 rfl rfl (Nat.le_of_ble_eq_true rfl) (by decide) ⟨rfl, rfl, by decide, by decide⟩ ?_
  rintro h2 ⟨s2, l2, hm2, hk2, fc2, fl2, F2⟩
  have e12 : s2 12 = 1 := (fc2 12 (by omega)).trans rfl
  refine wd55 (h := h) (s := (va_up (va_up (va_up (va_up (va_up (va_up s 10 0) 12 1) 13 0) 14 0) 15 0) 16 0)) (l := l) (A := va_up A 10 w) (V := S.1) (T := S.2.2.1) (R := wdR S) hr.2.1.1 hr.2.1.2.2 hr.2.1.2.1 (fun h3 s3 l3 A3 hm3 hz3 hF3 hk3 fc3 fl3 F3 => ?_) 240 ((nx S.2.2.1 0, true), clW S.1) h2 s2 l2 _ rfl hm2 ⟨hk2, e12⟩ (fun _ => rp_f0 hv.1 ((fc2 13 (by omega)).trans rfl) ((fc2 14 (by omega)).trans rfl) ((fc2 15 (by omega)).trans rfl) ((fc2 16 (by omega)).trans rfl) (fun c hc => by rw [va_up_self]; exact hw c hc)) (kp_0 _) (fun _ => ⟨by have := hr.2.1.1; omega, (nx_g _ _).2.2.2, (nx_g _ _).2.2.1⟩) ⟨fun i hi => fc2 i (by omega), fun _ _ => rfl⟩ fl2 (F1.tr F2)
  exact wd76 (s := (va_up (va_up (va_up (va_up (va_up (va_up s 10 0) 12 1) 13 0) 14 0) 15 0) 16 0)) (l := l) rfl hz (hv.cg (fun i hi j hj => by rw [va_up_ne _ _ (show i ≠ 10 by omega)])) (rpO.w10 hr) hm3 hz3 hF3 hk3 fc3 fl3 F3
