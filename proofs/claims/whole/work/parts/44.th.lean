abbrev trS (S : AS) (T : Nat × (Nat → Int32)) : AS := (S.1, S.2.1, S.2.2.1, S.2.2.2.1, S.2.2.2.2.1, S.2.2.2.2.2.1, T)
theorem isX.tr {h h' : gH} {x : Nat} {D : Nat → Prop} {S : AS} {T : Nat × (Nat → Int32)} {pt : Int32} (hx : isX h x D S) (hf : Fr (x + 48) 2 h h') (hr : isR h' (x + 48) T pt) : Px x D (trS S T) h h' := by
  obtain ⟨a1, a2, a3, a4, a5, a6, a7, a8, a9, pt0, a10⟩ := id hx
  exact ⟨⟨hx.sz hf, by rw [hf.2 _ (by omega)]; exact a2, a3.ag (hf.agr (by omega)), a4.ag (hf.agr (by omega)), a5.ag (hf.agr (by omega)), a6.ag (hf.agr (by omega)), a7.ag (hf.agr (by omega)), a8.ag (hf.agr (by omega)), ⟨a9.1.ag (hf.2 _ (by omega)) (hx.dd hf (by omega)), a9.2.ag (hf.agr (by omega)) (hx.dd hf (by omega))⟩, pt, hr⟩, hf.wid (by omega) (by omega)⟩
/-- cells were made, none was changed -/
theorem isX.nw {h h' : gH} {x : Nat} {D : Nat → Prop} {S : AS} (hx : isX h x D S) (hz : h.2 ≤ h'.2) (he : ∀ a, a < h.2 → h'.1 a = h.1 a) : isX h' x (Dx D h h') S := by
  obtain ⟨r, e45, e2, e3⟩ := hx.2.2.2.2.2.2.2.2.1.1
  have dd : ∀ a, D a → Dx D h h' a ∧ h'.1 a = h.1 a := fun a q => ⟨.inl q, he a (hx.1.2 a q).2⟩
  have P := hx.shG (H := S.2.2.2.2.1) hz (fun a l _ => he a l) (hx.2.2.2.2.2.2.2.2.1.1.ag (he _ (by have := hx.1.1; omega)) dd)
  exact P.1
def tA (k : Nat) (n a x : Int32) (c : Int32) (t : TR) : Int32 × TR := if c = 0 then tL k n x t else if c = 1 then tS k n a x t else if c = 2 then tH k n a x t else tT k n a x t
def tZ (S : AS) : TR := (0, S.2.2.2.2.2.2.2, 0)
def tR (S : AS) (f c x : Int32) : Int32 × TR := tA (S.1.2.2 0 (S.2.2.2.2.2.1 (iN f)).2.1) (nI (S.2.2.2.2.2.1 (iN f)).2.1) (nI (S.1.2.2 3 (S.2.2.2.2.2.1 (iN f)).2.1)) x c (tZ S)
def oAct (S : AS) (f c x : Int32) : Int32 × AS := if bl f 4 = true ∧ bl c 4 = true ∧ (S.2.2.2.2.2.1 (iN f)).1 = 1 ∧ (S.2.2.2.2.2.1 (iN f)).2.1 < S.1.1 0 then (if (tR S f c x).2.2.2 = 0 then (tR S f c x).1 else -15, trS S ((tR S f c x).2.1, (tR S f c x).2.2.1)) else (0, trS S (0, S.2.2.2.2.2.2.2))
theorem Py.tr {h h1 h2 h3 : gH} {x : Nat} {D : Nat → Prop} {S S' : AS} {t : TR} (F1 : Fr (x + 48) 2 h h1) (x1 : isX h1 x D S) (hz : h2.2 = h1.2 + 1) (he : ∀ a, a < h1.2 → h2.1 a = h1.1 a) (F3 : Fr (x + 48) 2 h2 h3) (q3 : isQ h3 (x + 48) t) (e : S' = trS S (t.1, t.2.1)) : Py x D S' h h3 := by
  subst e
  have X2 := x1.nw (h' := h2) (by omega) he
  have X3 := (X2.tr F3 q3.1).1
  have z3 : h3.2 = h.2 + 1 := by rw [F3.1, hz, F1.1]
  have e1 : Dx D h1 h2 = Dx D h h3 := by
    funext a
    show (D a ∨ (h1.2 ≤ a ∧ a < h2.2)) = (D a ∨ (h.2 ≤ a ∧ a < h3.2))
    rw [F1.1, F3.1]
  rw [e1] at X3
  refine ⟨X3, by omega, fun a l1 l2 l3 => ?_⟩
  have l4 : a < h1.2 := by rw [F1.1]; exact l1
  exact (F3.2 a (by omega)).trans ((he a l4).trans (F1.2 a (by omega)))
theorem ef_leads_0 {n x : Int32} {t : TR} : tL 0 n x t = (x + n, bg t 10) := rfl
theorem ef_stays_0 {n a x : Int32} {t : TR} : tS 0 n a x t = tS0 0 n x t := rfl
theorem ef_shares_0 {n a x : Int32} {t : TR} : tH 0 n a x t = tH0 n a x t := rfl
theorem ef_tells_0 {n a x : Int32} {t : TR} : tT 0 n a x t = tT0 0 n a x t := rfl
theorem ef_leads_1 {n x : Int32} {t : TR} : tL 1 n x t = (x + n, bg t 10) := rfl
theorem ef_stays_1 {n a x : Int32} {t : TR} : tS 1 n a x t = tS1 1 n a x t := rfl
theorem ef_shares_1 {n a x : Int32} {t : TR} : tH 1 n a x t = tH0 n a x t := rfl
theorem ef_tells_1 {n a x : Int32} {t : TR} : tT 1 n a x t = tT0 1 n a x t := rfl
theorem ef_leads_2 {n x : Int32} {t : TR} : tL 2 n x t = tL 2 n x t := rfl
theorem ef_stays_2 {n a x : Int32} {t : TR} : tS 2 n a x t = tS0 2 n x t := rfl
theorem ef_shares_2 {n a x : Int32} {t : TR} : tH 2 n a x t = tH0 n a x t := rfl
theorem ef_tells_2 {n a x : Int32} {t : TR} : tT 2 n a x t = tT 2 n a x t := rfl
theorem ef_leads_3 {n x : Int32} {t : TR} : tL 3 n x t = tL 3 n x t := rfl
theorem ef_stays_3 {n a x : Int32} {t : TR} : tS 3 n a x t = tS 3 n a x t := rfl
theorem ef_shares_3 {n a x : Int32} {t : TR} : tH 3 n a x t = tH0 n a x t := rfl
theorem ef_tells_3 {n a x : Int32} {t : TR} : tT 3 n a x t = tT0 3 n a x t := rfl
theorem ef_leads_4 {n x : Int32} {t : TR} : tL 4 n x t = tL 4 n x t := rfl
theorem ef_stays_4 {n a x : Int32} {t : TR} : tS 4 n a x t = tS1 4 n a x t := rfl
theorem ef_shares_4 {n a x : Int32} {t : TR} : tH 4 n a x t = tH 4 n a x t := rfl
theorem ef_tells_4 {n a x : Int32} {t : TR} : tT 4 n a x t = tT0 4 n a x t := rfl
theorem ef_leads_5 {n x : Int32} {t : TR} : tL 5 n x t = (x + n, bg t 10) := rfl
theorem ef_stays_5 {n a x : Int32} {t : TR} : tS 5 n a x t = tS0 5 n x t := rfl
theorem ef_shares_5 {n a x : Int32} {t : TR} : tH 5 n a x t = tH 5 n a x t := rfl
theorem ef_tells_5 {n a x : Int32} {t : TR} : tT 5 n a x t = tT 5 n a x t := rfl
set_option maxRecDepth 10000 in
set_option maxHeartbeats 2000000 in
theorem c_X7_clr {g : gG} {h : gH} {r : Nat} {T : Nat × (Nat → Int32)} {pt : Int32} (hq : isR h r T pt) : Ct g mX7_clear [.ref r] h none (fun h' => isQ h' r (0, T.2, 0) ∧ Fr r 2 h h') := by
  obtain ⟨l30, e0, a, e1, ea⟩ := id hq
  refine Cn.of (L := [some (.ref r)]) (by decide) (Nat.le_of_ble_eq_true rfl) rfl ?_
  refine x_aload_n dX7_clear_0 rfl ?_
  refine x_iconst (v := 0) dX7_clear_1 (by decide) ?_
  refine x_put (fs' := [.ref (r + 1), .int (nI 0), .int pt]) fX7_15 e0 (Nat.le_of_ble_eq_true rfl) rfl rfl rfl dX7_clear_2 ?_
  refine x_aload_n dX7_clear_5 rfl ?_
  refine x_iconst (v := 0) dX7_clear_6 (by decide) ?_
  refine x_put (fs' := rF r 0 0) fX7_19 hset_s (Nat.le_of_ble_eq_true rfl) rfl rfl rfl dX7_clear_7 ?_
  refine x_vret rfl dX7_clear_10 ⟨by decide, by decide⟩ ?_
  exact ⟨rfl, ⟨⟨Nat.zero_le _, hset_s, a, (hset_n (by omega)).trans ((hset_n (by omega)).trans e1), fun i q => absurd q (Nat.not_lt_zero i)⟩, Nat.zero_le _⟩, (Fr.set (by omega) (by omega)).tr (Fr.set (by omega) (by omega))⟩
set_option maxHeartbeats 4000000 in
theorem c_X11_act51_0 {g : gG} {h h1 h2 : gH} {x q p1 f1 : Nat} {D : Nat → Prop} {S : AS} {cc x1v ow : Int32} (hf : f1 < 4) (c12 : bl (nI f1) 4 = true) (c20 : bl cc 4 = true) (yes : (S.2.2.2.2.2.1 (iN (nI f1))).1 = 1 ∧ (S.2.2.2.2.2.1 (iN (nI f1))).2.1 < S.1.1 0) (hpe : (S.2.2.2.2.2.1 f1).2.1 = p1) (how : ow = nI (S.1.2.2 3 p1)) (F1 : Fr (x + 48) 2 h h1) (x1 : isX h1 x D (trS S (0, S.2.2.2.2.2.2.2))) (z2 : h2.2 = h1.2 + 1) (k2 : ∀ a, a < h1.2 → h2.1 a = h1.1 a) (hd : q < x + 48 ∨ x + 48 + 2 ≤ q) (o2 : h2.1 x = some (.inr (11, xF x S.2.1.1 S.2.2.2.1.1))) (q2 : isQ h2 (x + 48) (tZ S)) (kk : S.1.2.2 0 p1 = 0) (t2 : h2.1 q = some (.inr (3, thF (nI p1) ow (x + 48)))) : Ex g mX11_act (gZm g mX11_act (fun o h' => o = some (.int (oAct S (nI f1) cc x1v).1) ∧ Py x D (oAct S (nI f1) cc x1v).2 h h')) 51 [some (.ref x), some (.int (nI f1)), some (.int cc), some (.int x1v), none, none] [.ref q] h2 1 3 := by
  refine x_ast_4 dX11_act_51 (by decide) rfl ?_
  refine x_iload_n dX11_act_53 rfl ?_
  refine swX11_act_54 (fun c54 => ?_) (fun c54 => ?_) (fun c54 => ?_) (fun c54_0 c54_1 c54_2 => ?_)
  · refine x_aload dX11_act_80 rfl ?_
    refine x_iload_n dX11_act_82 rfl ?_
    refine x_cvU (x := ⟨"HeldPaths$PathThing", "leads", "(I)I"⟩) (owner := "HeldPaths$PathThing") (c_X3_leads_3 q2 t2 hd) t2 lkX3_leads rfl ⟨gT_in 971 (by decide +kernel) rfl, gT_in 974 (by decide +kernel) rfl, gT_in 972 (by decide +kernel) rfl, gT_in 973 (by decide +kernel) rfl, gT_in 972 (by decide +kernel) rfl⟩ lkX3_leads.1 ⟨by decide, by decide, lkX3_leads.2.2.2⟩ dX11_act_83 rfl rfl (Nat.le_of_ble_eq_true rfl) (by decide) ⟨rfl, rfl, by decide, by decide⟩ ?_
    rintro h3 ⟨q3, F3⟩
    have t3 : h3.1 q = _ := (F3.2 q hd).trans t2
    obtain ⟨rv, hrv⟩ : ∃ rv : Int32 × TR, rv = (x1v + nI p1, bg (tZ S) 10) := ⟨_, rfl⟩
    rw [← hrv] at q3 ⊢
    have o3 : h3.1 x = _ := (F3.2 x (by omega)).trans o2
    have r3 := q3.1.2.1
    have p3 : rv.2.2.2 ≤ 1 := q3.2
    refine x_ist_5 dX11_act_86 (by decide) rfl ?_
    refine x_goto 121 dX11_act_88 (by decide) ?_
    refine x_aload_n dX11_act_121 rfl ?_
    refine x_get fX11_58 o3 rfl dX11_act_122 ?_
    refine x_get fX11_321 r3 rfl dX11_act_125 ?_
    refine x_if_eq 136 dX11_act_128 (by decide) (fun c128 => ?_) (fun c128 => ?_)
    · refine x_iload dX11_act_136 rfl ?_
      refine x_iret rfl dX11_act_138 ⟨by decide, by decide⟩ ?_
      have ET : tR S (nI f1) cc x1v = rv := by rw [hrv, tR, iN_nI (by omega), hpe, kk, ← how]; exact (if_pos c54).trans ef_leads_0
      have pz : nI rv.2.2.2 = 0 ↔ rv.2.2.2 = 0 := nI_z (Nat.lt_of_le_of_lt p3 (by decide))
      refine finY (Py.tr F1 x1 z2 k2 F3 q3 rfl) ?_
      (rw [oAct, if_pos ⟨c12, c20, yes⟩, ET, if_pos (pz.mp c128)]) <;> rfl
    · refine x_bipush (v := -15) dX11_act_131 (by decide) ?_
      refine x_goto 138 dX11_act_133 (by decide) ?_
      refine x_iret rfl dX11_act_138 ⟨by decide, by decide⟩ ?_
      have ET : tR S (nI f1) cc x1v = rv := by rw [hrv, tR, iN_nI (by omega), hpe, kk, ← how]; exact (if_pos c54).trans ef_leads_0
      have pz : nI rv.2.2.2 = 0 ↔ rv.2.2.2 = 0 := nI_z (Nat.lt_of_le_of_lt p3 (by decide))
      refine finY (Py.tr F1 x1 z2 k2 F3 q3 rfl) ?_
      (rw [oAct, if_pos ⟨c12, c20, yes⟩, ET, if_neg (fun z => c128 (pz.mpr z))]) <;> rfl
  · refine x_aload dX11_act_91 rfl ?_
    refine x_iload_n dX11_act_93 rfl ?_
    refine x_cvU (x := ⟨"HeldPaths$PathThing", "stays", "(I)I"⟩) (owner := "HeldPaths$PathThing") (c_X3_stays_3 q2 t2 hd) t2 lkX3_stays rfl ⟨gT_in 999 (by decide +kernel) rfl, gT_in 1002 (by decide +kernel) rfl, gT_in 1000 (by decide +kernel) rfl, gT_in 1001 (by decide +kernel) rfl, gT_in 1000 (by decide +kernel) rfl⟩ lkX3_stays.1 ⟨by decide, by decide, lkX3_stays.2.2.2⟩ dX11_act_94 rfl rfl (Nat.le_of_ble_eq_true rfl) (by decide) ⟨rfl, rfl, by decide, by decide⟩ ?_
    rintro h3 ⟨q3, F3⟩
    have t3 : h3.1 q = _ := (F3.2 q hd).trans t2
    obtain ⟨rv, hrv⟩ : ∃ rv : Int32 × TR, rv = tS0 0 (nI p1) x1v (tZ S) := ⟨_, rfl⟩
    rw [← hrv] at q3 ⊢
    have o3 : h3.1 x = _ := (F3.2 x (by omega)).trans o2
    have r3 := q3.1.2.1
    have p3 : rv.2.2.2 ≤ 1 := q3.2
    refine x_ist_5 dX11_act_97 (by decide) rfl ?_
    refine x_goto 121 dX11_act_99 (by decide) ?_
    refine x_aload_n dX11_act_121 rfl ?_
    refine x_get fX11_58 o3 rfl dX11_act_122 ?_
    refine x_get fX11_321 r3 rfl dX11_act_125 ?_
    refine x_if_eq 136 dX11_act_128 (by decide) (fun c128 => ?_) (fun c128 => ?_)
    · refine x_iload dX11_act_136 rfl ?_
      refine x_iret rfl dX11_act_138 ⟨by decide, by decide⟩ ?_
      have ET : tR S (nI f1) cc x1v = rv := by rw [hrv, tR, iN_nI (by omega), hpe, kk, ← how]; rw [tA, c54]; exact ((if_neg (by decide)).trans (if_pos rfl)).trans ef_stays_0
      have pz : nI rv.2.2.2 = 0 ↔ rv.2.2.2 = 0 := nI_z (Nat.lt_of_le_of_lt p3 (by decide))
      refine finY (Py.tr F1 x1 z2 k2 F3 q3 rfl) ?_
      (rw [oAct, if_pos ⟨c12, c20, yes⟩, ET, if_pos (pz.mp c128)]) <;> rfl
    · refine x_bipush (v := -15) dX11_act_131 (by decide) ?_
      refine x_goto 138 dX11_act_133 (by decide) ?_
      refine x_iret rfl dX11_act_138 ⟨by decide, by decide⟩ ?_
      have ET : tR S (nI f1) cc x1v = rv := by rw [hrv, tR, iN_nI (by omega), hpe, kk, ← how]; rw [tA, c54]; exact ((if_neg (by decide)).trans (if_pos rfl)).trans ef_stays_0
      have pz : nI rv.2.2.2 = 0 ↔ rv.2.2.2 = 0 := nI_z (Nat.lt_of_le_of_lt p3 (by decide))
      refine finY (Py.tr F1 x1 z2 k2 F3 q3 rfl) ?_
      (rw [oAct, if_pos ⟨c12, c20, yes⟩, ET, if_neg (fun z => c128 (pz.mpr z))]) <;> rfl
  · refine x_aload dX11_act_102 rfl ?_
    refine x_iload_n dX11_act_104 rfl ?_
    refine x_cvU (x := ⟨"HeldPaths$PathThing", "shares", "(I)I"⟩) (owner := "HeldPaths$PathThing") (c_X3_shares_3 q2 t2 hd) t2 lkX3_shares rfl ⟨gT_in 1018 (by decide +kernel) rfl, gT_in 1021 (by decide +kernel) rfl, gT_in 1019 (by decide +kernel) rfl, gT_in 1020 (by decide +kernel) rfl, gT_in 1019 (by decide +kernel) rfl⟩ lkX3_shares.1 ⟨by decide, by decide, lkX3_shares.2.2.2⟩ dX11_act_105 rfl rfl (Nat.le_of_ble_eq_true rfl) (by decide) ⟨rfl, rfl, by decide, by decide⟩ ?_
    rintro h3 ⟨q3, F3⟩
    have t3 : h3.1 q = _ := (F3.2 q hd).trans t2
    obtain ⟨rv, hrv⟩ : ∃ rv : Int32 × TR, rv = tH0 (nI p1) ow x1v (tZ S) := ⟨_, rfl⟩
    rw [← hrv] at q3 ⊢
    have o3 : h3.1 x = _ := (F3.2 x (by omega)).trans o2
    have r3 := q3.1.2.1
    have p3 : rv.2.2.2 ≤ 1 := q3.2
    refine x_ist_5 dX11_act_108 (by decide) rfl ?_
    refine x_goto 121 dX11_act_110 (by decide) ?_
    refine x_aload_n dX11_act_121 rfl ?_
    refine x_get fX11_58 o3 rfl dX11_act_122 ?_
    refine x_get fX11_321 r3 rfl dX11_act_125 ?_
    refine x_if_eq 136 dX11_act_128 (by decide) (fun c128 => ?_) (fun c128 => ?_)
    · refine x_iload dX11_act_136 rfl ?_
      refine x_iret rfl dX11_act_138 ⟨by decide, by decide⟩ ?_
      have ET : tR S (nI f1) cc x1v = rv := by rw [hrv, tR, iN_nI (by omega), hpe, kk, ← how]; rw [tA, c54]; exact ((if_neg (by decide)).trans ((if_neg (by decide)).trans (if_pos rfl))).trans ef_shares_0
      have pz : nI rv.2.2.2 = 0 ↔ rv.2.2.2 = 0 := nI_z (Nat.lt_of_le_of_lt p3 (by decide))
      refine finY (Py.tr F1 x1 z2 k2 F3 q3 rfl) ?_
      (rw [oAct, if_pos ⟨c12, c20, yes⟩, ET, if_pos (pz.mp c128)]) <;> rfl
    · refine x_bipush (v := -15) dX11_act_131 (by decide) ?_
      refine x_goto 138 dX11_act_133 (by decide) ?_
      refine x_iret rfl dX11_act_138 ⟨by decide, by decide⟩ ?_
      have ET : tR S (nI f1) cc x1v = rv := by rw [hrv, tR, iN_nI (by omega), hpe, kk, ← how]; rw [tA, c54]; exact ((if_neg (by decide)).trans ((if_neg (by decide)).trans (if_pos rfl))).trans ef_shares_0
      have pz : nI rv.2.2.2 = 0 ↔ rv.2.2.2 = 0 := nI_z (Nat.lt_of_le_of_lt p3 (by decide))
      refine finY (Py.tr F1 x1 z2 k2 F3 q3 rfl) ?_
      (rw [oAct, if_pos ⟨c12, c20, yes⟩, ET, if_neg (fun z => c128 (pz.mpr z))]) <;> rfl
  · refine x_aload dX11_act_113 rfl ?_
    refine x_iload_n dX11_act_115 rfl ?_
    refine x_cvU (x := ⟨"HeldPaths$PathThing", "tells", "(I)I"⟩) (owner := "HeldPaths$PathThing") (c_X3_tells_3 q2 t2 hd) t2 lkX3_tells rfl ⟨gT_in 1040 (by decide +kernel) rfl, gT_in 1043 (by decide +kernel) rfl, gT_in 1041 (by decide +kernel) rfl, gT_in 1042 (by decide +kernel) rfl, gT_in 1041 (by decide +kernel) rfl⟩ lkX3_tells.1 ⟨by decide, by decide, lkX3_tells.2.2.2⟩ dX11_act_116 rfl rfl (Nat.le_of_ble_eq_true rfl) (by decide) ⟨rfl, rfl, by decide, by decide⟩ ?_
    rintro h3 ⟨q3, F3⟩
    have t3 : h3.1 q = _ := (F3.2 q hd).trans t2
    obtain ⟨rv, hrv⟩ : ∃ rv : Int32 × TR, rv = tT0 0 (nI p1) ow x1v (tZ S) := ⟨_, rfl⟩
    rw [← hrv] at q3 ⊢
    have o3 : h3.1 x = _ := (F3.2 x (by omega)).trans o2
    have r3 := q3.1.2.1
    have p3 : rv.2.2.2 ≤ 1 := q3.2
    refine x_ist_5 dX11_act_119 (by decide) rfl ?_
    refine x_aload_n dX11_act_121 rfl ?_
    refine x_get fX11_58 o3 rfl dX11_act_122 ?_
    refine x_get fX11_321 r3 rfl dX11_act_125 ?_
    refine x_if_eq 136 dX11_act_128 (by decide) (fun c128 => ?_) (fun c128 => ?_)
    · refine x_iload dX11_act_136 rfl ?_
      refine x_iret rfl dX11_act_138 ⟨by decide, by decide⟩ ?_
      have ET : tR S (nI f1) cc x1v = rv := by rw [hrv, tR, iN_nI (by omega), hpe, kk, ← how]; rw [tA]; exact ((if_neg c54_0).trans ((if_neg c54_1).trans (if_neg c54_2))).trans ef_tells_0
      have pz : nI rv.2.2.2 = 0 ↔ rv.2.2.2 = 0 := nI_z (Nat.lt_of_le_of_lt p3 (by decide))
      refine finY (Py.tr F1 x1 z2 k2 F3 q3 rfl) ?_
      (rw [oAct, if_pos ⟨c12, c20, yes⟩, ET, if_pos (pz.mp c128)]) <;> rfl
    · refine x_bipush (v := -15) dX11_act_131 (by decide) ?_
      refine x_goto 138 dX11_act_133 (by decide) ?_
      refine x_iret rfl dX11_act_138 ⟨by decide, by decide⟩ ?_
      have ET : tR S (nI f1) cc x1v = rv := by rw [hrv, tR, iN_nI (by omega), hpe, kk, ← how]; rw [tA]; exact ((if_neg c54_0).trans ((if_neg c54_1).trans (if_neg c54_2))).trans ef_tells_0
      have pz : nI rv.2.2.2 = 0 ↔ rv.2.2.2 = 0 := nI_z (Nat.lt_of_le_of_lt p3 (by decide))
      refine finY (Py.tr F1 x1 z2 k2 F3 q3 rfl) ?_
      (rw [oAct, if_pos ⟨c12, c20, yes⟩, ET, if_neg (fun z => c128 (pz.mpr z))]) <;> rfl
set_option maxHeartbeats 4000000 in
theorem c_X11_act51_1 {g : gG} {h h1 h2 : gH} {x q p1 f1 : Nat} {D : Nat → Prop} {S : AS} {cc x1v ow : Int32} (hf : f1 < 4) (c12 : bl (nI f1) 4 = true) (c20 : bl cc 4 = true) (yes : (S.2.2.2.2.2.1 (iN (nI f1))).1 = 1 ∧ (S.2.2.2.2.2.1 (iN (nI f1))).2.1 < S.1.1 0) (hpe : (S.2.2.2.2.2.1 f1).2.1 = p1) (how : ow = nI (S.1.2.2 3 p1)) (F1 : Fr (x + 48) 2 h h1) (x1 : isX h1 x D (trS S (0, S.2.2.2.2.2.2.2))) (z2 : h2.2 = h1.2 + 1) (k2 : ∀ a, a < h1.2 → h2.1 a = h1.1 a) (hd : q < x + 48 ∨ x + 48 + 2 ≤ q) (o2 : h2.1 x = some (.inr (11, xF x S.2.1.1 S.2.2.2.1.1))) (q2 : isQ h2 (x + 48) (tZ S)) (kk : S.1.2.2 0 p1 = 1) (t2 : h2.1 q = some (.inr (8, thF (nI p1) ow (x + 48)))) : Ex g mX11_act (gZm g mX11_act (fun o h' => o = some (.int (oAct S (nI f1) cc x1v).1) ∧ Py x D (oAct S (nI f1) cc x1v).2 h h')) 51 [some (.ref x), some (.int (nI f1)), some (.int cc), some (.int x1v), none, none] [.ref q] h2 1 3 := by
  refine x_ast_4 dX11_act_51 (by decide) rfl ?_
  refine x_iload_n dX11_act_53 rfl ?_
  refine swX11_act_54 (fun c54 => ?_) (fun c54 => ?_) (fun c54 => ?_) (fun c54_0 c54_1 c54_2 => ?_)
  · refine x_aload dX11_act_80 rfl ?_
    refine x_iload_n dX11_act_82 rfl ?_
    refine x_cvU (x := ⟨"HeldPaths$PathThing", "leads", "(I)I"⟩) (owner := "HeldPaths$PathThing") (c_X3_leads_8 q2 t2 hd) t2 lkX3_leads rfl ⟨gT_in 971 (by decide +kernel) rfl, gT_in 974 (by decide +kernel) rfl, gT_in 972 (by decide +kernel) rfl, gT_in 991 (by decide +kernel) rfl, gT_in 972 (by decide +kernel) rfl⟩ lkX3_leads.1 ⟨by decide, by decide, lkX3_leads.2.2.2⟩ dX11_act_83 rfl rfl (Nat.le_of_ble_eq_true rfl) (by decide) ⟨rfl, rfl, by decide, by decide⟩ ?_
    rintro h3 ⟨q3, F3⟩
    have t3 : h3.1 q = _ := (F3.2 q hd).trans t2
    obtain ⟨rv, hrv⟩ : ∃ rv : Int32 × TR, rv = (x1v + nI p1, bg (tZ S) 10) := ⟨_, rfl⟩
    rw [← hrv] at q3 ⊢
    have o3 : h3.1 x = _ := (F3.2 x (by omega)).trans o2
    have r3 := q3.1.2.1
    have p3 : rv.2.2.2 ≤ 1 := q3.2
    refine x_ist_5 dX11_act_86 (by decide) rfl ?_
    refine x_goto 121 dX11_act_88 (by decide) ?_
    refine x_aload_n dX11_act_121 rfl ?_
    refine x_get fX11_58 o3 rfl dX11_act_122 ?_
    refine x_get fX11_321 r3 rfl dX11_act_125 ?_
    refine x_if_eq 136 dX11_act_128 (by decide) (fun c128 => ?_) (fun c128 => ?_)
    · refine x_iload dX11_act_136 rfl ?_
      refine x_iret rfl dX11_act_138 ⟨by decide, by decide⟩ ?_
      have ET : tR S (nI f1) cc x1v = rv := by rw [hrv, tR, iN_nI (by omega), hpe, kk, ← how]; exact (if_pos c54).trans ef_leads_1
      have pz : nI rv.2.2.2 = 0 ↔ rv.2.2.2 = 0 := nI_z (Nat.lt_of_le_of_lt p3 (by decide))
      refine finY (Py.tr F1 x1 z2 k2 F3 q3 rfl) ?_
      (rw [oAct, if_pos ⟨c12, c20, yes⟩, ET, if_pos (pz.mp c128)]) <;> rfl
    · refine x_bipush (v := -15) dX11_act_131 (by decide) ?_
      refine x_goto 138 dX11_act_133 (by decide) ?_
      refine x_iret rfl dX11_act_138 ⟨by decide, by decide⟩ ?_
      have ET : tR S (nI f1) cc x1v = rv := by rw [hrv, tR, iN_nI (by omega), hpe, kk, ← how]; exact (if_pos c54).trans ef_leads_1
      have pz : nI rv.2.2.2 = 0 ↔ rv.2.2.2 = 0 := nI_z (Nat.lt_of_le_of_lt p3 (by decide))
      refine finY (Py.tr F1 x1 z2 k2 F3 q3 rfl) ?_
      (rw [oAct, if_pos ⟨c12, c20, yes⟩, ET, if_neg (fun z => c128 (pz.mpr z))]) <;> rfl
  · refine x_aload dX11_act_91 rfl ?_
    refine x_iload_n dX11_act_93 rfl ?_
    refine x_cvU (x := ⟨"HeldPaths$PathThing", "stays", "(I)I"⟩) (owner := "HeldPaths$PathThing") (c_X8_stays_8 q2 t2 hd) t2 lkX8_stays rfl ⟨gT_in 999 (by decide +kernel) rfl, gT_in 1002 (by decide +kernel) rfl, gT_in 1000 (by decide +kernel) rfl, gT_in 1014 (by decide +kernel) rfl, gT_in 1004 (by decide +kernel) rfl⟩ lkX3_stays.1 ⟨by decide, by decide, lkX3_stays.2.2.2⟩ dX11_act_94 rfl rfl (Nat.le_of_ble_eq_true rfl) (by decide) ⟨rfl, rfl, by decide, by decide⟩ ?_
    rintro h3 ⟨q3, F3⟩
    have t3 : h3.1 q = _ := (F3.2 q hd).trans t2
    obtain ⟨rv, hrv⟩ : ∃ rv : Int32 × TR, rv = tS1 1 (nI p1) ow x1v (tZ S) := ⟨_, rfl⟩
    rw [← hrv] at q3 ⊢
    have o3 : h3.1 x = _ := (F3.2 x (by omega)).trans o2
    have r3 := q3.1.2.1
    have p3 : rv.2.2.2 ≤ 1 := q3.2
    refine x_ist_5 dX11_act_97 (by decide) rfl ?_
    refine x_goto 121 dX11_act_99 (by decide) ?_
    refine x_aload_n dX11_act_121 rfl ?_
    refine x_get fX11_58 o3 rfl dX11_act_122 ?_
    refine x_get fX11_321 r3 rfl dX11_act_125 ?_
    refine x_if_eq 136 dX11_act_128 (by decide) (fun c128 => ?_) (fun c128 => ?_)
    · refine x_iload dX11_act_136 rfl ?_
      refine x_iret rfl dX11_act_138 ⟨by decide, by decide⟩ ?_
      have ET : tR S (nI f1) cc x1v = rv := by rw [hrv, tR, iN_nI (by omega), hpe, kk, ← how]; rw [tA, c54]; exact ((if_neg (by decide)).trans (if_pos rfl)).trans ef_stays_1
      have pz : nI rv.2.2.2 = 0 ↔ rv.2.2.2 = 0 := nI_z (Nat.lt_of_le_of_lt p3 (by decide))
      refine finY (Py.tr F1 x1 z2 k2 F3 q3 rfl) ?_
      (rw [oAct, if_pos ⟨c12, c20, yes⟩, ET, if_pos (pz.mp c128)]) <;> rfl
    · refine x_bipush (v := -15) dX11_act_131 (by decide) ?_
      refine x_goto 138 dX11_act_133 (by decide) ?_
      refine x_iret rfl dX11_act_138 ⟨by decide, by decide⟩ ?_
      have ET : tR S (nI f1) cc x1v = rv := by rw [hrv, tR, iN_nI (by omega), hpe, kk, ← how]; rw [tA, c54]; exact ((if_neg (by decide)).trans (if_pos rfl)).trans ef_stays_1
      have pz : nI rv.2.2.2 = 0 ↔ rv.2.2.2 = 0 := nI_z (Nat.lt_of_le_of_lt p3 (by decide))
      refine finY (Py.tr F1 x1 z2 k2 F3 q3 rfl) ?_
      (rw [oAct, if_pos ⟨c12, c20, yes⟩, ET, if_neg (fun z => c128 (pz.mpr z))]) <;> rfl
  · refine x_aload dX11_act_102 rfl ?_
    refine x_iload_n dX11_act_104 rfl ?_
    refine x_cvU (x := ⟨"HeldPaths$PathThing", "shares", "(I)I"⟩) (owner := "HeldPaths$PathThing") (c_X3_shares_8 q2 t2 hd) t2 lkX3_shares rfl ⟨gT_in 1018 (by decide +kernel) rfl, gT_in 1021 (by decide +kernel) rfl, gT_in 1019 (by decide +kernel) rfl, gT_in 1037 (by decide +kernel) rfl, gT_in 1019 (by decide +kernel) rfl⟩ lkX3_shares.1 ⟨by decide, by decide, lkX3_shares.2.2.2⟩ dX11_act_105 rfl rfl (Nat.le_of_ble_eq_true rfl) (by decide) ⟨rfl, rfl, by decide, by decide⟩ ?_
    rintro h3 ⟨q3, F3⟩
    have t3 : h3.1 q = _ := (F3.2 q hd).trans t2
    obtain ⟨rv, hrv⟩ : ∃ rv : Int32 × TR, rv = tH0 (nI p1) ow x1v (tZ S) := ⟨_, rfl⟩
    rw [← hrv] at q3 ⊢
    have o3 : h3.1 x = _ := (F3.2 x (by omega)).trans o2
    have r3 := q3.1.2.1
    have p3 : rv.2.2.2 ≤ 1 := q3.2
    refine x_ist_5 dX11_act_108 (by decide) rfl ?_
    refine x_goto 121 dX11_act_110 (by decide) ?_
    refine x_aload_n dX11_act_121 rfl ?_
    refine x_get fX11_58 o3 rfl dX11_act_122 ?_
    refine x_get fX11_321 r3 rfl dX11_act_125 ?_
    refine x_if_eq 136 dX11_act_128 (by decide) (fun c128 => ?_) (fun c128 => ?_)
    · refine x_iload dX11_act_136 rfl ?_
      refine x_iret rfl dX11_act_138 ⟨by decide, by decide⟩ ?_
      have ET : tR S (nI f1) cc x1v = rv := by rw [hrv, tR, iN_nI (by omega), hpe, kk, ← how]; rw [tA, c54]; exact ((if_neg (by decide)).trans ((if_neg (by decide)).trans (if_pos rfl))).trans ef_shares_1
      have pz : nI rv.2.2.2 = 0 ↔ rv.2.2.2 = 0 := nI_z (Nat.lt_of_le_of_lt p3 (by decide))
      refine finY (Py.tr F1 x1 z2 k2 F3 q3 rfl) ?_
      (rw [oAct, if_pos ⟨c12, c20, yes⟩, ET, if_pos (pz.mp c128)]) <;> rfl
    · refine x_bipush (v := -15) dX11_act_131 (by decide) ?_
      refine x_goto 138 dX11_act_133 (by decide) ?_
      refine x_iret rfl dX11_act_138 ⟨by decide, by decide⟩ ?_
      have ET : tR S (nI f1) cc x1v = rv := by rw [hrv, tR, iN_nI (by omega), hpe, kk, ← how]; rw [tA, c54]; exact ((if_neg (by decide)).trans ((if_neg (by decide)).trans (if_pos rfl))).trans ef_shares_1
      have pz : nI rv.2.2.2 = 0 ↔ rv.2.2.2 = 0 := nI_z (Nat.lt_of_le_of_lt p3 (by decide))
      refine finY (Py.tr F1 x1 z2 k2 F3 q3 rfl) ?_
      (rw [oAct, if_pos ⟨c12, c20, yes⟩, ET, if_neg (fun z => c128 (pz.mpr z))]) <;> rfl
  · refine x_aload dX11_act_113 rfl ?_
    refine x_iload_n dX11_act_115 rfl ?_
    refine x_cvU (x := ⟨"HeldPaths$PathThing", "tells", "(I)I"⟩) (owner := "HeldPaths$PathThing") (c_X3_tells_8 q2 t2 hd) t2 lkX3_tells rfl ⟨gT_in 1040 (by decide +kernel) rfl, gT_in 1043 (by decide +kernel) rfl, gT_in 1041 (by decide +kernel) rfl, gT_in 1050 (by decide +kernel) rfl, gT_in 1041 (by decide +kernel) rfl⟩ lkX3_tells.1 ⟨by decide, by decide, lkX3_tells.2.2.2⟩ dX11_act_116 rfl rfl (Nat.le_of_ble_eq_true rfl) (by decide) ⟨rfl, rfl, by decide, by decide⟩ ?_
    rintro h3 ⟨q3, F3⟩
    have t3 : h3.1 q = _ := (F3.2 q hd).trans t2
    obtain ⟨rv, hrv⟩ : ∃ rv : Int32 × TR, rv = tT0 1 (nI p1) ow x1v (tZ S) := ⟨_, rfl⟩
    rw [← hrv] at q3 ⊢
    have o3 : h3.1 x = _ := (F3.2 x (by omega)).trans o2
    have r3 := q3.1.2.1
    have p3 : rv.2.2.2 ≤ 1 := q3.2
    refine x_ist_5 dX11_act_119 (by decide) rfl ?_
    refine x_aload_n dX11_act_121 rfl ?_
    refine x_get fX11_58 o3 rfl dX11_act_122 ?_
    refine x_get fX11_321 r3 rfl dX11_act_125 ?_
    refine x_if_eq 136 dX11_act_128 (by decide) (fun c128 => ?_) (fun c128 => ?_)
    · refine x_iload dX11_act_136 rfl ?_
      refine x_iret rfl dX11_act_138 ⟨by decide, by decide⟩ ?_
      have ET : tR S (nI f1) cc x1v = rv := by rw [hrv, tR, iN_nI (by omega), hpe, kk, ← how]; rw [tA]; exact ((if_neg c54_0).trans ((if_neg c54_1).trans (if_neg c54_2))).trans ef_tells_1
      have pz : nI rv.2.2.2 = 0 ↔ rv.2.2.2 = 0 := nI_z (Nat.lt_of_le_of_lt p3 (by decide))
      refine finY (Py.tr F1 x1 z2 k2 F3 q3 rfl) ?_
      (rw [oAct, if_pos ⟨c12, c20, yes⟩, ET, if_pos (pz.mp c128)]) <;> rfl
    · refine x_bipush (v := -15) dX11_act_131 (by decide) ?_
      refine x_goto 138 dX11_act_133 (by decide) ?_
      refine x_iret rfl dX11_act_138 ⟨by decide, by decide⟩ ?_
      have ET : tR S (nI f1) cc x1v = rv := by rw [hrv, tR, iN_nI (by omega), hpe, kk, ← how]; rw [tA]; exact ((if_neg c54_0).trans ((if_neg c54_1).trans (if_neg c54_2))).trans ef_tells_1
      have pz : nI rv.2.2.2 = 0 ↔ rv.2.2.2 = 0 := nI_z (Nat.lt_of_le_of_lt p3 (by decide))
      refine finY (Py.tr F1 x1 z2 k2 F3 q3 rfl) ?_
      (rw [oAct, if_pos ⟨c12, c20, yes⟩, ET, if_neg (fun z => c128 (pz.mpr z))]) <;> rfl
set_option maxHeartbeats 4000000 in
theorem c_X11_act51_2 {g : gG} {h h1 h2 : gH} {x q p1 f1 : Nat} {D : Nat → Prop} {S : AS} {cc x1v ow : Int32} (hf : f1 < 4) (c12 : bl (nI f1) 4 = true) (c20 : bl cc 4 = true) (yes : (S.2.2.2.2.2.1 (iN (nI f1))).1 = 1 ∧ (S.2.2.2.2.2.1 (iN (nI f1))).2.1 < S.1.1 0) (hpe : (S.2.2.2.2.2.1 f1).2.1 = p1) (how : ow = nI (S.1.2.2 3 p1)) (F1 : Fr (x + 48) 2 h h1) (x1 : isX h1 x D (trS S (0, S.2.2.2.2.2.2.2))) (z2 : h2.2 = h1.2 + 1) (k2 : ∀ a, a < h1.2 → h2.1 a = h1.1 a) (hd : q < x + 48 ∨ x + 48 + 2 ≤ q) (o2 : h2.1 x = some (.inr (11, xF x S.2.1.1 S.2.2.2.1.1))) (q2 : isQ h2 (x + 48) (tZ S)) (kk : S.1.2.2 0 p1 = 2) (t2 : h2.1 q = some (.inr (9, thF (nI p1) ow (x + 48)))) : Ex g mX11_act (gZm g mX11_act (fun o h' => o = some (.int (oAct S (nI f1) cc x1v).1) ∧ Py x D (oAct S (nI f1) cc x1v).2 h h')) 51 [some (.ref x), some (.int (nI f1)), some (.int cc), some (.int x1v), none, none] [.ref q] h2 1 3 := by
  refine x_ast_4 dX11_act_51 (by decide) rfl ?_
  refine x_iload_n dX11_act_53 rfl ?_
  refine swX11_act_54 (fun c54 => ?_) (fun c54 => ?_) (fun c54 => ?_) (fun c54_0 c54_1 c54_2 => ?_)
  · refine x_aload dX11_act_80 rfl ?_
    refine x_iload_n dX11_act_82 rfl ?_
    refine x_cvU (x := ⟨"HeldPaths$PathThing", "leads", "(I)I"⟩) (owner := "HeldPaths$PathThing") (c_X9_leads_9 q2 t2 hd) t2 lkX9_leads rfl ⟨gT_in 971 (by decide +kernel) rfl, gT_in 974 (by decide +kernel) rfl, gT_in 972 (by decide +kernel) rfl, gT_in 992 (by decide +kernel) rfl, gT_in 993 (by decide +kernel) rfl⟩ lkX3_leads.1 ⟨by decide, by decide, lkX3_leads.2.2.2⟩ dX11_act_83 rfl rfl (Nat.le_of_ble_eq_true rfl) (by decide) ⟨rfl, rfl, by decide, by decide⟩ ?_
    rintro h3 ⟨q3, F3⟩
    have t3 : h3.1 q = _ := (F3.2 q hd).trans t2
    obtain ⟨rv, hrv⟩ : ∃ rv : Int32 × TR, rv = tL 2 (nI p1) x1v (tZ S) := ⟨_, rfl⟩
    rw [← hrv] at q3 ⊢
    have o3 : h3.1 x = _ := (F3.2 x (by omega)).trans o2
    have r3 := q3.1.2.1
    have p3 : rv.2.2.2 ≤ 1 := q3.2
    refine x_ist_5 dX11_act_86 (by decide) rfl ?_
    refine x_goto 121 dX11_act_88 (by decide) ?_
    refine x_aload_n dX11_act_121 rfl ?_
    refine x_get fX11_58 o3 rfl dX11_act_122 ?_
    refine x_get fX11_321 r3 rfl dX11_act_125 ?_
    refine x_if_eq 136 dX11_act_128 (by decide) (fun c128 => ?_) (fun c128 => ?_)
    · refine x_iload dX11_act_136 rfl ?_
      refine x_iret rfl dX11_act_138 ⟨by decide, by decide⟩ ?_
      have ET : tR S (nI f1) cc x1v = rv := by rw [hrv, tR, iN_nI (by omega), hpe, kk, ← how]; exact (if_pos c54).trans ef_leads_2
      have pz : nI rv.2.2.2 = 0 ↔ rv.2.2.2 = 0 := nI_z (Nat.lt_of_le_of_lt p3 (by decide))
      refine finY (Py.tr F1 x1 z2 k2 F3 q3 rfl) ?_
      (rw [oAct, if_pos ⟨c12, c20, yes⟩, ET, if_pos (pz.mp c128)]) <;> rfl
    · refine x_bipush (v := -15) dX11_act_131 (by decide) ?_
      refine x_goto 138 dX11_act_133 (by decide) ?_
      refine x_iret rfl dX11_act_138 ⟨by decide, by decide⟩ ?_
      have ET : tR S (nI f1) cc x1v = rv := by rw [hrv, tR, iN_nI (by omega), hpe, kk, ← how]; exact (if_pos c54).trans ef_leads_2
      have pz : nI rv.2.2.2 = 0 ↔ rv.2.2.2 = 0 := nI_z (Nat.lt_of_le_of_lt p3 (by decide))
      refine finY (Py.tr F1 x1 z2 k2 F3 q3 rfl) ?_
      (rw [oAct, if_pos ⟨c12, c20, yes⟩, ET, if_neg (fun z => c128 (pz.mpr z))]) <;> rfl
  · refine x_aload dX11_act_91 rfl ?_
    refine x_iload_n dX11_act_93 rfl ?_
    refine x_cvU (x := ⟨"HeldPaths$PathThing", "stays", "(I)I"⟩) (owner := "HeldPaths$PathThing") (c_X3_stays_9 q2 t2 hd) t2 lkX3_stays rfl ⟨gT_in 999 (by decide +kernel) rfl, gT_in 1002 (by decide +kernel) rfl, gT_in 1000 (by decide +kernel) rfl, gT_in 1015 (by decide +kernel) rfl, gT_in 1000 (by decide +kernel) rfl⟩ lkX3_stays.1 ⟨by decide, by decide, lkX3_stays.2.2.2⟩ dX11_act_94 rfl rfl (Nat.le_of_ble_eq_true rfl) (by decide) ⟨rfl, rfl, by decide, by decide⟩ ?_
    rintro h3 ⟨q3, F3⟩
    have t3 : h3.1 q = _ := (F3.2 q hd).trans t2
    obtain ⟨rv, hrv⟩ : ∃ rv : Int32 × TR, rv = tS0 2 (nI p1) x1v (tZ S) := ⟨_, rfl⟩
    rw [← hrv] at q3 ⊢
    have o3 : h3.1 x = _ := (F3.2 x (by omega)).trans o2
    have r3 := q3.1.2.1
    have p3 : rv.2.2.2 ≤ 1 := q3.2
    refine x_ist_5 dX11_act_97 (by decide) rfl ?_
    refine x_goto 121 dX11_act_99 (by decide) ?_
    refine x_aload_n dX11_act_121 rfl ?_
    refine x_get fX11_58 o3 rfl dX11_act_122 ?_
    refine x_get fX11_321 r3 rfl dX11_act_125 ?_
    refine x_if_eq 136 dX11_act_128 (by decide) (fun c128 => ?_) (fun c128 => ?_)
    · refine x_iload dX11_act_136 rfl ?_
      refine x_iret rfl dX11_act_138 ⟨by decide, by decide⟩ ?_
      have ET : tR S (nI f1) cc x1v = rv := by rw [hrv, tR, iN_nI (by omega), hpe, kk, ← how]; rw [tA, c54]; exact ((if_neg (by decide)).trans (if_pos rfl)).trans ef_stays_2
      have pz : nI rv.2.2.2 = 0 ↔ rv.2.2.2 = 0 := nI_z (Nat.lt_of_le_of_lt p3 (by decide))
      refine finY (Py.tr F1 x1 z2 k2 F3 q3 rfl) ?_
      (rw [oAct, if_pos ⟨c12, c20, yes⟩, ET, if_pos (pz.mp c128)]) <;> rfl
    · refine x_bipush (v := -15) dX11_act_131 (by decide) ?_
      refine x_goto 138 dX11_act_133 (by decide) ?_
      refine x_iret rfl dX11_act_138 ⟨by decide, by decide⟩ ?_
      have ET : tR S (nI f1) cc x1v = rv := by rw [hrv, tR, iN_nI (by omega), hpe, kk, ← how]; rw [tA, c54]; exact ((if_neg (by decide)).trans (if_pos rfl)).trans ef_stays_2
      have pz : nI rv.2.2.2 = 0 ↔ rv.2.2.2 = 0 := nI_z (Nat.lt_of_le_of_lt p3 (by decide))
      refine finY (Py.tr F1 x1 z2 k2 F3 q3 rfl) ?_
      (rw [oAct, if_pos ⟨c12, c20, yes⟩, ET, if_neg (fun z => c128 (pz.mpr z))]) <;> rfl
  · refine x_aload dX11_act_102 rfl ?_
    refine x_iload_n dX11_act_104 rfl ?_
    refine x_cvU (x := ⟨"HeldPaths$PathThing", "shares", "(I)I"⟩) (owner := "HeldPaths$PathThing") (c_X3_shares_9 q2 t2 hd) t2 lkX3_shares rfl ⟨gT_in 1018 (by decide +kernel) rfl, gT_in 1021 (by decide +kernel) rfl, gT_in 1019 (by decide +kernel) rfl, gT_in 1038 (by decide +kernel) rfl, gT_in 1019 (by decide +kernel) rfl⟩ lkX3_shares.1 ⟨by decide, by decide, lkX3_shares.2.2.2⟩ dX11_act_105 rfl rfl (Nat.le_of_ble_eq_true rfl) (by decide) ⟨rfl, rfl, by decide, by decide⟩ ?_
    rintro h3 ⟨q3, F3⟩
    have t3 : h3.1 q = _ := (F3.2 q hd).trans t2
    obtain ⟨rv, hrv⟩ : ∃ rv : Int32 × TR, rv = tH0 (nI p1) ow x1v (tZ S) := ⟨_, rfl⟩
    rw [← hrv] at q3 ⊢
    have o3 : h3.1 x = _ := (F3.2 x (by omega)).trans o2
    have r3 := q3.1.2.1
    have p3 : rv.2.2.2 ≤ 1 := q3.2
    refine x_ist_5 dX11_act_108 (by decide) rfl ?_
    refine x_goto 121 dX11_act_110 (by decide) ?_
    refine x_aload_n dX11_act_121 rfl ?_
    refine x_get fX11_58 o3 rfl dX11_act_122 ?_
    refine x_get fX11_321 r3 rfl dX11_act_125 ?_
    refine x_if_eq 136 dX11_act_128 (by decide) (fun c128 => ?_) (fun c128 => ?_)
    · refine x_iload dX11_act_136 rfl ?_
      refine x_iret rfl dX11_act_138 ⟨by decide, by decide⟩ ?_
      have ET : tR S (nI f1) cc x1v = rv := by rw [hrv, tR, iN_nI (by omega), hpe, kk, ← how]; rw [tA, c54]; exact ((if_neg (by decide)).trans ((if_neg (by decide)).trans (if_pos rfl))).trans ef_shares_2
      have pz : nI rv.2.2.2 = 0 ↔ rv.2.2.2 = 0 := nI_z (Nat.lt_of_le_of_lt p3 (by decide))
      refine finY (Py.tr F1 x1 z2 k2 F3 q3 rfl) ?_
      (rw [oAct, if_pos ⟨c12, c20, yes⟩, ET, if_pos (pz.mp c128)]) <;> rfl
    · refine x_bipush (v := -15) dX11_act_131 (by decide) ?_
      refine x_goto 138 dX11_act_133 (by decide) ?_
      refine x_iret rfl dX11_act_138 ⟨by decide, by decide⟩ ?_
      have ET : tR S (nI f1) cc x1v = rv := by rw [hrv, tR, iN_nI (by omega), hpe, kk, ← how]; rw [tA, c54]; exact ((if_neg (by decide)).trans ((if_neg (by decide)).trans (if_pos rfl))).trans ef_shares_2
      have pz : nI rv.2.2.2 = 0 ↔ rv.2.2.2 = 0 := nI_z (Nat.lt_of_le_of_lt p3 (by decide))
      refine finY (Py.tr F1 x1 z2 k2 F3 q3 rfl) ?_
      (rw [oAct, if_pos ⟨c12, c20, yes⟩, ET, if_neg (fun z => c128 (pz.mpr z))]) <;> rfl
  · refine x_aload dX11_act_113 rfl ?_
    refine x_iload_n dX11_act_115 rfl ?_
    refine x_cvU (x := ⟨"HeldPaths$PathThing", "tells", "(I)I"⟩) (owner := "HeldPaths$PathThing") (c_X9_tells_9 q2 t2 hd) t2 lkX9_tells rfl ⟨gT_in 1040 (by decide +kernel) rfl, gT_in 1043 (by decide +kernel) rfl, gT_in 1041 (by decide +kernel) rfl, gT_in 1051 (by decide +kernel) rfl, gT_in 1052 (by decide +kernel) rfl⟩ lkX3_tells.1 ⟨by decide, by decide, lkX3_tells.2.2.2⟩ dX11_act_116 rfl rfl (Nat.le_of_ble_eq_true rfl) (by decide) ⟨rfl, rfl, by decide, by decide⟩ ?_
    rintro h3 ⟨q3, F3⟩
    have t3 : h3.1 q = _ := (F3.2 q hd).trans t2
    obtain ⟨rv, hrv⟩ : ∃ rv : Int32 × TR, rv = tT 2 (nI p1) ow x1v (tZ S) := ⟨_, rfl⟩
    rw [← hrv] at q3 ⊢
    have o3 : h3.1 x = _ := (F3.2 x (by omega)).trans o2
    have r3 := q3.1.2.1
    have p3 : rv.2.2.2 ≤ 1 := q3.2
    refine x_ist_5 dX11_act_119 (by decide) rfl ?_
    refine x_aload_n dX11_act_121 rfl ?_
    refine x_get fX11_58 o3 rfl dX11_act_122 ?_
    refine x_get fX11_321 r3 rfl dX11_act_125 ?_
    refine x_if_eq 136 dX11_act_128 (by decide) (fun c128 => ?_) (fun c128 => ?_)
    · refine x_iload dX11_act_136 rfl ?_
      refine x_iret rfl dX11_act_138 ⟨by decide, by decide⟩ ?_
      have ET : tR S (nI f1) cc x1v = rv := by rw [hrv, tR, iN_nI (by omega), hpe, kk, ← how]; rw [tA]; exact ((if_neg c54_0).trans ((if_neg c54_1).trans (if_neg c54_2))).trans ef_tells_2
      have pz : nI rv.2.2.2 = 0 ↔ rv.2.2.2 = 0 := nI_z (Nat.lt_of_le_of_lt p3 (by decide))
      refine finY (Py.tr F1 x1 z2 k2 F3 q3 rfl) ?_
      (rw [oAct, if_pos ⟨c12, c20, yes⟩, ET, if_pos (pz.mp c128)]) <;> rfl
    · refine x_bipush (v := -15) dX11_act_131 (by decide) ?_
      refine x_goto 138 dX11_act_133 (by decide) ?_
      refine x_iret rfl dX11_act_138 ⟨by decide, by decide⟩ ?_
      have ET : tR S (nI f1) cc x1v = rv := by rw [hrv, tR, iN_nI (by omega), hpe, kk, ← how]; rw [tA]; exact ((if_neg c54_0).trans ((if_neg c54_1).trans (if_neg c54_2))).trans ef_tells_2
      have pz : nI rv.2.2.2 = 0 ↔ rv.2.2.2 = 0 := nI_z (Nat.lt_of_le_of_lt p3 (by decide))
      refine finY (Py.tr F1 x1 z2 k2 F3 q3 rfl) ?_
      (rw [oAct, if_pos ⟨c12, c20, yes⟩, ET, if_neg (fun z => c128 (pz.mpr z))]) <;> rfl
set_option maxHeartbeats 4000000 in
theorem c_X11_act51_3 {g : gG} {h h1 h2 : gH} {x q p1 f1 : Nat} {D : Nat → Prop} {S : AS} {cc x1v ow : Int32} (hf : f1 < 4) (c12 : bl (nI f1) 4 = true) (c20 : bl cc 4 = true) (yes : (S.2.2.2.2.2.1 (iN (nI f1))).1 = 1 ∧ (S.2.2.2.2.2.1 (iN (nI f1))).2.1 < S.1.1 0) (hpe : (S.2.2.2.2.2.1 f1).2.1 = p1) (how : ow = nI (S.1.2.2 3 p1)) (F1 : Fr (x + 48) 2 h h1) (x1 : isX h1 x D (trS S (0, S.2.2.2.2.2.2.2))) (z2 : h2.2 = h1.2 + 1) (k2 : ∀ a, a < h1.2 → h2.1 a = h1.1 a) (hd : q < x + 48 ∨ x + 48 + 2 ≤ q) (o2 : h2.1 x = some (.inr (11, xF x S.2.1.1 S.2.2.2.1.1))) (q2 : isQ h2 (x + 48) (tZ S)) (kk : S.1.2.2 0 p1 = 3) (t2 : h2.1 q = some (.inr (2, thF (nI p1) ow (x + 48)))) : Ex g mX11_act (gZm g mX11_act (fun o h' => o = some (.int (oAct S (nI f1) cc x1v).1) ∧ Py x D (oAct S (nI f1) cc x1v).2 h h')) 51 [some (.ref x), some (.int (nI f1)), some (.int cc), some (.int x1v), none, none] [.ref q] h2 1 3 := by
  refine x_ast_4 dX11_act_51 (by decide) rfl ?_
  refine x_iload_n dX11_act_53 rfl ?_
  refine swX11_act_54 (fun c54 => ?_) (fun c54 => ?_) (fun c54 => ?_) (fun c54_0 c54_1 c54_2 => ?_)
  · refine x_aload dX11_act_80 rfl ?_
    refine x_iload_n dX11_act_82 rfl ?_
    refine x_cvU (x := ⟨"HeldPaths$PathThing", "leads", "(I)I"⟩) (owner := "HeldPaths$PathThing") (c_X2_leads_2 q2 t2 hd) t2 lkX2_leads rfl ⟨gT_in 971 (by decide +kernel) rfl, gT_in 974 (by decide +kernel) rfl, gT_in 972 (by decide +kernel) rfl, gT_in 985 (by decide +kernel) rfl, gT_in 986 (by decide +kernel) rfl⟩ lkX3_leads.1 ⟨by decide, by decide, lkX3_leads.2.2.2⟩ dX11_act_83 rfl rfl (Nat.le_of_ble_eq_true rfl) (by decide) ⟨rfl, rfl, by decide, by decide⟩ ?_
    rintro h3 ⟨q3, F3⟩
    have t3 : h3.1 q = _ := (F3.2 q hd).trans t2
    obtain ⟨rv, hrv⟩ : ∃ rv : Int32 × TR, rv = tL 3 (nI p1) x1v (tZ S) := ⟨_, rfl⟩
    rw [← hrv] at q3 ⊢
    have o3 : h3.1 x = _ := (F3.2 x (by omega)).trans o2
    have r3 := q3.1.2.1
    have p3 : rv.2.2.2 ≤ 1 := q3.2
    refine x_ist_5 dX11_act_86 (by decide) rfl ?_
    refine x_goto 121 dX11_act_88 (by decide) ?_
    refine x_aload_n dX11_act_121 rfl ?_
    refine x_get fX11_58 o3 rfl dX11_act_122 ?_
    refine x_get fX11_321 r3 rfl dX11_act_125 ?_
    refine x_if_eq 136 dX11_act_128 (by decide) (fun c128 => ?_) (fun c128 => ?_)
    · refine x_iload dX11_act_136 rfl ?_
      refine x_iret rfl dX11_act_138 ⟨by decide, by decide⟩ ?_
      have ET : tR S (nI f1) cc x1v = rv := by rw [hrv, tR, iN_nI (by omega), hpe, kk, ← how]; exact (if_pos c54).trans ef_leads_3
      have pz : nI rv.2.2.2 = 0 ↔ rv.2.2.2 = 0 := nI_z (Nat.lt_of_le_of_lt p3 (by decide))
      refine finY (Py.tr F1 x1 z2 k2 F3 q3 rfl) ?_
      (rw [oAct, if_pos ⟨c12, c20, yes⟩, ET, if_pos (pz.mp c128)]) <;> rfl
    · refine x_bipush (v := -15) dX11_act_131 (by decide) ?_
      refine x_goto 138 dX11_act_133 (by decide) ?_
      refine x_iret rfl dX11_act_138 ⟨by decide, by decide⟩ ?_
      have ET : tR S (nI f1) cc x1v = rv := by rw [hrv, tR, iN_nI (by omega), hpe, kk, ← how]; exact (if_pos c54).trans ef_leads_3
      have pz : nI rv.2.2.2 = 0 ↔ rv.2.2.2 = 0 := nI_z (Nat.lt_of_le_of_lt p3 (by decide))
      refine finY (Py.tr F1 x1 z2 k2 F3 q3 rfl) ?_
      (rw [oAct, if_pos ⟨c12, c20, yes⟩, ET, if_neg (fun z => c128 (pz.mpr z))]) <;> rfl
  · refine x_aload dX11_act_91 rfl ?_
    refine x_iload_n dX11_act_93 rfl ?_
    refine x_cvU (x := ⟨"HeldPaths$PathThing", "stays", "(I)I"⟩) (owner := "HeldPaths$PathThing") (c_X2_stays_2 q2 t2 hd) t2 lkX2_stays rfl ⟨gT_in 999 (by decide +kernel) rfl, gT_in 1002 (by decide +kernel) rfl, gT_in 1000 (by decide +kernel) rfl, gT_in 1008 (by decide +kernel) rfl, gT_in 1009 (by decide +kernel) rfl⟩ lkX3_stays.1 ⟨by decide, by decide, lkX3_stays.2.2.2⟩ dX11_act_94 rfl rfl (Nat.le_of_ble_eq_true rfl) (by decide) ⟨rfl, rfl, by decide, by decide⟩ ?_
    rintro h3 ⟨q3, F3⟩
    have t3 : h3.1 q = _ := (F3.2 q hd).trans t2
    obtain ⟨rv, hrv⟩ : ∃ rv : Int32 × TR, rv = tS 3 (nI p1) ow x1v (tZ S) := ⟨_, rfl⟩
    rw [← hrv] at q3 ⊢
    have o3 : h3.1 x = _ := (F3.2 x (by omega)).trans o2
    have r3 := q3.1.2.1
    have p3 : rv.2.2.2 ≤ 1 := q3.2
    refine x_ist_5 dX11_act_97 (by decide) rfl ?_
    refine x_goto 121 dX11_act_99 (by decide) ?_
    refine x_aload_n dX11_act_121 rfl ?_
    refine x_get fX11_58 o3 rfl dX11_act_122 ?_
    refine x_get fX11_321 r3 rfl dX11_act_125 ?_
    refine x_if_eq 136 dX11_act_128 (by decide) (fun c128 => ?_) (fun c128 => ?_)
    · refine x_iload dX11_act_136 rfl ?_
      refine x_iret rfl dX11_act_138 ⟨by decide, by decide⟩ ?_
      have ET : tR S (nI f1) cc x1v = rv := by rw [hrv, tR, iN_nI (by omega), hpe, kk, ← how]; rw [tA, c54]; exact ((if_neg (by decide)).trans (if_pos rfl)).trans ef_stays_3
      have pz : nI rv.2.2.2 = 0 ↔ rv.2.2.2 = 0 := nI_z (Nat.lt_of_le_of_lt p3 (by decide))
      refine finY (Py.tr F1 x1 z2 k2 F3 q3 rfl) ?_
      (rw [oAct, if_pos ⟨c12, c20, yes⟩, ET, if_pos (pz.mp c128)]) <;> rfl
    · refine x_bipush (v := -15) dX11_act_131 (by decide) ?_
      refine x_goto 138 dX11_act_133 (by decide) ?_
      refine x_iret rfl dX11_act_138 ⟨by decide, by decide⟩ ?_
      have ET : tR S (nI f1) cc x1v = rv := by rw [hrv, tR, iN_nI (by omega), hpe, kk, ← how]; rw [tA, c54]; exact ((if_neg (by decide)).trans (if_pos rfl)).trans ef_stays_3
      have pz : nI rv.2.2.2 = 0 ↔ rv.2.2.2 = 0 := nI_z (Nat.lt_of_le_of_lt p3 (by decide))
      refine finY (Py.tr F1 x1 z2 k2 F3 q3 rfl) ?_
      (rw [oAct, if_pos ⟨c12, c20, yes⟩, ET, if_neg (fun z => c128 (pz.mpr z))]) <;> rfl
  · refine x_aload dX11_act_102 rfl ?_
    refine x_iload_n dX11_act_104 rfl ?_
    refine x_cvU (x := ⟨"HeldPaths$PathThing", "shares", "(I)I"⟩) (owner := "HeldPaths$PathThing") (c_X3_shares_2 q2 t2 hd) t2 lkX3_shares rfl ⟨gT_in 1018 (by decide +kernel) rfl, gT_in 1021 (by decide +kernel) rfl, gT_in 1019 (by decide +kernel) rfl, gT_in 1028 (by decide +kernel) rfl, gT_in 1019 (by decide +kernel) rfl⟩ lkX3_shares.1 ⟨by decide, by decide, lkX3_shares.2.2.2⟩ dX11_act_105 rfl rfl (Nat.le_of_ble_eq_true rfl) (by decide) ⟨rfl, rfl, by decide, by decide⟩ ?_
    rintro h3 ⟨q3, F3⟩
    have t3 : h3.1 q = _ := (F3.2 q hd).trans t2
    obtain ⟨rv, hrv⟩ : ∃ rv : Int32 × TR, rv = tH0 (nI p1) ow x1v (tZ S) := ⟨_, rfl⟩
    rw [← hrv] at q3 ⊢
    have o3 : h3.1 x = _ := (F3.2 x (by omega)).trans o2
    have r3 := q3.1.2.1
    have p3 : rv.2.2.2 ≤ 1 := q3.2
    refine x_ist_5 dX11_act_108 (by decide) rfl ?_
    refine x_goto 121 dX11_act_110 (by decide) ?_
    refine x_aload_n dX11_act_121 rfl ?_
    refine x_get fX11_58 o3 rfl dX11_act_122 ?_
    refine x_get fX11_321 r3 rfl dX11_act_125 ?_
    refine x_if_eq 136 dX11_act_128 (by decide) (fun c128 => ?_) (fun c128 => ?_)
    · refine x_iload dX11_act_136 rfl ?_
      refine x_iret rfl dX11_act_138 ⟨by decide, by decide⟩ ?_
      have ET : tR S (nI f1) cc x1v = rv := by rw [hrv, tR, iN_nI (by omega), hpe, kk, ← how]; rw [tA, c54]; exact ((if_neg (by decide)).trans ((if_neg (by decide)).trans (if_pos rfl))).trans ef_shares_3
      have pz : nI rv.2.2.2 = 0 ↔ rv.2.2.2 = 0 := nI_z (Nat.lt_of_le_of_lt p3 (by decide))
      refine finY (Py.tr F1 x1 z2 k2 F3 q3 rfl) ?_
      (rw [oAct, if_pos ⟨c12, c20, yes⟩, ET, if_pos (pz.mp c128)]) <;> rfl
    · refine x_bipush (v := -15) dX11_act_131 (by decide) ?_
      refine x_goto 138 dX11_act_133 (by decide) ?_
      refine x_iret rfl dX11_act_138 ⟨by decide, by decide⟩ ?_
      have ET : tR S (nI f1) cc x1v = rv := by rw [hrv, tR, iN_nI (by omega), hpe, kk, ← how]; rw [tA, c54]; exact ((if_neg (by decide)).trans ((if_neg (by decide)).trans (if_pos rfl))).trans ef_shares_3
      have pz : nI rv.2.2.2 = 0 ↔ rv.2.2.2 = 0 := nI_z (Nat.lt_of_le_of_lt p3 (by decide))
      refine finY (Py.tr F1 x1 z2 k2 F3 q3 rfl) ?_
      (rw [oAct, if_pos ⟨c12, c20, yes⟩, ET, if_neg (fun z => c128 (pz.mpr z))]) <;> rfl
  · refine x_aload dX11_act_113 rfl ?_
    refine x_iload_n dX11_act_115 rfl ?_
    refine x_cvU (x := ⟨"HeldPaths$PathThing", "tells", "(I)I"⟩) (owner := "HeldPaths$PathThing") (c_X3_tells_2 q2 t2 hd) t2 lkX3_tells rfl ⟨gT_in 1040 (by decide +kernel) rfl, gT_in 1043 (by decide +kernel) rfl, gT_in 1041 (by decide +kernel) rfl, gT_in 1045 (by decide +kernel) rfl, gT_in 1041 (by decide +kernel) rfl⟩ lkX3_tells.1 ⟨by decide, by decide, lkX3_tells.2.2.2⟩ dX11_act_116 rfl rfl (Nat.le_of_ble_eq_true rfl) (by decide) ⟨rfl, rfl, by decide, by decide⟩ ?_
    rintro h3 ⟨q3, F3⟩
    have t3 : h3.1 q = _ := (F3.2 q hd).trans t2
    obtain ⟨rv, hrv⟩ : ∃ rv : Int32 × TR, rv = tT0 3 (nI p1) ow x1v (tZ S) := ⟨_, rfl⟩
    rw [← hrv] at q3 ⊢
    have o3 : h3.1 x = _ := (F3.2 x (by omega)).trans o2
    have r3 := q3.1.2.1
    have p3 : rv.2.2.2 ≤ 1 := q3.2
    refine x_ist_5 dX11_act_119 (by decide) rfl ?_
    refine x_aload_n dX11_act_121 rfl ?_
    refine x_get fX11_58 o3 rfl dX11_act_122 ?_
    refine x_get fX11_321 r3 rfl dX11_act_125 ?_
    refine x_if_eq 136 dX11_act_128 (by decide) (fun c128 => ?_) (fun c128 => ?_)
    · refine x_iload dX11_act_136 rfl ?_
      refine x_iret rfl dX11_act_138 ⟨by decide, by decide⟩ ?_
      have ET : tR S (nI f1) cc x1v = rv := by rw [hrv, tR, iN_nI (by omega), hpe, kk, ← how]; rw [tA]; exact ((if_neg c54_0).trans ((if_neg c54_1).trans (if_neg c54_2))).trans ef_tells_3
      have pz : nI rv.2.2.2 = 0 ↔ rv.2.2.2 = 0 := nI_z (Nat.lt_of_le_of_lt p3 (by decide))
      refine finY (Py.tr F1 x1 z2 k2 F3 q3 rfl) ?_
      (rw [oAct, if_pos ⟨c12, c20, yes⟩, ET, if_pos (pz.mp c128)]) <;> rfl
    · refine x_bipush (v := -15) dX11_act_131 (by decide) ?_
      refine x_goto 138 dX11_act_133 (by decide) ?_
      refine x_iret rfl dX11_act_138 ⟨by decide, by decide⟩ ?_
      have ET : tR S (nI f1) cc x1v = rv := by rw [hrv, tR, iN_nI (by omega), hpe, kk, ← how]; rw [tA]; exact ((if_neg c54_0).trans ((if_neg c54_1).trans (if_neg c54_2))).trans ef_tells_3
      have pz : nI rv.2.2.2 = 0 ↔ rv.2.2.2 = 0 := nI_z (Nat.lt_of_le_of_lt p3 (by decide))
      refine finY (Py.tr F1 x1 z2 k2 F3 q3 rfl) ?_
      (rw [oAct, if_pos ⟨c12, c20, yes⟩, ET, if_neg (fun z => c128 (pz.mpr z))]) <;> rfl
set_option maxHeartbeats 4000000 in
theorem c_X11_act51_4 {g : gG} {h h1 h2 : gH} {x q p1 f1 : Nat} {D : Nat → Prop} {S : AS} {cc x1v ow : Int32} (hf : f1 < 4) (c12 : bl (nI f1) 4 = true) (c20 : bl cc 4 = true) (yes : (S.2.2.2.2.2.1 (iN (nI f1))).1 = 1 ∧ (S.2.2.2.2.2.1 (iN (nI f1))).2.1 < S.1.1 0) (hpe : (S.2.2.2.2.2.1 f1).2.1 = p1) (how : ow = nI (S.1.2.2 3 p1)) (F1 : Fr (x + 48) 2 h h1) (x1 : isX h1 x D (trS S (0, S.2.2.2.2.2.2.2))) (z2 : h2.2 = h1.2 + 1) (k2 : ∀ a, a < h1.2 → h2.1 a = h1.1 a) (hd : q < x + 48 ∨ x + 48 + 2 ≤ q) (o2 : h2.1 x = some (.inr (11, xF x S.2.1.1 S.2.2.2.1.1))) (q2 : isQ h2 (x + 48) (tZ S)) (kk : S.1.2.2 0 p1 = 4) (t2 : h2.1 q = some (.inr (0, thF (nI p1) ow (x + 48)))) : Ex g mX11_act (gZm g mX11_act (fun o h' => o = some (.int (oAct S (nI f1) cc x1v).1) ∧ Py x D (oAct S (nI f1) cc x1v).2 h h')) 51 [some (.ref x), some (.int (nI f1)), some (.int cc), some (.int x1v), none, none] [.ref q] h2 1 3 := by
  refine x_ast_4 dX11_act_51 (by decide) rfl ?_
  refine x_iload_n dX11_act_53 rfl ?_
  refine swX11_act_54 (fun c54 => ?_) (fun c54 => ?_) (fun c54 => ?_) (fun c54_0 c54_1 c54_2 => ?_)
  · refine x_aload dX11_act_80 rfl ?_
    refine x_iload_n dX11_act_82 rfl ?_
    refine x_cvU (x := ⟨"HeldPaths$PathThing", "leads", "(I)I"⟩) (owner := "HeldPaths$PathThing") (c_X0_leads_0 q2 t2 hd) t2 lkX0_leads rfl ⟨gT_in 971 (by decide +kernel) rfl, gT_in 974 (by decide +kernel) rfl, gT_in 972 (by decide +kernel) rfl, gT_in 975 (by decide +kernel) rfl, gT_in 976 (by decide +kernel) rfl⟩ lkX3_leads.1 ⟨by decide, by decide, lkX3_leads.2.2.2⟩ dX11_act_83 rfl rfl (Nat.le_of_ble_eq_true rfl) (by decide) ⟨rfl, rfl, by decide, by decide⟩ ?_
    rintro h3 ⟨q3, F3⟩
    have t3 : h3.1 q = _ := (F3.2 q hd).trans t2
    obtain ⟨rv, hrv⟩ : ∃ rv : Int32 × TR, rv = tL 4 (nI p1) x1v (tZ S) := ⟨_, rfl⟩
    rw [← hrv] at q3 ⊢
    have o3 : h3.1 x = _ := (F3.2 x (by omega)).trans o2
    have r3 := q3.1.2.1
    have p3 : rv.2.2.2 ≤ 1 := q3.2
    refine x_ist_5 dX11_act_86 (by decide) rfl ?_
    refine x_goto 121 dX11_act_88 (by decide) ?_
    refine x_aload_n dX11_act_121 rfl ?_
    refine x_get fX11_58 o3 rfl dX11_act_122 ?_
    refine x_get fX11_321 r3 rfl dX11_act_125 ?_
    refine x_if_eq 136 dX11_act_128 (by decide) (fun c128 => ?_) (fun c128 => ?_)
    · refine x_iload dX11_act_136 rfl ?_
      refine x_iret rfl dX11_act_138 ⟨by decide, by decide⟩ ?_
      have ET : tR S (nI f1) cc x1v = rv := by rw [hrv, tR, iN_nI (by omega), hpe, kk, ← how]; exact (if_pos c54).trans ef_leads_4
      have pz : nI rv.2.2.2 = 0 ↔ rv.2.2.2 = 0 := nI_z (Nat.lt_of_le_of_lt p3 (by decide))
      refine finY (Py.tr F1 x1 z2 k2 F3 q3 rfl) ?_
      (rw [oAct, if_pos ⟨c12, c20, yes⟩, ET, if_pos (pz.mp c128)]) <;> rfl
    · refine x_bipush (v := -15) dX11_act_131 (by decide) ?_
      refine x_goto 138 dX11_act_133 (by decide) ?_
      refine x_iret rfl dX11_act_138 ⟨by decide, by decide⟩ ?_
      have ET : tR S (nI f1) cc x1v = rv := by rw [hrv, tR, iN_nI (by omega), hpe, kk, ← how]; exact (if_pos c54).trans ef_leads_4
      have pz : nI rv.2.2.2 = 0 ↔ rv.2.2.2 = 0 := nI_z (Nat.lt_of_le_of_lt p3 (by decide))
      refine finY (Py.tr F1 x1 z2 k2 F3 q3 rfl) ?_
      (rw [oAct, if_pos ⟨c12, c20, yes⟩, ET, if_neg (fun z => c128 (pz.mpr z))]) <;> rfl
  · refine x_aload dX11_act_91 rfl ?_
    refine x_iload_n dX11_act_93 rfl ?_
    refine x_cvU (x := ⟨"HeldPaths$PathThing", "stays", "(I)I"⟩) (owner := "HeldPaths$PathThing") (c_X8_stays_0 q2 t2 hd) t2 lkX8_stays rfl ⟨gT_in 999 (by decide +kernel) rfl, gT_in 1002 (by decide +kernel) rfl, gT_in 1000 (by decide +kernel) rfl, gT_in 1003 (by decide +kernel) rfl, gT_in 1004 (by decide +kernel) rfl⟩ lkX3_stays.1 ⟨by decide, by decide, lkX3_stays.2.2.2⟩ dX11_act_94 rfl rfl (Nat.le_of_ble_eq_true rfl) (by decide) ⟨rfl, rfl, by decide, by decide⟩ ?_
    rintro h3 ⟨q3, F3⟩
    have t3 : h3.1 q = _ := (F3.2 q hd).trans t2
    obtain ⟨rv, hrv⟩ : ∃ rv : Int32 × TR, rv = tS1 4 (nI p1) ow x1v (tZ S) := ⟨_, rfl⟩
    rw [← hrv] at q3 ⊢
    have o3 : h3.1 x = _ := (F3.2 x (by omega)).trans o2
    have r3 := q3.1.2.1
    have p3 : rv.2.2.2 ≤ 1 := q3.2
    refine x_ist_5 dX11_act_97 (by decide) rfl ?_
    refine x_goto 121 dX11_act_99 (by decide) ?_
    refine x_aload_n dX11_act_121 rfl ?_
    refine x_get fX11_58 o3 rfl dX11_act_122 ?_
    refine x_get fX11_321 r3 rfl dX11_act_125 ?_
    refine x_if_eq 136 dX11_act_128 (by decide) (fun c128 => ?_) (fun c128 => ?_)
    · refine x_iload dX11_act_136 rfl ?_
      refine x_iret rfl dX11_act_138 ⟨by decide, by decide⟩ ?_
      have ET : tR S (nI f1) cc x1v = rv := by rw [hrv, tR, iN_nI (by omega), hpe, kk, ← how]; rw [tA, c54]; exact ((if_neg (by decide)).trans (if_pos rfl)).trans ef_stays_4
      have pz : nI rv.2.2.2 = 0 ↔ rv.2.2.2 = 0 := nI_z (Nat.lt_of_le_of_lt p3 (by decide))
      refine finY (Py.tr F1 x1 z2 k2 F3 q3 rfl) ?_
      (rw [oAct, if_pos ⟨c12, c20, yes⟩, ET, if_pos (pz.mp c128)]) <;> rfl
    · refine x_bipush (v := -15) dX11_act_131 (by decide) ?_
      refine x_goto 138 dX11_act_133 (by decide) ?_
      refine x_iret rfl dX11_act_138 ⟨by decide, by decide⟩ ?_
      have ET : tR S (nI f1) cc x1v = rv := by rw [hrv, tR, iN_nI (by omega), hpe, kk, ← how]; rw [tA, c54]; exact ((if_neg (by decide)).trans (if_pos rfl)).trans ef_stays_4
      have pz : nI rv.2.2.2 = 0 ↔ rv.2.2.2 = 0 := nI_z (Nat.lt_of_le_of_lt p3 (by decide))
      refine finY (Py.tr F1 x1 z2 k2 F3 q3 rfl) ?_
      (rw [oAct, if_pos ⟨c12, c20, yes⟩, ET, if_neg (fun z => c128 (pz.mpr z))]) <;> rfl
  · refine x_aload dX11_act_102 rfl ?_
    refine x_iload_n dX11_act_104 rfl ?_
    refine x_cvU (x := ⟨"HeldPaths$PathThing", "shares", "(I)I"⟩) (owner := "HeldPaths$PathThing") (c_X0_shares_0 q2 t2 hd) t2 lkX0_shares rfl ⟨gT_in 1018 (by decide +kernel) rfl, gT_in 1021 (by decide +kernel) rfl, gT_in 1019 (by decide +kernel) rfl, gT_in 1022 (by decide +kernel) rfl, gT_in 1023 (by decide +kernel) rfl⟩ lkX3_shares.1 ⟨by decide, by decide, lkX3_shares.2.2.2⟩ dX11_act_105 rfl rfl (Nat.le_of_ble_eq_true rfl) (by decide) ⟨rfl, rfl, by decide, by decide⟩ ?_
    rintro h3 ⟨q3, F3⟩
    have t3 : h3.1 q = _ := (F3.2 q hd).trans t2
    obtain ⟨rv, hrv⟩ : ∃ rv : Int32 × TR, rv = tH 4 (nI p1) ow x1v (tZ S) := ⟨_, rfl⟩
    rw [← hrv] at q3 ⊢
    have o3 : h3.1 x = _ := (F3.2 x (by omega)).trans o2
    have r3 := q3.1.2.1
    have p3 : rv.2.2.2 ≤ 1 := q3.2
    refine x_ist_5 dX11_act_108 (by decide) rfl ?_
    refine x_goto 121 dX11_act_110 (by decide) ?_
    refine x_aload_n dX11_act_121 rfl ?_
    refine x_get fX11_58 o3 rfl dX11_act_122 ?_
    refine x_get fX11_321 r3 rfl dX11_act_125 ?_
    refine x_if_eq 136 dX11_act_128 (by decide) (fun c128 => ?_) (fun c128 => ?_)
    · refine x_iload dX11_act_136 rfl ?_
      refine x_iret rfl dX11_act_138 ⟨by decide, by decide⟩ ?_
      have ET : tR S (nI f1) cc x1v = rv := by rw [hrv, tR, iN_nI (by omega), hpe, kk, ← how]; rw [tA, c54]; exact ((if_neg (by decide)).trans ((if_neg (by decide)).trans (if_pos rfl))).trans ef_shares_4
      have pz : nI rv.2.2.2 = 0 ↔ rv.2.2.2 = 0 := nI_z (Nat.lt_of_le_of_lt p3 (by decide))
      refine finY (Py.tr F1 x1 z2 k2 F3 q3 rfl) ?_
      (rw [oAct, if_pos ⟨c12, c20, yes⟩, ET, if_pos (pz.mp c128)]) <;> rfl
    · refine x_bipush (v := -15) dX11_act_131 (by decide) ?_
      refine x_goto 138 dX11_act_133 (by decide) ?_
      refine x_iret rfl dX11_act_138 ⟨by decide, by decide⟩ ?_
      have ET : tR S (nI f1) cc x1v = rv := by rw [hrv, tR, iN_nI (by omega), hpe, kk, ← how]; rw [tA, c54]; exact ((if_neg (by decide)).trans ((if_neg (by decide)).trans (if_pos rfl))).trans ef_shares_4
      have pz : nI rv.2.2.2 = 0 ↔ rv.2.2.2 = 0 := nI_z (Nat.lt_of_le_of_lt p3 (by decide))
      refine finY (Py.tr F1 x1 z2 k2 F3 q3 rfl) ?_
      (rw [oAct, if_pos ⟨c12, c20, yes⟩, ET, if_neg (fun z => c128 (pz.mpr z))]) <;> rfl
  · refine x_aload dX11_act_113 rfl ?_
    refine x_iload_n dX11_act_115 rfl ?_
    refine x_cvU (x := ⟨"HeldPaths$PathThing", "tells", "(I)I"⟩) (owner := "HeldPaths$PathThing") (c_X3_tells_0 q2 t2 hd) t2 lkX3_tells rfl ⟨gT_in 1040 (by decide +kernel) rfl, gT_in 1043 (by decide +kernel) rfl, gT_in 1041 (by decide +kernel) rfl, gT_in 1044 (by decide +kernel) rfl, gT_in 1041 (by decide +kernel) rfl⟩ lkX3_tells.1 ⟨by decide, by decide, lkX3_tells.2.2.2⟩ dX11_act_116 rfl rfl (Nat.le_of_ble_eq_true rfl) (by decide) ⟨rfl, rfl, by decide, by decide⟩ ?_
    rintro h3 ⟨q3, F3⟩
    have t3 : h3.1 q = _ := (F3.2 q hd).trans t2
    obtain ⟨rv, hrv⟩ : ∃ rv : Int32 × TR, rv = tT0 4 (nI p1) ow x1v (tZ S) := ⟨_, rfl⟩
    rw [← hrv] at q3 ⊢
    have o3 : h3.1 x = _ := (F3.2 x (by omega)).trans o2
    have r3 := q3.1.2.1
    have p3 : rv.2.2.2 ≤ 1 := q3.2
    refine x_ist_5 dX11_act_119 (by decide) rfl ?_
    refine x_aload_n dX11_act_121 rfl ?_
    refine x_get fX11_58 o3 rfl dX11_act_122 ?_
    refine x_get fX11_321 r3 rfl dX11_act_125 ?_
    refine x_if_eq 136 dX11_act_128 (by decide) (fun c128 => ?_) (fun c128 => ?_)
    · refine x_iload dX11_act_136 rfl ?_
      refine x_iret rfl dX11_act_138 ⟨by decide, by decide⟩ ?_
      have ET : tR S (nI f1) cc x1v = rv := by rw [hrv, tR, iN_nI (by omega), hpe, kk, ← how]; rw [tA]; exact ((if_neg c54_0).trans ((if_neg c54_1).trans (if_neg c54_2))).trans ef_tells_4
      have pz : nI rv.2.2.2 = 0 ↔ rv.2.2.2 = 0 := nI_z (Nat.lt_of_le_of_lt p3 (by decide))
      refine finY (Py.tr F1 x1 z2 k2 F3 q3 rfl) ?_
      (rw [oAct, if_pos ⟨c12, c20, yes⟩, ET, if_pos (pz.mp c128)]) <;> rfl
    · refine x_bipush (v := -15) dX11_act_131 (by decide) ?_
      refine x_goto 138 dX11_act_133 (by decide) ?_
      refine x_iret rfl dX11_act_138 ⟨by decide, by decide⟩ ?_
      have ET : tR S (nI f1) cc x1v = rv := by rw [hrv, tR, iN_nI (by omega), hpe, kk, ← how]; rw [tA]; exact ((if_neg c54_0).trans ((if_neg c54_1).trans (if_neg c54_2))).trans ef_tells_4
      have pz : nI rv.2.2.2 = 0 ↔ rv.2.2.2 = 0 := nI_z (Nat.lt_of_le_of_lt p3 (by decide))
      refine finY (Py.tr F1 x1 z2 k2 F3 q3 rfl) ?_
      (rw [oAct, if_pos ⟨c12, c20, yes⟩, ET, if_neg (fun z => c128 (pz.mpr z))]) <;> rfl
set_option maxHeartbeats 4000000 in
theorem c_X11_act51_5 {g : gG} {h h1 h2 : gH} {x q p1 f1 : Nat} {D : Nat → Prop} {S : AS} {cc x1v ow : Int32} (hf : f1 < 4) (c12 : bl (nI f1) 4 = true) (c20 : bl cc 4 = true) (yes : (S.2.2.2.2.2.1 (iN (nI f1))).1 = 1 ∧ (S.2.2.2.2.2.1 (iN (nI f1))).2.1 < S.1.1 0) (hpe : (S.2.2.2.2.2.1 f1).2.1 = p1) (how : ow = nI (S.1.2.2 3 p1)) (F1 : Fr (x + 48) 2 h h1) (x1 : isX h1 x D (trS S (0, S.2.2.2.2.2.2.2))) (z2 : h2.2 = h1.2 + 1) (k2 : ∀ a, a < h1.2 → h2.1 a = h1.1 a) (hd : q < x + 48 ∨ x + 48 + 2 ≤ q) (o2 : h2.1 x = some (.inr (11, xF x S.2.1.1 S.2.2.2.1.1))) (q2 : isQ h2 (x + 48) (tZ S)) (kk : S.1.2.2 0 p1 = 5) (t2 : h2.1 q = some (.inr (4, thF (nI p1) ow (x + 48)))) : Ex g mX11_act (gZm g mX11_act (fun o h' => o = some (.int (oAct S (nI f1) cc x1v).1) ∧ Py x D (oAct S (nI f1) cc x1v).2 h h')) 51 [some (.ref x), some (.int (nI f1)), some (.int cc), some (.int x1v), none, none] [.ref q] h2 1 3 := by
  refine x_ast_4 dX11_act_51 (by decide) rfl ?_
  refine x_iload_n dX11_act_53 rfl ?_
  refine swX11_act_54 (fun c54 => ?_) (fun c54 => ?_) (fun c54 => ?_) (fun c54_0 c54_1 c54_2 => ?_)
  · refine x_aload dX11_act_80 rfl ?_
    refine x_iload_n dX11_act_82 rfl ?_
    refine x_cvU (x := ⟨"HeldPaths$PathThing", "leads", "(I)I"⟩) (owner := "HeldPaths$PathThing") (c_X3_leads_4 q2 t2 hd) t2 lkX3_leads rfl ⟨gT_in 971 (by decide +kernel) rfl, gT_in 974 (by decide +kernel) rfl, gT_in 972 (by decide +kernel) rfl, gT_in 990 (by decide +kernel) rfl, gT_in 972 (by decide +kernel) rfl⟩ lkX3_leads.1 ⟨by decide, by decide, lkX3_leads.2.2.2⟩ dX11_act_83 rfl rfl (Nat.le_of_ble_eq_true rfl) (by decide) ⟨rfl, rfl, by decide, by decide⟩ ?_
    rintro h3 ⟨q3, F3⟩
    have t3 : h3.1 q = _ := (F3.2 q hd).trans t2
    obtain ⟨rv, hrv⟩ : ∃ rv : Int32 × TR, rv = (x1v + nI p1, bg (tZ S) 10) := ⟨_, rfl⟩
    rw [← hrv] at q3 ⊢
    have o3 : h3.1 x = _ := (F3.2 x (by omega)).trans o2
    have r3 := q3.1.2.1
    have p3 : rv.2.2.2 ≤ 1 := q3.2
    refine x_ist_5 dX11_act_86 (by decide) rfl ?_
    refine x_goto 121 dX11_act_88 (by decide) ?_
    refine x_aload_n dX11_act_121 rfl ?_
    refine x_get fX11_58 o3 rfl dX11_act_122 ?_
    refine x_get fX11_321 r3 rfl dX11_act_125 ?_
    refine x_if_eq 136 dX11_act_128 (by decide) (fun c128 => ?_) (fun c128 => ?_)
    · refine x_iload dX11_act_136 rfl ?_
      refine x_iret rfl dX11_act_138 ⟨by decide, by decide⟩ ?_
      have ET : tR S (nI f1) cc x1v = rv := by rw [hrv, tR, iN_nI (by omega), hpe, kk, ← how]; exact (if_pos c54).trans ef_leads_5
      have pz : nI rv.2.2.2 = 0 ↔ rv.2.2.2 = 0 := nI_z (Nat.lt_of_le_of_lt p3 (by decide))
      refine finY (Py.tr F1 x1 z2 k2 F3 q3 rfl) ?_
      (rw [oAct, if_pos ⟨c12, c20, yes⟩, ET, if_pos (pz.mp c128)]) <;> rfl
    · refine x_bipush (v := -15) dX11_act_131 (by decide) ?_
      refine x_goto 138 dX11_act_133 (by decide) ?_
      refine x_iret rfl dX11_act_138 ⟨by decide, by decide⟩ ?_
      have ET : tR S (nI f1) cc x1v = rv := by rw [hrv, tR, iN_nI (by omega), hpe, kk, ← how]; exact (if_pos c54).trans ef_leads_5
      have pz : nI rv.2.2.2 = 0 ↔ rv.2.2.2 = 0 := nI_z (Nat.lt_of_le_of_lt p3 (by decide))
      refine finY (Py.tr F1 x1 z2 k2 F3 q3 rfl) ?_
      (rw [oAct, if_pos ⟨c12, c20, yes⟩, ET, if_neg (fun z => c128 (pz.mpr z))]) <;> rfl
  · refine x_aload dX11_act_91 rfl ?_
    refine x_iload_n dX11_act_93 rfl ?_
    refine x_cvU (x := ⟨"HeldPaths$PathThing", "stays", "(I)I"⟩) (owner := "HeldPaths$PathThing") (c_X3_stays_4 q2 t2 hd) t2 lkX3_stays rfl ⟨gT_in 999 (by decide +kernel) rfl, gT_in 1002 (by decide +kernel) rfl, gT_in 1000 (by decide +kernel) rfl, gT_in 1013 (by decide +kernel) rfl, gT_in 1000 (by decide +kernel) rfl⟩ lkX3_stays.1 ⟨by decide, by decide, lkX3_stays.2.2.2⟩ dX11_act_94 rfl rfl (Nat.le_of_ble_eq_true rfl) (by decide) ⟨rfl, rfl, by decide, by decide⟩ ?_
    rintro h3 ⟨q3, F3⟩
    have t3 : h3.1 q = _ := (F3.2 q hd).trans t2
    obtain ⟨rv, hrv⟩ : ∃ rv : Int32 × TR, rv = tS0 5 (nI p1) x1v (tZ S) := ⟨_, rfl⟩
    rw [← hrv] at q3 ⊢
    have o3 : h3.1 x = _ := (F3.2 x (by omega)).trans o2
    have r3 := q3.1.2.1
    have p3 : rv.2.2.2 ≤ 1 := q3.2
    refine x_ist_5 dX11_act_97 (by decide) rfl ?_
    refine x_goto 121 dX11_act_99 (by decide) ?_
    refine x_aload_n dX11_act_121 rfl ?_
    refine x_get fX11_58 o3 rfl dX11_act_122 ?_
    refine x_get fX11_321 r3 rfl dX11_act_125 ?_
    refine x_if_eq 136 dX11_act_128 (by decide) (fun c128 => ?_) (fun c128 => ?_)
    · refine x_iload dX11_act_136 rfl ?_
      refine x_iret rfl dX11_act_138 ⟨by decide, by decide⟩ ?_
      have ET : tR S (nI f1) cc x1v = rv := by rw [hrv, tR, iN_nI (by omega), hpe, kk, ← how]; rw [tA, c54]; exact ((if_neg (by decide)).trans (if_pos rfl)).trans ef_stays_5
      have pz : nI rv.2.2.2 = 0 ↔ rv.2.2.2 = 0 := nI_z (Nat.lt_of_le_of_lt p3 (by decide))
      refine finY (Py.tr F1 x1 z2 k2 F3 q3 rfl) ?_
      (rw [oAct, if_pos ⟨c12, c20, yes⟩, ET, if_pos (pz.mp c128)]) <;> rfl
    · refine x_bipush (v := -15) dX11_act_131 (by decide) ?_
      refine x_goto 138 dX11_act_133 (by decide) ?_
      refine x_iret rfl dX11_act_138 ⟨by decide, by decide⟩ ?_
      have ET : tR S (nI f1) cc x1v = rv := by rw [hrv, tR, iN_nI (by omega), hpe, kk, ← how]; rw [tA, c54]; exact ((if_neg (by decide)).trans (if_pos rfl)).trans ef_stays_5
      have pz : nI rv.2.2.2 = 0 ↔ rv.2.2.2 = 0 := nI_z (Nat.lt_of_le_of_lt p3 (by decide))
      refine finY (Py.tr F1 x1 z2 k2 F3 q3 rfl) ?_
      (rw [oAct, if_pos ⟨c12, c20, yes⟩, ET, if_neg (fun z => c128 (pz.mpr z))]) <;> rfl
  · refine x_aload dX11_act_102 rfl ?_
    refine x_iload_n dX11_act_104 rfl ?_
    refine x_cvU (x := ⟨"HeldPaths$PathThing", "shares", "(I)I"⟩) (owner := "HeldPaths$PathThing") (c_X4_shares_4 q2 t2 hd) t2 lkX4_shares rfl ⟨gT_in 1018 (by decide +kernel) rfl, gT_in 1021 (by decide +kernel) rfl, gT_in 1019 (by decide +kernel) rfl, gT_in 1029 (by decide +kernel) rfl, gT_in 1030 (by decide +kernel) rfl⟩ lkX3_shares.1 ⟨by decide, by decide, lkX3_shares.2.2.2⟩ dX11_act_105 rfl rfl (Nat.le_of_ble_eq_true rfl) (by decide) ⟨rfl, rfl, by decide, by decide⟩ ?_
    rintro h3 ⟨q3, F3⟩
    have t3 : h3.1 q = _ := (F3.2 q hd).trans t2
    obtain ⟨rv, hrv⟩ : ∃ rv : Int32 × TR, rv = tH 5 (nI p1) ow x1v (tZ S) := ⟨_, rfl⟩
    rw [← hrv] at q3 ⊢
    have o3 : h3.1 x = _ := (F3.2 x (by omega)).trans o2
    have r3 := q3.1.2.1
    have p3 : rv.2.2.2 ≤ 1 := q3.2
    refine x_ist_5 dX11_act_108 (by decide) rfl ?_
    refine x_goto 121 dX11_act_110 (by decide) ?_
    refine x_aload_n dX11_act_121 rfl ?_
    refine x_get fX11_58 o3 rfl dX11_act_122 ?_
    refine x_get fX11_321 r3 rfl dX11_act_125 ?_
    refine x_if_eq 136 dX11_act_128 (by decide) (fun c128 => ?_) (fun c128 => ?_)
    · refine x_iload dX11_act_136 rfl ?_
      refine x_iret rfl dX11_act_138 ⟨by decide, by decide⟩ ?_
      have ET : tR S (nI f1) cc x1v = rv := by rw [hrv, tR, iN_nI (by omega), hpe, kk, ← how]; rw [tA, c54]; exact ((if_neg (by decide)).trans ((if_neg (by decide)).trans (if_pos rfl))).trans ef_shares_5
      have pz : nI rv.2.2.2 = 0 ↔ rv.2.2.2 = 0 := nI_z (Nat.lt_of_le_of_lt p3 (by decide))
      refine finY (Py.tr F1 x1 z2 k2 F3 q3 rfl) ?_
      (rw [oAct, if_pos ⟨c12, c20, yes⟩, ET, if_pos (pz.mp c128)]) <;> rfl
    · refine x_bipush (v := -15) dX11_act_131 (by decide) ?_
      refine x_goto 138 dX11_act_133 (by decide) ?_
      refine x_iret rfl dX11_act_138 ⟨by decide, by decide⟩ ?_
      have ET : tR S (nI f1) cc x1v = rv := by rw [hrv, tR, iN_nI (by omega), hpe, kk, ← how]; rw [tA, c54]; exact ((if_neg (by decide)).trans ((if_neg (by decide)).trans (if_pos rfl))).trans ef_shares_5
      have pz : nI rv.2.2.2 = 0 ↔ rv.2.2.2 = 0 := nI_z (Nat.lt_of_le_of_lt p3 (by decide))
      refine finY (Py.tr F1 x1 z2 k2 F3 q3 rfl) ?_
      (rw [oAct, if_pos ⟨c12, c20, yes⟩, ET, if_neg (fun z => c128 (pz.mpr z))]) <;> rfl
  · refine x_aload dX11_act_113 rfl ?_
    refine x_iload_n dX11_act_115 rfl ?_
    refine x_cvU (x := ⟨"HeldPaths$PathThing", "tells", "(I)I"⟩) (owner := "HeldPaths$PathThing") (c_X4_tells_4 q2 t2 hd) t2 lkX4_tells rfl ⟨gT_in 1040 (by decide +kernel) rfl, gT_in 1043 (by decide +kernel) rfl, gT_in 1041 (by decide +kernel) rfl, gT_in 1046 (by decide +kernel) rfl, gT_in 1047 (by decide +kernel) rfl⟩ lkX3_tells.1 ⟨by decide, by decide, lkX3_tells.2.2.2⟩ dX11_act_116 rfl rfl (Nat.le_of_ble_eq_true rfl) (by decide) ⟨rfl, rfl, by decide, by decide⟩ ?_
    rintro h3 ⟨q3, F3⟩
    have t3 : h3.1 q = _ := (F3.2 q hd).trans t2
    obtain ⟨rv, hrv⟩ : ∃ rv : Int32 × TR, rv = tT 5 (nI p1) ow x1v (tZ S) := ⟨_, rfl⟩
    rw [← hrv] at q3 ⊢
    have o3 : h3.1 x = _ := (F3.2 x (by omega)).trans o2
    have r3 := q3.1.2.1
    have p3 : rv.2.2.2 ≤ 1 := q3.2
    refine x_ist_5 dX11_act_119 (by decide) rfl ?_
    refine x_aload_n dX11_act_121 rfl ?_
    refine x_get fX11_58 o3 rfl dX11_act_122 ?_
    refine x_get fX11_321 r3 rfl dX11_act_125 ?_
    refine x_if_eq 136 dX11_act_128 (by decide) (fun c128 => ?_) (fun c128 => ?_)
    · refine x_iload dX11_act_136 rfl ?_
      refine x_iret rfl dX11_act_138 ⟨by decide, by decide⟩ ?_
      have ET : tR S (nI f1) cc x1v = rv := by rw [hrv, tR, iN_nI (by omega), hpe, kk, ← how]; rw [tA]; exact ((if_neg c54_0).trans ((if_neg c54_1).trans (if_neg c54_2))).trans ef_tells_5
      have pz : nI rv.2.2.2 = 0 ↔ rv.2.2.2 = 0 := nI_z (Nat.lt_of_le_of_lt p3 (by decide))
      refine finY (Py.tr F1 x1 z2 k2 F3 q3 rfl) ?_
      (rw [oAct, if_pos ⟨c12, c20, yes⟩, ET, if_pos (pz.mp c128)]) <;> rfl
    · refine x_bipush (v := -15) dX11_act_131 (by decide) ?_
      refine x_goto 138 dX11_act_133 (by decide) ?_
      refine x_iret rfl dX11_act_138 ⟨by decide, by decide⟩ ?_
      have ET : tR S (nI f1) cc x1v = rv := by rw [hrv, tR, iN_nI (by omega), hpe, kk, ← how]; rw [tA]; exact ((if_neg c54_0).trans ((if_neg c54_1).trans (if_neg c54_2))).trans ef_tells_5
      have pz : nI rv.2.2.2 = 0 ↔ rv.2.2.2 = 0 := nI_z (Nat.lt_of_le_of_lt p3 (by decide))
      refine finY (Py.tr F1 x1 z2 k2 F3 q3 rfl) ?_
      (rw [oAct, if_pos ⟨c12, c20, yes⟩, ET, if_neg (fun z => c128 (pz.mpr z))]) <;> rfl
set_option maxRecDepth 10000 in
set_option maxHeartbeats 2000000 in
theorem c_X11_act {g : gG} {h : gH} {x : Nat} {D : Nat → Prop} {S : AS} (hx : isX h x D S) {f cc x1v : Int32} : Ct g mX11_act [.ref x, .int f, .int cc, .int x1v] h (some (.int (oAct S f cc x1v).1)) (Py x D (oAct S f cc x1v).2 h) := by
  have ho := hx.2.1
  have hv := hx.2.2.1
  have n0 := hv.o
  have okw := hv.1

  obtain ⟨pt, hR⟩ := hx.2.2.2.2.2.2.2.2.2
  have r0 := hR.2.1
  refine Cn.of (L := [some (.ref x), some (.int f), some (.int cc), some (.int x1v), none, none]) (by decide) (Nat.le_of_ble_eq_true rfl) rfl ?_
  refine x_aload_n dX11_act_0 rfl ?_
  refine x_get fX11_58 ho rfl dX11_act_1 ?_
  refine x_cnV (c_X7_clr hR) r0 lkX7_clear sX11_302 dX11_act_4 rfl rfl (Nat.le_of_ble_eq_true rfl) (by decide) ⟨rfl, rfl, by decide, by decide⟩ ?_
  rintro h1 ⟨q1, F1⟩
  obtain ⟨x1, G1⟩ := hx.tr F1 q1.1
  have o1 : h1.1 x = _ := x1.2.1
  have v1 : isV h1 (x + 1) S.1 := x1.2.2.1
  have nn := v1.o
  obtain ⟨lp, lr, e46, e47, hsl⟩ := x1.2.2.2.2.2.2.2.2.1.2
  have hsl : ∀ i, i < 4 → slO h1 D (lp i) (lr i) (S.2.2.2.2.2.1 i) := hsl
  refine x_iload_n dX11_act_7 rfl ?_
  refine x_iconst (v := 4) dX11_act_8 (by decide) ?_
  refine x_rdS c_bl lkX11_isBelow sX11_94 dX11_act_9 rfl rfl (Nat.le_of_ble_eq_true rfl) (by decide) ⟨rfl, rfl, by decide, by decide⟩ ?_
  refine x_if_eqB 39 dX11_act_12 (by decide) (fun c12 => ?_) (fun c12 => ?_)
  · refine x_iconst (v := 0) dX11_act_39 (by decide) ?_
    refine x_iret rfl dX11_act_40 ⟨by decide, by decide⟩ ?_
    refine finY (S' := trS S (0, S.2.2.2.2.2.2.2)) (Px.y ⟨x1, G1⟩) ?_
    rw [oAct, if_neg (fun z => c12 z.1)]
  · refine x_iload_n dX11_act_15 rfl ?_
    refine x_iconst (v := 4) dX11_act_16 (by decide) ?_
    refine x_rdS c_bl lkX11_isBelow sX11_94 dX11_act_17 rfl rfl (Nat.le_of_ble_eq_true rfl) (by decide) ⟨rfl, rfl, by decide, by decide⟩ ?_
    refine x_if_eqB 39 dX11_act_20 (by decide) (fun c20 => ?_) (fun c20 => ?_)
    · refine x_iconst (v := 0) dX11_act_39 (by decide) ?_
      refine x_iret rfl dX11_act_40 ⟨by decide, by decide⟩ ?_
      refine finY (S' := trS S (0, S.2.2.2.2.2.2.2)) (Px.y ⟨x1, G1⟩) ?_
      rw [oAct, if_neg (fun z => c20 z.2.1)]
    · obtain ⟨f1, hf, rfl⟩ := bl_E (b := 4) c12 (by decide)
      refine x_aload_n dX11_act_23 rfl ?_
      refine x_get fX11_12 o1 rfl dX11_act_24 ?_
      refine x_aload_n dX11_act_27 rfl ?_
      refine x_get fX11_49 o1 rfl dX11_act_28 ?_
      refine x_iload_n dX11_act_31 rfl ?_
      refine x_iald f1 e46 rfl hf (by decide) dX11_act_32 ?_
      refine x_rdV (c_hp v1) nn lkX10_hasPath sX11_105 dX11_act_33 rfl rfl (Nat.le_of_ble_eq_true rfl) (by decide) ⟨rfl, rfl, by decide, by decide⟩ ?_
      refine x_if_neB 41 dX11_act_36 (by decide) (fun c36 => ?_) (fun c36 => ?_)
      · obtain ⟨p1, hp, ep⟩ := bl_E c36 (by have := okw.1; omega)
        have yes : (S.2.2.2.2.2.1 (iN (nI f1))).1 = 1 ∧ (S.2.2.2.2.2.1 (iN (nI f1))).2.1 < S.1.1 0 := by
          rw [iN_nI (by omega)]
          rcases hsl f1 hf with ⟨_, yp, _⟩ | ⟨y1, y2, yp, _⟩ | ⟨_, _, _, yp, _⟩
          · exact absurd (bl_p.mp (yp ▸ c36)).1 (by decide)
          · exact ⟨y1, (bl_iff (by omega) (by have := okw.1; omega)).mp (yp ▸ c36)⟩
          · exact absurd (bl_p.mp (yp ▸ c36)).1 (by decide)
        have hpe : (S.2.2.2.2.2.1 f1).2.1 = p1 := by
          rw [iN_nI (by omega)] at yes
          rcases hsl f1 hf with ⟨_, yp, _⟩ | ⟨y1, y2, yp, _⟩ | ⟨_, _, _, yp, _⟩
          · omega
          · exact nI_eqn (by omega) (by have := okw.1; omega) (yp.symm.trans ep)
          · omega
        refine x_aload_n dX11_act_41 rfl ?_
        refine x_aload_n dX11_act_42 rfl ?_
        refine x_get fX11_49 o1 rfl dX11_act_43 ?_
        refine x_iload_n dX11_act_46 rfl ?_
        refine x_iald f1 e46 rfl hf (by decide) dX11_act_47 ?_
        rw [ep]
        refine x_cvV (k' := 1) (n' := 3) (c_X11_thingOf x1 hp) o1 lkX11_thingOf sX11_303 dX11_act_48 rfl rfl (Nat.le_of_ble_eq_true rfl) (by decide) ⟨rfl, rfl, by decide, by decide⟩ ?_
        rintro h2 ⟨z2, t2, k2⟩
        obtain ⟨ow, how⟩ : ∃ ow, ow = nI (S.1.2.2 3 p1) := ⟨_, rfl⟩
        obtain ⟨q, hqe⟩ : ∃ q, q = h1.2 := ⟨_, rfl⟩
        rw [← hqe, ← how] at t2
        rw [← hqe]
        have hd : q < x + 48 ∨ x + 48 + 2 ≤ q := by have := x1.1.1; omega
        have o2 : h2.1 x = some (.inr (11, xF x S.2.1.1 S.2.2.2.1.1)) := (k2 x (by have := x1.1.1; omega)).trans o1
        have q2 : isQ h2 (x + 48) (tZ S) := ⟨q1.1.ag (fun a l1 l2 => k2 a (by have := x1.1.1; omega)), q1.2⟩
        have k6 := (okw.2.2.2.1 p1 hp).1
        rcases (show S.1.2.2 0 p1 = 0 ∨ S.1.2.2 0 p1 = 1 ∨ S.1.2.2 0 p1 = 2 ∨ S.1.2.2 0 p1 = 3 ∨ S.1.2.2 0 p1 = 4 ∨ S.1.2.2 0 p1 = 5 by omega) with hk | hk | hk | hk | hk | hk
        · rw [hk] at t2; exact c_X11_act51_0 hf c12 c20 yes hpe how F1 x1 z2 k2 hd o2 q2 hk t2
        · rw [hk] at t2; exact c_X11_act51_1 hf c12 c20 yes hpe how F1 x1 z2 k2 hd o2 q2 hk t2
        · rw [hk] at t2; exact c_X11_act51_2 hf c12 c20 yes hpe how F1 x1 z2 k2 hd o2 q2 hk t2
        · rw [hk] at t2; exact c_X11_act51_3 hf c12 c20 yes hpe how F1 x1 z2 k2 hd o2 q2 hk t2
        · rw [hk] at t2; exact c_X11_act51_4 hf c12 c20 yes hpe how F1 x1 z2 k2 hd o2 q2 hk t2
        · rw [hk] at t2; exact c_X11_act51_5 hf c12 c20 yes hpe how F1 x1 z2 k2 hd o2 q2 hk t2
      · refine x_iconst (v := 0) dX11_act_39 (by decide) ?_
        refine x_iret rfl dX11_act_40 ⟨by decide, by decide⟩ ?_
        refine finY (S' := trS S (0, S.2.2.2.2.2.2.2)) (Px.y ⟨x1, G1⟩) ?_
        rw [oAct, if_neg (fun z => c36 (by
          rw [iN_nI (by omega)] at z
          rcases hsl f1 hf with ⟨y0, yp, _⟩ | ⟨y1, y2, yp, _⟩ | ⟨y1, _, _, yp, _⟩
          · omega
          · rw [yp]; exact bl_I z.2.2.2 (by have := okw.1; omega)
          · omega))]
