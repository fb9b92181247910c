abbrev iw (T : TT) (K : KS) (j : Nat) : Prop := K.1 = 1 ∧ K.2.2 - K.2.1 = sk_len.getD j 0 ∧ ∀ i, i < sk_len.getD j 0 → tB T (K.2.1 + i) = (sk_byt.getD j []).getD i 0
abbrev TS : Type := KS × Bool
def flI (s : TS) : Int32 := if s.2 = true then -9 else nI s.1.2.1
theorem flI_t {s : TS} (h : s.2 = true) : flI s = -9 := if_pos h
theorem flI_lt {s : TS} (hs : s.1.2.1 < 2 ^ 31) : flI s < 0 ↔ s.2 = true := by
  unfold flI
  split
  · exact ⟨fun _ => by assumption, fun _ => by decide⟩
  · exact ⟨fun q => absurd q (nI_pos hs), fun q => absurd q (by assumption)⟩
def isY (h : gH) (t : Nat) (T : TT) (s : TS) : Prop := isU h t T s.1 (flI s)
theorem isY.mk {h : gH} {t : Nat} {T : TT} {K : KS} {fl : Int32} {s : TS} (hu : isU h t T K fl) (e1 : s.1 = K) (e2 : flI s = fl) : isY h t T s := by subst e1; subst e2; exact hu
/-- the fault is here -/
theorem isU.bad {h : gH} {t : Nat} {T : TT} {K : KS} {fl nu : Int32} (hb : uB h t T) (bd : K.1 < 4 ∧ K.2.1 ≤ K.2.2 ∧ K.2.2 ≤ T.1) (hn : K.1 = 2 → nu = nI (tv T K) ∧ tv T K < 1000) : isY (hset h t (.inr (6, uG t T (nI K.1) (nI K.2.1) (nI K.2.2) nu (nI K.2.1)))) t T (K, false) := ⟨hb.st, bd, nu, hset_s, hn⟩
abbrev gdN (T : TT) (s : TS) (m : Nat) (u : Int32) : Prop := s.2 = true ∧ s.1.1 = 2 ∧ s.1.2.2 - s.1.2.1 ≤ 2 ∧ tv T s.1 ≤ m ∧ ¬ nI (tv T s.1) = u
def tkN (T : TT) (s : TS) (m : Nat) (u : Int32) : TS := if gdN T s m u then (nx T s.1.2.2, true) else (s.1, false)
def vlN (T : TT) (s : TS) (m : Nat) (u : Int32) : Nat := if gdN T s m u then tv T s.1 else 0
def tkW (T : TT) (s : TS) (j : Nat) : TS := if s.2 = true ∧ iw T s.1 j then (nx T s.1.2.2, true) else (s.1, false)
def tkI (T : TT) (s : TS) (j : Nat) : TS := if s.2 = true ∧ iw T s.1 j then (nx T s.1.2.2, true) else s
def tkE (T : TT) (s : TS) : TS := if s.2 = true ∧ s.1.1 = 3 ∧ tB T s.1.2.1 = 59 then (nx T s.1.2.2, true) else (s.1, false)
theorem tkN_t {T : TT} {s : TS} {m : Nat} {u : Int32} (h : (tkN T s m u).2 = true) : s.2 = true ∧ vlN T s m u ≤ m ∧ ¬ nI (vlN T s m u) = u := by
  unfold tkN at h
  split at h
  · next q => rw [vlN, if_pos q]; exact ⟨q.1, q.2.2.2.1, q.2.2.2.2⟩
  · cases h
theorem tkW_t {T : TT} {s : TS} {j : Nat} (h : (tkW T s j).2 = true) : s.2 = true := by
  unfold tkW at h
  split at h
  · next q => exact q.1
  · cases h
theorem sbad {s : TS} (h : ¬ s.2 = true) : s = (s.1, false) := by
  obtain ⟨a, b⟩ := s
  cases b
  · rfl
  · exact absurd rfl h
set_option maxRecDepth 10000 in
set_option maxHeartbeats 2000000 in
theorem iw28 {g : gG} {h : gH} {t j : Nat} {T : TT} {K : KS} {nu fl : Int32} (hj : j < 13) (hb : uB h t T) (ho : uO h t T (nI K.1) (nI K.2.1) (nI K.2.2) nu fl) (k1 : K.1 = 1) (kl : K.2.2 - K.2.1 = sk_len.getD j 0) (ks : K.2.1 ≤ 240) : ∀ i, i ≤ sk_len.getD j 0 → (∀ k, k < i → tB T (K.2.1 + k) = (sk_byt.getD j []).getD k 0) → Ex g mX6_isWord (gZm g mX6_isWord (fun o h' => o = some (.int (b2i (iw T K j))) ∧ h' = h)) 28 [some (.ref t), some (.ref (g.2.2.2.2.1 j)), some (.int (nI i))] [] h 0 0 := by
  have h6 := sk_6 j hj
  refine lp_up (sk_len.getD j 0) (fun i hi ih hr => ?_) (fun hr => ?_)
  · have ho : h.1 t = _ := ho
    refine x_iload_n dX6_isWord_28 rfl ?_
    refine x_aload_n dX6_isWord_29 rfl ?_
    refine x_rdW hj rfl (c_J0_length_8abf5 hj) lkJ0_length_8abf5 ⟨gT_in 369 (by decide +kernel) rfl, gT_in 370 (by decide +kernel) rfl, gT_in 371 (by decide +kernel) rfl⟩ dX6_isWord_30 rfl rfl (Nat.le_of_ble_eq_true rfl) (by decide) ⟨rfl, rfl, by decide, by decide⟩ ?_
    refine x_icmp_ge_f 62 dX6_isWord_33 (by decide) (nI_ge hi (by have := sk_6 j hj; omega)) ?_
    refine x_aload_n dX6_isWord_36 rfl ?_
    refine x_aload_n dX6_isWord_37 rfl ?_
    refine x_get fX6_74 ho rfl dX6_isWord_38 ?_
    refine x_iload_n dX6_isWord_41 rfl ?_
    refine x_iadd dX6_isWord_42 ?_
    rw [nI_add]
    refine x_rdV (c_X6_byteAt (i := (K.2.1 + i)) hb ho (by omega)) ho lkX6_byteAt sX6_125 dX6_isWord_43 rfl rfl (Nat.le_of_ble_eq_true rfl) (by decide) ⟨rfl, rfl, by decide, by decide⟩ ?_
    refine x_aload_n dX6_isWord_46 rfl ?_
    refine x_iload_n dX6_isWord_47 rfl ?_
    refine x_rdW hj rfl (c_J0_charAt_5068e hj hi) lkJ0_charAt_5068e ⟨gT_in 379 (by decide +kernel) rfl, gT_in 380 (by decide +kernel) rfl, gT_in 381 (by decide +kernel) rfl⟩ dX6_isWord_48 rfl rfl (Nat.le_of_ble_eq_true rfl) (by decide) ⟨rfl, rfl, by decide, by decide⟩ ?_
    refine x_icmp_eq 56 dX6_isWord_51 (by decide) (fun c51 => ?_) (fun c51 => ?_)
    · refine x_inc_2  dX6_isWord_56 (by decide) (nI_inc _) rfl ?_
      refine x_goto 28 dX6_isWord_59 (by decide) ?_
      exact ih (fun k a => by
        by_cases z : k = i
        · subst z; exact c51
        · exact hr k (by omega))
    · refine x_iconst (v := 0) dX6_isWord_54 (by decide) ?_
      refine x_zret rfl dX6_isWord_55 ⟨by decide, by decide⟩ rfl ?_
      exact ⟨by rw [b2i_f (fun z => c51 (z.2.2 i hi))], rfl⟩
  · have ho : h.1 t = _ := ho
    refine x_iload_n dX6_isWord_28 rfl ?_
    refine x_aload_n dX6_isWord_29 rfl ?_
    refine x_rdW hj rfl (c_J0_length_8abf5 hj) lkJ0_length_8abf5 ⟨gT_in 369 (by decide +kernel) rfl, gT_in 370 (by decide +kernel) rfl, gT_in 371 (by decide +kernel) rfl⟩ dX6_isWord_30 rfl rfl (Nat.le_of_ble_eq_true rfl) (by decide) ⟨rfl, rfl, by decide, by decide⟩ ?_
    refine x_icmp_ge_t 62 dX6_isWord_33 (by decide) (nI_le (Nat.le_refl _) (by have := sk_6 j hj; omega)) ?_
    refine x_iconst (v := 1) dX6_isWord_62 (by decide) ?_
    refine x_zret rfl dX6_isWord_63 ⟨by decide, by decide⟩ rfl ?_
    exact ⟨by rw [b2i_t ⟨k1, kl, hr⟩], rfl⟩
set_option maxRecDepth 10000 in
set_option maxHeartbeats 2000000 in
theorem c_X6_isWord {g : gG} {h : gH} {t j : Nat} {T : TT} {K : KS} {fl : Int32} (hj : j < 13) (hu : isU h t T K fl) : Rd g mX6_isWord [.ref t, .ref (g.2.2.2.2.1 j)] h (.int (b2i (iw T K j))) := by
  obtain ⟨hb, bd, nu, ho, hnu⟩ := hu
  have ho1 := ho
  have ho : h.1 t = _ := ho
  have h6 := sk_6 j hj
  have hT := hb.1
  refine Cn.of (L := [some (.ref t), some (.ref (g.2.2.2.2.1 j)), none]) (by decide) (Nat.le_of_ble_eq_true rfl) rfl ?_
  refine x_aload_n dX6_isWord_0 rfl ?_
  refine x_get fX6_28 ho rfl dX6_isWord_1 ?_
  refine x_iconst (v := 1) dX6_isWord_4 (by decide) ?_
  refine x_icmp_ne 24 dX6_isWord_5 (by decide) (fun c5 => ?_) (fun c5 => ?_)
  · refine x_iconst (v := 0) dX6_isWord_24 (by decide) ?_
    refine x_zret rfl dX6_isWord_25 ⟨by decide, by decide⟩ rfl ?_
    exact ⟨by rw [b2i_f (fun z => c5 (by rw [z.1]; rfl))], rfl⟩
  · refine x_aload_n dX6_isWord_8 rfl ?_
    refine x_get fX6_19 ho rfl dX6_isWord_9 ?_
    refine x_aload_n dX6_isWord_12 rfl ?_
    refine x_get fX6_74 ho rfl dX6_isWord_13 ?_
    refine x_isub dX6_isWord_16 ?_
    refine x_aload_n dX6_isWord_17 rfl ?_
    refine x_rdW hj rfl (c_J0_length_8abf5 hj) lkJ0_length_8abf5 ⟨gT_in 369 (by decide +kernel) rfl, gT_in 370 (by decide +kernel) rfl, gT_in 371 (by decide +kernel) rfl⟩ dX6_isWord_18 rfl rfl (Nat.le_of_ble_eq_true rfl) (by decide) ⟨rfl, rfl, by decide, by decide⟩ ?_
    rw [ts_sub bd.2.1]
    refine x_icmp_eq 26 dX6_isWord_21 (by decide) (fun c21 => ?_) (fun c21 => ?_)
    · refine x_iconst (v := 0) dX6_isWord_26 (by decide) ?_
      refine x_ist_2 dX6_isWord_27 (by decide) rfl ?_
      exact iw28 hj hb ho1 (nI_eqn (b := 1) (by omega) (by decide) c5) (nI_eqn (by omega) (by omega) c21) (by omega) 0 (Nat.zero_le _) (fun k a => by omega)
    · refine x_iconst (v := 0) dX6_isWord_24 (by decide) ?_
      refine x_zret rfl dX6_isWord_25 ⟨by decide, by decide⟩ rfl ?_
      exact ⟨by rw [b2i_f (fun z => c21 (by rw [z.2.1]))], rfl⟩
set_option maxRecDepth 10000 in
set_option maxHeartbeats 2000000 in
theorem c_X6_takesNumber {g : gG} {h : gH} {t m : Nat} {u : Int32} {T : TT} {s : TS} (hy : isY h t T s) (hm : m < 1000) : Ct g mX6_takesNumber [.ref t, .int (nI m), .int u] h (some (.int (nI (vlN T s m u)))) (fun h' => isY h' t T (tkN T s m u) ∧ Fr t 2 h h') := by
  have hu : isU h t T s.1 (flI s) := hy
  obtain ⟨hb, bd, nu, ho, hnu⟩ := id hu
  have ho1 := ho
  have ho : h.1 t = _ := ho
  have hT := hb.1
  have gl := flI_lt (s := s) (by omega)
  refine Cn.of (L := [some (.ref t), some (.int (nI m)), some (.int u), none]) (by decide) (Nat.le_of_ble_eq_true rfl) rfl ?_
  refine x_aload_n dX6_takesNumber_0 rfl ?_
  refine x_get fX6_22 ho rfl dX6_takesNumber_1 ?_
  refine x_if_lt 9 dX6_takesNumber_4 (by decide) (fun c4 => ?_) (fun c4 => ?_)
  · refine x_aload_n dX6_takesNumber_9 rfl ?_
    refine x_get fX6_28 ho rfl dX6_takesNumber_10 ?_
    refine x_iconst (v := 2) dX6_takesNumber_13 (by decide) ?_
    refine x_icmp_ne 46 dX6_takesNumber_14 (by decide) (fun c14 => ?_) (fun c14 => ?_)
    · refine x_aload_n dX6_takesNumber_46 rfl ?_
      refine x_aload_n dX6_takesNumber_47 rfl ?_
      refine x_get fX6_74 ho rfl dX6_takesNumber_48 ?_
      refine x_put fX6_22 ho (Nat.le_of_ble_eq_true rfl) rfl rfl rfl dX6_takesNumber_51 ?_
      refine x_iconst (v := 0) dX6_takesNumber_54 (by decide) ?_
      refine x_iret rfl dX6_takesNumber_55 ⟨by decide, by decide⟩ ?_
      refine ⟨by rw [vlN, if_neg (fun z => c14 (by rw [z.2.1]; rfl))]; rfl, ?_, Fr.set (by omega) (by omega)⟩
      rw [tkN, if_neg (fun z => c14 (by rw [z.2.1]; rfl))]
      exact isU.bad (fl := flI s) hb bd hnu
    · refine x_aload_n dX6_takesNumber_17 rfl ?_
      refine x_get fX6_19 ho rfl dX6_takesNumber_18 ?_
      refine x_aload_n dX6_takesNumber_21 rfl ?_
      refine x_get fX6_74 ho rfl dX6_takesNumber_22 ?_
      refine x_isub dX6_takesNumber_25 ?_
      refine x_iconst (v := 2) dX6_takesNumber_26 (by decide) ?_
      rw [ts_sub bd.2.1]
      refine x_icmp_gt 46 dX6_takesNumber_27 (by decide) (fun c27 => ?_) (fun c27 => ?_)
      · refine x_aload_n dX6_takesNumber_46 rfl ?_
        refine x_aload_n dX6_takesNumber_47 rfl ?_
        refine x_get fX6_74 ho rfl dX6_takesNumber_48 ?_
        refine x_put fX6_22 ho (Nat.le_of_ble_eq_true rfl) rfl rfl rfl dX6_takesNumber_51 ?_
        refine x_iconst (v := 0) dX6_takesNumber_54 (by decide) ?_
        refine x_iret rfl dX6_takesNumber_55 ⟨by decide, by decide⟩ ?_
        refine ⟨by rw [vlN, if_neg (fun z => absurd c27 (Int32.not_lt.mpr (nI_le z.2.2.1 (by decide))))]; rfl, ?_, Fr.set (by omega) (by omega)⟩
        rw [tkN, if_neg (fun z => absurd c27 (Int32.not_lt.mpr (nI_le z.2.2.1 (by decide))))]
        exact isU.bad (fl := flI s) hb bd hnu
      · refine x_aload_n dX6_takesNumber_30 rfl ?_
        refine x_get fX6_122 ho rfl dX6_takesNumber_31 ?_
        refine x_iload_n dX6_takesNumber_34 rfl ?_
        refine x_icmp_gt 46 dX6_takesNumber_35 (by decide) (fun c35 => ?_) (fun c35 => ?_)
        · refine x_aload_n dX6_takesNumber_46 rfl ?_
          refine x_aload_n dX6_takesNumber_47 rfl ?_
          refine x_get fX6_74 ho rfl dX6_takesNumber_48 ?_
          refine x_put fX6_22 ho (Nat.le_of_ble_eq_true rfl) rfl rfl rfl dX6_takesNumber_51 ?_
          refine x_iconst (v := 0) dX6_takesNumber_54 (by decide) ?_
          refine x_iret rfl dX6_takesNumber_55 ⟨by decide, by decide⟩ ?_
          refine ⟨by rw [vlN, if_neg (fun z => absurd c35 (Int32.not_lt.mpr (by rw [(hnu z.2.1).1]; exact nI_le z.2.2.2.1 (by omega))))]; rfl, ?_, Fr.set (by omega) (by omega)⟩
          rw [tkN, if_neg (fun z => absurd c35 (Int32.not_lt.mpr (by rw [(hnu z.2.1).1]; exact nI_le z.2.2.2.1 (by omega))))]
          exact isU.bad (fl := flI s) hb bd hnu
        · refine x_aload_n dX6_takesNumber_38 rfl ?_
          refine x_get fX6_122 ho rfl dX6_takesNumber_39 ?_
          refine x_iload_n dX6_takesNumber_42 rfl ?_
          refine x_icmp_ne 56 dX6_takesNumber_43 (by decide) (fun c43 => ?_) (fun c43 => ?_)
          · refine x_aload_n dX6_takesNumber_56 rfl ?_
            refine x_get fX6_122 ho rfl dX6_takesNumber_57 ?_
            refine x_ist_3 dX6_takesNumber_60 (by decide) rfl ?_
            refine x_aload_n dX6_takesNumber_61 rfl ?_
            refine x_cnV (c_X6_step hb bd.2.2 ho1) (by assumption) lkX6_step sX6_25 dX6_takesNumber_62 rfl rfl (Nat.le_of_ble_eq_true rfl) (by decide) ⟨rfl, rfl, by decide, by decide⟩ ?_
            rintro h1 ⟨u1, F1⟩
            refine x_iload_n dX6_takesNumber_65 rfl ?_
            refine x_iret rfl dX6_takesNumber_66 ⟨by decide, by decide⟩ ?_
            have sg := gl.mp c4
            have k2 : s.1.1 = 2 := nI_eqn (b := 2) (by omega) (by decide) c14
            have tvb := (hnu k2).2
            have gd : gdN T s m u := ⟨sg, k2, Nat.not_lt.mp (fun z => c27 (nI_lt (a := 2) z (by omega))), by rw [(hnu k2).1] at c35; exact Nat.not_lt.mp (fun z => c35 (nI_lt z (by omega))), by rw [← (hnu k2).1]; exact c43⟩
            refine ⟨by rw [vlN, if_pos gd, (hnu k2).1], ?_, F1⟩
            rw [tkN, if_pos gd]
            exact isY.mk u1 rfl ((flI_t rfl).trans (flI_t sg).symm)
          · refine x_aload_n dX6_takesNumber_46 rfl ?_
            refine x_aload_n dX6_takesNumber_47 rfl ?_
            refine x_get fX6_74 ho rfl dX6_takesNumber_48 ?_
            refine x_put fX6_22 ho (Nat.le_of_ble_eq_true rfl) rfl rfl rfl dX6_takesNumber_51 ?_
            refine x_iconst (v := 0) dX6_takesNumber_54 (by decide) ?_
            refine x_iret rfl dX6_takesNumber_55 ⟨by decide, by decide⟩ ?_
            refine ⟨by rw [vlN, if_neg (fun z => z.2.2.2.2 (by rw [← (hnu z.2.1).1]; exact c43))]; rfl, ?_, Fr.set (by omega) (by omega)⟩
            rw [tkN, if_neg (fun z => z.2.2.2.2 (by rw [← (hnu z.2.1).1]; exact c43))]
            exact isU.bad (fl := flI s) hb bd hnu
  · refine x_iconst (v := 0) dX6_takesNumber_7 (by decide) ?_
    refine x_iret rfl dX6_takesNumber_8 ⟨by decide, by decide⟩ ?_
    have sg : ¬ s.2 = true := fun z => c4 (gl.mpr z)
    refine ⟨by rw [vlN, if_neg (fun z => sg z.1)]; rfl, ?_, Fr.rf⟩
    rw [tkN, if_neg (fun z => sg z.1), ← sbad sg]
    exact hy
set_option maxRecDepth 10000 in
set_option maxHeartbeats 2000000 in
theorem c_X6_takesWord {g : gG} {h : gH} {t j : Nat} {T : TT} {s : TS} (hy : isY h t T s) (hj : j < 13) : Ct g mX6_takesWord [.ref t, .ref (g.2.2.2.2.1 j)] h none (fun h' => isY h' t T (tkW T s j) ∧ Fr t 2 h h') := by
  have hu : isU h t T s.1 (flI s) := hy
  obtain ⟨hb, bd, nu, ho, hnu⟩ := id hu
  have ho1 := ho
  have ho : h.1 t = _ := ho
  have hT := hb.1
  have gl := flI_lt (s := s) (by omega)
  refine Cn.of (L := [some (.ref t), some (.ref (g.2.2.2.2.1 j))]) (by decide) (Nat.le_of_ble_eq_true rfl) rfl ?_
  refine x_aload_n dX6_takesWord_0 rfl ?_
  refine x_get fX6_22 ho rfl dX6_takesWord_1 ?_
  refine x_if_lt 8 dX6_takesWord_4 (by decide) (fun c4 => ?_) (fun c4 => ?_)
  · refine x_aload_n dX6_takesWord_8 rfl ?_
    refine x_aload_n dX6_takesWord_9 rfl ?_
    refine x_rdV (c_X6_isWord hj hu) (by assumption) lkX6_isWord sX6_50 dX6_takesWord_10 rfl rfl (Nat.le_of_ble_eq_true rfl) (by decide) ⟨rfl, rfl, by decide, by decide⟩ ?_
    refine x_if_neB 25 dX6_takesWord_13 (by decide) (fun c13 => ?_) (fun c13 => ?_)
    · refine x_aload_n dX6_takesWord_25 rfl ?_
      refine x_cnV (c_X6_step hb bd.2.2 ho1) (by assumption) lkX6_step sX6_25 dX6_takesWord_26 rfl rfl (Nat.le_of_ble_eq_true rfl) (by decide) ⟨rfl, rfl, by decide, by decide⟩ ?_
      rintro h1 ⟨u1, F1⟩
      refine x_vret rfl dX6_takesWord_29 ⟨by decide, by decide⟩ ?_
      have sg := gl.mp c4
      refine ⟨rfl, ?_, F1⟩
      rw [tkW, if_pos ⟨sg, c13⟩]
      exact isY.mk u1 rfl ((flI_t rfl).trans (flI_t sg).symm)
    · refine x_aload_n dX6_takesWord_16 rfl ?_
      refine x_aload_n dX6_takesWord_17 rfl ?_
      refine x_get fX6_74 ho rfl dX6_takesWord_18 ?_
      refine x_put fX6_22 ho (Nat.le_of_ble_eq_true rfl) rfl rfl rfl dX6_takesWord_21 ?_
      refine x_vret rfl dX6_takesWord_24 ⟨by decide, by decide⟩ ?_
      refine ⟨rfl, ?_, Fr.set (by omega) (by omega)⟩
      rw [tkW, if_neg (fun z => c13 z.2)]
      exact isU.bad (fl := flI s) hb bd hnu
  · refine x_vret rfl dX6_takesWord_7 ⟨by decide, by decide⟩ ?_
    have sg : ¬ s.2 = true := fun z => c4 (gl.mpr z)
    refine ⟨rfl, ?_, Fr.rf⟩
    rw [tkW, if_neg (fun z => sg z.1), ← sbad sg]
    exact hy
set_option maxRecDepth 10000 in
set_option maxHeartbeats 2000000 in
theorem c_X6_takesWordIfThere {g : gG} {h : gH} {t j : Nat} {T : TT} {s : TS} (hy : isY h t T s) (hj : j < 13) : Ct g mX6_takesWordIfThere [.ref t, .ref (g.2.2.2.2.1 j)] h (some (.int (b2i (s.2 = true ∧ iw T s.1 j)))) (fun h' => isY h' t T (tkI T s j) ∧ Fr t 2 h h') := by
  have hu : isU h t T s.1 (flI s) := hy
  obtain ⟨hb, bd, nu, ho, hnu⟩ := id hu
  have ho1 := ho
  have ho : h.1 t = _ := ho
  have hT := hb.1
  have gl := flI_lt (s := s) (by omega)
  refine Cn.of (L := [some (.ref t), some (.ref (g.2.2.2.2.1 j))]) (by decide) (Nat.le_of_ble_eq_true rfl) rfl ?_
  refine x_aload_n dX6_takesWordIfThere_0 rfl ?_
  refine x_get fX6_22 ho rfl dX6_takesWordIfThere_1 ?_
  refine x_if_ge 15 dX6_takesWordIfThere_4 (by decide) (fun c4 => ?_) (fun c4 => ?_)
  · refine x_iconst (v := 0) dX6_takesWordIfThere_15 (by decide) ?_
    refine x_zret rfl dX6_takesWordIfThere_16 ⟨by decide, by decide⟩ rfl ?_
    refine ⟨by rw [b2i_f (fun z => absurd (gl.mpr z.1) (Int32.not_lt.mpr c4))], ?_, Fr.rf⟩
    rw [tkI, if_neg (fun z => absurd (gl.mpr z.1) (Int32.not_lt.mpr c4))]
    exact hy
  · refine x_aload_n dX6_takesWordIfThere_7 rfl ?_
    refine x_aload_n dX6_takesWordIfThere_8 rfl ?_
    refine x_rdV (c_X6_isWord hj hu) (by assumption) lkX6_isWord sX6_50 dX6_takesWordIfThere_9 rfl rfl (Nat.le_of_ble_eq_true rfl) (by decide) ⟨rfl, rfl, by decide, by decide⟩ ?_
    refine x_if_neB 17 dX6_takesWordIfThere_12 (by decide) (fun c12 => ?_) (fun c12 => ?_)
    · refine x_aload_n dX6_takesWordIfThere_17 rfl ?_
      refine x_cnV (c_X6_step hb bd.2.2 ho1) (by assumption) lkX6_step sX6_25 dX6_takesWordIfThere_18 rfl rfl (Nat.le_of_ble_eq_true rfl) (by decide) ⟨rfl, rfl, by decide, by decide⟩ ?_
      rintro h1 ⟨u1, F1⟩
      refine x_iconst (v := 1) dX6_takesWordIfThere_21 (by decide) ?_
      refine x_zret rfl dX6_takesWordIfThere_22 ⟨by decide, by decide⟩ rfl ?_
      have sg := gl.mp (Int32.not_le.mp c4)
      refine ⟨by rw [b2i_t ⟨sg, c12⟩], ?_, F1⟩
      rw [tkI, if_pos ⟨sg, c12⟩]
      exact isY.mk u1 rfl ((flI_t rfl).trans (flI_t sg).symm)
    · refine x_iconst (v := 0) dX6_takesWordIfThere_15 (by decide) ?_
      refine x_zret rfl dX6_takesWordIfThere_16 ⟨by decide, by decide⟩ rfl ?_
      refine ⟨by rw [b2i_f (fun z => c12 z.2)], ?_, Fr.rf⟩
      rw [tkI, if_neg (fun z => c12 z.2)]
      exact hy
set_option maxRecDepth 10000 in
set_option maxHeartbeats 2000000 in
theorem c_X6_takesEnd {g : gG} {h : gH} {t : Nat} {T : TT} {s : TS} (hy : isY h t T s) : Ct g mX6_takesEnd [.ref t] h none (fun h' => isY h' t T (tkE T s) ∧ Fr t 2 h h') := by
  have hu : isU h t T s.1 (flI s) := hy
  obtain ⟨hb, bd, nu, ho, hnu⟩ := id hu
  have ho1 := ho
  have ho : h.1 t = _ := ho
  have hT := hb.1
  have gl := flI_lt (s := s) (by omega)
  refine Cn.of (L := [some (.ref t)]) (by decide) (Nat.le_of_ble_eq_true rfl) rfl ?_
  refine x_aload_n dX6_takesEnd_0 rfl ?_
  refine x_get fX6_22 ho rfl dX6_takesEnd_1 ?_
  refine x_if_lt 8 dX6_takesEnd_4 (by decide) (fun c4 => ?_) (fun c4 => ?_)
  · refine x_aload_n dX6_takesEnd_8 rfl ?_
    refine x_get fX6_28 ho rfl dX6_takesEnd_9 ?_
    refine x_iconst (v := 3) dX6_takesEnd_12 (by decide) ?_
    refine x_icmp_ne 29 dX6_takesEnd_13 (by decide) (fun c13 => ?_) (fun c13 => ?_)
    · refine x_aload_n dX6_takesEnd_29 rfl ?_
      refine x_aload_n dX6_takesEnd_30 rfl ?_
      refine x_get fX6_74 ho rfl dX6_takesEnd_31 ?_
      refine x_put fX6_22 ho (Nat.le_of_ble_eq_true rfl) rfl rfl rfl dX6_takesEnd_34 ?_
      refine x_vret rfl dX6_takesEnd_37 ⟨by decide, by decide⟩ ?_
      refine ⟨rfl, ?_, Fr.set (by omega) (by omega)⟩
      rw [tkE, if_neg (fun z => c13 (by rw [z.2.1]; rfl))]
      exact isU.bad (fl := flI s) hb bd hnu
    · refine x_aload_n dX6_takesEnd_16 rfl ?_
      refine x_aload_n dX6_takesEnd_17 rfl ?_
      refine x_get fX6_74 ho rfl dX6_takesEnd_18 ?_
      refine x_rdV (c_X6_byteAt (i := s.1.2.1) hb ho1 (by omega)) ho lkX6_byteAt sX6_125 dX6_takesEnd_21 rfl rfl (Nat.le_of_ble_eq_true rfl) (by decide) ⟨rfl, rfl, by decide, by decide⟩ ?_
      refine x_bipush (v := 59) dX6_takesEnd_24 (by decide) ?_
      refine x_icmp_eq 38 dX6_takesEnd_26 (by decide) (fun c26 => ?_) (fun c26 => ?_)
      · refine x_aload_n dX6_takesEnd_38 rfl ?_
        refine x_cnV (c_X6_step hb bd.2.2 ho1) (by assumption) lkX6_step sX6_25 dX6_takesEnd_39 rfl rfl (Nat.le_of_ble_eq_true rfl) (by decide) ⟨rfl, rfl, by decide, by decide⟩ ?_
        rintro h1 ⟨u1, F1⟩
        refine x_vret rfl dX6_takesEnd_42 ⟨by decide, by decide⟩ ?_
        have sg := gl.mp c4
        refine ⟨rfl, ?_, F1⟩
        rw [tkE, if_pos ⟨sg, nI_eqn (b := 3) (by omega) (by decide) c13, c26⟩]
        exact isY.mk u1 rfl ((flI_t rfl).trans (flI_t sg).symm)
      · refine x_aload_n dX6_takesEnd_29 rfl ?_
        refine x_aload_n dX6_takesEnd_30 rfl ?_
        refine x_get fX6_74 ho rfl dX6_takesEnd_31 ?_
        refine x_put fX6_22 ho (Nat.le_of_ble_eq_true rfl) rfl rfl rfl dX6_takesEnd_34 ?_
        refine x_vret rfl dX6_takesEnd_37 ⟨by decide, by decide⟩ ?_
        refine ⟨rfl, ?_, Fr.set (by omega) (by omega)⟩
        rw [tkE, if_neg (fun z => c26 z.2.2)]
        exact isU.bad (fl := flI s) hb bd hnu
  · refine x_vret rfl dX6_takesEnd_7 ⟨by decide, by decide⟩ ?_
    have sg : ¬ s.2 = true := fun z => c4 (gl.mpr z)
    refine ⟨rfl, ?_, Fr.rf⟩
    rw [tkE, if_neg (fun z => sg z.1), ← sbad sg]
    exact hy
def kdN (T : TT) (K : KS) : Nat := fa_first (fun i => decide (iw T K i)) 6
def kdI (n : Nat) : Int32 := if n < 6 then nI n else -9
theorem kd_is {T : TT} {K : KS} {i : Nat} (hi : i < 6) (h : iw T K i) (hb : ∀ j, j < i → ¬ iw T K j) : kdN T K = i := first_is hi (decide_eq_true h) (fun j q => decide_eq_false (hb j q))
theorem kd_no {T : TT} {K : KS} (hb : ∀ j, j < 6 → ¬ iw T K j) : kdN T K = 6 := first_no (fun j q => decide_eq_false (hb j q))
set_option maxRecDepth 10000 in
set_option maxHeartbeats 2000000 in
theorem c_X6_kindTold {g : gG} {h : gH} {t : Nat} {T : TT} {K : KS} {fl : Int32} (hu : isU h t T K fl) : Rd g mX6_kindTold [.ref t] h (.int (kdI (kdN T K))) := by
  have ho : h.1 t = _ := hu.2.2.choose_spec.1
  refine Cn.of (L := [some (.ref t)]) (by decide) (Nat.le_of_ble_eq_true rfl) rfl ?_
  refine x_aload_n dX6_kindTold_0 rfl ?_
  refine x_ldcS 0 (by decide) rfl rfl dX6_kindTold_1 ?_
  refine x_rdV (c_X6_isWord (by decide) hu) (by assumption) lkX6_isWord sX6_50 dX6_kindTold_3 rfl rfl (Nat.le_of_ble_eq_true rfl) (by decide) ⟨rfl, rfl, by decide, by decide⟩ ?_
  refine x_if_eqB 11 dX6_kindTold_6 (by decide) (fun c6 => ?_) (fun c6 => ?_)
  · refine x_aload_n dX6_kindTold_11 rfl ?_
    refine x_ldcS 1 (by decide) rfl rfl dX6_kindTold_12 ?_
    refine x_rdV (c_X6_isWord (by decide) hu) (by assumption) lkX6_isWord sX6_50 dX6_kindTold_14 rfl rfl (Nat.le_of_ble_eq_true rfl) (by decide) ⟨rfl, rfl, by decide, by decide⟩ ?_
    refine x_if_eqB 22 dX6_kindTold_17 (by decide) (fun c17 => ?_) (fun c17 => ?_)
    · refine x_aload_n dX6_kindTold_22 rfl ?_
      refine x_ldcS 2 (by decide) rfl rfl dX6_kindTold_23 ?_
      refine x_rdV (c_X6_isWord (by decide) hu) (by assumption) lkX6_isWord sX6_50 dX6_kindTold_25 rfl rfl (Nat.le_of_ble_eq_true rfl) (by decide) ⟨rfl, rfl, by decide, by decide⟩ ?_
      refine x_if_eqB 33 dX6_kindTold_28 (by decide) (fun c28 => ?_) (fun c28 => ?_)
      · refine x_aload_n dX6_kindTold_33 rfl ?_
        refine x_ldcS 3 (by decide) rfl rfl dX6_kindTold_34 ?_
        refine x_rdV (c_X6_isWord (by decide) hu) (by assumption) lkX6_isWord sX6_50 dX6_kindTold_36 rfl rfl (Nat.le_of_ble_eq_true rfl) (by decide) ⟨rfl, rfl, by decide, by decide⟩ ?_
        refine x_if_eqB 44 dX6_kindTold_39 (by decide) (fun c39 => ?_) (fun c39 => ?_)
        · refine x_aload_n dX6_kindTold_44 rfl ?_
          refine x_ldcS 4 (by decide) rfl rfl dX6_kindTold_45 ?_
          refine x_rdV (c_X6_isWord (by decide) hu) (by assumption) lkX6_isWord sX6_50 dX6_kindTold_47 rfl rfl (Nat.le_of_ble_eq_true rfl) (by decide) ⟨rfl, rfl, by decide, by decide⟩ ?_
          refine x_if_eqB 55 dX6_kindTold_50 (by decide) (fun c50 => ?_) (fun c50 => ?_)
          · refine x_aload_n dX6_kindTold_55 rfl ?_
            refine x_ldcS 5 (by decide) rfl rfl dX6_kindTold_56 ?_
            refine x_rdV (c_X6_isWord (by decide) hu) (by assumption) lkX6_isWord sX6_50 dX6_kindTold_58 rfl rfl (Nat.le_of_ble_eq_true rfl) (by decide) ⟨rfl, rfl, by decide, by decide⟩ ?_
            refine x_if_eqB 68 dX6_kindTold_61 (by decide) (fun c61 => ?_) (fun c61 => ?_)
            · refine x_bipush (v := -9) dX6_kindTold_68 (by decide) ?_
              refine x_iret rfl dX6_kindTold_70 ⟨by decide, by decide⟩ ?_
              exact ⟨by rw [kd_no (fun j q => match j, q with | 0, _ => c6 | 1, _ => c17 | 2, _ => c28 | 3, _ => c39 | 4, _ => c50 | 5, _ => c61 | j + 6, q => absurd q (by omega))]; rfl, rfl⟩
            · refine x_iconst (v := 5) dX6_kindTold_64 (by decide) ?_
              refine x_goto 70 dX6_kindTold_65 (by decide) ?_
              refine x_iret rfl dX6_kindTold_70 ⟨by decide, by decide⟩ ?_
              exact ⟨by rw [kd_is (i := 5) (by decide) c61 (fun j q => match j, q with | 0, _ => c6 | 1, _ => c17 | 2, _ => c28 | 3, _ => c39 | 4, _ => c50 | j + 5, q => absurd q (by omega))]; rfl, rfl⟩
          · refine x_iconst (v := 4) dX6_kindTold_53 (by decide) ?_
            refine x_iret rfl dX6_kindTold_54 ⟨by decide, by decide⟩ ?_
            exact ⟨by rw [kd_is (i := 4) (by decide) c50 (fun j q => match j, q with | 0, _ => c6 | 1, _ => c17 | 2, _ => c28 | 3, _ => c39 | j + 4, q => absurd q (by omega))]; rfl, rfl⟩
        · refine x_iconst (v := 3) dX6_kindTold_42 (by decide) ?_
          refine x_iret rfl dX6_kindTold_43 ⟨by decide, by decide⟩ ?_
          exact ⟨by rw [kd_is (i := 3) (by decide) c39 (fun j q => match j, q with | 0, _ => c6 | 1, _ => c17 | 2, _ => c28 | j + 3, q => absurd q (by omega))]; rfl, rfl⟩
      · refine x_iconst (v := 2) dX6_kindTold_31 (by decide) ?_
        refine x_iret rfl dX6_kindTold_32 ⟨by decide, by decide⟩ ?_
        exact ⟨by rw [kd_is (i := 2) (by decide) c28 (fun j q => match j, q with | 0, _ => c6 | 1, _ => c17 | j + 2, q => absurd q (by omega))]; rfl, rfl⟩
    · refine x_iconst (v := 1) dX6_kindTold_20 (by decide) ?_
      refine x_iret rfl dX6_kindTold_21 ⟨by decide, by decide⟩ ?_
      exact ⟨by rw [kd_is (i := 1) (by decide) c17 (fun j q => match j, q with | 0, _ => c6 | j + 1, q => absurd q (by omega))]; rfl, rfl⟩
  · refine x_iconst (v := 0) dX6_kindTold_9 (by decide) ?_
    refine x_iret rfl dX6_kindTold_10 ⟨by decide, by decide⟩ ?_
    exact ⟨by rw [kd_is (i := 0) (by decide) c6 (fun j q => absurd q (Nat.not_lt_zero j))]; rfl, rfl⟩
