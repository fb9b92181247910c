theorem kdI_ge {n : Nat} (hn : n ≤ 6) : kdI n < 0 ↔ ¬ n < 6 := by
  unfold kdI
  split
  · exact ⟨fun q => absurd q (nI_pos (by omega)), fun q => absurd (by assumption) q⟩
  · exact ⟨fun _ => by assumption, fun _ => by decide⟩
theorem kdN_le {T : TT} {K : KS} : kdN T K ≤ 6 := fa_first_le _ _
theorem rnV_is {h : gH} {w : Nat} {V : VS} (hv : isV h w V) : isV (hset h w (.inr (10, wF w (wS (rnV V))))) w (rnV V) := by
  obtain ⟨ok, a, hw, rp⟩ := hv
  refine ⟨?_, a, hw.num, ?_⟩
  · obtain ⟨h1, h2, h3, h4, h5, h6, h7⟩ := ok
    exact ⟨h1, h2, by show 1 ≤ 1; omega, h4, h5, h6, h7⟩
  · exact rp
theorem PT.of {h h' : gH} {w : Nat} {T : TT} {K : KS} {V : VS} {q : TS × VS} (Q : tlQ T K V = q) (hy : isY h' (w + 12) T (tkE T q.1)) (hv : isV h' w q.2) (F : Fr w 14 h h') : PT w T (tlT T K V) h h' := by
  rw [tlT, Q]
  exact ⟨hy, hv, F⟩
set_option maxRecDepth 10000 in
set_option maxHeartbeats 2000000 in
theorem c_X6_tellThing {g : gG} {h : gH} {w : Nat} {T : TT} {K : KS} {V : VS} (hy : isY h (w + 12) T (K, true)) (hv : isV h w V) : Ct g mX6_tellThing [.ref (w + 12), .ref w] h none (PT w T (tlT T K V) h) := by
  have hu : isU h (w + 12) T K (-9) := hy
  obtain ⟨hb, bd, nu0, o0, hnu⟩ := id hu
  have o1 := o0
  have o0 : h.1 (w + 12) = _ := o0
  have vo := hv.o
  have p8 : (8 : Int32) ≤ nI (V.1 0) ↔ 8 ≤ V.1 0 := nI_leI (a := 8) (by decide) (by have := hv.1.1; omega)
  have w4 : (4 : Int32) ≤ nI (V.1 1) ↔ 4 ≤ V.1 1 := nI_leI (a := 4) (by decide) (by have := hv.1.1; omega)
  have kl := kdI_ge (kdN_le (T := T) (K := K))
  refine Cn.of (L := [some (.ref (w + 12)), some (.ref w), none]) (by decide) (Nat.le_of_ble_eq_true rfl) rfl ?_
  refine x_aload_n dX6_tellThing_0 rfl ?_
  refine x_rdV (c_X6_kindTold hu) o0 lkX6_kindTold sX6_35 dX6_tellThing_1 rfl rfl (Nat.le_of_ble_eq_true rfl) (by decide) ⟨rfl, rfl, by decide, by decide⟩ ?_
  refine x_ist_2 dX6_tellThing_4 (by decide) rfl ?_
  refine x_iload_n dX6_tellThing_5 rfl ?_
  refine x_if_lt 31 dX6_tellThing_6 (by decide) (fun c6 => ?_) (fun c6 => ?_)
  · refine x_aload_n dX6_tellThing_31 rfl ?_
    refine x_ldcS 9 (by decide) rfl rfl dX6_tellThing_32 ?_
    refine x_rdV (c_X6_isWord (by decide) hu) o0 lkX6_isWord sX6_50 dX6_tellThing_34 rfl rfl (Nat.le_of_ble_eq_true rfl) (by decide) ⟨rfl, rfl, by decide, by decide⟩ ?_
    refine x_if_eqB 60 dX6_tellThing_37 (by decide) (fun c37 => ?_) (fun c37 => ?_)
    · refine x_aload_n dX6_tellThing_60 rfl ?_
      refine x_ldcS 11 (by decide) rfl rfl dX6_tellThing_61 ?_
      refine x_cvV (c_X6_takesWordIfThere (j := 11) hy (by decide)) o0 lkX6_takesWordIfThere sX6_62 dX6_tellThing_63 rfl rfl (Nat.le_of_ble_eq_true rfl) (by decide) ⟨rfl, rfl, by decide, by decide⟩ ?_
      rintro h1 ⟨y1, F1⟩
      have v1 : isV h1 w V := hv.fr F1 (by omega)
      have vo1 := v1.o
      obtain ⟨nu1, o2, _⟩ := id y1.2.2
      have o2 : h1.1 (w + 12) = _ := o2
      refine x_if_eqB 77 dX6_tellThing_66 (by decide) (fun c66 => ?_) (fun c66 => ?_)
      · refine x_aload_n dX6_tellThing_77 rfl ?_
        refine x_ldcS 12 (by decide) rfl rfl dX6_tellThing_78 ?_
        refine x_cvV (c_X6_takesWordIfThere (j := 12) y1 (by decide)) o2 lkX6_takesWordIfThere sX6_62 dX6_tellThing_80 rfl rfl (Nat.le_of_ble_eq_true rfl) (by decide) ⟨rfl, rfl, by decide, by decide⟩ ?_
        rintro h2 ⟨y2, F2⟩
        have v2 : isV h2 w V := v1.fr F2 (by omega)
        obtain ⟨nu2, o3, hn2⟩ := id y2.2.2
        have o3 : h2.1 (w + 12) = _ := o3
        refine x_if_eqB 94 dX6_tellThing_83 (by decide) (fun c83 => ?_) (fun c83 => ?_)
        · refine x_aload_n dX6_tellThing_94 rfl ?_
          refine x_aload_n dX6_tellThing_95 rfl ?_
          refine x_get fX6_74 o3 rfl dX6_tellThing_96 ?_
          refine x_put fX6_22 o3 (Nat.le_of_ble_eq_true rfl) rfl rfl rfl dX6_tellThing_99 ?_
          have yb : isY _ (w + 12) T ((tkI T (tkI T (K, true) 11) 12).1, false) := isU.bad (fl := flI (tkI T (tkI T (K, true) 11) 12)) y2.1 y2.2.1 hn2
          refine x_aload_n dX6_tellThing_102 rfl ?_
          refine x_cnV (c_X6_takesEnd yb) hset_s lkX6_takesEnd sX6_77 dX6_tellThing_103 rfl rfl (Nat.le_of_ble_eq_true rfl) (by decide) ⟨rfl, rfl, by decide, by decide⟩ ?_
          rintro h9 ⟨y9, F9⟩
          refine x_vret rfl dX6_tellThing_106 ⟨by decide, by decide⟩ ?_
          have T1 : tkI T (K, true) 11 = (K, true) := if_neg c66
          have n11 : ¬ iw T K 11 := fun z => c66 ⟨rfl, z⟩
          have c83' := c83
          rw [T1] at c83'
          have n12 : ¬ iw T K 12 := fun z => c83' ⟨rfl, z⟩
          have T2 : tkI T (tkI T (K, true) 11) 12 = (K, true) := (if_neg c83).trans T1
          rw [T2] at y9
          have Q : tlQ T K V = ((K, false), V) := (if_neg (fun z => kl.mp c6 z.1)).trans ((if_neg (fun z => c37 z.1)).trans ((if_neg n11).trans (if_neg n12)))
          exact ⟨rfl, PT.of Q y9 ((v2.fr (x := w + 12) (n := 2) (Fr.set (by omega) (by omega)) (by omega)).fr F9 (by omega)) (((F1.ta.tr F2.ta).tr (Fr.set (by omega) (by omega))).tr F9.ta)⟩
        · refine x_aload_n dX6_tellThing_86 rfl ?_
          refine x_aload_n dX6_tellThing_87 rfl ?_
          refine x_cnV (c_X6_tellWeight y2 v2) o3 lkX6_tellWeight sX6_71 dX6_tellThing_88 rfl rfl (Nat.le_of_ble_eq_true rfl) (by decide) ⟨rfl, rfl, by decide, by decide⟩ ?_
          rintro h3 ⟨y3, v3, F3⟩
          obtain ⟨nu3, o4, _⟩ := id y3.2.2
          have o4 : h3.1 (w + 12) = _ := o4
          refine x_goto 102 dX6_tellThing_91 (by decide) ?_
          refine x_aload_n dX6_tellThing_102 rfl ?_
          refine x_cnV (c_X6_takesEnd y3) o4 lkX6_takesEnd sX6_77 dX6_tellThing_103 rfl rfl (Nat.le_of_ble_eq_true rfl) (by decide) ⟨rfl, rfl, by decide, by decide⟩ ?_
          rintro h9 ⟨y9, F9⟩
          refine x_vret rfl dX6_tellThing_106 ⟨by decide, by decide⟩ ?_
          have T1 : tkI T (K, true) 11 = (K, true) := if_neg c66
          have n11 : ¬ iw T K 11 := fun z => c66 ⟨rfl, z⟩
          rw [T1] at c83 y3 v3 y9
          have T2 : tkI T (K, true) 12 = (nx T K.2.2, true) := if_pos c83
          rw [T2] at y3 v3 y9
          have Q : tlQ T K V = tlG T (nx T K.2.2, true) V := (if_neg (fun z => kl.mp c6 z.1)).trans ((if_neg (fun z => c37 z.1)).trans ((if_neg n11).trans (if_pos c83.2)))
          exact ⟨rfl, PT.of Q y9 (v3.fr F9 (by omega)) (((F1.ta.tr F2.ta).tr F3).tr F9.ta)⟩
      · refine x_aload_n dX6_tellThing_69 rfl ?_
        refine x_iconst (v := 1) dX6_tellThing_70 (by decide) ?_
        refine x_put (fs' := wF w (wS (rnV V))) fX6_65 vo1 (Nat.le_of_ble_eq_true rfl) rfl rfl rfl dX6_tellThing_71 ?_
        refine x_goto 102 dX6_tellThing_74 (by decide) ?_
        refine x_aload_n dX6_tellThing_102 rfl ?_
        refine x_cnV (c_X6_takesEnd (y1.fr (Fr.set (by omega) (by omega)))) ((hset_n (by omega)).trans o2) lkX6_takesEnd sX6_77 dX6_tellThing_103 rfl rfl (Nat.le_of_ble_eq_true rfl) (by decide) ⟨rfl, rfl, by decide, by decide⟩ ?_
        rintro h9 ⟨y9, F9⟩
        refine x_vret rfl dX6_tellThing_106 ⟨by decide, by decide⟩ ?_
        have Q : tlQ T K V = ((nx T K.2.2, true), rnV V) := (if_neg (fun z => kl.mp c6 z.1)).trans ((if_neg (fun z => c37 z.1)).trans (if_pos c66.2))
        have T1 : tkI T (K, true) 11 = (nx T K.2.2, true) := if_pos c66
        rw [T1] at y9
        exact ⟨rfl, PT.of Q y9 ((rnV_is v1).fr F9 (by omega)) ((F1.ta.tr (Fr.set (by omega) (by omega))).tr F9.ta)⟩
    · refine x_aload_n dX6_tellThing_40 rfl ?_
      refine x_get fX6_54 vo rfl dX6_tellThing_41 ?_
      refine x_iconst (v := 4) dX6_tellThing_44 (by decide) ?_
      refine x_icmp_ge 60 dX6_tellThing_45 (by decide) (fun c45 => ?_) (fun c45 => ?_)
      · refine x_aload_n dX6_tellThing_60 rfl ?_
        refine x_ldcS 11 (by decide) rfl rfl dX6_tellThing_61 ?_
        refine x_cvV (c_X6_takesWordIfThere (j := 11) hy (by decide)) o0 lkX6_takesWordIfThere sX6_62 dX6_tellThing_63 rfl rfl (Nat.le_of_ble_eq_true rfl) (by decide) ⟨rfl, rfl, by decide, by decide⟩ ?_
        rintro h1 ⟨y1, F1⟩
        have v1 : isV h1 w V := hv.fr F1 (by omega)
        have vo1 := v1.o
        obtain ⟨nu1, o2, _⟩ := id y1.2.2
        have o2 : h1.1 (w + 12) = _ := o2
        refine x_if_eqB 77 dX6_tellThing_66 (by decide) (fun c66 => ?_) (fun c66 => ?_)
        · refine x_aload_n dX6_tellThing_77 rfl ?_
          refine x_ldcS 12 (by decide) rfl rfl dX6_tellThing_78 ?_
          refine x_cvV (c_X6_takesWordIfThere (j := 12) y1 (by decide)) o2 lkX6_takesWordIfThere sX6_62 dX6_tellThing_80 rfl rfl (Nat.le_of_ble_eq_true rfl) (by decide) ⟨rfl, rfl, by decide, by decide⟩ ?_
          rintro h2 ⟨y2, F2⟩
          have v2 : isV h2 w V := v1.fr F2 (by omega)
          obtain ⟨nu2, o3, hn2⟩ := id y2.2.2
          have o3 : h2.1 (w + 12) = _ := o3
          refine x_if_eqB 94 dX6_tellThing_83 (by decide) (fun c83 => ?_) (fun c83 => ?_)
          · refine x_aload_n dX6_tellThing_94 rfl ?_
            refine x_aload_n dX6_tellThing_95 rfl ?_
            refine x_get fX6_74 o3 rfl dX6_tellThing_96 ?_
            refine x_put fX6_22 o3 (Nat.le_of_ble_eq_true rfl) rfl rfl rfl dX6_tellThing_99 ?_
            have yb : isY _ (w + 12) T ((tkI T (tkI T (K, true) 11) 12).1, false) := isU.bad (fl := flI (tkI T (tkI T (K, true) 11) 12)) y2.1 y2.2.1 hn2
            refine x_aload_n dX6_tellThing_102 rfl ?_
            refine x_cnV (c_X6_takesEnd yb) hset_s lkX6_takesEnd sX6_77 dX6_tellThing_103 rfl rfl (Nat.le_of_ble_eq_true rfl) (by decide) ⟨rfl, rfl, by decide, by decide⟩ ?_
            rintro h9 ⟨y9, F9⟩
            refine x_vret rfl dX6_tellThing_106 ⟨by decide, by decide⟩ ?_
            have T1 : tkI T (K, true) 11 = (K, true) := if_neg c66
            have n11 : ¬ iw T K 11 := fun z => c66 ⟨rfl, z⟩
            have c83' := c83
            rw [T1] at c83'
            have n12 : ¬ iw T K 12 := fun z => c83' ⟨rfl, z⟩
            have T2 : tkI T (tkI T (K, true) 11) 12 = (K, true) := (if_neg c83).trans T1
            rw [T2] at y9
            have Q : tlQ T K V = ((K, false), V) := (if_neg (fun z => kl.mp c6 z.1)).trans ((if_neg (fun z => by have := w4.mp c45; omega)).trans ((if_neg n11).trans (if_neg n12)))
            exact ⟨rfl, PT.of Q y9 ((v2.fr (x := w + 12) (n := 2) (Fr.set (by omega) (by omega)) (by omega)).fr F9 (by omega)) (((F1.ta.tr F2.ta).tr (Fr.set (by omega) (by omega))).tr F9.ta)⟩
          · refine x_aload_n dX6_tellThing_86 rfl ?_
            refine x_aload_n dX6_tellThing_87 rfl ?_
            refine x_cnV (c_X6_tellWeight y2 v2) o3 lkX6_tellWeight sX6_71 dX6_tellThing_88 rfl rfl (Nat.le_of_ble_eq_true rfl) (by decide) ⟨rfl, rfl, by decide, by decide⟩ ?_
            rintro h3 ⟨y3, v3, F3⟩
            obtain ⟨nu3, o4, _⟩ := id y3.2.2
            have o4 : h3.1 (w + 12) = _ := o4
            refine x_goto 102 dX6_tellThing_91 (by decide) ?_
            refine x_aload_n dX6_tellThing_102 rfl ?_
            refine x_cnV (c_X6_takesEnd y3) o4 lkX6_takesEnd sX6_77 dX6_tellThing_103 rfl rfl (Nat.le_of_ble_eq_true rfl) (by decide) ⟨rfl, rfl, by decide, by decide⟩ ?_
            rintro h9 ⟨y9, F9⟩
            refine x_vret rfl dX6_tellThing_106 ⟨by decide, by decide⟩ ?_
            have T1 : tkI T (K, true) 11 = (K, true) := if_neg c66
            have n11 : ¬ iw T K 11 := fun z => c66 ⟨rfl, z⟩
            rw [T1] at c83 y3 v3 y9
            have T2 : tkI T (K, true) 12 = (nx T K.2.2, true) := if_pos c83
            rw [T2] at y3 v3 y9
            have Q : tlQ T K V = tlG T (nx T K.2.2, true) V := (if_neg (fun z => kl.mp c6 z.1)).trans ((if_neg (fun z => by have := w4.mp c45; omega)).trans ((if_neg n11).trans (if_pos c83.2)))
            exact ⟨rfl, PT.of Q y9 (v3.fr F9 (by omega)) (((F1.ta.tr F2.ta).tr F3).tr F9.ta)⟩
        · refine x_aload_n dX6_tellThing_69 rfl ?_
          refine x_iconst (v := 1) dX6_tellThing_70 (by decide) ?_
          refine x_put (fs' := wF w (wS (rnV V))) fX6_65 vo1 (Nat.le_of_ble_eq_true rfl) rfl rfl rfl dX6_tellThing_71 ?_
          refine x_goto 102 dX6_tellThing_74 (by decide) ?_
          refine x_aload_n dX6_tellThing_102 rfl ?_
          refine x_cnV (c_X6_takesEnd (y1.fr (Fr.set (by omega) (by omega)))) ((hset_n (by omega)).trans o2) lkX6_takesEnd sX6_77 dX6_tellThing_103 rfl rfl (Nat.le_of_ble_eq_true rfl) (by decide) ⟨rfl, rfl, by decide, by decide⟩ ?_
          rintro h9 ⟨y9, F9⟩
          refine x_vret rfl dX6_tellThing_106 ⟨by decide, by decide⟩ ?_
          have Q : tlQ T K V = ((nx T K.2.2, true), rnV V) := (if_neg (fun z => kl.mp c6 z.1)).trans ((if_neg (fun z => by have := w4.mp c45; omega)).trans (if_pos c66.2))
          have T1 : tkI T (K, true) 11 = (nx T K.2.2, true) := if_pos c66
          rw [T1] at y9
          exact ⟨rfl, PT.of Q y9 ((rnV_is v1).fr F9 (by omega)) ((F1.ta.tr (Fr.set (by omega) (by omega))).tr F9.ta)⟩
      · have k4 : V.1 1 < 4 := by have : ¬ 4 ≤ V.1 1 := fun z => c45 (w4.mpr z); omega
        refine x_aload_n dX6_tellThing_48 rfl ?_
        refine x_cnV (c_X6_step hb bd.2.2 o1) o0 lkX6_step sX6_25 dX6_tellThing_49 rfl rfl (Nat.le_of_ble_eq_true rfl) (by decide) ⟨rfl, rfl, by decide, by decide⟩ ?_
        rintro h1 ⟨u1, F1⟩
        have y1 : isY h1 (w + 12) T (nx T K.2.2, true) := isY.mk u1 rfl (flI_t rfl)
        have v1 : isV h1 w V := hv.fr F1 (by omega)
        obtain ⟨nu1, o2, _⟩ := id y1.2.2
        have o2 : h1.1 (w + 12) = _ := o2
        refine x_aload_n dX6_tellThing_52 rfl ?_
        refine x_aload_n dX6_tellThing_53 rfl ?_
        refine x_cnV (c_X6_tellWalker y1 v1 k4) o2 lkX6_tellWalker sX6_57 dX6_tellThing_54 rfl rfl (Nat.le_of_ble_eq_true rfl) (by decide) ⟨rfl, rfl, by decide, by decide⟩ ?_
        rintro h2 ⟨y2, v2, F2⟩
        obtain ⟨nu2, o3, hn2⟩ := id y2.2.2
        have o3 : h2.1 (w + 12) = _ := o3
        refine x_goto 102 dX6_tellThing_57 (by decide) ?_
        refine x_aload_n dX6_tellThing_102 rfl ?_
        refine x_cnV (c_X6_takesEnd y2) o3 lkX6_takesEnd sX6_77 dX6_tellThing_103 rfl rfl (Nat.le_of_ble_eq_true rfl) (by decide) ⟨rfl, rfl, by decide, by decide⟩ ?_
        rintro h9 ⟨y9, F9⟩
        refine x_vret rfl dX6_tellThing_106 ⟨by decide, by decide⟩ ?_
        have Q : tlQ T K V = tlW T (nx T K.2.2, true) V := (if_neg (fun z => kl.mp c6 z.1)).trans (if_pos ⟨c37, k4⟩)
        exact ⟨rfl, PT.of Q y9 (v2.fr F9 (by omega)) ((F1.ta.tr F2).tr F9.ta)⟩
  · refine x_aload_n dX6_tellThing_9 rfl ?_
    refine x_get fX6_39 vo rfl dX6_tellThing_10 ?_
    refine x_bipush (v := 8) dX6_tellThing_13 (by decide) ?_
    refine x_icmp_ge 31 dX6_tellThing_15 (by decide) (fun c15 => ?_) (fun c15 => ?_)
    · refine x_aload_n dX6_tellThing_31 rfl ?_
      refine x_ldcS 9 (by decide) rfl rfl dX6_tellThing_32 ?_
      refine x_rdV (c_X6_isWord (by decide) hu) o0 lkX6_isWord sX6_50 dX6_tellThing_34 rfl rfl (Nat.le_of_ble_eq_true rfl) (by decide) ⟨rfl, rfl, by decide, by decide⟩ ?_
      refine x_if_eqB 60 dX6_tellThing_37 (by decide) (fun c37 => ?_) (fun c37 => ?_)
      · refine x_aload_n dX6_tellThing_60 rfl ?_
        refine x_ldcS 11 (by decide) rfl rfl dX6_tellThing_61 ?_
        refine x_cvV (c_X6_takesWordIfThere (j := 11) hy (by decide)) o0 lkX6_takesWordIfThere sX6_62 dX6_tellThing_63 rfl rfl (Nat.le_of_ble_eq_true rfl) (by decide) ⟨rfl, rfl, by decide, by decide⟩ ?_
        rintro h1 ⟨y1, F1⟩
        have v1 : isV h1 w V := hv.fr F1 (by omega)
        have vo1 := v1.o
        obtain ⟨nu1, o2, _⟩ := id y1.2.2
        have o2 : h1.1 (w + 12) = _ := o2
        refine x_if_eqB 77 dX6_tellThing_66 (by decide) (fun c66 => ?_) (fun c66 => ?_)
        · refine x_aload_n dX6_tellThing_77 rfl ?_
          refine x_ldcS 12 (by decide) rfl rfl dX6_tellThing_78 ?_
          refine x_cvV (c_X6_takesWordIfThere (j := 12) y1 (by decide)) o2 lkX6_takesWordIfThere sX6_62 dX6_tellThing_80 rfl rfl (Nat.le_of_ble_eq_true rfl) (by decide) ⟨rfl, rfl, by decide, by decide⟩ ?_
          rintro h2 ⟨y2, F2⟩
          have v2 : isV h2 w V := v1.fr F2 (by omega)
          obtain ⟨nu2, o3, hn2⟩ := id y2.2.2
          have o3 : h2.1 (w + 12) = _ := o3
          refine x_if_eqB 94 dX6_tellThing_83 (by decide) (fun c83 => ?_) (fun c83 => ?_)
          · refine x_aload_n dX6_tellThing_94 rfl ?_
            refine x_aload_n dX6_tellThing_95 rfl ?_
            refine x_get fX6_74 o3 rfl dX6_tellThing_96 ?_
            refine x_put fX6_22 o3 (Nat.le_of_ble_eq_true rfl) rfl rfl rfl dX6_tellThing_99 ?_
            have yb : isY _ (w + 12) T ((tkI T (tkI T (K, true) 11) 12).1, false) := isU.bad (fl := flI (tkI T (tkI T (K, true) 11) 12)) y2.1 y2.2.1 hn2
            refine x_aload_n dX6_tellThing_102 rfl ?_
            refine x_cnV (c_X6_takesEnd yb) hset_s lkX6_takesEnd sX6_77 dX6_tellThing_103 rfl rfl (Nat.le_of_ble_eq_true rfl) (by decide) ⟨rfl, rfl, by decide, by decide⟩ ?_
            rintro h9 ⟨y9, F9⟩
            refine x_vret rfl dX6_tellThing_106 ⟨by decide, by decide⟩ ?_
            have T1 : tkI T (K, true) 11 = (K, true) := if_neg c66
            have n11 : ¬ iw T K 11 := fun z => c66 ⟨rfl, z⟩
            have c83' := c83
            rw [T1] at c83'
            have n12 : ¬ iw T K 12 := fun z => c83' ⟨rfl, z⟩
            have T2 : tkI T (tkI T (K, true) 11) 12 = (K, true) := (if_neg c83).trans T1
            rw [T2] at y9
            have Q : tlQ T K V = ((K, false), V) := (if_neg (fun z => by have := p8.mp c15; omega)).trans ((if_neg (fun z => c37 z.1)).trans ((if_neg n11).trans (if_neg n12)))
            exact ⟨rfl, PT.of Q y9 ((v2.fr (x := w + 12) (n := 2) (Fr.set (by omega) (by omega)) (by omega)).fr F9 (by omega)) (((F1.ta.tr F2.ta).tr (Fr.set (by omega) (by omega))).tr F9.ta)⟩
          · refine x_aload_n dX6_tellThing_86 rfl ?_
            refine x_aload_n dX6_tellThing_87 rfl ?_
            refine x_cnV (c_X6_tellWeight y2 v2) o3 lkX6_tellWeight sX6_71 dX6_tellThing_88 rfl rfl (Nat.le_of_ble_eq_true rfl) (by decide) ⟨rfl, rfl, by decide, by decide⟩ ?_
            rintro h3 ⟨y3, v3, F3⟩
            obtain ⟨nu3, o4, _⟩ := id y3.2.2
            have o4 : h3.1 (w + 12) = _ := o4
            refine x_goto 102 dX6_tellThing_91 (by decide) ?_
            refine x_aload_n dX6_tellThing_102 rfl ?_
            refine x_cnV (c_X6_takesEnd y3) o4 lkX6_takesEnd sX6_77 dX6_tellThing_103 rfl rfl (Nat.le_of_ble_eq_true rfl) (by decide) ⟨rfl, rfl, by decide, by decide⟩ ?_
            rintro h9 ⟨y9, F9⟩
            refine x_vret rfl dX6_tellThing_106 ⟨by decide, by decide⟩ ?_
            have T1 : tkI T (K, true) 11 = (K, true) := if_neg c66
            have n11 : ¬ iw T K 11 := fun z => c66 ⟨rfl, z⟩
            rw [T1] at c83 y3 v3 y9
            have T2 : tkI T (K, true) 12 = (nx T K.2.2, true) := if_pos c83
            rw [T2] at y3 v3 y9
            have Q : tlQ T K V = tlG T (nx T K.2.2, true) V := (if_neg (fun z => by have := p8.mp c15; omega)).trans ((if_neg (fun z => c37 z.1)).trans ((if_neg n11).trans (if_pos c83.2)))
            exact ⟨rfl, PT.of Q y9 (v3.fr F9 (by omega)) (((F1.ta.tr F2.ta).tr F3).tr F9.ta)⟩
        · refine x_aload_n dX6_tellThing_69 rfl ?_
          refine x_iconst (v := 1) dX6_tellThing_70 (by decide) ?_
          refine x_put (fs' := wF w (wS (rnV V))) fX6_65 vo1 (Nat.le_of_ble_eq_true rfl) rfl rfl rfl dX6_tellThing_71 ?_
          refine x_goto 102 dX6_tellThing_74 (by decide) ?_
          refine x_aload_n dX6_tellThing_102 rfl ?_
          refine x_cnV (c_X6_takesEnd (y1.fr (Fr.set (by omega) (by omega)))) ((hset_n (by omega)).trans o2) lkX6_takesEnd sX6_77 dX6_tellThing_103 rfl rfl (Nat.le_of_ble_eq_true rfl) (by decide) ⟨rfl, rfl, by decide, by decide⟩ ?_
          rintro h9 ⟨y9, F9⟩
          refine x_vret rfl dX6_tellThing_106 ⟨by decide, by decide⟩ ?_
          have Q : tlQ T K V = ((nx T K.2.2, true), rnV V) := (if_neg (fun z => by have := p8.mp c15; omega)).trans ((if_neg (fun z => c37 z.1)).trans (if_pos c66.2))
          have T1 : tkI T (K, true) 11 = (nx T K.2.2, true) := if_pos c66
          rw [T1] at y9
          exact ⟨rfl, PT.of Q y9 ((rnV_is v1).fr F9 (by omega)) ((F1.ta.tr (Fr.set (by omega) (by omega))).tr F9.ta)⟩
      · refine x_aload_n dX6_tellThing_40 rfl ?_
        refine x_get fX6_54 vo rfl dX6_tellThing_41 ?_
        refine x_iconst (v := 4) dX6_tellThing_44 (by decide) ?_
        refine x_icmp_ge 60 dX6_tellThing_45 (by decide) (fun c45 => ?_) (fun c45 => ?_)
        · refine x_aload_n dX6_tellThing_60 rfl ?_
          refine x_ldcS 11 (by decide) rfl rfl dX6_tellThing_61 ?_
          refine x_cvV (c_X6_takesWordIfThere (j := 11) hy (by decide)) o0 lkX6_takesWordIfThere sX6_62 dX6_tellThing_63 rfl rfl (Nat.le_of_ble_eq_true rfl) (by decide) ⟨rfl, rfl, by decide, by decide⟩ ?_
          rintro h1 ⟨y1, F1⟩
          have v1 : isV h1 w V := hv.fr F1 (by omega)
          have vo1 := v1.o
          obtain ⟨nu1, o2, _⟩ := id y1.2.2
          have o2 : h1.1 (w + 12) = _ := o2
          refine x_if_eqB 77 dX6_tellThing_66 (by decide) (fun c66 => ?_) (fun c66 => ?_)
          · refine x_aload_n dX6_tellThing_77 rfl ?_
            refine x_ldcS 12 (by decide) rfl rfl dX6_tellThing_78 ?_
            refine x_cvV (c_X6_takesWordIfThere (j := 12) y1 (by decide)) o2 lkX6_takesWordIfThere sX6_62 dX6_tellThing_80 rfl rfl (Nat.le_of_ble_eq_true rfl) (by decide) ⟨rfl, rfl, by decide, by decide⟩ ?_
            rintro h2 ⟨y2, F2⟩
            have v2 : isV h2 w V := v1.fr F2 (by omega)
            obtain ⟨nu2, o3, hn2⟩ := id y2.2.2
            have o3 : h2.1 (w + 12) = _ := o3
            refine x_if_eqB 94 dX6_tellThing_83 (by decide) (fun c83 => ?_) (fun c83 => ?_)
            · refine x_aload_n dX6_tellThing_94 rfl ?_
              refine x_aload_n dX6_tellThing_95 rfl ?_
              refine x_get fX6_74 o3 rfl dX6_tellThing_96 ?_
              refine x_put fX6_22 o3 (Nat.le_of_ble_eq_true rfl) rfl rfl rfl dX6_tellThing_99 ?_
              have yb : isY _ (w + 12) T ((tkI T (tkI T (K, true) 11) 12).1, false) := isU.bad (fl := flI (tkI T (tkI T (K, true) 11) 12)) y2.1 y2.2.1 hn2
              refine x_aload_n dX6_tellThing_102 rfl ?_
              refine x_cnV (c_X6_takesEnd yb) hset_s lkX6_takesEnd sX6_77 dX6_tellThing_103 rfl rfl (Nat.le_of_ble_eq_true rfl) (by decide) ⟨rfl, rfl, by decide, by decide⟩ ?_
              rintro h9 ⟨y9, F9⟩
              refine x_vret rfl dX6_tellThing_106 ⟨by decide, by decide⟩ ?_
              have T1 : tkI T (K, true) 11 = (K, true) := if_neg c66
              have n11 : ¬ iw T K 11 := fun z => c66 ⟨rfl, z⟩
              have c83' := c83
              rw [T1] at c83'
              have n12 : ¬ iw T K 12 := fun z => c83' ⟨rfl, z⟩
              have T2 : tkI T (tkI T (K, true) 11) 12 = (K, true) := (if_neg c83).trans T1
              rw [T2] at y9
              have Q : tlQ T K V = ((K, false), V) := (if_neg (fun z => by have := p8.mp c15; omega)).trans ((if_neg (fun z => by have := w4.mp c45; omega)).trans ((if_neg n11).trans (if_neg n12)))
              exact ⟨rfl, PT.of Q y9 ((v2.fr (x := w + 12) (n := 2) (Fr.set (by omega) (by omega)) (by omega)).fr F9 (by omega)) (((F1.ta.tr F2.ta).tr (Fr.set (by omega) (by omega))).tr F9.ta)⟩
            · refine x_aload_n dX6_tellThing_86 rfl ?_
              refine x_aload_n dX6_tellThing_87 rfl ?_
              refine x_cnV (c_X6_tellWeight y2 v2) o3 lkX6_tellWeight sX6_71 dX6_tellThing_88 rfl rfl (Nat.le_of_ble_eq_true rfl) (by decide) ⟨rfl, rfl, by decide, by decide⟩ ?_
              rintro h3 ⟨y3, v3, F3⟩
              obtain ⟨nu3, o4, _⟩ := id y3.2.2
              have o4 : h3.1 (w + 12) = _ := o4
              refine x_goto 102 dX6_tellThing_91 (by decide) ?_
              refine x_aload_n dX6_tellThing_102 rfl ?_
              refine x_cnV (c_X6_takesEnd y3) o4 lkX6_takesEnd sX6_77 dX6_tellThing_103 rfl rfl (Nat.le_of_ble_eq_true rfl) (by decide) ⟨rfl, rfl, by decide, by decide⟩ ?_
              rintro h9 ⟨y9, F9⟩
              refine x_vret rfl dX6_tellThing_106 ⟨by decide, by decide⟩ ?_
              have T1 : tkI T (K, true) 11 = (K, true) := if_neg c66
              have n11 : ¬ iw T K 11 := fun z => c66 ⟨rfl, z⟩
              rw [T1] at c83 y3 v3 y9
              have T2 : tkI T (K, true) 12 = (nx T K.2.2, true) := if_pos c83
              rw [T2] at y3 v3 y9
              have Q : tlQ T K V = tlG T (nx T K.2.2, true) V := (if_neg (fun z => by have := p8.mp c15; omega)).trans ((if_neg (fun z => by have := w4.mp c45; omega)).trans ((if_neg n11).trans (if_pos c83.2)))
              exact ⟨rfl, PT.of Q y9 (v3.fr F9 (by omega)) (((F1.ta.tr F2.ta).tr F3).tr F9.ta)⟩
          · refine x_aload_n dX6_tellThing_69 rfl ?_
            refine x_iconst (v := 1) dX6_tellThing_70 (by decide) ?_
            refine x_put (fs' := wF w (wS (rnV V))) fX6_65 vo1 (Nat.le_of_ble_eq_true rfl) rfl rfl rfl dX6_tellThing_71 ?_
            refine x_goto 102 dX6_tellThing_74 (by decide) ?_
            refine x_aload_n dX6_tellThing_102 rfl ?_
            refine x_cnV (c_X6_takesEnd (y1.fr (Fr.set (by omega) (by omega)))) ((hset_n (by omega)).trans o2) lkX6_takesEnd sX6_77 dX6_tellThing_103 rfl rfl (Nat.le_of_ble_eq_true rfl) (by decide) ⟨rfl, rfl, by decide, by decide⟩ ?_
            rintro h9 ⟨y9, F9⟩
            refine x_vret rfl dX6_tellThing_106 ⟨by decide, by decide⟩ ?_
            have Q : tlQ T K V = ((nx T K.2.2, true), rnV V) := (if_neg (fun z => by have := p8.mp c15; omega)).trans ((if_neg (fun z => by have := w4.mp c45; omega)).trans (if_pos c66.2))
            have T1 : tkI T (K, true) 11 = (nx T K.2.2, true) := if_pos c66
            rw [T1] at y9
            exact ⟨rfl, PT.of Q y9 ((rnV_is v1).fr F9 (by omega)) ((F1.ta.tr (Fr.set (by omega) (by omega))).tr F9.ta)⟩
        · have k4 : V.1 1 < 4 := by have : ¬ 4 ≤ V.1 1 := fun z => c45 (w4.mpr z); omega
          refine x_aload_n dX6_tellThing_48 rfl ?_
          refine x_cnV (c_X6_step hb bd.2.2 o1) o0 lkX6_step sX6_25 dX6_tellThing_49 rfl rfl (Nat.le_of_ble_eq_true rfl) (by decide) ⟨rfl, rfl, by decide, by decide⟩ ?_
          rintro h1 ⟨u1, F1⟩
          have y1 : isY h1 (w + 12) T (nx T K.2.2, true) := isY.mk u1 rfl (flI_t rfl)
          have v1 : isV h1 w V := hv.fr F1 (by omega)
          obtain ⟨nu1, o2, _⟩ := id y1.2.2
          have o2 : h1.1 (w + 12) = _ := o2
          refine x_aload_n dX6_tellThing_52 rfl ?_
          refine x_aload_n dX6_tellThing_53 rfl ?_
          refine x_cnV (c_X6_tellWalker y1 v1 k4) o2 lkX6_tellWalker sX6_57 dX6_tellThing_54 rfl rfl (Nat.le_of_ble_eq_true rfl) (by decide) ⟨rfl, rfl, by decide, by decide⟩ ?_
          rintro h2 ⟨y2, v2, F2⟩
          obtain ⟨nu2, o3, hn2⟩ := id y2.2.2
          have o3 : h2.1 (w + 12) = _ := o3
          refine x_goto 102 dX6_tellThing_57 (by decide) ?_
          refine x_aload_n dX6_tellThing_102 rfl ?_
          refine x_cnV (c_X6_takesEnd y2) o3 lkX6_takesEnd sX6_77 dX6_tellThing_103 rfl rfl (Nat.le_of_ble_eq_true rfl) (by decide) ⟨rfl, rfl, by decide, by decide⟩ ?_
          rintro h9 ⟨y9, F9⟩
          refine x_vret rfl dX6_tellThing_106 ⟨by decide, by decide⟩ ?_
          have Q : tlQ T K V = tlW T (nx T K.2.2, true) V := (if_neg (fun z => by have := p8.mp c15; omega)).trans (if_pos ⟨c37, k4⟩)
          exact ⟨rfl, PT.of Q y9 (v2.fr F9 (by omega)) ((F1.ta.tr F2).tr F9.ta)⟩
    · have k6 : kdN T K < 6 := Decidable.not_not.mp (fun z => c6 (kl.mpr z))
      have k8 : V.1 0 < 8 := by have : ¬ 8 ≤ V.1 0 := fun z => c15 (p8.mpr z); omega
      rw [show kdI (kdN T K) = nI (kdN T K) from if_pos k6]
      refine x_aload_n dX6_tellThing_18 rfl ?_
      refine x_cnV (c_X6_step hb bd.2.2 o1) o0 lkX6_step sX6_25 dX6_tellThing_19 rfl rfl (Nat.le_of_ble_eq_true rfl) (by decide) ⟨rfl, rfl, by decide, by decide⟩ ?_
      rintro h1 ⟨u1, F1⟩
      have y1 : isY h1 (w + 12) T (nx T K.2.2, true) := isY.mk u1 rfl (flI_t rfl)
      have v1 : isV h1 w V := hv.fr F1 (by omega)
      obtain ⟨nu1, o2, _⟩ := id y1.2.2
      have o2 : h1.1 (w + 12) = _ := o2
      refine x_aload_n dX6_tellThing_22 rfl ?_
      refine x_aload_n dX6_tellThing_23 rfl ?_
      refine x_iload_n dX6_tellThing_24 rfl ?_
      refine x_cnV (c_X6_tellPath y1 v1 k8 k6) o2 lkX6_tellPath sX6_44 dX6_tellThing_25 rfl rfl (Nat.le_of_ble_eq_true rfl) (by decide) ⟨rfl, rfl, by decide, by decide⟩ ?_
      rintro h2 ⟨y2, v2, F2⟩
      obtain ⟨nu2, o3, hn2⟩ := id y2.2.2
      have o3 : h2.1 (w + 12) = _ := o3
      refine x_goto 102 dX6_tellThing_28 (by decide) ?_
      refine x_aload_n dX6_tellThing_102 rfl ?_
      refine x_cnV (c_X6_takesEnd y2) o3 lkX6_takesEnd sX6_77 dX6_tellThing_103 rfl rfl (Nat.le_of_ble_eq_true rfl) (by decide) ⟨rfl, rfl, by decide, by decide⟩ ?_
      rintro h9 ⟨y9, F9⟩
      refine x_vret rfl dX6_tellThing_106 ⟨by decide, by decide⟩ ?_
      have Q : tlQ T K V = tlP T (nx T K.2.2, true) V (kdN T K) := if_pos ⟨k6, k8⟩
      exact ⟨rfl, PT.of Q y9 (v2.fr F9 (by omega)) ((F1.ta.tr F2).tr F9.ta)⟩
set_option maxRecDepth 10000 in
set_option maxHeartbeats 2000000 in
theorem tl49 {g : gG} {h h1 : gH} {w : Nat} {T : TT} {V : VS} {L : List (Option Value)} (hL : L[0]? = some (some (.ref (w + 12)))) (hy : isY h1 (w + 12) T (tlL T 240 ((nx T 0, true), V)).1) (hv : isV h1 w (tlL T 240 ((nx T 0, true), V)).2) (F : Fr w 14 h h1) : Ex g mX6_tellTo (gZm g mX6_tellTo (fun o h' => o = some (.int (flI (tlL T 240 ((nx T 0, true), V)).1)) ∧ isT h' (w + 12) (0, T.2) ∧ isV h' w (tlL T 240 ((nx T 0, true), V)).2 ∧ Fr w 14 h h' ∧ (tlL T 240 ((nx T 0, true), V)).1.1.2.1 ≤ 240)) 49 L [] h1 0 0 := by
  obtain ⟨hb, bd, nu1, o1, _⟩ := id hy
  have o1 : h1.1 (w + 12) = _ := o1
  refine x_aload_n dX6_tellTo_49 hL ?_
  refine x_iconst (v := 0) dX6_tellTo_50 (by decide) ?_
  refine x_put fX6_15 o1 (Nat.le_of_ble_eq_true rfl) rfl rfl rfl dX6_tellTo_51 ?_
  refine x_aload_n dX6_tellTo_54 hL ?_
  refine x_get fX6_22 hset_s rfl dX6_tellTo_55 ?_
  refine x_iret rfl dX6_tellTo_58 ⟨by decide, by decide⟩ ?_
  obtain ⟨hT, b, b1, b2⟩ := hb
  exact ⟨rfl, ⟨Nat.zero_le _, ⟨_, _, _, _, _, hset_s⟩, b, (hset_n (by omega)).trans b1, fun i q => absurd q (Nat.not_lt_zero i)⟩, hv.fr (x := w + 12) (n := 2) (Fr.set (by omega) (by omega)) (by omega), F.tr (Fr.set (by omega) (by omega)), Nat.le_trans (Nat.le_trans bd.2.1 bd.2.2) hT⟩
set_option maxRecDepth 10000 in
set_option maxHeartbeats 2000000 in
theorem tl17 {g : gG} {h : gH} {w : Nat} {T : TT} {V : VS} : ∀ i, i ≤ 240 → ∀ (h1 : gH) (r : TS × VS), isY h1 (w + 12) T r.1 → isV h1 w r.2 → Fr w 14 h h1 → tlL T (240 - i) r = tlL T 240 ((nx T 0, true), V) → Ex g mX6_tellTo (gZm g mX6_tellTo (fun o h' => o = some (.int (flI (tlL T 240 ((nx T 0, true), V)).1)) ∧ isT h' (w + 12) (0, T.2) ∧ isV h' w (tlL T 240 ((nx T 0, true), V)).2 ∧ Fr w 14 h h' ∧ (tlL T 240 ((nx T 0, true), V)).1.1.2.1 ≤ 240)) 17 [some (.ref (w + 12)), some (.ref w), some (.int (nI i))] [] h1 0 0 := by
  refine lp_up 240 (fun i hi ih h1 r hy hv F he => ?_) (fun h1 r hy hv F he => ?_)
  · have hu : isU h1 (w + 12) T r.1.1 (flI r.1) := hy
    obtain ⟨hb, bd, nu1, o1, _⟩ := id hy
    have o1 : h1.1 (w + 12) = _ := o1
    have hT := hb.1
    have gl := flI_lt (s := r.1) (by omega)
    refine x_iload_n dX6_tellTo_17 rfl ?_
    refine x_sipush (v := 240) dX6_tellTo_18 (by decide) ?_
    refine x_icmp_ge_f 49 dX6_tellTo_21 (by decide) (ge_f (N := 240) rfl hi (by decide)) ?_
    refine x_aload_n dX6_tellTo_24 rfl ?_
    refine x_get fX6_22 o1 rfl dX6_tellTo_25 ?_
    refine x_if_ge 49 dX6_tellTo_28 (by decide) (fun c28 => ?_) (fun c28 => ?_)
    · have g1 : ¬ r.1.2 = true := fun z => absurd (gl.mpr z) (Int32.not_lt.mpr c28)
      have e1 : r = tlL T 240 ((nx T 0, true), V) := by rw [← he, show 240 - i = (240 - (i + 1)) + 1 by omega, tlL, if_neg (fun z => g1 z.1)]
      exact tl49 rfl (e1 ▸ hy) (e1 ▸ hv) F
    · refine x_aload_n dX6_tellTo_31 rfl ?_
      refine x_get fX6_28 o1 rfl dX6_tellTo_32 ?_
      refine x_if_eq 49 dX6_tellTo_35 (by decide) (fun c35 => ?_) (fun c35 => ?_)
      · have s0 : r.1.1.1 = 0 := nI_eqn (b := 0) (by omega) (by decide) c35
        have e1 : r = tlL T 240 ((nx T 0, true), V) := by rw [← he, show 240 - i = (240 - (i + 1)) + 1 by omega, tlL, if_neg (fun z => z.2 s0)]
        exact tl49 rfl (e1 ▸ hy) (e1 ▸ hv) F
      · have g1 : r.1.2 = true := gl.mp (Int32.not_le.mp c28)
        have s0 : ¬ r.1.1.1 = 0 := fun z => c35 (by rw [z]; rfl)
        rw [show 240 - i = (240 - (i + 1)) + 1 by omega, tlL, if_pos ⟨g1, s0⟩] at he
        have hy2 : isY h1 (w + 12) T (r.1.1, true) := isY.mk hu rfl ((flI_t rfl).trans (flI_t g1).symm)
        refine x_aload_n dX6_tellTo_38 rfl ?_
        refine x_aload_n dX6_tellTo_39 rfl ?_
        refine x_cnV (c_X6_tellThing hy2 hv) o1 lkX6_tellThing sX6_31 dX6_tellTo_40 rfl rfl (Nat.le_of_ble_eq_true rfl) (by decide) ⟨rfl, rfl, by decide, by decide⟩ ?_
        rintro h2 ⟨y2, v2, F2⟩
        refine x_inc_2  dX6_tellTo_43 (by decide) (nI_inc _) rfl ?_
        refine x_goto 17 dX6_tellTo_46 (by decide) ?_
        exact ih h2 _ y2 v2 (F.tr F2) he
  · refine x_iload_n dX6_tellTo_17 rfl ?_
    refine x_sipush (v := 240) dX6_tellTo_18 (by decide) ?_
    refine x_icmp_ge_t 49 dX6_tellTo_21 (by decide) (ge_t (N := 240) rfl (by decide)) ?_
    have e1 : r = tlL T 240 ((nx T 0, true), V) := he
    exact tl49 rfl (e1 ▸ hy) (e1 ▸ hv) F
set_option maxRecDepth 10000 in
set_option maxHeartbeats 2000000 in
theorem c_X6_tellTo {g : gG} {h : gH} {w : Nat} {T : TT} {V : VS} (ht : isT h (w + 12) T) (hv : isV h w V) : Ct g mX6_tellTo [.ref (w + 12), .ref w] h (some (.int (flI (tlL T 240 ((nx T 0, true), V)).1))) (fun h' => isT h' (w + 12) (0, T.2) ∧ isV h' w (tlL T 240 ((nx T 0, true), V)).2 ∧ Fr w 14 h h' ∧ (tlL T 240 ((nx T 0, true), V)).1.1.2.1 ≤ 240) := by
  obtain ⟨hT, ⟨s0, s1, s2, s3, s4, o0⟩, b, b1, b2⟩ := ht
  have hb : uB h (w + 12) T := ⟨hT, b, b1, b2⟩
  refine Cn.of (L := [some (.ref (w + 12)), some (.ref w), none]) (by decide) (Nat.le_of_ble_eq_true rfl) rfl ?_
  refine x_aload_n dX6_tellTo_0 rfl ?_
  refine x_iconst (v := 0) dX6_tellTo_1 (by decide) ?_
  refine x_put (fs' := uG (w + 12) T s0 s1 (nI 0) s3 s4) fX6_19 o0 (Nat.le_of_ble_eq_true rfl) rfl rfl rfl dX6_tellTo_2 ?_
  refine x_aload_n dX6_tellTo_5 rfl ?_
  refine x_bipush (v := -9) dX6_tellTo_6 (by decide) ?_
  refine x_put (fs' := uG (w + 12) T s0 s1 (nI 0) s3 (-9)) fX6_22 hset_s (Nat.le_of_ble_eq_true rfl) rfl rfl rfl dX6_tellTo_8 ?_
  refine x_aload_n dX6_tellTo_11 rfl ?_
  refine x_cnV (c_X6_step (t := w + 12) (p := 0) hb.st.st (Nat.zero_le _) (hset_s (a := w + 12))) hset_s lkX6_step sX6_25 dX6_tellTo_12 rfl rfl (Nat.le_of_ble_eq_true rfl) (by decide) ⟨rfl, rfl, by decide, by decide⟩ ?_
  rintro h1 ⟨u1, F1⟩
  have F0 : Fr w 14 h h1 := ((Fr.set (by omega) (by omega)).tr (Fr.set (by omega) (by omega))).tr F1.ta
  refine x_iconst (v := 0) dX6_tellTo_15 (by decide) ?_
  refine x_ist_2 dX6_tellTo_16 (by decide) rfl ?_
  exact tl17 0 (by omega) h1 ((nx T 0, true), V) (isY.mk u1 rfl (flI_t rfl)) (((hv.fr (x := w + 12) (n := 2) (Fr.set (by omega) (by omega)) (by omega)).fr (x := w + 12) (n := 2) (Fr.set (by omega) (by omega)) (by omega)).fr F1 (by omega)) F0 rfl
