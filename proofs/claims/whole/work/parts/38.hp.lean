abbrev ofK (k : Nat) (a : Int32) : Prop := a = 0 ∨ a = nI k ∨ (a = 1 ∧ (k = 3 ∨ k = 4))
set_option maxRecDepth 10000 in
set_option maxHeartbeats 2000000 in
theorem c_X11_isOfKind {g : gG} {h : gH} {k : Nat} {a : Int32} (hk : k < 6) : Rd g mX11_isOfKind [.int (nI k), .int a] h (.int (b2i (ofK k a))) := by
  have k3 : nI k = 3 ↔ k = 3 := nI_eq (b := 3) (by omega) (by decide)
  have k4 : nI k = 4 ↔ k = 4 := nI_eq (b := 4) (by omega) (by decide)
  refine Cn.of (L := [some (.int (nI k)), some (.int a), none]) (by decide) (Nat.le_of_ble_eq_true rfl) rfl ?_
  refine x_iload_n dX11_isOfKind_0 rfl ?_
  refine x_iconst (v := 3) dX11_isOfKind_1 (by decide) ?_
  refine x_icmp_eq 10 dX11_isOfKind_2 (by decide) (fun c2 => ?_) (fun c2 => ?_)
  · refine x_iconst (v := 1) dX11_isOfKind_10 (by decide) ?_
    refine x_goto 15 dX11_isOfKind_11 (by decide) ?_
    refine x_ist_2 dX11_isOfKind_15 (by decide) rfl ?_
    refine x_iload_n dX11_isOfKind_16 rfl ?_
    refine x_if_eq 34 dX11_isOfKind_17 (by decide) (fun c17 => ?_) (fun c17 => ?_)
    · refine x_iconst (v := 1) dX11_isOfKind_34 (by decide) ?_
      refine x_goto 39 dX11_isOfKind_35 (by decide) ?_
      refine x_zret rfl dX11_isOfKind_39 ⟨by decide, by decide⟩ rfl ?_
      exact ⟨by rw [b2i_t (.inl c17)], rfl⟩
    · refine x_iload_n dX11_isOfKind_20 rfl ?_
      refine x_iload_n dX11_isOfKind_21 rfl ?_
      refine x_icmp_eq 34 dX11_isOfKind_22 (by decide) (fun c22 => ?_) (fun c22 => ?_)
      · refine x_iconst (v := 1) dX11_isOfKind_34 (by decide) ?_
        refine x_goto 39 dX11_isOfKind_35 (by decide) ?_
        refine x_zret rfl dX11_isOfKind_39 ⟨by decide, by decide⟩ rfl ?_
        exact ⟨by rw [b2i_t (.inr (.inl c22))], rfl⟩
      · refine x_iload_n dX11_isOfKind_25 rfl ?_
        refine x_iconst (v := 1) dX11_isOfKind_26 (by decide) ?_
        refine x_icmp_ne 38 dX11_isOfKind_27 (by decide) (fun c27 => ?_) (fun c27 => ?_)
        · refine x_iconst (v := 0) dX11_isOfKind_38 (by decide) ?_
          refine x_zret rfl dX11_isOfKind_39 ⟨by decide, by decide⟩ rfl ?_
          exact ⟨by rw [b2i_f (fun q => q.elim c17 (fun z => z.elim c22 (fun y => c27 y.1)))], rfl⟩
        · refine x_iload_n dX11_isOfKind_30 rfl ?_
          refine x_if_eq_f 38 dX11_isOfKind_31 (by decide) (by decide) ?_
          refine x_iconst (v := 1) dX11_isOfKind_34 (by decide) ?_
          refine x_goto 39 dX11_isOfKind_35 (by decide) ?_
          refine x_zret rfl dX11_isOfKind_39 ⟨by decide, by decide⟩ rfl ?_
          exact ⟨by rw [b2i_t (.inr (.inr ⟨c27, .inl (k3.mp c2)⟩))], rfl⟩
  · refine x_iload_n dX11_isOfKind_5 rfl ?_
    refine x_iconst (v := 4) dX11_isOfKind_6 (by decide) ?_
    refine x_icmp_ne 14 dX11_isOfKind_7 (by decide) (fun c7 => ?_) (fun c7 => ?_)
    · refine x_iconst (v := 0) dX11_isOfKind_14 (by decide) ?_
      refine x_ist_2 dX11_isOfKind_15 (by decide) rfl ?_
      refine x_iload_n dX11_isOfKind_16 rfl ?_
      refine x_if_eq 34 dX11_isOfKind_17 (by decide) (fun c17 => ?_) (fun c17 => ?_)
      · refine x_iconst (v := 1) dX11_isOfKind_34 (by decide) ?_
        refine x_goto 39 dX11_isOfKind_35 (by decide) ?_
        refine x_zret rfl dX11_isOfKind_39 ⟨by decide, by decide⟩ rfl ?_
        exact ⟨by rw [b2i_t (.inl c17)], rfl⟩
      · refine x_iload_n dX11_isOfKind_20 rfl ?_
        refine x_iload_n dX11_isOfKind_21 rfl ?_
        refine x_icmp_eq 34 dX11_isOfKind_22 (by decide) (fun c22 => ?_) (fun c22 => ?_)
        · refine x_iconst (v := 1) dX11_isOfKind_34 (by decide) ?_
          refine x_goto 39 dX11_isOfKind_35 (by decide) ?_
          refine x_zret rfl dX11_isOfKind_39 ⟨by decide, by decide⟩ rfl ?_
          exact ⟨by rw [b2i_t (.inr (.inl c22))], rfl⟩
        · refine x_iload_n dX11_isOfKind_25 rfl ?_
          refine x_iconst (v := 1) dX11_isOfKind_26 (by decide) ?_
          refine x_icmp_ne 38 dX11_isOfKind_27 (by decide) (fun c27 => ?_) (fun c27 => ?_)
          · refine x_iconst (v := 0) dX11_isOfKind_38 (by decide) ?_
            refine x_zret rfl dX11_isOfKind_39 ⟨by decide, by decide⟩ rfl ?_
            exact ⟨by rw [b2i_f (fun q => q.elim c17 (fun z => z.elim c22 (fun y => c27 y.1)))], rfl⟩
          · refine x_iload_n dX11_isOfKind_30 rfl ?_
            refine x_if_eq_t 38 dX11_isOfKind_31 (by decide) rfl ?_
            refine x_iconst (v := 0) dX11_isOfKind_38 (by decide) ?_
            refine x_zret rfl dX11_isOfKind_39 ⟨by decide, by decide⟩ rfl ?_
            exact ⟨by rw [b2i_f (fun q => q.elim c17 (fun z => z.elim c22 (fun y => y.2.elim (fun w => c2 (k3.mpr w)) (fun w => c7 (k4.mpr w)))))], rfl⟩
    · refine x_iconst (v := 1) dX11_isOfKind_10 (by decide) ?_
      refine x_goto 15 dX11_isOfKind_11 (by decide) ?_
      refine x_ist_2 dX11_isOfKind_15 (by decide) rfl ?_
      refine x_iload_n dX11_isOfKind_16 rfl ?_
      refine x_if_eq 34 dX11_isOfKind_17 (by decide) (fun c17 => ?_) (fun c17 => ?_)
      · refine x_iconst (v := 1) dX11_isOfKind_34 (by decide) ?_
        refine x_goto 39 dX11_isOfKind_35 (by decide) ?_
        refine x_zret rfl dX11_isOfKind_39 ⟨by decide, by decide⟩ rfl ?_
        exact ⟨by rw [b2i_t (.inl c17)], rfl⟩
      · refine x_iload_n dX11_isOfKind_20 rfl ?_
        refine x_iload_n dX11_isOfKind_21 rfl ?_
        refine x_icmp_eq 34 dX11_isOfKind_22 (by decide) (fun c22 => ?_) (fun c22 => ?_)
        · refine x_iconst (v := 1) dX11_isOfKind_34 (by decide) ?_
          refine x_goto 39 dX11_isOfKind_35 (by decide) ?_
          refine x_zret rfl dX11_isOfKind_39 ⟨by decide, by decide⟩ rfl ?_
          exact ⟨by rw [b2i_t (.inr (.inl c22))], rfl⟩
        · refine x_iload_n dX11_isOfKind_25 rfl ?_
          refine x_iconst (v := 1) dX11_isOfKind_26 (by decide) ?_
          refine x_icmp_ne 38 dX11_isOfKind_27 (by decide) (fun c27 => ?_) (fun c27 => ?_)
          · refine x_iconst (v := 0) dX11_isOfKind_38 (by decide) ?_
            refine x_zret rfl dX11_isOfKind_39 ⟨by decide, by decide⟩ rfl ?_
            exact ⟨by rw [b2i_f (fun q => q.elim c17 (fun z => z.elim c22 (fun y => c27 y.1)))], rfl⟩
          · refine x_iload_n dX11_isOfKind_30 rfl ?_
            refine x_if_eq_f 38 dX11_isOfKind_31 (by decide) (by decide) ?_
            refine x_iconst (v := 1) dX11_isOfKind_34 (by decide) ?_
            refine x_goto 39 dX11_isOfKind_35 (by decide) ?_
            refine x_zret rfl dX11_isOfKind_39 ⟨by decide, by decide⟩ rfl ?_
            exact ⟨by rw [b2i_t (.inr (.inr ⟨c27, .inr (k4.mp c7)⟩))], rfl⟩
/-- what is on a shelf as it is now: 0 nothing, 1 a path, 2 a row -/
def onS' (S : AS) (f : Nat) : Nat × Nat × Nat := if (S.2.2.2.2.2.1 f).1 = 1 ∧ ¬ (S.2.2.2.2.2.1 f).2.1 < S.1.1 0 then (0, 0, 0) else S.2.2.2.2.2.1 f
def qTaken (S : AS) (f a : Int32) : Int32 := if bl f 4 = true ∧ (bl a 6 = true ∨ bl (a - 10) 4 = true) then if (onS' S (iN f)).1 = 0 then -11 else if (onS' S (iN f)).1 = 1 then if bl a 6 = true ∧ ofK (S.1.2.2 0 (onS' S (iN f)).2.1) a then nI (onS' S (iN f)).2.1 else -13 else if ¬ bl a 6 = true ∧ nI (onS' S (iN f)).2.1 = a - 10 then nI (onS' S (iN f)).2.2 else -13 else -1
set_option maxRecDepth 10000 in
set_option maxHeartbeats 2000000 in
theorem c_X11_taken {g : gG} {h : gH} {x : Nat} {D : Nat → Prop} {S : AS} (hx : isX h x D S) {f a : Int32} : Rd g mX11_taken [.ref x, .int f, .int a] h (.int (qTaken S f a)) := by
  have ho := hx.2.1
  have hv := hx.2.2.1
  have n0 := hv.o
  have okw := hv.1
  obtain ⟨ok0, ar, hw, rp⟩ := id hv
  have w0 : h.1 (x + 1) = some (.inr (10, wF (x + 1) (wS S.1))) := hw.1
  have w1 : h.1 ((x + 1) + 1) = some (.inl (0, 8, .inl (ar 0))) := hw.2 0 (by decide)
  have w2 : h.1 ((x + 1) + 2) = some (.inl (0, 8, .inl (ar 1))) := hw.2 1 (by decide)
  have w3 : h.1 ((x + 1) + 3) = some (.inl (0, 8, .inl (ar 2))) := hw.2 2 (by decide)
  have w4 : h.1 ((x + 1) + 4) = some (.inl (0, 8, .inl (ar 3))) := hw.2 3 (by decide)
  have w5 : h.1 ((x + 1) + 5) = some (.inl (0, 8, .inl (ar 4))) := hw.2 4 (by decide)
  have w6 : h.1 ((x + 1) + 6) = some (.inl (0, 4, .inl (ar 5))) := hw.2 5 (by decide)
  have w7 : h.1 ((x + 1) + 7) = some (.inl (0, 4, .inl (ar 6))) := hw.2 6 (by decide)
  have w8 : h.1 ((x + 1) + 8) = some (.inl (0, 4, .inl (ar 7))) := hw.2 7 (by decide)
  have w9 : h.1 ((x + 1) + 9) = some (.inl (0, 8, .inl (ar 8))) := hw.2 8 (by decide)
  have w10 : h.1 ((x + 1) + 10) = some (.inl (0, 4, .inl (ar 9))) := hw.2 9 (by decide)
  have w11 : h.1 ((x + 1) + 11) = some (.inl (0, 4, .inl (ar 10))) := hw.2 10 (by decide)
  obtain ⟨lp, lr, e46, e47, hsl⟩ := hx.2.2.2.2.2.2.2.2.1.2

  by_cases cA : bl a 6 = true
  · refine Cn.of (L := [some (.ref x), some (.int f), some (.int a), none, none, none]) (by decide) (Nat.le_of_ble_eq_true rfl) rfl ?_
    refine x_iload_n dX11_taken_0 rfl ?_
    refine x_bipush (v := 6) dX11_taken_1 (by decide) ?_
    refine x_rdS c_bl lkX11_isBelow sX11_94 dX11_taken_3 rfl rfl (Nat.le_of_ble_eq_true rfl) (by decide) ⟨rfl, rfl, by decide, by decide⟩ ?_
    refine x_ist_3 dX11_taken_6 (by decide) rfl ?_
    refine x_iload_n dX11_taken_7 rfl ?_
    refine x_iconst (v := 4) dX11_taken_8 (by decide) ?_
    refine x_rdS c_bl lkX11_isBelow sX11_94 dX11_taken_9 rfl rfl (Nat.le_of_ble_eq_true rfl) (by decide) ⟨rfl, rfl, by decide, by decide⟩ ?_
    refine x_if_eqB 30 dX11_taken_12 (by decide) (fun c12 => ?_) (fun c12 => ?_)
    · refine x_iconst (v := -1) dX11_taken_30 (by decide) ?_
      refine x_iret rfl dX11_taken_31 ⟨by decide, by decide⟩ ?_
      exact ⟨by rw [qTaken, if_neg (fun q => c12 q.1)], rfl⟩
    · refine x_iload_n dX11_taken_15 rfl ?_
      refine x_if_neB_t 32 dX11_taken_16 (by decide) cA ?_
      obtain ⟨f1, hf, rfl⟩ := bl_E (b := 4) c12 (by decide)
      refine x_aload_n dX11_taken_32 rfl ?_
      refine x_get fX11_49 ho rfl dX11_taken_33 ?_
      refine x_iload_n dX11_taken_36 rfl ?_
      refine x_iald f1 e46 rfl hf (by decide) dX11_taken_37 ?_
      rcases hsl f1 hf with ⟨y1, yp, zr⟩ | ⟨y1, y2, yp, zr⟩ | ⟨y1, y2, y3, yp, q, f, zr, dq, dq1, is⟩
      · have E0 : (onS' S f1).1 = 0 := by rw [onS', if_neg (by omega)]; exact y1
        rw [yp]
        have nb : ¬ bl (-9) (nI (S.1.1 0)) = true := fun q => absurd (bl_p.mp q).1 (by decide)
        refine x_ist_4 dX11_taken_38 (by decide) rfl ?_
        refine x_aload_n dX11_taken_40 rfl ?_
        refine x_get fX11_52 ho rfl dX11_taken_41 ?_
        refine x_iload_n dX11_taken_44 rfl ?_
        refine x_aald f1 e47 rfl hf (by decide) dX11_taken_45 ?_
        rw [zr, show va_rf none = Value.null from rfl]
        refine x_nst_5 dX11_taken_46 (by decide) rfl ?_
        refine x_aload_n dX11_taken_48 rfl ?_
        refine x_get fX11_12 ho rfl dX11_taken_49 ?_
        refine x_iload dX11_taken_52 rfl ?_
        refine x_rdV (c_hp hv) (by assumption) lkX10_hasPath sX11_105 dX11_taken_54 rfl rfl (Nat.le_of_ble_eq_true rfl) (by decide) ⟨rfl, rfl, by decide, by decide⟩ ?_
        refine x_if_eqB_t 89 dX11_taken_57 (by decide) nb ?_
        refine x_aloadN dX11_taken_89 rfl ?_
        refine x_ifnonnullN dX11_taken_91 ?_
        refine x_bipush (v := -11) dX11_taken_94 (by decide) ?_
        refine x_iret rfl dX11_taken_96 ⟨by decide, by decide⟩ ?_
        exact ⟨by rw [qTaken, if_pos ⟨c12, .inl cA⟩, iN_nI (by omega), if_pos E0], rfl⟩
      · rw [yp]
        by_cases pl : (S.2.2.2.2.2.1 f1).2.1 < S.1.1 0
        · have E1 : onS' S f1 = S.2.2.2.2.2.1 f1 := if_neg (fun q => q.2 pl)
          have pb : bl (nI (S.2.2.2.2.2.1 f1).2.1) (nI (S.1.1 0)) = true := bl_I pl (by have := okw.1; omega)
          refine x_ist_4 dX11_taken_38 (by decide) rfl ?_
          refine x_aload_n dX11_taken_40 rfl ?_
          refine x_get fX11_52 ho rfl dX11_taken_41 ?_
          refine x_iload_n dX11_taken_44 rfl ?_
          refine x_aald f1 e47 rfl hf (by decide) dX11_taken_45 ?_
          rw [zr, show va_rf none = Value.null from rfl]
          refine x_nst_5 dX11_taken_46 (by decide) rfl ?_
          refine x_aload_n dX11_taken_48 rfl ?_
          refine x_get fX11_12 ho rfl dX11_taken_49 ?_
          refine x_iload dX11_taken_52 rfl ?_
          refine x_rdV (c_hp hv) (by assumption) lkX10_hasPath sX11_105 dX11_taken_54 rfl rfl (Nat.le_of_ble_eq_true rfl) (by decide) ⟨rfl, rfl, by decide, by decide⟩ ?_
          refine x_if_eqB_f 89 dX11_taken_57 (by decide) pb ?_
          refine x_iload_n dX11_taken_60 rfl ?_
          refine x_if_eqB_f 86 dX11_taken_61 (by decide) cA ?_
          refine x_aload_n dX11_taken_64 rfl ?_
          refine x_get fX11_12 ho rfl dX11_taken_65 ?_
          refine x_getR fX11_108 n0 rfl dX11_taken_68 ?_
          refine x_iload dX11_taken_71 rfl ?_
          refine x_iald (S.2.2.2.2.2.1 f1).2.1 w1 rfl y2 (by decide) dX11_taken_73 ?_
          rw [rp.1 0 _ (by decide) pl]
          refine x_iload_n dX11_taken_74 rfl ?_
          refine x_rdS (c_X11_isOfKind (k := S.1.2.2 0 (S.2.2.2.2.2.1 f1).2.1) (okw.2.2.2.1 _ pl).1) lkX11_isOfKind sX11_299 dX11_taken_75 rfl rfl (Nat.le_of_ble_eq_true rfl) (by decide) ⟨rfl, rfl, by decide, by decide⟩ ?_
          refine x_if_eqB 86 dX11_taken_78 (by decide) (fun c78 => ?_) (fun c78 => ?_)
          · refine x_bipush (v := -13) dX11_taken_86 (by decide) ?_
            refine x_iret rfl dX11_taken_88 ⟨by decide, by decide⟩ ?_
            exact ⟨by rw [qTaken, if_pos ⟨c12, .inl cA⟩, iN_nI (by omega), E1, if_neg (by omega), if_pos y1, if_neg (fun q => c78 q.2)], rfl⟩
          · refine x_iload dX11_taken_81 rfl ?_
            refine x_goto 88 dX11_taken_83 (by decide) ?_
            refine x_iret rfl dX11_taken_88 ⟨by decide, by decide⟩ ?_
            exact ⟨by rw [qTaken, if_pos ⟨c12, .inl cA⟩, iN_nI (by omega), E1, if_neg (by omega), if_pos y1, if_pos ⟨cA, c78⟩], rfl⟩
        · have E0 : (onS' S f1).1 = 0 := by rw [onS', if_pos ⟨y1, pl⟩]
          have nb : ¬ bl (nI (S.2.2.2.2.2.1 f1).2.1) (nI (S.1.1 0)) = true := fun q => pl ((bl_iff (by omega) (by have := okw.1; omega)).mp q)
          refine x_ist_4 dX11_taken_38 (by decide) rfl ?_
          refine x_aload_n dX11_taken_40 rfl ?_
          refine x_get fX11_52 ho rfl dX11_taken_41 ?_
          refine x_iload_n dX11_taken_44 rfl ?_
          refine x_aald f1 e47 rfl hf (by decide) dX11_taken_45 ?_
          rw [zr, show va_rf none = Value.null from rfl]
          refine x_nst_5 dX11_taken_46 (by decide) rfl ?_
          refine x_aload_n dX11_taken_48 rfl ?_
          refine x_get fX11_12 ho rfl dX11_taken_49 ?_
          refine x_iload dX11_taken_52 rfl ?_
          refine x_rdV (c_hp hv) (by assumption) lkX10_hasPath sX11_105 dX11_taken_54 rfl rfl (Nat.le_of_ble_eq_true rfl) (by decide) ⟨rfl, rfl, by decide, by decide⟩ ?_
          refine x_if_eqB_t 89 dX11_taken_57 (by decide) nb ?_
          refine x_aloadN dX11_taken_89 rfl ?_
          refine x_ifnonnullN dX11_taken_91 ?_
          refine x_bipush (v := -11) dX11_taken_94 (by decide) ?_
          refine x_iret rfl dX11_taken_96 ⟨by decide, by decide⟩ ?_
          exact ⟨by rw [qTaken, if_pos ⟨c12, .inl cA⟩, iN_nI (by omega), if_pos E0], rfl⟩
      · have E1 : onS' S f1 = S.2.2.2.2.2.1 f1 := if_neg (by omega)
        rw [yp]
        have nb : ¬ bl (-9) (nI (S.1.1 0)) = true := fun q => absurd (bl_p.mp q).1 (by decide)
        refine x_ist_4 dX11_taken_38 (by decide) rfl ?_
        refine x_aload_n dX11_taken_40 rfl ?_
        refine x_get fX11_52 ho rfl dX11_taken_41 ?_
        refine x_iload_n dX11_taken_44 rfl ?_
        refine x_aald f1 e47 rfl hf (by decide) dX11_taken_45 ?_
        rw [zr, show va_rf (some q) = Value.ref q from rfl]
        refine x_ast_5 dX11_taken_46 (by decide) rfl ?_
        refine x_aload_n dX11_taken_48 rfl ?_
        refine x_get fX11_12 ho rfl dX11_taken_49 ?_
        refine x_iload dX11_taken_52 rfl ?_
        refine x_rdV (c_hp hv) (by assumption) lkX10_hasPath sX11_105 dX11_taken_54 rfl rfl (Nat.le_of_ble_eq_true rfl) (by decide) ⟨rfl, rfl, by decide, by decide⟩ ?_
        refine x_if_eqB_t 89 dX11_taken_57 (by decide) nb ?_
        refine x_aload dX11_taken_89 rfl ?_
        refine x_ifnonnull 97 dX11_taken_91 (by decide) ?_
        refine x_iload_n dX11_taken_97 rfl ?_
        refine x_if_neB_t 122 dX11_taken_98 (by decide) cA ?_
        refine x_bipush (v := -13) dX11_taken_122 (by decide) ?_
        refine x_iret rfl dX11_taken_124 ⟨by decide, by decide⟩ ?_
        exact ⟨by rw [qTaken, if_pos ⟨c12, .inl cA⟩, iN_nI (by omega), E1, if_neg (by omega), if_neg (by omega), if_neg (fun q => q.1 cA)], rfl⟩
  · refine Cn.of (L := [some (.ref x), some (.int f), some (.int a), none, none, none]) (by decide) (Nat.le_of_ble_eq_true rfl) rfl ?_
    refine x_iload_n dX11_taken_0 rfl ?_
    refine x_bipush (v := 6) dX11_taken_1 (by decide) ?_
    refine x_rdS c_bl lkX11_isBelow sX11_94 dX11_taken_3 rfl rfl (Nat.le_of_ble_eq_true rfl) (by decide) ⟨rfl, rfl, by decide, by decide⟩ ?_
    refine x_ist_3 dX11_taken_6 (by decide) rfl ?_
    refine x_iload_n dX11_taken_7 rfl ?_
    refine x_iconst (v := 4) dX11_taken_8 (by decide) ?_
    refine x_rdS c_bl lkX11_isBelow sX11_94 dX11_taken_9 rfl rfl (Nat.le_of_ble_eq_true rfl) (by decide) ⟨rfl, rfl, by decide, by decide⟩ ?_
    refine x_if_eqB 30 dX11_taken_12 (by decide) (fun c12 => ?_) (fun c12 => ?_)
    · refine x_iconst (v := -1) dX11_taken_30 (by decide) ?_
      refine x_iret rfl dX11_taken_31 ⟨by decide, by decide⟩ ?_
      exact ⟨by rw [qTaken, if_neg (fun q => c12 q.1)], rfl⟩
    · refine x_iload_n dX11_taken_15 rfl ?_
      refine x_if_neB_f 32 dX11_taken_16 (by decide) cA ?_
      refine x_iload_n dX11_taken_19 rfl ?_
      refine x_bipush (v := 10) dX11_taken_20 (by decide) ?_
      refine x_isub dX11_taken_22 ?_
      refine x_iconst (v := 4) dX11_taken_23 (by decide) ?_
      refine x_rdS c_bl lkX11_isBelow sX11_94 dX11_taken_24 rfl rfl (Nat.le_of_ble_eq_true rfl) (by decide) ⟨rfl, rfl, by decide, by decide⟩ ?_
      refine x_if_neB 32 dX11_taken_27 (by decide) (fun c27 => ?_) (fun c27 => ?_)
      · obtain ⟨f1, hf, rfl⟩ := bl_E (b := 4) c12 (by decide)
        refine x_aload_n dX11_taken_32 rfl ?_
        refine x_get fX11_49 ho rfl dX11_taken_33 ?_
        refine x_iload_n dX11_taken_36 rfl ?_
        refine x_iald f1 e46 rfl hf (by decide) dX11_taken_37 ?_
        rcases hsl f1 hf with ⟨y1, yp, zr⟩ | ⟨y1, y2, yp, zr⟩ | ⟨y1, y2, y3, yp, q, f, zr, dq, dq1, is⟩
        · have E0 : (onS' S f1).1 = 0 := by rw [onS', if_neg (by omega)]; exact y1
          rw [yp]
          have nb : ¬ bl (-9) (nI (S.1.1 0)) = true := fun q => absurd (bl_p.mp q).1 (by decide)
          refine x_ist_4 dX11_taken_38 (by decide) rfl ?_
          refine x_aload_n dX11_taken_40 rfl ?_
          refine x_get fX11_52 ho rfl dX11_taken_41 ?_
          refine x_iload_n dX11_taken_44 rfl ?_
          refine x_aald f1 e47 rfl hf (by decide) dX11_taken_45 ?_
          rw [zr, show va_rf none = Value.null from rfl]
          refine x_nst_5 dX11_taken_46 (by decide) rfl ?_
          refine x_aload_n dX11_taken_48 rfl ?_
          refine x_get fX11_12 ho rfl dX11_taken_49 ?_
          refine x_iload dX11_taken_52 rfl ?_
          refine x_rdV (c_hp hv) (by assumption) lkX10_hasPath sX11_105 dX11_taken_54 rfl rfl (Nat.le_of_ble_eq_true rfl) (by decide) ⟨rfl, rfl, by decide, by decide⟩ ?_
          refine x_if_eqB_t 89 dX11_taken_57 (by decide) nb ?_
          refine x_aloadN dX11_taken_89 rfl ?_
          refine x_ifnonnullN dX11_taken_91 ?_
          refine x_bipush (v := -11) dX11_taken_94 (by decide) ?_
          refine x_iret rfl dX11_taken_96 ⟨by decide, by decide⟩ ?_
          exact ⟨by rw [qTaken, if_pos ⟨c12, .inr c27⟩, iN_nI (by omega), if_pos E0], rfl⟩
        · rw [yp]
          by_cases pl : (S.2.2.2.2.2.1 f1).2.1 < S.1.1 0
          · have E1 : onS' S f1 = S.2.2.2.2.2.1 f1 := if_neg (fun q => q.2 pl)
            have pb : bl (nI (S.2.2.2.2.2.1 f1).2.1) (nI (S.1.1 0)) = true := bl_I pl (by have := okw.1; omega)
            refine x_ist_4 dX11_taken_38 (by decide) rfl ?_
            refine x_aload_n dX11_taken_40 rfl ?_
            refine x_get fX11_52 ho rfl dX11_taken_41 ?_
            refine x_iload_n dX11_taken_44 rfl ?_
            refine x_aald f1 e47 rfl hf (by decide) dX11_taken_45 ?_
            rw [zr, show va_rf none = Value.null from rfl]
            refine x_nst_5 dX11_taken_46 (by decide) rfl ?_
            refine x_aload_n dX11_taken_48 rfl ?_
            refine x_get fX11_12 ho rfl dX11_taken_49 ?_
            refine x_iload dX11_taken_52 rfl ?_
            refine x_rdV (c_hp hv) (by assumption) lkX10_hasPath sX11_105 dX11_taken_54 rfl rfl (Nat.le_of_ble_eq_true rfl) (by decide) ⟨rfl, rfl, by decide, by decide⟩ ?_
            refine x_if_eqB_f 89 dX11_taken_57 (by decide) pb ?_
            refine x_iload_n dX11_taken_60 rfl ?_
            refine x_if_eqB_t 86 dX11_taken_61 (by decide) cA ?_
            refine x_bipush (v := -13) dX11_taken_86 (by decide) ?_
            refine x_iret rfl dX11_taken_88 ⟨by decide, by decide⟩ ?_
            exact ⟨by rw [qTaken, if_pos ⟨c12, .inr c27⟩, iN_nI (by omega), E1, if_neg (by omega), if_pos y1, if_neg (fun q => cA q.1)], rfl⟩
          · have E0 : (onS' S f1).1 = 0 := by rw [onS', if_pos ⟨y1, pl⟩]
            have nb : ¬ bl (nI (S.2.2.2.2.2.1 f1).2.1) (nI (S.1.1 0)) = true := fun q => pl ((bl_iff (by omega) (by have := okw.1; omega)).mp q)
            refine x_ist_4 dX11_taken_38 (by decide) rfl ?_
            refine x_aload_n dX11_taken_40 rfl ?_
            refine x_get fX11_52 ho rfl dX11_taken_41 ?_
            refine x_iload_n dX11_taken_44 rfl ?_
            refine x_aald f1 e47 rfl hf (by decide) dX11_taken_45 ?_
            rw [zr, show va_rf none = Value.null from rfl]
            refine x_nst_5 dX11_taken_46 (by decide) rfl ?_
            refine x_aload_n dX11_taken_48 rfl ?_
            refine x_get fX11_12 ho rfl dX11_taken_49 ?_
            refine x_iload dX11_taken_52 rfl ?_
            refine x_rdV (c_hp hv) (by assumption) lkX10_hasPath sX11_105 dX11_taken_54 rfl rfl (Nat.le_of_ble_eq_true rfl) (by decide) ⟨rfl, rfl, by decide, by decide⟩ ?_
            refine x_if_eqB_t 89 dX11_taken_57 (by decide) nb ?_
            refine x_aloadN dX11_taken_89 rfl ?_
            refine x_ifnonnullN dX11_taken_91 ?_
            refine x_bipush (v := -11) dX11_taken_94 (by decide) ?_
            refine x_iret rfl dX11_taken_96 ⟨by decide, by decide⟩ ?_
            exact ⟨by rw [qTaken, if_pos ⟨c12, .inr c27⟩, iN_nI (by omega), if_pos E0], rfl⟩
        · have E1 : onS' S f1 = S.2.2.2.2.2.1 f1 := if_neg (by omega)
          rw [yp]
          have nb : ¬ bl (-9) (nI (S.1.1 0)) = true := fun q => absurd (bl_p.mp q).1 (by decide)
          refine x_ist_4 dX11_taken_38 (by decide) rfl ?_
          refine x_aload_n dX11_taken_40 rfl ?_
          refine x_get fX11_52 ho rfl dX11_taken_41 ?_
          refine x_iload_n dX11_taken_44 rfl ?_
          refine x_aald f1 e47 rfl hf (by decide) dX11_taken_45 ?_
          rw [zr, show va_rf (some q) = Value.ref q from rfl]
          refine x_ast_5 dX11_taken_46 (by decide) rfl ?_
          refine x_aload_n dX11_taken_48 rfl ?_
          refine x_get fX11_12 ho rfl dX11_taken_49 ?_
          refine x_iload dX11_taken_52 rfl ?_
          refine x_rdV (c_hp hv) (by assumption) lkX10_hasPath sX11_105 dX11_taken_54 rfl rfl (Nat.le_of_ble_eq_true rfl) (by decide) ⟨rfl, rfl, by decide, by decide⟩ ?_
          refine x_if_eqB_t 89 dX11_taken_57 (by decide) nb ?_
          refine x_aload dX11_taken_89 rfl ?_
          refine x_ifnonnull 97 dX11_taken_91 (by decide) ?_
          refine x_iload_n dX11_taken_97 rfl ?_
          refine x_if_neB_f 122 dX11_taken_98 (by decide) cA ?_
          refine x_aload dX11_taken_101 rfl ?_
          refine x_getR fX11_273 is.1 rfl dX11_taken_103 ?_
          refine x_iload_n dX11_taken_106 rfl ?_
          refine x_bipush (v := 10) dX11_taken_107 (by decide) ?_
          refine x_isub dX11_taken_109 ?_
          refine x_icmp_ne 122 dX11_taken_110 (by decide) (fun c110 => ?_) (fun c110 => ?_)
          · refine x_bipush (v := -13) dX11_taken_122 (by decide) ?_
            refine x_iret rfl dX11_taken_124 ⟨by decide, by decide⟩ ?_
            exact ⟨by rw [qTaken, if_pos ⟨c12, .inr c27⟩, iN_nI (by omega), E1, if_neg (by omega), if_neg (by omega), if_neg (fun q => c110 q.2)], rfl⟩
          · refine x_aload dX11_taken_113 rfl ?_
            refine x_getR fX11_276 is.1 rfl dX11_taken_115 ?_
            refine x_alen (by decide) is.2 dX11_taken_118 ?_
            refine x_goto 124 dX11_taken_119 (by decide) ?_
            refine x_iret rfl dX11_taken_124 ⟨by decide, by decide⟩ ?_
            exact ⟨by rw [qTaken, if_pos ⟨c12, .inr c27⟩, iN_nI (by omega), E1, if_neg (by omega), if_neg (by omega), if_pos ⟨cA, c110⟩], rfl⟩
      · refine x_iconst (v := -1) dX11_taken_30 (by decide) ?_
        refine x_iret rfl dX11_taken_31 ⟨by decide, by decide⟩ ?_
        exact ⟨by rw [qTaken, if_neg (fun q => q.2.elim cA c27)], rfl⟩
