theorem gd_of {ci : Nat} {fs : List Value} {C : String} {T : u_T} {N : Nat} {ty : Nat → FieldType} (hc : vwCl[ci]? = some (C, T, N)) (hok : ∀ k, k < N → parseFieldDescriptor (T k).2.2.1 = some (ty k)) (hd : ∀ k, k < N → defaultValue (ty k) = vp_V fs k) : gdef ci fs := by
  intro C' T' N' hc' j t hj ht
  have e := hc.symm.trans hc'
  simp only [Option.some.injEq, Prod.mk.injEq] at e
  obtain ⟨_, rfl, rfl⟩ := e
  rw [hok j hj] at ht
  rw [← Option.some.inj ht]
  exact hd j hj
theorem gd5 : gdef 5 [.int 0, .null] := gd_of (ty := tyX5) rfl tyX5_ok (by decide)
theorem hnew_s {h : gH} {e : va_E} : (hnew h e).1 h.2 = some e := by simp [hnew]
theorem hnew_n {h : gH} {e : va_E} {a : Nat} (ha : a ≠ h.2) : (hnew h e).1 a = h.1 a := by simp [hnew, ha]
set_option maxRecDepth 10000 in
set_option maxHeartbeats 2000000 in
theorem c_X5_init {g : gG} {h : gH} {q s n1 : Nat} (hq : h.1 q = some (.inr (5, [.int 0, .null]))) (hqs : q < h.2) (hn : n1 ≤ 40) : Ct g mX5_init [.ref q, .int (nI s), .int (nI n1)] h none (fun h' => h'.2 = h.2 + 1 ∧ h'.1 q = some (.inr (5, [.int (nI s), .ref h.2])) ∧ h'.1 h.2 = some (.inl (1, n1, .inr (.inl fun _ => 0))) ∧ ∀ a, a ≠ q → a ≠ h.2 → h'.1 a = h.1 a) := by
  refine Cn.of (L := [some (.ref q), some (.int (nI s)), some (.int (nI n1))]) (by decide) (Nat.le_of_ble_eq_true rfl) rfl ?_
  refine x_aload_n dX5_init_0 rfl ?_
  refine x_objI sO_X5 dX5_init_1 (by decide) (Nat.le_of_ble_eq_true rfl) ?_
  refine x_aload_n dX5_init_4 rfl ?_
  refine x_iload_n dX5_init_5 rfl ?_
  refine x_putF (fs' := [.int (nI s), .null]) fX5_9 rfl hq (Nat.le_of_ble_eq_true rfl) rfl rfl rfl dX5_init_6 ?_
  refine x_aload_n dX5_init_9 rfl ?_
  refine x_iload_n dX5_init_10 rfl ?_
  refine x_newl n1 rfl (by omega) ka_long (by decide) (show 0 + n1 ≤ 40 by omega) dX5_init_11 ?_
  refine x_putF (fs' := [.int (nI s), .ref h.2]) fX5_15 rfl ((hnew_n (h := hset h q (.inr (5, [.int (nI s), .null]))) (show q ≠ h.2 by omega)).trans hset_s) (Nat.le_of_ble_eq_true rfl) rfl rfl rfl dX5_init_13 ?_
  refine x_vret rfl dX5_init_16 ⟨by decide, show 0 + n1 ≤ 40 by omega⟩ ?_
  exact ⟨rfl, rfl, hset_s, (hset_n (by omega)).trans hnew_s, fun a h1 h2 => (hset_n h1).trans ((hnew_n (h := hset h q (.inr (5, [.int (nI s), .null]))) h2).trans (hset_n h1))⟩
  
theorem isX.shG {h h' : gH} {x : Nat} {D : Nat → Prop} {S : AS} {H : Nat → Nat × Nat × (Nat → Int64)} (hx : isX h x D S) (hz : h.2 ≤ h'.2) (he : ∀ a, a < h.2 → a ≠ x + 45 → h'.1 a = h.1 a) (hH : xH h' x (Dx D h h') H) : Py x D (shS S H) h h' := by
  obtain ⟨a1, a2, a3, a4, a5, a6, a7, a8, a9, pt, a10⟩ := id hx
  have ag : ∀ p n, p + n ≤ x + 45 ∨ (x + 46 ≤ p ∧ p + n ≤ x + 50) → agr p n h h' := fun p n hp a h1 h2 => he a (by omega) (by omega)
  have dd : ∀ a, D a → Dx D h h' a ∧ h'.1 a = h.1 a := fun a q => ⟨.inl q, he a (a1.2 a q).2 (by have := a1.2 a q; omega)⟩
  refine ⟨⟨⟨by omega, fun a q => q.elim (fun z => by have := a1.2 a z; omega) (fun z => by omega)⟩, (he x (by omega) (by omega)).trans a2, a3.ag (ag _ _ (by omega)), a4.ag (ag _ _ (by omega)), a5.ag (ag _ _ (by omega)), a6.ag (ag _ _ (by omega)), a7.ag (ag _ _ (by omega)), a8.ag (ag _ _ (by omega)), ⟨hH, a9.2.ag (ag _ _ (by omega)) dd⟩, pt, a10.ag (ag _ _ (by omega))⟩, hz, fun a h1 h2 h3 => he a h1 (by omega)⟩
theorem isX.slG {h h' : gH} {x : Nat} {D : Nat → Prop} {S : AS} {H : Nat → Nat × Nat × Nat} (hx : isX h x D S) (hf : Fr (x + 46) 2 h h') (hL : xL h' x D H) : Px x D (slS S H) h h' := by
  obtain ⟨a1, a2, a3, a4, a5, a6, a7, a8, a9, pt, a10⟩ := id hx
  exact ⟨⟨hx.sz hf, by rw [hf.2 _ (by omega)]; exact a2, a3.ag (hf.agr (by omega)), a4.ag (hf.agr (by omega)), a5.ag (hf.agr (by omega)), a6.ag (hf.agr (by omega)), a7.ag (hf.agr (by omega)), a8.ag (hf.agr (by omega)), ⟨a9.1.ag (hf.2 _ (by omega)) (hx.dd hf (by omega)), hL⟩, pt, a10.ag (hf.agr (by omega))⟩, hf.wid (by omega) (by omega)⟩
def nsH (t n : Int32) : Nat × Nat × (Nat → Int64) := if t = -1 then (0, 0, fun _ => 0) else (iN t + 1, iN n, fun _ => 0)
def upH {α : Type} (H : Nat → α) (s : Nat) (v : α) : Nat → α := fun j => if j = s then v else H j
def oSheet (S : AS) (s t n : Int32) : Int32 × AS := if bl s 4 = true ∧ (t = -1 ∨ (bl t 4 = true ∧ n ≤ 40)) then if ¬ t = -1 ∧ n < 0 then (-14, S) else (1, shS S (upH S.2.2.2.2.1 (iN s) (nsH t n))) else (-1, S)
/-- a sheet laid anew -/
theorem xH.up {h h' : gH} {x : Nat} {D D' : Nat → Prop} {H : Nat → Nat × Nat × (Nat → Int64)} {r : Nat → Option Nat} {s1 : Nat} {o : Option Nat} {w : Nat × Nat × (Nat → Int64)} (hs : s1 < 4) (e : h'.1 (x + 45) = some (.inl (3, 4, .inr (.inr (.inr (.inr (va_up r s1 o))))))) (hsh : ∀ i, i < 4 → shO h D (r i) (H i)) (hinj : ∀ i j q, i < 4 → j < 4 → r i = some q → r j = some q → i = j) (hd : ∀ a, D a → D' a ∧ h'.1 a = h.1 a) (ho : shO h' D' o w) (hn : ∀ q, o = some q → ¬ D q) : xH h' x D' (upH H s1 w) := by
  refine ⟨va_up r s1 o, e, fun i hi => ?_, fun i j q hi hj h1 h2 => ?_⟩
  · by_cases z : i = s1
    · subst z
      rw [show va_up r i o i = o from if_pos rfl, show upH H i w i = w from if_pos rfl]
      exact ho
    · rw [show va_up r s1 o i = r i from if_neg z, show upH H s1 w i = H i from if_neg z]
      rcases hsh i hi with y | ⟨y1, y2, y3, q, f, yr, yd, yd1, yi, yf⟩
      · exact .inl y
      · exact .inr ⟨y1, y2, y3, q, f, yr, (hd _ yd).1, (hd _ yd1).1, yi.ag (hd _ yd).2 (hd _ yd1).2, yf⟩
  · have fresh : ∀ i, i < 4 → i ≠ s1 → r i = some q → o = some q → False := fun i hi _ hr ho' => by
      rcases hsh i hi with y | ⟨y1, y2, y3, q2, f, yr, yd, yd1, yi, yf⟩
      · rw [y.2] at hr; exact absurd hr (by simp)
      · exact hn q ho' (Option.some.inj (yr.symm.trans hr) ▸ yd)
    by_cases zi : i = s1
    · by_cases zj : j = s1
      · omega
      · rw [zi, show va_up r s1 o s1 = o from if_pos rfl] at h1
        rw [show va_up r s1 o j = r j from if_neg zj] at h2
        exact (fresh j hj zj h2 h1).elim
    · by_cases zj : j = s1
      · rw [show va_up r s1 o i = r i from if_neg zi] at h1
        rw [zj, show va_up r s1 o s1 = o from if_pos rfl] at h2
        exact (fresh i hi zi h1 h2).elim
      · rw [show va_up r s1 o i = r i from if_neg zi] at h1
        rw [show va_up r s1 o j = r j from if_neg zj] at h2
        exact hinj i j q hi hj h1 h2
set_option maxRecDepth 10000 in
set_option maxHeartbeats 2000000 in
theorem c_X11_sheet {g : gG} {h : gH} {x : Nat} {D : Nat → Prop} {S : AS} (hx : isX h x D S) {s t n : Int32} : Ct g mX11_sheet [.ref x, .int s, .int t, .int n] h (some (.int (oSheet S s t n).1)) (Py x D (oSheet S s t n).2 h) := by
  have ho := hx.2.1
  have hv := hx.2.2.1
  have n0 := hv.o
  have okw := hv.1
  obtain ⟨hr, e45, hsh, hinj⟩ := hx.2.2.2.2.2.2.2.2.1.1

  refine Cn.of (L := [some (.ref x), some (.int s), some (.int t), some (.int n), none]) (by decide) (Nat.le_of_ble_eq_true rfl) rfl ?_
  refine x_iload_n dX11_sheet_0 rfl ?_
  refine x_iconst (v := -1) dX11_sheet_1 (by decide) ?_
  refine x_icmp_ne 9 dX11_sheet_2 (by decide) (fun c2 => ?_) (fun c2 => ?_)
  · refine x_iconst (v := 0) dX11_sheet_9 (by decide) ?_
    refine x_ist_4 dX11_sheet_10 (by decide) rfl ?_
    refine x_iload_n dX11_sheet_12 rfl ?_
    refine x_iconst (v := 4) dX11_sheet_13 (by decide) ?_
    refine x_rdS c_bl lkX11_isBelow sX11_94 dX11_sheet_14 rfl rfl (Nat.le_of_ble_eq_true rfl) (by decide) ⟨rfl, rfl, by decide, by decide⟩ ?_
    refine x_if_eqB 39 dX11_sheet_17 (by decide) (fun c17 => ?_) (fun c17 => ?_)
    · refine x_iconst (v := -1) dX11_sheet_39 (by decide) ?_
      refine x_iret rfl dX11_sheet_40 ⟨by decide, by decide⟩ ?_
      exact finY hx.rf.y (by rw [oSheet, if_neg (fun q => c17 q.1)])
    · refine x_iload dX11_sheet_20 rfl ?_
      refine x_if_ne_f 41 dX11_sheet_22 (by decide) rfl ?_
      refine x_iload_n dX11_sheet_25 rfl ?_
      refine x_iconst (v := 4) dX11_sheet_26 (by decide) ?_
      refine x_rdS c_bl lkX11_isBelow sX11_94 dX11_sheet_27 rfl rfl (Nat.le_of_ble_eq_true rfl) (by decide) ⟨rfl, rfl, by decide, by decide⟩ ?_
      refine x_if_eqB 39 dX11_sheet_30 (by decide) (fun c30 => ?_) (fun c30 => ?_)
      · refine x_iconst (v := -1) dX11_sheet_39 (by decide) ?_
        refine x_iret rfl dX11_sheet_40 ⟨by decide, by decide⟩ ?_
        exact finY hx.rf.y (by rw [oSheet, if_neg (fun q => q.2.elim c2 (fun z => c30 z.1))])
      · refine x_iload_n dX11_sheet_33 rfl ?_
        refine x_bipush (v := 40) dX11_sheet_34 (by decide) ?_
        refine x_icmp_le 41 dX11_sheet_36 (by decide) (fun c36 => ?_) (fun c36 => ?_)
        · refine x_iload dX11_sheet_41 rfl ?_
          refine x_if_ne_f 53 dX11_sheet_43 (by decide) rfl ?_
          refine x_iload_n dX11_sheet_46 rfl ?_
          refine x_if_ge 53 dX11_sheet_47 (by decide) (fun c47 => ?_) (fun c47 => ?_)
          · obtain ⟨s1, hs, rfl⟩ := bl_E (b := 4) c17 (by decide)
            refine x_aload_n dX11_sheet_53 rfl ?_
            refine x_get fX11_45 ho rfl dX11_sheet_54 ?_
            refine x_iload_n dX11_sheet_57 rfl ?_
            refine x_iload dX11_sheet_58 rfl ?_
            refine x_if_eq_t 67 dX11_sheet_60 (by decide) rfl ?_
            obtain ⟨t1, ht, rfl⟩ := bl_E (b := 4) c30 (by decide)
            have c47x := c47
            obtain ⟨n1, hn, rfl⟩ := ut_E (b := 40) (ut_p.mpr ⟨c47, c36⟩) (by decide)
            refine x_new nX11_43 gd5 (by decide) (by decide) dX11_sheet_67 ?_
            refine x_dup dX11_sheet_70 rfl ?_
            refine x_iload_n dX11_sheet_71 rfl ?_
            refine x_iload_n dX11_sheet_72 rfl ?_
            refine x_cnI (k' := 2) (n' := 42) rfl (c_X5_init (h := hnew h (.inr (5, [.int 0, .null]))) (q := h.2) hnew_s (by show h.2 < h.2 + 1; omega) hn) lkX5_init sX11_293 dX11_sheet_73 rfl rfl (Nat.le_of_ble_eq_true rfl) (by decide) ⟨rfl, rfl, by decide, by decide⟩ ?_
            rintro h3 ⟨i1, i2, i3, i4⟩
            have F3 : ∀ a, a < h.2 → h3.1 a = h.1 a := fun a l => (i4 a (by omega) (by show a ≠ h.2 + 1; omega)).trans (hnew_n (by omega))
            have e45' : h3.1 (x + 45) = _ := (F3 _ (by have := hx.1.1; omega)).trans e45
            have z2' : h3.2 = h.2 + 2 := i1
            refine x_aast s1 e45' i2 rfl hs (by decide) dX11_sheet_76 ?_
            refine x_iconst (v := 1) dX11_sheet_77 (by decide) ?_
            refine x_iret rfl dX11_sheet_78 ⟨by decide, by decide⟩ ?_
            obtain P := hx.shG (h' := hset h3 (x + 45) (.inl (3, 4, .inr (.inr (.inr (.inr (va_up hr s1 (some h.2)))))))) (H := upH S.2.2.2.2.1 s1 (t1 + 1, n1, fun _ => 0)) (by show h.2 ≤ h3.2; omega) (fun a l q => (hset_n q).trans (F3 a l)) (xH.up (D := D) hs hset_s hsh hinj (fun a q => ⟨.inl q, (hset_n (by have := hx.1.2 a q; omega)).trans (F3 a (hx.1.2 a q).2)⟩) (.inr ⟨by show 0 < t1 + 1; omega, by show t1 + 1 ≤ 4; omega, hn, h.2, fun _ => 0, rfl, .inr ⟨Nat.le_refl _, by show h.2 < h3.2; omega⟩, .inr ⟨Nat.le_succ _, by show h.2 + 1 < h3.2; omega⟩, ⟨(hset_n (by have := hx.1.1; omega)).trans i2, (hset_n (by have := hx.1.1; omega)).trans i3⟩, fun _ _ => rfl⟩) (fun q z d => by have := (hx.1.2 q d).2; rw [Option.some.inj z] at this; omega))
            refine finY P ?_
            rw [oSheet, if_pos ⟨c17, .inr ⟨c30, c36⟩⟩, if_neg (fun q => absurd q.2 (Int32.not_lt.mpr c47x)), iN_nI (by omega), nsH, if_neg c2, iN_nI (by omega), iN_nI (by omega)]
          · refine x_bipush (v := -14) dX11_sheet_50 (by decide) ?_
            refine x_iret rfl dX11_sheet_52 ⟨by decide, by decide⟩ ?_
            exact finY hx.rf.y (by rw [oSheet, if_pos ⟨c17, .inr ⟨c30, c36⟩⟩, if_pos ⟨c2, Int32.not_le.mp c47⟩])
        · refine x_iconst (v := -1) dX11_sheet_39 (by decide) ?_
          refine x_iret rfl dX11_sheet_40 ⟨by decide, by decide⟩ ?_
          exact finY hx.rf.y (by rw [oSheet, if_neg (fun q => q.2.elim c2 (fun z => c36 z.2))])
  · refine x_iconst (v := 1) dX11_sheet_5 (by decide) ?_
    refine x_goto 10 dX11_sheet_6 (by decide) ?_
    refine x_ist_4 dX11_sheet_10 (by decide) rfl ?_
    refine x_iload_n dX11_sheet_12 rfl ?_
    refine x_iconst (v := 4) dX11_sheet_13 (by decide) ?_
    refine x_rdS c_bl lkX11_isBelow sX11_94 dX11_sheet_14 rfl rfl (Nat.le_of_ble_eq_true rfl) (by decide) ⟨rfl, rfl, by decide, by decide⟩ ?_
    refine x_if_eqB 39 dX11_sheet_17 (by decide) (fun c17 => ?_) (fun c17 => ?_)
    · refine x_iconst (v := -1) dX11_sheet_39 (by decide) ?_
      refine x_iret rfl dX11_sheet_40 ⟨by decide, by decide⟩ ?_
      exact finY hx.rf.y (by rw [oSheet, if_neg (fun q => c17 q.1)])
    · refine x_iload dX11_sheet_20 rfl ?_
      refine x_if_ne_t 41 dX11_sheet_22 (by decide) (by decide) ?_
      refine x_iload dX11_sheet_41 rfl ?_
      refine x_if_ne_t 53 dX11_sheet_43 (by decide) (by decide) ?_
      obtain ⟨s1, hs, rfl⟩ := bl_E (b := 4) c17 (by decide)
      refine x_aload_n dX11_sheet_53 rfl ?_
      refine x_get fX11_45 ho rfl dX11_sheet_54 ?_
      refine x_iload_n dX11_sheet_57 rfl ?_
      refine x_iload dX11_sheet_58 rfl ?_
      refine x_if_eq_f 67 dX11_sheet_60 (by decide) (by decide) ?_
      refine x_null dX11_sheet_63 ?_
      refine x_goto 76 dX11_sheet_64 (by decide) ?_
      refine x_aastN s1 e45 rfl hs (by decide) dX11_sheet_76 ?_
      refine x_iconst (v := 1) dX11_sheet_77 (by decide) ?_
      refine x_iret rfl dX11_sheet_78 ⟨by decide, by decide⟩ ?_
      obtain P := hx.shG (h' := hset h (x + 45) (.inl (3, 4, .inr (.inr (.inr (.inr (va_up hr s1 none))))))) (H := upH S.2.2.2.2.1 s1 (0, 0, fun _ => 0)) (Nat.le_refl _) (fun a _ q => hset_n q) (xH.up (D := D) hs hset_s hsh hinj (fun a q => ⟨.inl q, hset_n (by have := hx.1.2 a q; omega)⟩) (.inl ⟨rfl, rfl⟩) (fun q z => by simp at z))
      exact finY P (by rw [oSheet, if_pos ⟨c17, .inl c2⟩, if_neg (fun q => q.1 c2), iN_nI (by omega), nsH, if_pos c2])
def slN (S : AS) (w n : Int32) : Nat × Nat × Nat := if w = 0 then (1, iN n, 0) else if w = 1 then if (S.2.2.2.2.1 (iN n)).1 = 0 then (0, 0, 0) else (2, (S.2.2.2.2.1 (iN n)).1 - 1, (S.2.2.2.2.1 (iN n)).2.1) else (0, 0, 0)
def oShelf (S : AS) (f w n : Int32) : Int32 × AS := if bl f 4 = true ∧ ((w = 0 ∧ bl n (nI (S.1.1 0)) = true) ∨ (w = 1 ∧ bl n 4 = true) ∨ w = 2) then (1, slS S (upH S.2.2.2.2.2.1 (iN f) (slN S w n))) else (-1, S)
theorem xL.up {h : gH} {x : Nat} {D : Nat → Prop} {H : Nat → Nat × Nat × Nat} {p : Nat → Int32} {r : Nat → Option Nat} {s1 : Nat} {v : Int32} {o : Option Nat} {w : Nat × Nat × Nat} {e1 e2 : va_E} (hdx : ∀ a, D a → x + 50 ≤ a) (he1 : e1 = .inl (0, 4, .inl (va_up p s1 v))) (he2 : e2 = .inl (3, 4, .inr (.inr (.inr (.inr (va_up r s1 o)))))) (hsl : ∀ i, i < 4 → slO h D (p i) (r i) (H i)) (ho : slO h D v o w) : xL (hset (hset h (x + 46) e1) (x + 47) e2) x D (upH H s1 w) := by
  subst he1
  subst he2
  have go : ∀ {v : Int32} {o : Option Nat} {w : Nat × Nat × Nat}, slO h D v o w → slO (hset (hset h (x + 46) (.inl (0, 4, .inl (va_up p s1 v)))) (x + 47) (.inl (3, 4, .inr (.inr (.inr (.inr (va_up r s1 o))))))) D v o w ∧ ∀ e1 e2, slO (hset (hset h (x + 46) e1) (x + 47) e2) D v o w := by
    intro v o w hs
    have key : ∀ e1 e2, slO (hset (hset h (x + 46) e1) (x + 47) e2) D v o w := by
      intro e1 e2
      rcases hs with z | z | ⟨y1, y2, y3, y4, q, f, yr, yd, yd1, yi⟩
      · exact .inl z
      · exact .inr (.inl z)
      · have b1 := hdx _ yd
        exact .inr (.inr ⟨y1, y2, y3, y4, q, f, yr, yd, yd1, yi.ag ((hset_n (by omega)).trans (hset_n (by omega))) ((hset_n (by omega)).trans (hset_n (by omega)))⟩)
    exact ⟨key _ _, key⟩
  refine ⟨va_up p s1 v, va_up r s1 o, (hset_n (by omega)).trans hset_s, hset_s, fun i hi => ?_⟩
  by_cases z : i = s1
  · subst z
    rw [show va_up p i v i = v from if_pos rfl, show va_up r i o i = o from if_pos rfl, show upH H i w i = w from if_pos rfl]
    exact (go ho).2 _ _
  · rw [show va_up p s1 v i = p i from if_neg z, show va_up r s1 o i = r i from if_neg z, show upH H s1 w i = H i from if_neg z]
    exact (go (hsl i hi)).2 _ _
set_option maxRecDepth 10000 in
set_option maxHeartbeats 2000000 in
theorem c_X11_shelf {g : gG} {h : gH} {x : Nat} {D : Nat → Prop} {S : AS} (hx : isX h x D S) {f w n : Int32} : Ct g mX11_shelf [.ref x, .int f, .int w, .int n] h (some (.int (oShelf S f w n).1)) (Px x D (oShelf S f w n).2 h) := by
  have ho := hx.2.1
  have hv := hx.2.2.1
  have n0 := hv.o
  have okw := hv.1
  obtain ⟨hr, e45, hsh, hinj⟩ := hx.2.2.2.2.2.2.2.2.1.1
  obtain ⟨lp, lr, e46, e47, hsl⟩ := hx.2.2.2.2.2.2.2.2.1.2

  refine Cn.of (L := [some (.ref x), some (.int f), some (.int w), some (.int n)]) (by decide) (Nat.le_of_ble_eq_true rfl) rfl ?_
  refine x_iload_n dX11_shelf_0 rfl ?_
  refine x_iconst (v := 4) dX11_shelf_1 (by decide) ?_
  refine x_rdS c_bl lkX11_isBelow sX11_94 dX11_shelf_2 rfl rfl (Nat.le_of_ble_eq_true rfl) (by decide) ⟨rfl, rfl, by decide, by decide⟩ ?_
  refine x_if_eqB 16 dX11_shelf_5 (by decide) (fun c5 => ?_) (fun c5 => ?_)
  · refine x_iconst (v := -1) dX11_shelf_16 (by decide) ?_
    refine x_iret rfl dX11_shelf_17 ⟨by decide, by decide⟩ ?_
    exact finA hx.rf (by rw [oShelf, if_neg (fun q => c5 q.1)])
  · refine x_iload_n dX11_shelf_8 rfl ?_
    refine x_iconst (v := 2) dX11_shelf_9 (by decide) ?_
    refine x_rdS c_ut lkX11_isUpTo sX11_98 dX11_shelf_10 rfl rfl (Nat.le_of_ble_eq_true rfl) (by decide) ⟨rfl, rfl, by decide, by decide⟩ ?_
    refine x_if_neB 18 dX11_shelf_13 (by decide) (fun c13 => ?_) (fun c13 => ?_)
    · obtain ⟨f1, hf, rfl⟩ := bl_E (b := 4) c5 (by decide)
      obtain ⟨w1, hw1, rfl⟩ := ut_E (b := 2) c13 (by decide)
      rcases w1 with _ | _ | _ | w1
      · refine x_iload_n dX11_shelf_18 rfl ?_
        refine x_if_ne_f 33 dX11_shelf_19 (by decide) rfl ?_
        refine x_aload_n dX11_shelf_22 rfl ?_
        refine x_get fX11_12 ho rfl dX11_shelf_23 ?_
        refine x_iload_n dX11_shelf_26 rfl ?_
        refine x_rdV (c_hp hv) (by assumption) lkX10_hasPath sX11_105 dX11_shelf_27 rfl rfl (Nat.le_of_ble_eq_true rfl) (by decide) ⟨rfl, rfl, by decide, by decide⟩ ?_
        refine x_if_eqB 46 dX11_shelf_30 (by decide) (fun c30 => ?_) (fun c30 => ?_)
        · refine x_iconst (v := -1) dX11_shelf_46 (by decide) ?_
          refine x_iret rfl dX11_shelf_47 ⟨by decide, by decide⟩ ?_
          exact finA hx.rf (by rw [oShelf, if_neg (fun q => q.2.elim (fun z => c30 z.2) (fun z => z.elim (fun y => absurd y.1 (by decide)) (fun y => absurd y (by decide))))])
        · refine x_iload_n dX11_shelf_33 rfl ?_
          refine x_iconst (v := 1) dX11_shelf_34 (by decide) ?_
          refine x_icmp_ne_t 48 dX11_shelf_35 (by decide) (by decide) ?_
          obtain ⟨p1, hp, rfl⟩ := bl_E c30 (by have := okw.1.1; omega)
          have hp8 : p1 < 8 := by have := okw.1.1; omega
          refine x_aload_n dX11_shelf_48 rfl ?_
          refine x_get fX11_49 ho rfl dX11_shelf_49 ?_
          refine x_iload_n dX11_shelf_52 rfl ?_
          refine x_iload_n dX11_shelf_53 rfl ?_
          refine x_if_ne_f 61 dX11_shelf_54 (by decide) rfl ?_
          refine x_iload_n dX11_shelf_57 rfl ?_
          refine x_goto 63 dX11_shelf_58 (by decide) ?_
          refine x_iast f1 e46 rfl hf (by decide) dX11_shelf_63 ?_
          refine x_aload_n dX11_shelf_64 rfl ?_
          refine x_get fX11_52 ((hset_n (by omega)).trans ho) rfl dX11_shelf_65 ?_
          refine x_iload_n dX11_shelf_68 rfl ?_
          refine x_iload_n dX11_shelf_69 rfl ?_
          refine x_iconst (v := 1) dX11_shelf_70 (by decide) ?_
          refine x_icmp_ne_t 83 dX11_shelf_71 (by decide) (by decide) ?_
          refine x_null dX11_shelf_83 ?_
          refine x_aastN f1 ((hset_n (by omega)).trans e47) rfl hf (by decide) dX11_shelf_84 ?_
          refine x_iconst (v := 1) dX11_shelf_85 (by decide) ?_
          refine x_iret rfl dX11_shelf_86 ⟨by decide, by decide⟩ ?_
          obtain P := hx.slG ((Fr.set (w := x + 46) (n := 2) (by omega) (by omega)).tr (Fr.set (by omega) (by omega))) (xL.up (s1 := f1) (v := nI p1) (o := none) (w := (1, p1, 0)) (fun a q => (hx.1.2 a q).1) rfl rfl hsl (.inr (.inl ⟨rfl, hp8, rfl, rfl⟩)))
          refine finA P ?_
          rw [oShelf, if_pos ⟨c5, .inl ⟨rfl, c30⟩⟩, iN_nI (by omega)]
          rw [slN, if_pos (show nI 0 = 0 by decide), iN_nI (by omega)]
      · refine x_iload_n dX11_shelf_18 rfl ?_
        refine x_if_ne_t 33 dX11_shelf_19 (by decide) (by decide) ?_
        refine x_iload_n dX11_shelf_33 rfl ?_
        refine x_iconst (v := 1) dX11_shelf_34 (by decide) ?_
        refine x_icmp_ne_f 48 dX11_shelf_35 (by decide) (by decide) ?_
        refine x_iload_n dX11_shelf_38 rfl ?_
        refine x_iconst (v := 4) dX11_shelf_39 (by decide) ?_
        refine x_rdS c_bl lkX11_isBelow sX11_94 dX11_shelf_40 rfl rfl (Nat.le_of_ble_eq_true rfl) (by decide) ⟨rfl, rfl, by decide, by decide⟩ ?_
        refine x_if_neB 48 dX11_shelf_43 (by decide) (fun c43 => ?_) (fun c43 => ?_)
        · obtain ⟨p1, hp, rfl⟩ := bl_E (b := 4) c43 (by decide)
          refine x_aload_n dX11_shelf_48 rfl ?_
          refine x_get fX11_49 ho rfl dX11_shelf_49 ?_
          refine x_iload_n dX11_shelf_52 rfl ?_
          refine x_iload_n dX11_shelf_53 rfl ?_
          refine x_if_ne_t 61 dX11_shelf_54 (by decide) (by decide) ?_
          refine x_bipush (v := -9) dX11_shelf_61 (by decide) ?_
          refine x_iast f1 e46 rfl hf (by decide) dX11_shelf_63 ?_
          refine x_aload_n dX11_shelf_64 rfl ?_
          refine x_get fX11_52 ((hset_n (by omega)).trans ho) rfl dX11_shelf_65 ?_
          refine x_iload_n dX11_shelf_68 rfl ?_
          refine x_iload_n dX11_shelf_69 rfl ?_
          refine x_iconst (v := 1) dX11_shelf_70 (by decide) ?_
          refine x_icmp_ne_f 83 dX11_shelf_71 (by decide) (by decide) ?_
          refine x_aload_n dX11_shelf_74 rfl ?_
          refine x_get fX11_45 ((hset_n (by omega)).trans ho) rfl dX11_shelf_75 ?_
          refine x_iload_n dX11_shelf_78 rfl ?_
          refine x_aald p1 ((hset_n (by omega)).trans e45) rfl hp (by decide) dX11_shelf_79 ?_
          rcases hsh p1 hp with ⟨z0, zr⟩ | ⟨z1, z2, z3, q, f, zr, dq, dq1, is, zf⟩
          · rw [zr, show va_rf none = Value.null from rfl]
            refine x_goto 84 dX11_shelf_80 (by decide) ?_
            refine x_aastN f1 ((hset_n (by omega)).trans e47) rfl hf (by decide) dX11_shelf_84 ?_
            refine x_iconst (v := 1) dX11_shelf_85 (by decide) ?_
            refine x_iret rfl dX11_shelf_86 ⟨by decide, by decide⟩ ?_
            obtain P := hx.slG ((Fr.set (w := x + 46) (n := 2) (by omega) (by omega)).tr (Fr.set (by omega) (by omega))) (xL.up (s1 := f1) (v := (-9)) (o := none) (w := (0, 0, 0)) (fun a q => (hx.1.2 a q).1) rfl rfl hsl (.inl ⟨rfl, rfl, rfl⟩))
            refine finA P ?_
            rw [oShelf, if_pos ⟨c5, .inr (.inl ⟨rfl, c43⟩)⟩, iN_nI (by omega)]
            rw [slN, if_neg (by decide), if_pos (show nI (0 + 1) = 1 by decide), iN_nI (by omega), if_pos z0]
          · rw [zr, show va_rf (some q) = Value.ref q from rfl]
            have z0 : ¬ (S.2.2.2.2.1 p1).1 = 0 := by omega
            refine x_goto 84 dX11_shelf_80 (by decide) ?_
            refine x_aast f1 ((hset_n (by omega)).trans e47) ((hset_n (by have := hx.1.2 q dq; omega)).trans is.1) rfl hf (by decide) dX11_shelf_84 ?_
            refine x_iconst (v := 1) dX11_shelf_85 (by decide) ?_
            refine x_iret rfl dX11_shelf_86 ⟨by decide, by decide⟩ ?_
            obtain P := hx.slG ((Fr.set (w := x + 46) (n := 2) (by omega) (by omega)).tr (Fr.set (by omega) (by omega))) (xL.up (s1 := f1) (v := (-9)) (o := (some q)) (w := (2, (S.2.2.2.2.1 p1).1 - 1, (S.2.2.2.2.1 p1).2.1)) (fun a q => (hx.1.2 a q).1) rfl rfl hsl (.inr (.inr ⟨rfl, by show (S.2.2.2.2.1 p1).1 - 1 < 4; omega, z3, rfl, q, f, rfl, dq, dq1, is⟩)))
            refine finA P ?_
            rw [oShelf, if_pos ⟨c5, .inr (.inl ⟨rfl, c43⟩)⟩, iN_nI (by omega)]
            rw [slN, if_neg (by decide), if_pos (show nI (0 + 1) = 1 by decide), iN_nI (by omega), if_neg z0]
        · refine x_iconst (v := -1) dX11_shelf_46 (by decide) ?_
          refine x_iret rfl dX11_shelf_47 ⟨by decide, by decide⟩ ?_
          exact finA hx.rf (by rw [oShelf, if_neg (fun q => q.2.elim (fun z => absurd z.1 (by decide)) (fun z => z.elim (fun y => c43 y.2) (fun y => absurd y (by decide))))])
      · refine x_iload_n dX11_shelf_18 rfl ?_
        refine x_if_ne_t 33 dX11_shelf_19 (by decide) (by decide) ?_
        refine x_iload_n dX11_shelf_33 rfl ?_
        refine x_iconst (v := 1) dX11_shelf_34 (by decide) ?_
        refine x_icmp_ne_t 48 dX11_shelf_35 (by decide) (by decide) ?_
        refine x_aload_n dX11_shelf_48 rfl ?_
        refine x_get fX11_49 ho rfl dX11_shelf_49 ?_
        refine x_iload_n dX11_shelf_52 rfl ?_
        refine x_iload_n dX11_shelf_53 rfl ?_
        refine x_if_ne_t 61 dX11_shelf_54 (by decide) (by decide) ?_
        refine x_bipush (v := -9) dX11_shelf_61 (by decide) ?_
        refine x_iast f1 e46 rfl hf (by decide) dX11_shelf_63 ?_
        refine x_aload_n dX11_shelf_64 rfl ?_
        refine x_get fX11_52 ((hset_n (by omega)).trans ho) rfl dX11_shelf_65 ?_
        refine x_iload_n dX11_shelf_68 rfl ?_
        refine x_iload_n dX11_shelf_69 rfl ?_
        refine x_iconst (v := 1) dX11_shelf_70 (by decide) ?_
        refine x_icmp_ne_t 83 dX11_shelf_71 (by decide) (by decide) ?_
        refine x_null dX11_shelf_83 ?_
        refine x_aastN f1 ((hset_n (by omega)).trans e47) rfl hf (by decide) dX11_shelf_84 ?_
        refine x_iconst (v := 1) dX11_shelf_85 (by decide) ?_
        refine x_iret rfl dX11_shelf_86 ⟨by decide, by decide⟩ ?_
        obtain P := hx.slG ((Fr.set (w := x + 46) (n := 2) (by omega) (by omega)).tr (Fr.set (by omega) (by omega))) (xL.up (s1 := f1) (v := (-9)) (o := none) (w := (0, 0, 0)) (fun a q => (hx.1.2 a q).1) rfl rfl hsl (.inl ⟨rfl, rfl, rfl⟩))
        refine finA P ?_
        rw [oShelf, if_pos ⟨c5, .inr (.inr rfl)⟩, iN_nI (by omega)]
        rw [slN, if_neg (by decide), if_neg (by decide)]
      · omega
    · refine x_iconst (v := -1) dX11_shelf_16 (by decide) ?_
      refine x_iret rfl dX11_shelf_17 ⟨by decide, by decide⟩ ?_
      exact finA hx.rf (by rw [oShelf, if_neg (fun q => c13 (q.2.elim (fun z => by rw [z.1]; decide) (fun z => z.elim (fun y => by rw [y.1]; decide) (fun y => by rw [y]; decide))))])
