/-- a call that may make cells: what the object holds behind it, and what it left alone -/
def Dx (D : Nat → Prop) (h h' : gH) : Nat → Prop := fun a => D a ∨ (h.2 ≤ a ∧ a < h'.2)
def Fx (x : Nat) (D : Nat → Prop) (h h' : gH) : Prop := h.2 ≤ h'.2 ∧ ∀ a, a < h.2 → (a < x ∨ x + 50 ≤ a) → ¬ D a → h'.1 a = h.1 a
def Py (x : Nat) (D : Nat → Prop) (S : AS) (h : gH) : gH → Prop := fun h' => isX h' x (Dx D h h') S ∧ Fx x D h h'
theorem isX.mono {h : gH} {x : Nat} {D D' : Nat → Prop} {S : AS} (hx : isX h x D S) (hm : ∀ a, D a → D' a) (hb : ∀ a, D' a → x + 50 ≤ a ∧ a < h.2) : isX h x D' S := by
  obtain ⟨a1, a2, a3, a4, a5, a6, a7, a8, a9, a10⟩ := hx
  exact ⟨⟨a1.1, hb⟩, a2, a3, a4, a5, a6, a7, a8, ⟨a9.1.ag rfl (fun a q => ⟨hm a q, rfl⟩), a9.2.ag (fun _ _ _ => rfl) (fun a q => ⟨hm a q, rfl⟩)⟩, a10⟩
theorem Px.y {h h' : gH} {x : Nat} {D : Nat → Prop} {S : AS} (hp : Px x D S h h') : Py x D S h h' :=
  ⟨hp.1.mono (fun _ q => .inl q) (fun a q => q.elim (hp.1.1.2 a) (fun z => by have := hp.2.1; omega)), by rw [hp.2.1]; exact Nat.le_refl _, fun a _ q _ => hp.2.2 a q⟩
theorem finY {r : Int32 × AS} {v : Int32} {h h' : gH} {x : Nat} {D : Nat → Prop} {S' : AS} (hp : Py x D S' h h') (E : r = (v, S')) : some (Value.int v) = some (.int r.1) ∧ Py x D r.2 h h' := by rw [E]; exact ⟨rfl, hp⟩
abbrev shS (S : AS) (H : Nat → Nat × Nat × (Nat → Int64)) : AS := (S.1, S.2.1, S.2.2.1, S.2.2.2.1, H, S.2.2.2.2.2)
abbrev slS (S : AS) (H : Nat → Nat × Nat × Nat) : AS := (S.1, S.2.1, S.2.2.1, S.2.2.2.1, S.2.2.2.2.1, H, S.2.2.2.2.2.2)
def nrw (s : Nat) (v : Int32) : Int64 := if s = 0 then v.toInt8.toInt32.toInt64 else if s = 1 then v.toInt16.toInt32.toInt64 else v.toInt64
def cl8 (v : Int64) : Nat := if v < 0 then 0 else if 8 < v then 8 else v.toInt.toNat
def layV (V : VS) (f : Nat → Int64) (n : Nat) : VS := (V.1, V.2.1, va_up V.2.2 3 (fun p => if p < n then cl8 (f p) else V.2.2 3 p))
def oLays (S : AS) (s : Int32) : Int32 × VS := if bl s 4 = true then if (S.2.2.2.2.1 (iN s)).1 = 0 then (-11, S.1) else if (S.2.2.2.2.1 (iN s)).1 = 3 then (nI (min (S.2.2.2.2.1 (iN s)).2.1 (S.1.1 0)), layV S.1 (S.2.2.2.2.1 (iN s)).2.2 (min (S.2.2.2.2.1 (iN s)).2.1 (S.1.1 0))) else (-13, S.1) else (-1, S.1)
def qItem (S : AS) (s t i : Int32) : Int32 := if bl s 4 = true ∧ bl t 4 = true then if (S.2.2.2.2.1 (iN s)).1 = 0 then -11 else if (S.2.2.2.2.1 (iN s)).1 = iN t + 1 then if bl i (nI (S.2.2.2.2.1 (iN s)).2.1) = true then ((S.2.2.2.2.1 (iN s)).2.2 (iN i)).toInt32 else -12 else -13 else -1
def wrH (H : Nat → Nat × Nat × (Nat → Int64)) (s i : Nat) (v : Int32) : Nat → Nat × Nat × (Nat → Int64) := fun j => if j = s then ((H s).1, (H s).2.1, va_up (H s).2.2 i (nrw ((H s).1 - 1) v)) else H j
def oWrite (S : AS) (s i v : Int32) : Int32 × AS := if bl s 4 = true then if (S.2.2.2.2.1 (iN s)).1 = 0 then (-11, S) else if bl i (nI (S.2.2.2.2.1 (iN s)).2.1) = true then (1, shS S (wrH S.2.2.2.2.1 (iN s) (iN i) v)) else (-12, S) else (-1, S)
set_option maxRecDepth 10000 in
set_option maxHeartbeats 2000000 in
theorem c_X5_narrowed {g : gG} {h : gH} {q s n : Nat} {f : Nat → Int64} {v : Int32} (is : isS h q s n f) (hs : s < 4) : Rd g mX5_narrowed [.ref q, .int v] h (.long (nrw s v)) := by
  have i0 := is.1
  have e0 : nI s = 0 ↔ s = 0 := nI_z (by omega)
  have e1 : nI s = 1 ↔ s = 1 := nI_eq (b := 1) (by omega) (by decide)
  refine Cn.of (L := [some (.ref q), some (.int v)]) (by decide) (Nat.le_of_ble_eq_true rfl) rfl ?_
  refine x_aload_n dX5_narrowed_0 rfl ?_
  refine x_get fX5_9 i0 rfl dX5_narrowed_1 ?_
  refine swX5_narrowed_4 (fun c4 => ?_) (fun c4 => ?_) (fun c4_0 c4_1 => ?_)
  · refine x_iload_n dX5_narrowed_32 rfl ?_
    refine x_i2b dX5_narrowed_33 ?_
    refine x_i2l dX5_narrowed_34 ?_
    refine x_lret rfl dX5_narrowed_35 ⟨by decide, by decide⟩ ?_
    exact ⟨by rw [nrw, if_pos (e0.mp c4)], rfl⟩
  · refine x_iload_n dX5_narrowed_36 rfl ?_
    refine x_i2s dX5_narrowed_37 ?_
    refine x_i2l dX5_narrowed_38 ?_
    refine x_lret rfl dX5_narrowed_39 ⟨by decide, by decide⟩ ?_
    have := e1.mp c4
    exact ⟨by rw [nrw, if_neg (by omega), if_pos this], rfl⟩
  · refine x_iload_n dX5_narrowed_40 rfl ?_
    refine x_i2l dX5_narrowed_41 ?_
    refine x_lret rfl dX5_narrowed_42 ⟨by decide, by decide⟩ ?_
    exact ⟨by rw [nrw, if_neg (fun q => c4_0 (e0.mpr q)), if_neg (fun q => c4_1 (e1.mpr q))], rfl⟩
set_option maxRecDepth 10000 in
set_option maxHeartbeats 2000000 in
theorem c_X11_item {g : gG} {h : gH} {x : Nat} {D : Nat → Prop} {S : AS} (hx : isX h x D S) {s t i : Int32} : Rd g mX11_item [.ref x, .int s, .int t, .int i] h (.int (qItem S s t i)) := by
  have ho := hx.2.1
  have hv := hx.2.2.1
  have n0 := hv.o
  have okw := hv.1
  obtain ⟨hr, e45, hsh, hinj⟩ := hx.2.2.2.2.2.2.2.2.1.1

  refine Cn.of (L := [some (.ref x), some (.int s), some (.int t), some (.int i), none]) (by decide) (Nat.le_of_ble_eq_true rfl) rfl ?_
  refine x_iload_n dX11_item_0 rfl ?_
  refine x_iconst (v := 4) dX11_item_1 (by decide) ?_
  refine x_rdS c_bl lkX11_isBelow sX11_94 dX11_item_2 rfl rfl (Nat.le_of_ble_eq_true rfl) (by decide) ⟨rfl, rfl, by decide, by decide⟩ ?_
  refine x_if_eqB 16 dX11_item_5 (by decide) (fun c5 => ?_) (fun c5 => ?_)
  · refine x_iconst (v := -1) dX11_item_16 (by decide) ?_
    refine x_iret rfl dX11_item_17 ⟨by decide, by decide⟩ ?_
    exact ⟨by simp only [qItem, c5, eq_self, Bool.false_eq_true, reduceCtorEq, and_true, true_and, and_false, false_and, not_true_eq_false, not_false_eq_true, if_true, if_false, ne_eq, or_true, true_or, or_false, false_or], rfl⟩
  · refine x_iload_n dX11_item_8 rfl ?_
    refine x_iconst (v := 4) dX11_item_9 (by decide) ?_
    refine x_rdS c_bl lkX11_isBelow sX11_94 dX11_item_10 rfl rfl (Nat.le_of_ble_eq_true rfl) (by decide) ⟨rfl, rfl, by decide, by decide⟩ ?_
    refine x_if_neB 18 dX11_item_13 (by decide) (fun c13 => ?_) (fun c13 => ?_)
    · obtain ⟨s1, hs, rfl⟩ := bl_E (b := 4) c5 (by decide)
      obtain ⟨t1, ht, rfl⟩ := bl_E (b := 4) c13 (by decide)
      refine x_aload_n dX11_item_18 rfl ?_
      refine x_get fX11_45 ho rfl dX11_item_19 ?_
      refine x_iload_n dX11_item_22 rfl ?_
      refine x_aald s1 e45 rfl hs (by decide) dX11_item_23 ?_
      rcases hsh s1 hs with ⟨z0, zr⟩ | ⟨z1, z2, z3, q, f, zr, dq, dq1, is, zf⟩
      · rw [zr, show va_rf none = Value.null from rfl]
        refine x_nst_4 dX11_item_24 (by decide) rfl ?_
        refine x_aloadN dX11_item_26 rfl ?_
        refine x_ifnonnullN dX11_item_28 ?_
        refine x_bipush (v := -11) dX11_item_31 (by decide) ?_
        refine x_iret rfl dX11_item_33 ⟨by decide, by decide⟩ ?_
        exact ⟨by simp only [qItem, c5, c13, z0, eq_self, Bool.false_eq_true, reduceCtorEq, and_true, true_and, and_false, false_and, not_true_eq_false, not_false_eq_true, if_true, if_false, ne_eq, or_true, true_or, or_false, false_or, iN_nI (show s1 < 2 ^ 31 by omega), iN_nI (show t1 < 2 ^ 31 by omega)], rfl⟩
      · rw [zr, show va_rf (some q) = Value.ref q from rfl]
        have z0 : ¬ (S.2.2.2.2.1 s1).1 = 0 := by omega
        have i0 := is.1
        have i1 := is.2
        refine x_ast_4 dX11_item_24 (by decide) rfl ?_
        refine x_aload dX11_item_26 rfl ?_
        refine x_ifnonnull 34 dX11_item_28 (by decide) ?_
        refine x_aload dX11_item_34 rfl ?_
        refine x_getR fX11_273 i0 rfl dX11_item_36 ?_
        refine x_iload_n dX11_item_39 rfl ?_
        refine x_icmp_eq 46 dX11_item_40 (by decide) (fun c40 => ?_) (fun c40 => ?_)
        · have tt : (S.2.2.2.2.1 s1).1 = t1 + 1 := by have := (nI_eq (by omega) (by omega)).mp c40; omega
          refine x_iload_n dX11_item_46 rfl ?_
          refine x_aload dX11_item_47 rfl ?_
          refine x_getR fX11_276 i0 rfl dX11_item_49 ?_
          refine x_alen (by decide) i1 dX11_item_52 ?_
          refine x_rdS c_bl lkX11_isBelow sX11_94 dX11_item_53 rfl rfl (Nat.le_of_ble_eq_true rfl) (by decide) ⟨rfl, rfl, by decide, by decide⟩ ?_
          refine x_if_neB 62 dX11_item_56 (by decide) (fun c56 => ?_) (fun c56 => ?_)
          · obtain ⟨j1, hj, rfl⟩ := bl_E c56 (by omega)
            refine x_aload dX11_item_62 rfl ?_
            refine x_getR fX11_276 i0 rfl dX11_item_64 ?_
            refine x_iload_n dX11_item_67 rfl ?_
            refine x_lald j1 i1 rfl hj (by omega) dX11_item_68 ?_
            refine x_l2i dX11_item_69 ?_
            refine x_iret rfl dX11_item_70 ⟨by decide, by decide⟩ ?_
            exact ⟨by rw [zf j1 hj]; simp only [qItem, c5, c13, tt, if_neg (show ¬ t1 + 1 = 0 by omega), c56, eq_self, Bool.false_eq_true, reduceCtorEq, and_true, true_and, and_false, false_and, not_true_eq_false, not_false_eq_true, if_true, if_false, ne_eq, or_true, true_or, or_false, false_or, iN_nI (show s1 < 2 ^ 31 by omega), iN_nI (show t1 < 2 ^ 31 by omega), iN_nI (show j1 < 2 ^ 31 by omega)], rfl⟩
          · refine x_bipush (v := -12) dX11_item_59 (by decide) ?_
            refine x_iret rfl dX11_item_61 ⟨by decide, by decide⟩ ?_
            exact ⟨by simp only [qItem, c5, c13, tt, if_neg (show ¬ t1 + 1 = 0 by omega), c56, eq_self, Bool.false_eq_true, reduceCtorEq, and_true, true_and, and_false, false_and, not_true_eq_false, not_false_eq_true, if_true, if_false, ne_eq, or_true, true_or, or_false, false_or, iN_nI (show s1 < 2 ^ 31 by omega), iN_nI (show t1 < 2 ^ 31 by omega)], rfl⟩
        · refine x_bipush (v := -13) dX11_item_43 (by decide) ?_
          refine x_iret rfl dX11_item_45 ⟨by decide, by decide⟩ ?_
          have tt : ¬ (S.2.2.2.2.1 s1).1 = t1 + 1 := fun z => c40 ((nI_eq (by omega) (by omega)).mpr (by omega))
          exact ⟨by simp only [qItem, c5, c13, z0, tt, eq_self, Bool.false_eq_true, reduceCtorEq, and_true, true_and, and_false, false_and, not_true_eq_false, not_false_eq_true, if_true, if_false, ne_eq, or_true, true_or, or_false, false_or, iN_nI (show s1 < 2 ^ 31 by omega), iN_nI (show t1 < 2 ^ 31 by omega)], rfl⟩
    · refine x_iconst (v := -1) dX11_item_16 (by decide) ?_
      refine x_iret rfl dX11_item_17 ⟨by decide, by decide⟩ ?_
      exact ⟨by simp only [qItem, c5, c13, eq_self, Bool.false_eq_true, reduceCtorEq, and_true, true_and, and_false, false_and, not_true_eq_false, not_false_eq_true, if_true, if_false, ne_eq, or_true, true_or, or_false, false_or], rfl⟩
theorem isX.wr {h : gH} {x : Nat} {D : Nat → Prop} {S : AS} (hx : isX h x D S) {r : Nat → Option Nat} (e45 : h.1 (x + 45) = some (.inl (3, 4, .inr (.inr (.inr (.inr r)))))) {s1 q j1 : Nat} {f : Nat → Int64} {v : Int32} (hsh : ∀ i, i < 4 → shO h D (r i) (S.2.2.2.2.1 i)) (hinj : ∀ i j q, i < 4 → j < 4 → r i = some q → r j = some q → i = j) (hs : s1 < 4) (zr : r s1 = some q) (dq : D q) (dq1 : D (q + 1)) (z1 : 0 < (S.2.2.2.2.1 s1).1) (z2 : (S.2.2.2.2.1 s1).1 ≤ 4) (z3 : (S.2.2.2.2.1 s1).2.1 ≤ 40) (is : isS h q ((S.2.2.2.2.1 s1).1 - 1) (S.2.2.2.2.1 s1).2.1 f) (zf : ∀ j, j < (S.2.2.2.2.1 s1).2.1 → f j = (S.2.2.2.2.1 s1).2.2 j) : Py x D (shS S (wrH S.2.2.2.2.1 s1 j1 v)) h (hset h (q + 1) (.inl (1, (S.2.2.2.2.1 s1).2.1, .inr (.inl (va_up f j1 (nrw ((S.2.2.2.2.1 s1).1 - 1) v)))))) := by
  have bq := hx.1.2 _ dq
  have bq1 := hx.1.2 _ dq1
  have hf : Fr (q + 1) 1 h (hset h (q + 1) (.inl (1, (S.2.2.2.2.1 s1).2.1, .inr (.inl (va_up f j1 (nrw ((S.2.2.2.2.1 s1).1 - 1) v)))))) := Fr.set (by omega) (by omega)
  obtain ⟨a1, a2, a3, a4, a5, a6, a7, a8, a9, pt, a10⟩ := id hx
  have key : ∀ {q2 s n : Nat} {f2 : Nat → Int64}, isS h q2 s n f2 → q2 ≠ q → isS (hset h (q + 1) (.inl (1, (S.2.2.2.2.1 s1).2.1, .inr (.inl (va_up f j1 (nrw ((S.2.2.2.2.1 s1).1 - 1) v)))))) q2 s n f2 := by
    intro q2 s n f2 i2 hne
    have n1 : q2 ≠ q + 1 := fun z => by
      have h1 := i2.1
      rw [z, is.2] at h1
      exact absurd h1 (by simp)
    exact ⟨(hset_n n1).trans i2.1, (hset_n (by omega)).trans i2.2⟩
  have own : isS (hset h (q + 1) (.inl (1, (S.2.2.2.2.1 s1).2.1, .inr (.inl (va_up f j1 (nrw ((S.2.2.2.2.1 s1).1 - 1) v)))))) q ((S.2.2.2.2.1 s1).1 - 1) (S.2.2.2.2.1 s1).2.1 (va_up f j1 (nrw ((S.2.2.2.2.1 s1).1 - 1) v)) := ⟨(hset_n (by omega)).trans is.1, hset_s⟩
  refine ⟨isX.mono (D := D) ⟨hx.1, by rw [hf.2 _ (by omega)]; exact a2, a3.ag (hf.agr (by omega)), a4.ag (hf.agr (by omega)), a5.ag (hf.agr (by omega)), a6.ag (hf.agr (by omega)), a7.ag (hf.agr (by omega)), a8.ag (hf.agr (by omega)), ⟨⟨r, (hf.2 _ (by omega)).trans e45, fun i hi => ?_, hinj⟩, ?_⟩, pt, a10.ag (hf.agr (by omega))⟩ (fun _ z => .inl z) (fun a z => z.elim (hx.1.2 a) (fun y => by have : (hset h (q + 1) (.inl (1, (S.2.2.2.2.1 s1).2.1, .inr (.inl (va_up f j1 (nrw ((S.2.2.2.2.1 s1).1 - 1) v)))))).2 = h.2 := rfl; omega)), Nat.le_refl _, fun a h1 h2 h3 => hset_n (fun z => h3 (z ▸ dq1))⟩
  · by_cases e : i = s1
    · subst e
      show shO _ D (r i) (if i = i then _ else _)
      rw [if_pos rfl]
      refine .inr ⟨z1, z2, z3, q, _, zr, dq, dq1, own, fun j hj => ?_⟩
      show va_up f j1 _ j = va_up _ j1 _ j
      simp only [va_up]
      split
      · rfl
      · exact zf j hj
    · show shO _ D (r i) (if i = s1 then _ else _)
      rw [if_neg e]
      rcases hsh i hi with z | ⟨y1, y2, y3, q2, f2, yr, yd, yd1, yi, yf⟩
      · exact .inl z
      · exact .inr ⟨y1, y2, y3, q2, f2, yr, yd, yd1, key yi (fun z => e (hinj i s1 q hi hs (z ▸ yr) zr)), yf⟩
  · obtain ⟨p, r2, l1, l2, l3⟩ := a9.2
    refine ⟨p, r2, (hf.2 _ (by omega)).trans l1, (hf.2 _ (by omega)).trans l2, fun i hi => ?_⟩
    rcases l3 i hi with z | z | ⟨y1, y2, y3, y4, q2, f2, yr, yd, yd1, yi⟩
    · exact .inl z
    · exact .inr (.inl z)
    · by_cases e : q2 = q
      · subst e
        have e1 := yi.1.symm.trans is.1
        have e2 := yi.2.symm.trans is.2
        have n2 : (S.2.2.2.2.2.1 i).2.2 = (S.2.2.2.2.1 s1).2.1 := by simp only [Option.some.injEq, Sum.inl.injEq, Prod.mk.injEq] at e2; exact e2.2.1
        refine .inr (.inr ⟨y1, y2, y3, y4, q2, va_up f j1 (nrw ((S.2.2.2.2.1 s1).1 - 1) v), yr, yd, yd1, (hset_n (by omega)).trans yi.1, ?_⟩)
        rw [hset_s, n2]
      · exact .inr (.inr ⟨y1, y2, y3, y4, q2, f2, yr, yd, yd1, key yi e⟩)
set_option maxRecDepth 10000 in
set_option maxHeartbeats 2000000 in
theorem c_X11_write {g : gG} {h : gH} {x : Nat} {D : Nat → Prop} {S : AS} (hx : isX h x D S) {s i v : Int32} : Ct g mX11_write [.ref x, .int s, .int i, .int v] h (some (.int (oWrite S s i v).1)) (Py x D (oWrite S s i v).2 h) := by
  have ho := hx.2.1
  have hv := hx.2.2.1
  have n0 := hv.o
  have okw := hv.1
  obtain ⟨hr, e45, hsh, hinj⟩ := hx.2.2.2.2.2.2.2.2.1.1

  refine Cn.of (L := [some (.ref x), some (.int s), some (.int i), some (.int v), none]) (by decide) (Nat.le_of_ble_eq_true rfl) rfl ?_
  refine x_iload_n dX11_write_0 rfl ?_
  refine x_iconst (v := 4) dX11_write_1 (by decide) ?_
  refine x_rdS c_bl lkX11_isBelow sX11_94 dX11_write_2 rfl rfl (Nat.le_of_ble_eq_true rfl) (by decide) ⟨rfl, rfl, by decide, by decide⟩ ?_
  refine x_if_neB 10 dX11_write_5 (by decide) (fun c5 => ?_) (fun c5 => ?_)
  · obtain ⟨s1, hs, rfl⟩ := bl_E (b := 4) c5 (by decide)
    refine x_aload_n dX11_write_10 rfl ?_
    refine x_get fX11_45 ho rfl dX11_write_11 ?_
    refine x_iload_n dX11_write_14 rfl ?_
    refine x_aald s1 e45 rfl hs (by decide) dX11_write_15 ?_
    rcases hsh s1 hs with ⟨z0, zr⟩ | ⟨z1, z2, z3, q, f, zr, dq, dq1, is, zf⟩
    · rw [zr, show va_rf none = Value.null from rfl]
      refine x_nst_4 dX11_write_16 (by decide) rfl ?_
      refine x_aloadN dX11_write_18 rfl ?_
      refine x_ifnonnullN dX11_write_20 ?_
      refine x_bipush (v := -11) dX11_write_23 (by decide) ?_
      refine x_iret rfl dX11_write_25 ⟨by decide, by decide⟩ ?_
      exact finY hx.rf.y (by simp only [oWrite, c5, z0, eq_self, Bool.false_eq_true, reduceCtorEq, and_true, true_and, and_false, false_and, not_true_eq_false, not_false_eq_true, if_true, if_false, ne_eq, or_true, true_or, or_false, false_or, iN_nI (show s1 < 2 ^ 31 by omega)])
    · rw [zr, show va_rf (some q) = Value.ref q from rfl]
      have z0 : ¬ (S.2.2.2.2.1 s1).1 = 0 := by omega
      have i0 := is.1
      have i1 := is.2
      refine x_ast_4 dX11_write_16 (by decide) rfl ?_
      refine x_aload dX11_write_18 rfl ?_
      refine x_ifnonnull 26 dX11_write_20 (by decide) ?_
      refine x_iload_n dX11_write_26 rfl ?_
      refine x_aload dX11_write_27 rfl ?_
      refine x_getR fX11_276 i0 rfl dX11_write_29 ?_
      refine x_alen (by decide) i1 dX11_write_32 ?_
      refine x_rdS c_bl lkX11_isBelow sX11_94 dX11_write_33 rfl rfl (Nat.le_of_ble_eq_true rfl) (by decide) ⟨rfl, rfl, by decide, by decide⟩ ?_
      refine x_if_neB 42 dX11_write_36 (by decide) (fun c36 => ?_) (fun c36 => ?_)
      · obtain ⟨j1, hj, rfl⟩ := bl_E c36 (by omega)
        refine x_aload dX11_write_42 rfl ?_
        refine x_getR fX11_276 i0 rfl dX11_write_44 ?_
        refine x_iload_n dX11_write_47 rfl ?_
        refine x_aload dX11_write_48 rfl ?_
        refine x_iload_n dX11_write_50 rfl ?_
        refine x_rdV (c_X5_narrowed is (by omega)) i0 lkX5_narrowed sX11_295 dX11_write_51 rfl rfl (Nat.le_of_ble_eq_true rfl) (by decide) ⟨rfl, rfl, by decide, by decide⟩ ?_
        refine x_last j1 i1 rfl hj (by omega) dX11_write_54 ?_
        refine x_iconst (v := 1) dX11_write_55 (by decide) ?_
        refine x_iret rfl dX11_write_56 ⟨by decide, by decide⟩ ?_
        refine finY (hx.wr e45 hsh hinj hs zr dq dq1 z1 z2 z3 is zf) ?_
        simp only [oWrite, c5, z0, c36, eq_self, Bool.false_eq_true, reduceCtorEq, and_true, true_and, and_false, false_and, not_true_eq_false, not_false_eq_true, if_true, if_false, ne_eq, or_true, true_or, or_false, false_or, iN_nI (show s1 < 2 ^ 31 by omega), iN_nI (show j1 < 2 ^ 31 by omega)]
      · refine x_bipush (v := -12) dX11_write_39 (by decide) ?_
        refine x_iret rfl dX11_write_41 ⟨by decide, by decide⟩ ?_
        exact finY hx.rf.y (by simp only [oWrite, c5, z0, c36, eq_self, Bool.false_eq_true, reduceCtorEq, and_true, true_and, and_false, false_and, not_true_eq_false, not_false_eq_true, if_true, if_false, ne_eq, or_true, true_or, or_false, false_or, iN_nI (show s1 < 2 ^ 31 by omega)])
  · refine x_iconst (v := -1) dX11_write_8 (by decide) ?_
    refine x_iret rfl dX11_write_9 ⟨by decide, by decide⟩ ?_
    exact finY hx.rf.y (by simp only [oWrite, c5, eq_self, Bool.false_eq_true, reduceCtorEq, and_true, true_and, and_false, false_and, not_true_eq_false, not_false_eq_true, if_true, if_false, ne_eq, or_true, true_or, or_false, false_or])
theorem cl8_le (v : Int64) : cl8 v ≤ 8 := by
  unfold cl8
  split
  · omega
  · split
    · exact Nat.le_refl 8
    · rename_i a b
      have h1 := (fa_le64 _ _).mp (Int64.not_lt.mp b)
      have h8 : (8 : Int64).toInt = 8 := by decide
      rw [h8] at h1
      omega
theorem cl8_I (v : Int64) : (if (if v < 8 then v else 8) < (0 : Int64) then (0 : Int64) else (if v < 8 then v else 8)).toInt32 = nI (cl8 v) := by
  unfold cl8
  by_cases h : v < 8
  · rw [if_pos h]
    by_cases n : v < 0
    · rw [if_pos n, if_pos n]; rfl
    · rw [if_neg n, if_neg n, if_neg (fun q => absurd (Int64.lt_trans h q) (Int64.lt_irrefl))]
      have h1 := (fa_le64 _ _).mp (Int64.not_lt.mp n)
      have h2 := (fa_lt64 _ _).mp h
      have h0 : (0 : Int64).toInt = 0 := by decide
      have h8 : (8 : Int64).toInt = 8 := by decide
      rw [h0] at h1
      rw [h8] at h2
      rw [← l2i_N]
      congr 1
      exact (fa_eq64 _ _).mpr (by rw [lN_ti (by omega), if_pos (by omega)]; omega)
  · rw [if_neg h, if_neg (by decide)]
    have n : ¬ v < 0 := fun q => h (Int64.lt_trans q (by decide))
    rw [if_neg n]
    by_cases e : (8 : Int64) < v
    · rw [if_pos e]; rfl
    · have : v = 8 := Int64.le_antisymm (Int64.not_lt.mp e) (Int64.not_lt.mp h)
      subst this
      rw [if_neg e]; decide
theorem layV_ok {V : VS} {f : Nat → Int64} {n : Nat} (ok : okV V) : okV (layV V f n) := by
  obtain ⟨h1, h2, h3, h4, h5, h6, h7⟩ := ok
  refine ⟨h1, h2, h3, fun p hp => ?_, fun u hu => ?_, fun j hj => ?_, fun r hr => ?_⟩
  · have := h4 p hp
    refine ⟨this.1, this.2.1, this.2.2.1, this.2.2.2.1, ?_, this.2.2.2.2.2⟩
    show (if p < n then cl8 (f p) else V.2.2 3 p) ≤ 8
    split
    · exact cl8_le _
    · exact this.2.2.2.2.1
  · exact h5 u hu
  · exact h6 j hj
  · exact h7 r hr
theorem layV_rp {V : VS} {a : Nat → Nat → Int32} {f : Nat → Int64} {g : Nat → Int32} {n : Nat} (rp : rpA V a) (hg : ∀ p, p < V.1 0 → g p = nI (if p < n then cl8 (f p) else V.2.2 3 p)) : rpA (layV V f n) (va_up a 3 g) := by
  refine ⟨fun k p hk hp => ?_, fun u hu => rp.2.1 u hu, fun j hj => rp.2.2.1 j hj, fun r hr => rp.2.2.2 r hr⟩
  by_cases e : k = 3
  · subst e; exact hg p hp
  · show va_up a 3 g k p = nI (va_up V.2.2 3 _ k p)
    simp only [va_up, if_neg e]
    exact rp.1 k p hk hp
theorem va_self {a : Nat → Nat → Int32} {i : Nat} : va_up a i (a i) = a := by
  funext j
  simp only [va_up]
  split
  · rename_i e; rw [e]
  · rfl
theorem minI {a b : Nat} (ha : a < 2 ^ 31) (hb : b < 2 ^ 31) : (if nI b < nI a then nI b else nI a) = nI (min a b) := by
  by_cases h : b < a
  · rw [if_pos ((nI_ltI hb ha).mpr h), Nat.min_eq_right (by omega)]
  · rw [if_neg (fun q => h ((nI_ltI hb ha).mp q)), Nat.min_eq_left (by omega)]
set_option maxRecDepth 10000 in
set_option maxHeartbeats 2000000 in
theorem c_X11_lays {g : gG} {h : gH} {x : Nat} {D : Nat → Prop} {S : AS} (hx : isX h x D S) {s : Int32} : Ct g mX11_lays [.ref x, .int s] h (some (.int (oLays S s).1)) (Px x D ((oLays S s).2, S.2) h) := by
  have ho := hx.2.1
  have hv := hx.2.2.1
  have n0 := hv.o
  have okw := hv.1
  obtain ⟨ok0, ar, hw, rp⟩ := id hv
  have w0 : h.1 (x + 1) = some (.inr (10, wF (x + 1) (wS S.1))) := hw.1
  have w1 : h.1 ((x + 1) + 1) = some (.inl (0, 8, .inl (ar 0))) := hw.2 0 (by decide)
  have w2 : h.1 ((x + 1) + 2) = some (.inl (0, 8, .inl (ar 1))) := hw.2 1 (by decide)
  have w3 : h.1 ((x + 1) + 3) = some (.inl (0, 8, .inl (ar 2))) := hw.2 2 (by decide)
  have w4 : h.1 ((x + 1) + 4) = some (.inl (0, 8, .inl (ar 3))) := hw.2 3 (by decide)
  have w5 : h.1 ((x + 1) + 5) = some (.inl (0, 8, .inl (ar 4))) := hw.2 4 (by decide)
  have w6 : h.1 ((x + 1) + 6) = some (.inl (0, 4, .inl (ar 5))) := hw.2 5 (by decide)
  have w7 : h.1 ((x + 1) + 7) = some (.inl (0, 4, .inl (ar 6))) := hw.2 6 (by decide)
  have w8 : h.1 ((x + 1) + 8) = some (.inl (0, 4, .inl (ar 7))) := hw.2 7 (by decide)
  have w9 : h.1 ((x + 1) + 9) = some (.inl (0, 8, .inl (ar 8))) := hw.2 8 (by decide)
  have w10 : h.1 ((x + 1) + 10) = some (.inl (0, 4, .inl (ar 9))) := hw.2 9 (by decide)
  have w11 : h.1 ((x + 1) + 11) = some (.inl (0, 4, .inl (ar 10))) := hw.2 10 (by decide)
  obtain ⟨hr, e45, hsh, hinj⟩ := hx.2.2.2.2.2.2.2.2.1.1

  refine Cn.of (L := [some (.ref x), some (.int s), none, none, none]) (by decide) (Nat.le_of_ble_eq_true rfl) rfl ?_
  refine x_iload_n dX11_lays_0 rfl ?_
  refine x_iconst (v := 4) dX11_lays_1 (by decide) ?_
  refine x_rdS c_bl lkX11_isBelow sX11_94 dX11_lays_2 rfl rfl (Nat.le_of_ble_eq_true rfl) (by decide) ⟨rfl, rfl, by decide, by decide⟩ ?_
  refine x_if_neB 10 dX11_lays_5 (by decide) (fun c5 => ?_) (fun c5 => ?_)
  · obtain ⟨s1, hs, rfl⟩ := bl_E (b := 4) c5 (by decide)
    refine x_aload_n dX11_lays_10 rfl ?_
    refine x_get fX11_45 ho rfl dX11_lays_11 ?_
    refine x_iload_n dX11_lays_14 rfl ?_
    refine x_aald s1 e45 rfl hs (by decide) dX11_lays_15 ?_
    rcases hsh s1 hs with ⟨z0, zr⟩ | ⟨z1, z2, z3, q, f, zr, dq, dq1, is, zf⟩
    · rw [zr, show va_rf none = Value.null from rfl]
      refine x_nst_2 dX11_lays_16 (by decide) rfl ?_
      refine x_aload_nN dX11_lays_17 rfl ?_
      refine x_ifnonnullN dX11_lays_18 ?_
      refine x_bipush (v := -11) dX11_lays_21 (by decide) ?_
      refine x_iret rfl dX11_lays_23 ⟨by decide, by decide⟩ ?_
      exact fin hx (by simp only [oLays, c5, z0, eq_self, Bool.false_eq_true, reduceCtorEq, and_true, true_and, and_false, false_and, not_true_eq_false, not_false_eq_true, if_true, if_false, ne_eq, or_true, true_or, or_false, false_or, iN_nI (show s1 < 2 ^ 31 by omega)])
    · rw [zr, show va_rf (some q) = Value.ref q from rfl]
      have z0 : ¬ (S.2.2.2.2.1 s1).1 = 0 := by omega
      have i0 := is.1
      have i1 := is.2
      refine x_ast_2 dX11_lays_16 (by decide) rfl ?_
      refine x_aload_n dX11_lays_17 rfl ?_
      refine x_ifnonnull 24 dX11_lays_18 (by decide) ?_
      refine x_aload_n dX11_lays_24 rfl ?_
      refine x_getR fX11_273 i0 rfl dX11_lays_25 ?_
      refine x_iconst (v := 2) dX11_lays_28 (by decide) ?_
      refine x_icmp_eq 35 dX11_lays_29 (by decide) (fun c29 => ?_) (fun c29 => ?_)
      · have tt : (S.2.2.2.2.1 s1).1 = 3 := by have := (nI_eq (b := 2) (by omega) (by decide)).mp c29; omega
        refine x_aload_n dX11_lays_35 rfl ?_
        refine x_getR fX11_276 i0 rfl dX11_lays_36 ?_
        refine x_alen (by decide) i1 dX11_lays_39 ?_
        refine x_aload_n dX11_lays_40 rfl ?_
        refine x_get fX11_12 ho rfl dX11_lays_41 ?_
        refine x_get fX11_87 n0 rfl dX11_lays_44 ?_
        refine x_mmin sX11_280 dX11_lays_47 (by decide) (Nat.le_of_ble_eq_true rfl) ⟨by decide, by decide⟩ ?_
        have mn : (if wS S.1 0 < nI (S.2.2.2.2.1 s1).2.1 then wS S.1 0 else nI (S.2.2.2.2.1 s1).2.1) = nI (min (S.2.2.2.2.1 s1).2.1 (S.1.1 0)) := minI (by omega) (by have := okw.1.1; omega)
        rw [mn]
        refine x_ist_3 dX11_lays_50 (by decide) rfl ?_
        refine x_iconst (v := 0) dX11_lays_51 (by decide) ?_
        refine x_ist_4 dX11_lays_52 (by decide) rfl ?_
        have m8 : min (S.2.2.2.2.1 s1).2.1 (S.1.1 0) ≤ 8 := Nat.le_trans (Nat.min_le_right _ _) okw.1.1
        refine lp_up (P := fun i => ∀ h1 g1, isW h1 (x + 1) (wS S.1, va_up ar 3 g1) → (∀ p, p < S.1.1 0 → g1 p = nI (if p < i then cl8 ((S.2.2.2.2.1 s1).2.2 p) else S.1.2.2 3 p)) → Fr (x + 1) 12 h h1 → Ex g mX11_lays _ 54 [some (.ref x), some (.int (nI s1)), some (.ref q), some (.int (nI (min (S.2.2.2.2.1 s1).2.1 (S.1.1 0)))), some (.int (nI i))] [] h1 0 0) (min (S.2.2.2.2.1 s1).2.1 (S.1.1 0)) (fun i hi ih h1 g1 w1x hg F1 => ?_) (fun h1 g1 w1x hg F1 => ?_) 0 (Nat.zero_le _) h (ar 3) (by rw [show va_up ar 3 (ar 3) = ar from va_self]; exact hw) (fun p hp => rp.1 3 p (by decide) hp) Fr.rf
        · have o1 : h1.1 x = _ := (F1.2 x (by omega)).trans ho
          have n1 : h1.1 (x + 1) = _ := w1x.1
          have dqx := hx.1.2 q dq
          have dqx1 := hx.1.2 (q + 1) dq1
          have j0 : h1.1 q = _ := (F1.2 q (by omega)).trans i0
          have j1 : h1.1 (q + 1) = _ := (F1.2 (q + 1) (by omega)).trans i1
          have st3 : h1.1 ((x + 1) + 4) = some (.inl (0, 8, .inl (va_up ar 3 g1 3))) := w1x.2 3 (by decide)
          refine x_iload dX11_lays_54 rfl ?_
          refine x_iload_n dX11_lays_56 rfl ?_
          refine x_icmp_ge_f 94 dX11_lays_57 (by decide) (ge_f rfl hi (by omega)) ?_
          refine x_aload_n dX11_lays_60 rfl ?_
          refine x_get fX11_12 o1 rfl dX11_lays_61 ?_
          refine x_getR fX11_117 n1 rfl dX11_lays_64 ?_
          refine x_iload dX11_lays_67 rfl ?_
          refine x_lconst (v := 0) dX11_lays_69 (by decide) ?_
          refine x_ldc2 dX11_lays_70 kX11_285 ?_
          refine x_aload_n dX11_lays_73 rfl ?_
          refine x_getR fX11_276 j0 rfl dX11_lays_74 ?_
          refine x_iload dX11_lays_77 rfl ?_
          refine x_lald i j1 rfl (by omega) (by omega) dX11_lays_79 ?_
          rw [zf i (by omega)]
          refine x_mminL sX11_287 dX11_lays_80 (by decide) (Nat.le_of_ble_eq_true rfl) ⟨by decide, by decide⟩ ?_
          refine x_mmaxL sX11_290 dX11_lays_83 (by decide) (Nat.le_of_ble_eq_true rfl) ⟨by decide, by decide⟩ ?_
          refine x_l2i dX11_lays_86 ?_
          rw [cl8_I]
          refine x_iast i st3 rfl (by omega) (by decide) dX11_lays_87 ?_
          refine x_inc_4  dX11_lays_88 (by decide) (nI_inc _) rfl ?_
          refine x_goto 54 dX11_lays_91 (by decide) ?_
          have W2 := isW.row (i := 3) (f := va_up (va_up ar 3 g1 3) i (nI (cl8 ((S.2.2.2.2.1 s1).2.2 i)))) w1x (by decide)
          rw [show va_up (va_up ar 3 g1) 3 (va_up (va_up ar 3 g1 3) i (nI (cl8 ((S.2.2.2.2.1 s1).2.2 i)))) = va_up ar 3 (va_up g1 i (nI (cl8 ((S.2.2.2.2.1 s1).2.2 i)))) from by funext a b; simp only [va_up]; split <;> rfl] at W2
          refine ih _ _ W2 (fun p hp => ?_) (F1.tr (Fr.set (by omega) (by omega)))
          by_cases e : p = i
          · subst e; rw [if_pos (Nat.lt_succ_self p)]; exact if_pos rfl
          · rw [show va_up g1 i (nI (cl8 ((S.2.2.2.2.1 s1).2.2 i))) p = g1 p from if_neg e, hg p hp]
            by_cases l : p < i
            · rw [if_pos l, if_pos (by omega)]
            · rw [if_neg l, if_neg (by omega)]
        · refine x_iload dX11_lays_54 rfl ?_
          refine x_iload_n dX11_lays_56 rfl ?_
          refine x_icmp_ge_t 94 dX11_lays_57 (by decide) (ge_t rfl (by omega)) ?_
          refine x_iload_n dX11_lays_94 rfl ?_
          refine x_iret rfl dX11_lays_95 ⟨by decide, by decide⟩ ?_
          refine finV hx ⟨layV_ok okw, _, w1x, layV_rp rp hg⟩ F1 ?_
          simp only [oLays, c5, z0, tt, eq_self, Bool.false_eq_true, reduceCtorEq, and_true, true_and, and_false, false_and, not_true_eq_false, not_false_eq_true, if_true, if_false, ne_eq, or_true, true_or, or_false, false_or, iN_nI (show s1 < 2 ^ 31 by omega)]
      · refine x_bipush (v := -13) dX11_lays_32 (by decide) ?_
        refine x_iret rfl dX11_lays_34 ⟨by decide, by decide⟩ ?_
        have tt : ¬ (S.2.2.2.2.1 s1).1 = 3 := fun z => c29 ((nI_eq (b := 2) (by omega) (by decide)).mpr (by omega))
        exact fin hx (by simp only [oLays, c5, z0, tt, eq_self, Bool.false_eq_true, reduceCtorEq, and_true, true_and, and_false, false_and, not_true_eq_false, not_false_eq_true, if_true, if_false, ne_eq, or_true, true_or, or_false, false_or, iN_nI (show s1 < 2 ^ 31 by omega)])
  · refine x_iconst (v := -1) dX11_lays_8 (by decide) ?_
    refine x_iret rfl dX11_lays_9 ⟨by decide, by decide⟩ ?_
    exact fin hx (by simp only [oLays, c5, eq_self, Bool.false_eq_true, reduceCtorEq, and_true, true_and, and_false, false_and, not_true_eq_false, not_false_eq_true, if_true, if_false, ne_eq, or_true, true_or, or_false, false_or])
