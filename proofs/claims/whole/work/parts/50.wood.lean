def wdR (S : AS) : TS × VS := tlL S.2.2.1 240 ((nx S.2.2.1 0, true), clW S.1)
def oWood (S : AS) : Int32 × AS := if (wdR S).1.2 = true then (nI ((wdR S).2.1 0), ((wdR S).2, S.2.1, (0, S.2.2.1.2), (0, S.2.2.2.1.2), S.2.2.2.2)) else (-100 - nI (wdR S).1.1.2.1, (S.1, S.2.1, (0, S.2.2.1.2), S.2.2.2))
theorem isX.stp {h h' : gH} {x : Nat} {D : Nat → Prop} {S : AS} (hx : isX h x D S) {V' : VS} {T : Nat × (Nat → Nat)} (hv : isV h' (x + 25) V') (ht : isT h' (x + 37) T) (hf : Fr (x + 25) 14 h h') : Px x D (S.1, S.2.1, T, S.2.2.2) h h' := by
  obtain ⟨a1, a2, a3, a4, a5, a6, a7, a8, a9, pt, a10⟩ := id hx
  exact ⟨⟨hx.sz hf, by rw [hf.2 _ (by omega)]; exact a2, a3.ag (hf.agr (by omega)), a4.ag (hf.agr (by omega)), ⟨V', hv⟩, ht, a7.ag (hf.agr (by omega)), a8.ag (hf.agr (by omega)), ⟨a9.1.ag (hf.2 _ (by omega)) (hx.dd hf (by omega)), a9.2.ag (hf.agr (by omega)) (hx.dd hf (by omega))⟩, pt, a10.ag (hf.agr (by omega))⟩, hf.wid (by omega) (by omega)⟩
theorem flI_b {T : TT} {h : gH} {t : Nat} {s : TS} (q : isY h t T s) : s.1.2.1 < 2 ^ 31 := by have := q.1.1; have := q.2.1; omega
set_option maxRecDepth 10000 in
set_option maxHeartbeats 2000000 in
theorem c_X11_wood {g : gG} {h : gH} {x : Nat} {D : Nat → Prop} {S : AS} (hx : isX h x D S) : Ct g mX11_wood [.ref x] h (some (.int (oWood S).1)) (Px x D (oWood S).2 h) := by
  have ho := hx.2.1
  have hv := hx.2.2.1
  have n0 := hv.o
  have okw := hv.1

  obtain ⟨vs, hvs⟩ := hx.2.2.2.2.1
  have so := hvs.o
  refine Cn.of (L := [some (.ref x), none]) (by decide) (Nat.le_of_ble_eq_true rfl) rfl ?_
  refine x_aload_n dX11_wood_0 rfl ?_
  refine x_get fX11_19 ho rfl dX11_wood_1 ?_
  refine x_aload_n dX11_wood_4 rfl ?_
  refine x_get fX11_12 ho rfl dX11_wood_5 ?_
  refine x_cnV (c_X10_copyFrom hvs hv (by omega)) so lkX10_copyFrom sX11_72 dX11_wood_8 rfl rfl (Nat.le_of_ble_eq_true rfl) (by decide) ⟨rfl, rfl, by decide, by decide⟩ ?_
  rintro h1 ⟨v1, F1⟩
  obtain ⟨x1, G1⟩ := hx.sp v1 F1
  have o1 : h1.1 x = _ := x1.2.1
  have s1 := v1.o
  refine x_aload_n dX11_wood_11 rfl ?_
  refine x_get fX11_19 o1 rfl dX11_wood_12 ?_
  refine x_cnV (c_X10_clear v1) s1 lkX10_clear sX11_76 dX11_wood_15 rfl rfl (Nat.le_of_ble_eq_true rfl) (by decide) ⟨rfl, rfl, by decide, by decide⟩ ?_
  rintro h2 ⟨v2, F2⟩
  obtain ⟨x2, G2⟩ := x1.sp v2 F2
  have o2 : h2.1 x = _ := x2.2.1
  obtain ⟨_, ⟨_, _, _, _, _, t2⟩, _⟩ := id x2.2.2.2.2.2.1
  refine x_aload_n dX11_wood_18 rfl ?_
  refine x_get fX11_25 o2 rfl dX11_wood_19 ?_
  refine x_aload_n dX11_wood_22 rfl ?_
  refine x_get fX11_19 o2 rfl dX11_wood_23 ?_
  refine x_cvV (c_X6_tellTo (w := x + 25) (T := S.2.2.1) x2.2.2.2.2.2.1 v2) t2 lkX6_tellTo sX11_79 dX11_wood_26 rfl rfl (Nat.le_of_ble_eq_true rfl) (by decide) ⟨rfl, rfl, by decide, by decide⟩ ?_
  rintro h3 ⟨t3, v3, F3, rb⟩
  have rb : (wdR S).1.1.2.1 ≤ 240 := rb
  have v3 : isV h3 (x + 25) (wdR S).2 := v3
  rw [show tlL S.2.2.1 240 ((nx S.2.2.1 0, true), clW S.1) = wdR S from rfl]
  obtain ⟨r, hr⟩ : ∃ r, r = wdR S := ⟨_, rfl⟩
  rw [← hr] at v3 rb ⊢
  obtain ⟨x3, G3⟩ := x2.stp v3 t3 F3
  have o3 : h3.1 x = _ := x3.2.1
  have n3 := x3.2.2.1
  have no3 := n3.o
  refine x_ist_1 dX11_wood_29 (by decide) rfl ?_
  refine x_iload_n dX11_wood_30 rfl ?_
  refine x_if_lt 39 dX11_wood_31 (by decide) (fun c31 => ?_) (fun c31 => ?_)
  · refine x_aload_n dX11_wood_39 rfl ?_
    refine x_get fX11_12 o3 rfl dX11_wood_40 ?_
    refine x_aload_n dX11_wood_43 rfl ?_
    refine x_get fX11_19 o3 rfl dX11_wood_44 ?_
    refine x_cnV (c_X10_copyFrom n3 v3 (by omega)) no3 lkX10_copyFrom sX11_72 dX11_wood_47 rfl rfl (Nat.le_of_ble_eq_true rfl) (by decide) ⟨rfl, rfl, by decide, by decide⟩ ?_
    rintro h4 ⟨v4, F4⟩
    obtain ⟨x4, G4⟩ := x3.now v4 F4
    have o4 : h4.1 x = _ := x4.2.1
    have n4 := v4.o
    obtain ⟨p12, pa, pb, e43, e44, _⟩ := id x4.2.2.2.2.2.2.2.1
    obtain ⟨x5, G5⟩ := x4.ob (K := S.2.1) (n := 0) (a := S.2.2.2.1.2.1) (b := S.2.2.2.1.2.2) x4.2.2.2.1 ⟨Nat.zero_le _, pa, pb, e43, e44, fun i q => absurd q (Nat.not_lt_zero i)⟩
    refine x_aload_n dX11_wood_50 rfl ?_
    refine x_iconst (v := 0) dX11_wood_51 (by decide) ?_
    refine x_put (fs' := xF x S.2.1.1 0) fX11_83 o4 (Nat.le_of_ble_eq_true rfl) rfl rfl rfl dX11_wood_52 ?_
    refine x_aload_n dX11_wood_55 rfl ?_
    refine x_get fX11_12 hset_s rfl dX11_wood_56 ?_
    refine x_get fX11_87 ((hset_n (by omega)).trans n4) rfl dX11_wood_59 ?_
    refine x_iret rfl dX11_wood_62 ⟨by decide, by decide⟩ ?_
    have g1 : r.1.2 = true := Decidable.not_not.mp (fun z => absurd c31 (by rw [show flI r.1 = nI r.1.1.2.1 from if_neg z]; exact nI_pos (by omega)))
    refine finA ⟨x5, (((G1.tr G2).tr G3).tr G4).tr G5⟩ ?_
    rw [oWood, ← hr, if_pos g1]
    rfl
  · refine x_bipush (v := -100) dX11_wood_34 (by decide) ?_
    refine x_iload_n dX11_wood_36 rfl ?_
    refine x_isub dX11_wood_37 ?_
    refine x_iret rfl dX11_wood_38 ⟨by decide, by decide⟩ ?_
    have g1 : ¬ r.1.2 = true := fun z => c31 (by rw [flI_t z]; decide)
    refine finA ⟨x3, (G1.tr G2).tr G3⟩ ?_
    rw [oWood, ← hr, if_neg g1, show flI r.1 = nI r.1.1.2.1 from if_neg g1]
