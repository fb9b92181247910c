theorem x_cqV {g : gG} {M M' : gM} {Z : gZt} {pc : Nat} {L : List (Option Value)} {st rest av : List Value} {h : gH} {k n k' n' : Nat} {P : Int32 → gH → Prop} {idx na b ci : Nat} {fs : List Value} {T : u_T} {N : Nat} (hc : Cn g M' (.ref b :: av) h (fun o h' => ∃ v, o = some (.int v) ∧ P v h')) (hb : h.1 b = some (.inr (ci, fs))) (lk : gLk M' na) (hl : vwCl[ci]? = some (M'.1.cls, T, N) ∧ Cond.methodLink M.1.cls idx M'.1 ∈ gT ∧ Cond.instanceMethod M'.1 ∈ gT ∧ Cond.selects M'.1.cls M'.1 M'.1 ∈ gT) (d : decode M.2.1 pc = .ok (.invokevirtual idx, 3)) (hn : av.length = na) (hst : st = av.reverse ++ .ref b :: rest) (hw : (rest.map fun v => v.category).sum ≤ 8) (hR : gRm M M')
    (hk : k + M'.2.2.2.2.cells = k' ∧ n + M'.2.2.2.2.slots = n' ∧ k' ≤ M.2.2.2.2.cells ∧ n' ≤ M.2.2.2.2.slots) (kk : ∀ v h', P v h' → Ex g M Z (pc + 3) L (.int v :: rest) h' k' n') : Ex g M Z pc L st h k n :=
  x_callV hc hb lk hl d hn hst hw hR hk fun r h' q => by obtain ⟨v, rfl, q⟩ := q; exact kk v h' q
def rpU (t : TR) (s : Nat → Int32) (A : Nat → Nat → Int32) : Prop := t.1 ≤ 30 ∧ s 22 = nI t.1 ∧ s 23 = nI t.2.2 ∧ t.2.2 ≤ 1 ∧ ∀ i, i < t.1 → A 23 i = t.2.1 i
def UU (m : Nat) (V : VS) (s0 : Nat → Int32) (l : Nat → Int64) (A0 : Nat → Nat → Int32) (B : Nat → Nat → Int64) (t : TR) (h : gH) : Prop := ∃ s A, MM h m V s l A B ∧ rpU t s A ∧ (∀ i, i ≠ 22 → i ≠ 23 → s i = s0 i) ∧ ∀ i, i ≠ 23 → A i = A0 i
theorem bg_p (t : TR) (b : Int32) : (bg t b).2.2 = t.2.2 := by unfold bg; split <;> rfl
theorem tL_p (k : Nat) (n x : Int32) (t : TR) : (tL k n x t).2.2.2 = t.2.2 := by
  unfold tL
  split
  · simp only [bg_p]
  · split
    · simp only [bg_p]
    · split <;> simp only [bg_p]
theorem tS0_p (k : Nat) (n x : Int32) (t : TR) : (tS0 k n x t).2.2.2 = t.2.2 := by unfold tS0; simp only [tL_p, bg_p]
theorem tS1_p (k : Nat) (n a x : Int32) (t : TR) : (tS1 k n a x t).2.2.2 = t.2.2 := by unfold tS1; simp only [tS0_p, bg_p]
theorem tS_p (k : Nat) (n a x : Int32) (t : TR) : (tS k n a x t).2.2.2 = t.2.2 := by
  unfold tS
  split
  · simp only [tL_p, tS1_p, bg_p]
  · split
    · simp only [tS1_p]
    · simp only [tS0_p]
theorem tT0_p (k : Nat) (n a x : Int32) (t : TR) : (tT0 k n a x t).2.2.2 = t.2.2 := by unfold tT0; simp only [tS_p, bg_p]
set_option maxRecDepth 10000 in
set_option maxHeartbeats 2000000 in
theorem c_X12_ran {g : gG} {h : gH} {m : Nat} {V : VS} {s0 : Nat → Int32} {l : Nat → Int64} {A0 : Nat → Nat → Int32} {B : Nat → Nat → Int64} {t : TR} {b : Int32} (hU : UU m V s0 l A0 B t h) (t0 : t.2.2 = 0) : Ct g mX12_ran [.ref m, .int b] h none (fun h' => UU m V s0 l A0 B (bg t b) h' ∧ Fr m 27 h h') := by
  obtain ⟨s, A, hm, ⟨u1, u2, u3, u4, u5⟩, hs, hA⟩ := id hU
  have mo := hm.1
  have m24 : h.1 (m + 24) = some (.inl (0, 30, .inl (A 23))) := hm.2 23 (by decide)
  have l3 : (30 : Int32) ≤ nI t.1 ↔ 30 ≤ t.1 := nI_leI (a := 30) (by decide) (by omega)
  refine Cn.of (L := [some (.ref m), some (.int b)]) (by decide) (Nat.le_of_ble_eq_true rfl) rfl ?_
  refine x_aload_n dX12_ran_0 rfl ?_
  refine x_get fX12_377 mo rfl dX12_ran_1 ?_
  rw [u2]
  refine x_bipush (v := 30) dX12_ran_4 (by decide) ?_
  refine x_icmp_ge 29 dX12_ran_6 (by decide) (fun c6 => ?_) (fun c6 => ?_)
  · refine x_vret rfl dX12_ran_29 ⟨by decide, by decide⟩ ?_
    exact ⟨rfl, by rw [bg_n (fun q => by have := l3.mp c6; omega)]; exact hU, Fr.rf⟩
  · refine x_aload_n dX12_ran_9 rfl ?_
    refine x_get fX12_84 mo rfl dX12_ran_10 ?_
    refine x_aload_n dX12_ran_13 rfl ?_
    refine x_get fX12_377 mo rfl dX12_ran_14 ?_
    refine x_iload_n dX12_ran_17 rfl ?_
    refine x_iast t.1 m24 u2 (by have : ¬ 30 ≤ t.1 := fun q => c6 (l3.mpr q); omega) (by decide) dX12_ran_18 ?_
    refine x_aload_n dX12_ran_19 rfl ?_
    refine x_dup dX12_ran_20 rfl ?_
    refine x_get fX12_377 ((hset_n (by omega)).trans mo) rfl dX12_ran_21 ?_
    refine x_iconst (v := 1) dX12_ran_24 (by decide) ?_
    refine x_iadd dX12_ran_25 ?_
    rw [u2, nI_1]
    refine x_put (fs' := mF m V (va_up s 22 (nI (t.1 + 1))) l) fX12_377 ((hset_n (by omega)).trans mo) (Nat.le_of_ble_eq_true rfl) rfl rfl rfl dX12_ran_26 ?_
    refine x_vret rfl dX12_ran_29 ⟨by decide, by decide⟩ ?_
    have lt : t.1 < 30 := by have : ¬ 30 ≤ t.1 := fun q => c6 (l3.mpr q); omega
    refine ⟨rfl, ?_, (Fr.set (by omega) (by omega)).tr (Fr.set (by omega) (by omega))⟩
    rw [bg_y ⟨t0, lt⟩]
    refine ⟨_, _, (hm.int (i := 23) rfl).num, ⟨by show t.1 + 1 ≤ 30; omega, va_up_self _ _ _, (va_up_ne _ _ (by decide)).trans u3, u4, fun i hi => ?_⟩, fun i h1 h2 => (va_up_ne _ _ h1).trans (hs i h1 h2), fun i h1 => (va_up_ne _ _ h1).trans (hA i h1)⟩
    have hi : i < t.1 + 1 := hi
    rw [va_up_self]
    show va_up (A 23) t.1 b i = va_up t.2.1 t.1 b i
    unfold va_up
    split
    · rfl
    · exact u5 i (by omega)
set_option maxRecDepth 10000 in
set_option maxHeartbeats 2000000 in
theorem c_X12_plainLeads {g : gG} {h : gH} {m k : Nat} {V : VS} {s0 : Nat → Int32} {l : Nat → Int64} {A0 : Nat → Nat → Int32} {B : Nat → Nat → Int64} {t : TR} {n a : Int32} (hU : UU m V s0 l A0 B t h) (t0 : t.2.2 = 0) (k6 : k < 6) (hk : s0 19 = nI k) (hnn : s0 20 = n) (haa : s0 21 = a) {x : Int32} : Ct g mX12_plainLeads [.ref m, .int x] h (some (.int ((x + n, bg t 10)).1)) (fun h' => UU m V s0 l A0 B ((x + n, bg t 10)).2 h' ∧ Fr m 27 h h') := by
  have U0 := hU
  obtain ⟨sa, Aa, hm0, hu0, hs0, hA0⟩ := id U0
  have mo0 := hm0.1
  have kx : sa 19 = nI k := (hs0 19 (by decide) (by decide)).trans hk
  refine Cn.of (L := [some (.ref m), some (.int x)]) (by decide) (Nat.le_of_ble_eq_true rfl) rfl ?_
  refine x_aload_n dX12_plainLeads_0 rfl ?_
  refine x_bipush (v := 10) dX12_plainLeads_1 (by decide) ?_
  refine x_cnV (c_X12_ran U0 (by simp only [bg_p, t0])) mo0 lkX12_ran sX12_380 dX12_plainLeads_3 rfl rfl (Nat.le_of_ble_eq_true rfl) (by decide) ⟨rfl, rfl, by decide, by decide⟩ ?_
  rintro h1 ⟨U1, F1⟩
  obtain ⟨s1, A1, hm1, hu1, hs1, hA1⟩ := id U1
  have mo1 := hm1.1
  refine x_iload_n dX12_plainLeads_6 rfl ?_
  refine x_aload_n dX12_plainLeads_7 rfl ?_
  refine x_get fX12_383 mo1 rfl dX12_plainLeads_8 ?_
  rw [show s1 20 = n from (hs1 20 (by decide) (by decide)).trans hnn]
  refine x_iadd dX12_plainLeads_11 ?_
  refine x_iret rfl dX12_plainLeads_12 ⟨by decide, by decide⟩ ?_
  exact ⟨rfl, U1, F1⟩
set_option maxRecDepth 10000 in
set_option maxHeartbeats 2000000 in
theorem c_X12_leadsIt {g : gG} {h : gH} {m k : Nat} {V : VS} {s0 : Nat → Int32} {l : Nat → Int64} {A0 : Nat → Nat → Int32} {B : Nat → Nat → Int64} {t : TR} {n a : Int32} (hU : UU m V s0 l A0 B t h) (t0 : t.2.2 = 0) (k6 : k < 6) (hk : s0 19 = nI k) (hnn : s0 20 = n) (haa : s0 21 = a) {x : Int32} : Ct g mX12_leadsIt [.ref m, .int x] h (some (.int (tL k n x t).1)) (fun h' => UU m V s0 l A0 B (tL k n x t).2 h' ∧ Fr m 27 h h') := by
  have U0 := hU
  obtain ⟨sa, Aa, hm0, hu0, hs0, hA0⟩ := id U0
  have mo0 := hm0.1
  have kx : sa 19 = nI k := (hs0 19 (by decide) (by decide)).trans hk
  refine Cn.of (L := [some (.ref m), some (.int x)]) (by decide) (Nat.le_of_ble_eq_true rfl) rfl ?_
  refine x_aload_n dX12_leadsIt_0 rfl ?_
  refine x_get fX12_386 mo0 rfl dX12_leadsIt_1 ?_
  rw [kx]
  refine swX12_leadsIt_4 (fun c4 => ?_) (fun c4 => ?_) (fun c4 => ?_) (fun c4_2 c4_3 c4_4 => ?_)
  · refine x_aload_n dX12_leadsIt_32 rfl ?_
    refine x_bipush (v := 30) dX12_leadsIt_33 (by decide) ?_
    refine x_cnV (c_X12_ran U0 (by simp only [bg_p, t0])) mo0 lkX12_ran sX12_380 dX12_leadsIt_35 rfl rfl (Nat.le_of_ble_eq_true rfl) (by decide) ⟨rfl, rfl, by decide, by decide⟩ ?_
    rintro h1 ⟨U1, F1⟩
    obtain ⟨s1, A1, hm1, hu1, hs1, hA1⟩ := id U1
    have mo1 := hm1.1
    refine x_aload_n dX12_leadsIt_38 rfl ?_
    refine x_iload_n dX12_leadsIt_39 rfl ?_
    refine x_cvV (c_X12_plainLeads U1 (by simp only [bg_p, tL_p, tS0_p, tS1_p, tS_p, tT0_p, t0]) k6 hk hnn haa) mo1 lkX12_plainLeads sX12_389 dX12_leadsIt_40 rfl rfl (Nat.le_of_ble_eq_true rfl) (by decide) ⟨rfl, rfl, by decide, by decide⟩ ?_
    rintro h2 ⟨U2, F2⟩
    obtain ⟨s2, A2, hm2, hu2, hs2, hA2⟩ := id U2
    have mo2 := hm2.1
    refine x_iconst (v := 3) dX12_leadsIt_43 (by decide) ?_
    refine x_imul dX12_leadsIt_44 ?_
    refine x_iret rfl dX12_leadsIt_45 ⟨by decide, by decide⟩ ?_
    have k0 : k = 2 := nI_eqn (b := 2) (by omega) (by decide) c4
    have E : tL k n x t = ((x + n) * 3, bg (bg t 30) 10) := by rw [tL, if_pos k0]
    rw [E]
    exact ⟨rfl, U2, (F1.tr F2)⟩
  · refine x_aload_n dX12_leadsIt_46 rfl ?_
    refine x_bipush (v := 40) dX12_leadsIt_47 (by decide) ?_
    refine x_cnV (c_X12_ran U0 (by simp only [bg_p, t0])) mo0 lkX12_ran sX12_380 dX12_leadsIt_49 rfl rfl (Nat.le_of_ble_eq_true rfl) (by decide) ⟨rfl, rfl, by decide, by decide⟩ ?_
    rintro h1 ⟨U1, F1⟩
    obtain ⟨s1, A1, hm1, hu1, hs1, hA1⟩ := id U1
    have mo1 := hm1.1
    refine x_iconst (v := 0) dX12_leadsIt_52 (by decide) ?_
    refine x_aload_n dX12_leadsIt_53 rfl ?_
    refine x_iload_n dX12_leadsIt_54 rfl ?_
    refine x_cvV (c_X12_plainLeads U1 (by simp only [bg_p, tL_p, tS0_p, tS1_p, tS_p, tT0_p, t0]) k6 hk hnn haa) mo1 lkX12_plainLeads sX12_389 dX12_leadsIt_55 rfl rfl (Nat.le_of_ble_eq_true rfl) (by decide) ⟨rfl, rfl, by decide, by decide⟩ ?_
    rintro h2 ⟨U2, F2⟩
    obtain ⟨s2, A2, hm2, hu2, hs2, hA2⟩ := id U2
    have mo2 := hm2.1
    refine x_isub dX12_leadsIt_58 ?_
    refine x_iret rfl dX12_leadsIt_59 ⟨by decide, by decide⟩ ?_
    have k0 : k = 3 := nI_eqn (b := 3) (by omega) (by decide) c4
    have E : tL k n x t = (0 - (x + n), bg (bg t 40) 10) := by rw [tL, if_neg (by omega), if_pos k0]
    rw [E]
    exact ⟨rfl, U2, (F1.tr F2)⟩
  · refine x_aload_n dX12_leadsIt_60 rfl ?_
    refine x_bipush (v := 51) dX12_leadsIt_61 (by decide) ?_
    refine x_cnV (c_X12_ran U0 (by simp only [bg_p, t0])) mo0 lkX12_ran sX12_380 dX12_leadsIt_63 rfl rfl (Nat.le_of_ble_eq_true rfl) (by decide) ⟨rfl, rfl, by decide, by decide⟩ ?_
    rintro h1 ⟨U1, F1⟩
    obtain ⟨s1, A1, hm1, hu1, hs1, hA1⟩ := id U1
    have mo1 := hm1.1
    refine x_aload_n dX12_leadsIt_66 rfl ?_
    refine x_iload_n dX12_leadsIt_67 rfl ?_
    refine x_cvV (c_X12_plainLeads U1 (by simp only [bg_p, tL_p, tS0_p, tS1_p, tS_p, tT0_p, t0]) k6 hk hnn haa) mo1 lkX12_plainLeads sX12_389 dX12_leadsIt_68 rfl rfl (Nat.le_of_ble_eq_true rfl) (by decide) ⟨rfl, rfl, by decide, by decide⟩ ?_
    rintro h2 ⟨U2, F2⟩
    obtain ⟨s2, A2, hm2, hu2, hs2, hA2⟩ := id U2
    have mo2 := hm2.1
    refine x_aload_n dX12_leadsIt_71 rfl ?_
    refine x_get fX12_383 mo2 rfl dX12_leadsIt_72 ?_
    rw [show s2 20 = n from (hs2 20 (by decide) (by decide)).trans hnn]
    refine x_isub dX12_leadsIt_75 ?_
    refine x_iret rfl dX12_leadsIt_76 ⟨by decide, by decide⟩ ?_
    have k0 : k = 4 := nI_eqn (b := 4) (by omega) (by decide) c4
    have E : tL k n x t = (x + n - n, bg (bg t 51) 10) := by rw [tL, if_neg (by omega), if_neg (by omega), if_pos k0]
    rw [E]
    exact ⟨rfl, U2, (F1.tr F2)⟩
  · refine x_aload_n dX12_leadsIt_77 rfl ?_
    refine x_iload_n dX12_leadsIt_78 rfl ?_
    refine x_cvV (c_X12_plainLeads U0 (by simp only [bg_p, tL_p, tS0_p, tS1_p, tS_p, tT0_p, t0]) k6 hk hnn haa) mo0 lkX12_plainLeads sX12_389 dX12_leadsIt_79 rfl rfl (Nat.le_of_ble_eq_true rfl) (by decide) ⟨rfl, rfl, by decide, by decide⟩ ?_
    rintro h1 ⟨U1, F1⟩
    obtain ⟨s1, A1, hm1, hu1, hs1, hA1⟩ := id U1
    have mo1 := hm1.1
    refine x_iret rfl dX12_leadsIt_82 ⟨by decide, by decide⟩ ?_
    have n2 : ¬ k = 2 := fun z => c4_2 (by rw [z]; rfl)
    have n3 : ¬ k = 3 := fun z => c4_3 (by rw [z]; rfl)
    have n4 : ¬ k = 4 := fun z => c4_4 (by rw [z]; rfl)
    have E : tL k n x t = (x + n, bg t 10) := by rw [tL, if_neg n2, if_neg n3, if_neg n4]
    rw [E]
    exact ⟨rfl, U1, F1⟩
set_option maxRecDepth 10000 in
set_option maxHeartbeats 2000000 in
theorem c_X12_plainStays {g : gG} {h : gH} {m k : Nat} {V : VS} {s0 : Nat → Int32} {l : Nat → Int64} {A0 : Nat → Nat → Int32} {B : Nat → Nat → Int64} {t : TR} {n a : Int32} (hU : UU m V s0 l A0 B t h) (t0 : t.2.2 = 0) (k6 : k < 6) (hk : s0 19 = nI k) (hnn : s0 20 = n) (haa : s0 21 = a) {x : Int32} : Ct g mX12_plainStays [.ref m, .int x] h (some (.int (tS0 k n x t).1)) (fun h' => UU m V s0 l A0 B (tS0 k n x t).2 h' ∧ Fr m 27 h h') := by
  have U0 := hU
  obtain ⟨sa, Aa, hm0, hu0, hs0, hA0⟩ := id U0
  have mo0 := hm0.1
  have kx : sa 19 = nI k := (hs0 19 (by decide) (by decide)).trans hk
  refine Cn.of (L := [some (.ref m), some (.int x)]) (by decide) (Nat.le_of_ble_eq_true rfl) rfl ?_
  refine x_aload_n dX12_plainStays_0 rfl ?_
  refine x_bipush (v := 11) dX12_plainStays_1 (by decide) ?_
  refine x_cnV (c_X12_ran U0 (by simp only [bg_p, t0])) mo0 lkX12_ran sX12_380 dX12_plainStays_3 rfl rfl (Nat.le_of_ble_eq_true rfl) (by decide) ⟨rfl, rfl, by decide, by decide⟩ ?_
  rintro h1 ⟨U1, F1⟩
  obtain ⟨s1, A1, hm1, hu1, hs1, hA1⟩ := id U1
  have mo1 := hm1.1
  refine x_aload_n dX12_plainStays_6 rfl ?_
  refine x_iload_n dX12_plainStays_7 rfl ?_
  refine x_cvV (c_X12_leadsIt U1 (by simp only [bg_p, tL_p, tS0_p, tS1_p, tS_p, tT0_p, t0]) k6 hk hnn haa) mo1 lkX12_leadsIt sX12_392 dX12_plainStays_8 rfl rfl (Nat.le_of_ble_eq_true rfl) (by decide) ⟨rfl, rfl, by decide, by decide⟩ ?_
  rintro h2 ⟨U2, F2⟩
  obtain ⟨s2, A2, hm2, hu2, hs2, hA2⟩ := id U2
  have mo2 := hm2.1
  refine x_iconst (v := 2) dX12_plainStays_11 (by decide) ?_
  refine x_imul dX12_plainStays_12 ?_
  refine x_iret rfl dX12_plainStays_13 ⟨by decide, by decide⟩ ?_
  exact ⟨rfl, U2, (F1.tr F2)⟩
set_option maxRecDepth 10000 in
set_option maxHeartbeats 2000000 in
theorem c_X12_trackStays {g : gG} {h : gH} {m k : Nat} {V : VS} {s0 : Nat → Int32} {l : Nat → Int64} {A0 : Nat → Nat → Int32} {B : Nat → Nat → Int64} {t : TR} {n a : Int32} (hU : UU m V s0 l A0 B t h) (t0 : t.2.2 = 0) (k6 : k < 6) (hk : s0 19 = nI k) (hnn : s0 20 = n) (haa : s0 21 = a) {x : Int32} : Ct g mX12_trackStays [.ref m, .int x] h (some (.int (tS1 k n a x t).1)) (fun h' => UU m V s0 l A0 B (tS1 k n a x t).2 h' ∧ Fr m 27 h h') := by
  have U0 := hU
  obtain ⟨sa, Aa, hm0, hu0, hs0, hA0⟩ := id U0
  have mo0 := hm0.1
  have kx : sa 19 = nI k := (hs0 19 (by decide) (by decide)).trans hk
  refine Cn.of (L := [some (.ref m), some (.int x)]) (by decide) (Nat.le_of_ble_eq_true rfl) rfl ?_
  refine x_aload_n dX12_trackStays_0 rfl ?_
  refine x_bipush (v := 20) dX12_trackStays_1 (by decide) ?_
  refine x_cnV (c_X12_ran U0 (by simp only [bg_p, t0])) mo0 lkX12_ran sX12_380 dX12_trackStays_3 rfl rfl (Nat.le_of_ble_eq_true rfl) (by decide) ⟨rfl, rfl, by decide, by decide⟩ ?_
  rintro h1 ⟨U1, F1⟩
  obtain ⟨s1, A1, hm1, hu1, hs1, hA1⟩ := id U1
  have mo1 := hm1.1
  refine x_aload_n dX12_trackStays_6 rfl ?_
  refine x_iload_n dX12_trackStays_7 rfl ?_
  refine x_cvV (c_X12_plainStays U1 (by simp only [bg_p, tL_p, tS0_p, tS1_p, tS_p, tT0_p, t0]) k6 hk hnn haa) mo1 lkX12_plainStays sX12_395 dX12_trackStays_8 rfl rfl (Nat.le_of_ble_eq_true rfl) (by decide) ⟨rfl, rfl, by decide, by decide⟩ ?_
  rintro h2 ⟨U2, F2⟩
  obtain ⟨s2, A2, hm2, hu2, hs2, hA2⟩ := id U2
  have mo2 := hm2.1
  refine x_aload_n dX12_trackStays_11 rfl ?_
  refine x_get fX12_398 mo2 rfl dX12_trackStays_12 ?_
  rw [show s2 21 = a from (hs2 21 (by decide) (by decide)).trans haa]
  refine x_isub dX12_trackStays_15 ?_
  refine x_iret rfl dX12_trackStays_16 ⟨by decide, by decide⟩ ?_
  exact ⟨rfl, U2, (F1.tr F2)⟩
set_option maxRecDepth 10000 in
set_option maxHeartbeats 2000000 in
theorem c_X12_staysIt {g : gG} {h : gH} {m k : Nat} {V : VS} {s0 : Nat → Int32} {l : Nat → Int64} {A0 : Nat → Nat → Int32} {B : Nat → Nat → Int64} {t : TR} {n a : Int32} (hU : UU m V s0 l A0 B t h) (t0 : t.2.2 = 0) (k6 : k < 6) (hk : s0 19 = nI k) (hnn : s0 20 = n) (haa : s0 21 = a) {x : Int32} : Ct g mX12_staysIt [.ref m, .int x] h (some (.int (tS k n a x t).1)) (fun h' => UU m V s0 l A0 B (tS k n a x t).2 h' ∧ Fr m 27 h h') := by
  have U0 := hU
  obtain ⟨sa, Aa, hm0, hu0, hs0, hA0⟩ := id U0
  have mo0 := hm0.1
  have kx : sa 19 = nI k := (hs0 19 (by decide) (by decide)).trans hk
  refine Cn.of (L := [some (.ref m), some (.int x), none]) (by decide) (Nat.le_of_ble_eq_true rfl) rfl ?_
  refine x_aload_n dX12_staysIt_0 rfl ?_
  refine x_get fX12_386 mo0 rfl dX12_staysIt_1 ?_
  rw [kx]
  refine x_iconst (v := 3) dX12_staysIt_4 (by decide) ?_
  refine x_icmp_ne 31 dX12_staysIt_5 (by decide) (fun c5 => ?_) (fun c5 => ?_)
  · refine x_aload_n dX12_staysIt_31 rfl ?_
    refine x_get fX12_386 mo0 rfl dX12_staysIt_32 ?_
    rw [kx]
    refine x_iconst (v := 1) dX12_staysIt_35 (by decide) ?_
    refine x_icmp_eq 47 dX12_staysIt_36 (by decide) (fun c36 => ?_) (fun c36 => ?_)
    · refine x_aload_n dX12_staysIt_47 rfl ?_
      refine x_iload_n dX12_staysIt_48 rfl ?_
      refine x_cvV (c_X12_trackStays U0 (by simp only [bg_p, tL_p, tS0_p, tS1_p, tS_p, tT0_p, t0]) k6 hk hnn haa) mo0 lkX12_trackStays sX12_401 dX12_staysIt_49 rfl rfl (Nat.le_of_ble_eq_true rfl) (by decide) ⟨rfl, rfl, by decide, by decide⟩ ?_
      rintro h1 ⟨U1, F1⟩
      obtain ⟨s1, A1, hm1, hu1, hs1, hA1⟩ := id U1
      have mo1 := hm1.1
      refine x_goto 60 dX12_staysIt_52 (by decide) ?_
      refine x_iret rfl dX12_staysIt_60 ⟨by decide, by decide⟩ ?_
      have k0 : k = 1 := nI_eqn (b := 1) (by omega) (by decide) c36
      have E : tS k n a x t = tS1 k n a x t := by rw [tS, if_neg (by omega), if_pos (.inl k0)]
      rw [E]
      exact ⟨rfl, U1, F1⟩
    · refine x_aload_n dX12_staysIt_39 rfl ?_
      refine x_get fX12_386 mo0 rfl dX12_staysIt_40 ?_
      rw [kx]
      refine x_iconst (v := 4) dX12_staysIt_43 (by decide) ?_
      refine x_icmp_ne 55 dX12_staysIt_44 (by decide) (fun c44 => ?_) (fun c44 => ?_)
      · refine x_aload_n dX12_staysIt_55 rfl ?_
        refine x_iload_n dX12_staysIt_56 rfl ?_
        refine x_cvV (c_X12_plainStays U0 (by simp only [bg_p, tL_p, tS0_p, tS1_p, tS_p, tT0_p, t0]) k6 hk hnn haa) mo0 lkX12_plainStays sX12_395 dX12_staysIt_57 rfl rfl (Nat.le_of_ble_eq_true rfl) (by decide) ⟨rfl, rfl, by decide, by decide⟩ ?_
        rintro h1 ⟨U1, F1⟩
        obtain ⟨s1, A1, hm1, hu1, hs1, hA1⟩ := id U1
        have mo1 := hm1.1
        refine x_iret rfl dX12_staysIt_60 ⟨by decide, by decide⟩ ?_
        have E : tS k n a x t = tS0 k n x t := by rw [tS, if_neg (fun z => c5 (by rw [z]; rfl)), if_neg (fun z => z.elim (fun y => c36 (by rw [y]; rfl)) (fun y => c44 (by rw [y]; rfl)))]
        rw [E]
        exact ⟨rfl, U1, F1⟩
      · refine x_aload_n dX12_staysIt_47 rfl ?_
        refine x_iload_n dX12_staysIt_48 rfl ?_
        refine x_cvV (c_X12_trackStays U0 (by simp only [bg_p, tL_p, tS0_p, tS1_p, tS_p, tT0_p, t0]) k6 hk hnn haa) mo0 lkX12_trackStays sX12_401 dX12_staysIt_49 rfl rfl (Nat.le_of_ble_eq_true rfl) (by decide) ⟨rfl, rfl, by decide, by decide⟩ ?_
        rintro h1 ⟨U1, F1⟩
        obtain ⟨s1, A1, hm1, hu1, hs1, hA1⟩ := id U1
        have mo1 := hm1.1
        refine x_goto 60 dX12_staysIt_52 (by decide) ?_
        refine x_iret rfl dX12_staysIt_60 ⟨by decide, by decide⟩ ?_
        have k0 : k = 4 := nI_eqn (b := 4) (by omega) (by decide) c44
        have E : tS k n a x t = tS1 k n a x t := by rw [tS, if_neg (by omega), if_pos (.inr k0)]
        rw [E]
        exact ⟨rfl, U1, F1⟩
  · refine x_aload_n dX12_staysIt_8 rfl ?_
    refine x_bipush (v := 41) dX12_staysIt_9 (by decide) ?_
    refine x_cnV (c_X12_ran U0 (by simp only [bg_p, t0])) mo0 lkX12_ran sX12_380 dX12_staysIt_11 rfl rfl (Nat.le_of_ble_eq_true rfl) (by decide) ⟨rfl, rfl, by decide, by decide⟩ ?_
    rintro h1 ⟨U1, F1⟩
    obtain ⟨s1, A1, hm1, hu1, hs1, hA1⟩ := id U1
    have mo1 := hm1.1
    refine x_aload_n dX12_staysIt_14 rfl ?_
    refine x_iload_n dX12_staysIt_15 rfl ?_
    refine x_cvV (c_X12_trackStays U1 (by simp only [bg_p, tL_p, tS0_p, tS1_p, tS_p, tT0_p, t0]) k6 hk hnn haa) mo1 lkX12_trackStays sX12_401 dX12_staysIt_16 rfl rfl (Nat.le_of_ble_eq_true rfl) (by decide) ⟨rfl, rfl, by decide, by decide⟩ ?_
    rintro h2 ⟨U2, F2⟩
    obtain ⟨s2, A2, hm2, hu2, hs2, hA2⟩ := id U2
    have mo2 := hm2.1
    refine x_ist_2 dX12_staysIt_19 (by decide) rfl ?_
    refine x_iload_n dX12_staysIt_20 rfl ?_
    refine x_aload_n dX12_staysIt_21 rfl ?_
    refine x_aload_n dX12_staysIt_22 rfl ?_
    refine x_get fX12_383 mo2 rfl dX12_staysIt_23 ?_
    rw [show s2 20 = n from (hs2 20 (by decide) (by decide)).trans hnn]
    refine x_cvV (c_X12_leadsIt U2 (by simp only [bg_p, tL_p, tS0_p, tS1_p, tS_p, tT0_p, t0]) k6 hk hnn haa) mo2 lkX12_leadsIt sX12_392 dX12_staysIt_26 rfl rfl (Nat.le_of_ble_eq_true rfl) (by decide) ⟨rfl, rfl, by decide, by decide⟩ ?_
    rintro h3 ⟨U3, F3⟩
    obtain ⟨s3, A3, hm3, hu3, hs3, hA3⟩ := id U3
    have mo3 := hm3.1
    refine x_iadd dX12_staysIt_29 ?_
    refine x_iret rfl dX12_staysIt_30 ⟨by decide, by decide⟩ ?_
    have k0 : k = 3 := nI_eqn (b := 3) (by omega) (by decide) c5
    have E : tS k n a x t = ((tS1 k n a x (bg t 41)).1 + (tL k n n (tS1 k n a x (bg t 41)).2).1, (tL k n n (tS1 k n a x (bg t 41)).2).2) := by rw [tS, if_pos k0]
    rw [E]
    exact ⟨rfl, U3, ((F1.tr F2).tr F3)⟩
theorem eq_sub {a n : Int32} : a = n ↔ a - n = 0 := by
  constructor
  · rintro rfl; exact Int32.sub_self _
  · intro h
    have : a - n + n = n := by rw [h, Int32.zero_add]
    rwa [Int32.sub_add_cancel] at this
set_option maxRecDepth 10000 in
set_option maxHeartbeats 2000000 in
theorem c_X12_plainShares {g : gG} {h : gH} {m k : Nat} {V : VS} {s0 : Nat → Int32} {l : Nat → Int64} {A0 : Nat → Nat → Int32} {B : Nat → Nat → Int64} {t : TR} {n a : Int32} (hU : UU m V s0 l A0 B t h) (t0 : t.2.2 = 0) (k6 : k < 6) (hk : s0 19 = nI k) (hnn : s0 20 = n) (haa : s0 21 = a) {x : Int32} : Ct g mX12_plainShares [.ref m, .int x] h (some (.int (tH0 n a x t).1)) (fun h' => UU m V s0 l A0 B (tH0 n a x t).2 h' ∧ Fr m 27 h h') := by
  have U0 := hU
  obtain ⟨sa, Aa, hm0, hu0, hs0, hA0⟩ := id U0
  have mo0 := hm0.1
  have kx : sa 19 = nI k := (hs0 19 (by decide) (by decide)).trans hk
  refine Cn.of (L := [some (.ref m), some (.int x)]) (by decide) (Nat.le_of_ble_eq_true rfl) rfl ?_
  refine x_aload_n dX12_plainShares_0 rfl ?_
  refine x_bipush (v := 12) dX12_plainShares_1 (by decide) ?_
  refine x_cnV (c_X12_ran U0 (by simp only [bg_p, t0])) mo0 lkX12_ran sX12_380 dX12_plainShares_3 rfl rfl (Nat.le_of_ble_eq_true rfl) (by decide) ⟨rfl, rfl, by decide, by decide⟩ ?_
  rintro h1 ⟨U1, F1⟩
  obtain ⟨s1, A1, hm1, hu1, hs1, hA1⟩ := id U1
  have mo1 := hm1.1
  refine x_aload_n dX12_plainShares_6 rfl ?_
  refine x_get fX12_398 mo1 rfl dX12_plainShares_7 ?_
  refine x_aload_n dX12_plainShares_10 rfl ?_
  refine x_get fX12_383 mo1 rfl dX12_plainShares_11 ?_
  rw [show s1 21 = a from (hs1 21 (by decide) (by decide)).trans haa, show s1 20 = n from (hs1 20 (by decide) (by decide)).trans hnn]
  refine x_icmp_ne 24 dX12_plainShares_14 (by decide) (fun c14 => ?_) (fun c14 => ?_)
  · refine x_iload_n dX12_plainShares_24 rfl ?_
    refine x_aload_n dX12_plainShares_25 rfl ?_
    refine x_get fX12_398 mo1 rfl dX12_plainShares_26 ?_
    refine x_aload_n dX12_plainShares_29 rfl ?_
    refine x_get fX12_383 mo1 rfl dX12_plainShares_30 ?_
    rw [show s1 21 = a from (hs1 21 (by decide) (by decide)).trans haa, show s1 20 = n from (hs1 20 (by decide) (by decide)).trans hnn]
    refine x_isub dX12_plainShares_33 ?_
    refine x_idiv dX12_plainShares_34 (fun z => c14 (eq_sub.mpr z)) ?_
    refine x_iret rfl dX12_plainShares_35 ⟨by decide, by decide⟩ ?_
    have E : tH0 n a x t = (x / (a - n), bg t 12) := if_neg (fun z => c14 (eq_sub.mpr z))
    rw [E]
    exact ⟨rfl, U1, F1⟩
  · refine x_aload_n dX12_plainShares_17 rfl ?_
    refine x_iconst (v := 1) dX12_plainShares_18 (by decide) ?_
    refine x_put (fs' := mF m V (va_up s1 23 (nI 1)) l) fX12_404 mo1 (Nat.le_of_ble_eq_true rfl) rfl rfl rfl dX12_plainShares_19 ?_
    refine x_iconst (v := 0) dX12_plainShares_22 (by decide) ?_
    refine x_iret rfl dX12_plainShares_23 ⟨by decide, by decide⟩ ?_
    have E : tH0 n a x t = (0, tP (bg t 12)) := if_pos (eq_sub.mp c14)
    rw [E]
    obtain ⟨u1, u2, u3, u4, u5⟩ := hu1
    exact ⟨rfl, ⟨_, _, hm1.num, ⟨u1, (va_up_ne _ _ (by decide)).trans u2, va_up_self _ _ _, Nat.le_refl 1, u5⟩, fun i h1 h2 => (va_up_ne _ _ h2).trans (hs1 i h1 h2), hA1⟩, F1.tr (Fr.set (by omega) (by omega))⟩
theorem bg_k {t : TR} {b : Int32} (h : ¬ t.2.2 = 0) : bg t b = t := bg_n (fun z => h z.1)
theorem tL_k {k : Nat} {n x : Int32} {t : TR} (h : ¬ t.2.2 = 0) : (tL k n x t).2 = t := by
  unfold tL
  split
  · rw [bg_k (t := t) h, bg_k h]
  · split
    · rw [bg_k (t := t) h, bg_k h]
    · split
      · rw [bg_k (t := t) h, bg_k h]
      · exact bg_k h
set_option maxRecDepth 10000 in
set_option maxHeartbeats 2000000 in
theorem c_X12_sharesIt {g : gG} {h : gH} {m k : Nat} {V : VS} {s0 : Nat → Int32} {l : Nat → Int64} {A0 : Nat → Nat → Int32} {B : Nat → Nat → Int64} {t : TR} {n a : Int32} (hU : UU m V s0 l A0 B t h) (t0 : t.2.2 = 0) (k6 : k < 6) (hk : s0 19 = nI k) (hnn : s0 20 = n) (haa : s0 21 = a) {x : Int32} : Cn g mX12_sharesIt [.ref m, .int x] h (fun o h' => ∃ v, o = some (.int v) ∧ ((tH k n a x t).2.2.2 = 0 → v = (tH k n a x t).1) ∧ UU m V s0 l A0 B (tH k n a x t).2 h' ∧ Fr m 27 h h') := by
  have U0 := hU
  obtain ⟨sa, Aa, hm0, hu0, hs0, hA0⟩ := id U0
  have mo0 := hm0.1
  have kx : sa 19 = nI k := (hs0 19 (by decide) (by decide)).trans hk
  refine Cn.of (L := [some (.ref m), some (.int x), none]) (by decide) (Nat.le_of_ble_eq_true rfl) rfl ?_
  refine x_aload_n dX12_sharesIt_0 rfl ?_
  refine x_get fX12_386 mo0 rfl dX12_sharesIt_1 ?_
  rw [kx]
  refine x_iconst (v := 4) dX12_sharesIt_4 (by decide) ?_
  refine x_icmp_ne 24 dX12_sharesIt_5 (by decide) (fun c5 => ?_) (fun c5 => ?_)
  · refine x_aload_n dX12_sharesIt_24 rfl ?_
    refine x_get fX12_386 mo0 rfl dX12_sharesIt_25 ?_
    rw [kx]
    refine x_iconst (v := 5) dX12_sharesIt_28 (by decide) ?_
    refine x_icmp_ne 66 dX12_sharesIt_29 (by decide) (fun c29 => ?_) (fun c29 => ?_)
    · refine x_aload_n dX12_sharesIt_66 rfl ?_
      refine x_iload_n dX12_sharesIt_67 rfl ?_
      refine x_cvV (c_X12_plainShares U0 (by simp only [bg_p, tL_p, tS0_p, tS1_p, tS_p, tT0_p, t0]) k6 hk hnn haa) mo0 lkX12_plainShares sX12_407 dX12_sharesIt_68 rfl rfl (Nat.le_of_ble_eq_true rfl) (by decide) ⟨rfl, rfl, by decide, by decide⟩ ?_
      rintro h1 ⟨U1, F1⟩
      obtain ⟨s1, A1, hm1, hu1, hs1, hA1⟩ := id U1
      have mo1 := hm1.1
      refine x_iret rfl dX12_sharesIt_71 ⟨by decide, by decide⟩ ?_
      have E : tH k n a x t = tH0 n a x t := by rw [tH, if_neg (fun z => c5 (by rw [z]; rfl)), if_neg (fun z => c29 (by rw [z]; rfl))]
      rw [E]
      exact ⟨_, rfl, fun z => rfl, U1, F1⟩
    · refine x_aload_n dX12_sharesIt_32 rfl ?_
      refine x_bipush (v := 61) dX12_sharesIt_33 (by decide) ?_
      refine x_cnV (c_X12_ran U0 (by simp only [bg_p, t0])) mo0 lkX12_ran sX12_380 dX12_sharesIt_35 rfl rfl (Nat.le_of_ble_eq_true rfl) (by decide) ⟨rfl, rfl, by decide, by decide⟩ ?_
      rintro h1 ⟨U1, F1⟩
      obtain ⟨s1, A1, hm1, hu1, hs1, hA1⟩ := id U1
      have mo1 := hm1.1
      refine x_aload_n dX12_sharesIt_38 rfl ?_
      refine x_iload_n dX12_sharesIt_39 rfl ?_
      refine x_cvV (c_X12_plainShares U1 (by simp only [bg_p, tL_p, tS0_p, tS1_p, tS_p, tT0_p, t0]) k6 hk hnn haa) mo1 lkX12_plainShares sX12_407 dX12_sharesIt_40 rfl rfl (Nat.le_of_ble_eq_true rfl) (by decide) ⟨rfl, rfl, by decide, by decide⟩ ?_
      rintro h2 ⟨U2, F2⟩
      obtain ⟨s2, A2, hm2, hu2, hs2, hA2⟩ := id U2
      have mo2 := hm2.1
      refine x_ist_2 dX12_sharesIt_43 (by decide) rfl ?_
      refine x_aload_n dX12_sharesIt_44 rfl ?_
      refine x_get fX12_404 mo2 rfl dX12_sharesIt_45 ?_
      rw [hu2.2.2.1]
      have pq : nI (tH0 n a x (bg t 61)).2.2.2 = 0 ↔ (tH0 n a x (bg t 61)).2.2.2 = 0 := nI_z (by have := hu2.2.2.2.1; omega)
      refine x_if_eq 55 dX12_sharesIt_48 (by decide) (fun c48 => ?_) (fun c48 => ?_)
      · have pz := pq.mp c48
        refine x_iload_n dX12_sharesIt_55 rfl ?_
        refine x_aload_n dX12_sharesIt_56 rfl ?_
        refine x_aload_n dX12_sharesIt_57 rfl ?_
        refine x_get fX12_398 mo2 rfl dX12_sharesIt_58 ?_
        rw [show s2 21 = a from (hs2 21 (by decide) (by decide)).trans haa]
        refine x_cvV (c_X12_leadsIt U2 pz k6 hk hnn haa) mo2 lkX12_leadsIt sX12_392 dX12_sharesIt_61 rfl rfl (Nat.le_of_ble_eq_true rfl) (by decide) ⟨rfl, rfl, by decide, by decide⟩ ?_
        rintro h3 ⟨U3, F3⟩
        obtain ⟨s3, A3, hm3, hu3, hs3, hA3⟩ := id U3
        have mo3 := hm3.1
        refine x_iadd dX12_sharesIt_64 ?_
        refine x_iret rfl dX12_sharesIt_65 ⟨by decide, by decide⟩ ?_
        have k0 : k = 5 := nI_eqn (b := 5) (by omega) (by decide) c29
        have E : tH k n a x t = ((tH0 n a x (bg t 61)).1 + (tL k n a (tH0 n a x (bg t 61)).2).1, (tL k n a (tH0 n a x (bg t 61)).2).2) := by rw [tH, if_neg (by omega), if_pos k0]
        rw [E]
        exact ⟨_, rfl, fun z => rfl, U3, ((F1.tr F2).tr F3)⟩
      · refine x_iconst (v := 0) dX12_sharesIt_51 (by decide) ?_
        refine x_goto 65 dX12_sharesIt_52 (by decide) ?_
        refine x_iret rfl dX12_sharesIt_65 ⟨by decide, by decide⟩ ?_
        have k0 : k = 5 := nI_eqn (b := 5) (by omega) (by decide) c29
        have np : ¬ (tH0 n a x (bg t 61)).2.2.2 = 0 := fun z => c48 (pq.mpr z)
        have E : tH k n a x t = ((tH0 n a x (bg t 61)).1 + (tL k n a (tH0 n a x (bg t 61)).2).1, (tL k n a (tH0 n a x (bg t 61)).2).2) := by rw [tH, if_neg (by omega), if_pos k0]
        rw [E]
        refine ⟨_, rfl, fun z => ?_, ?_, F1.tr F2⟩
        · rw [tL_k np] at z; exact absurd z np
        · rw [tL_k np]; exact U2
  · refine x_aload_n dX12_sharesIt_8 rfl ?_
    refine x_bipush (v := 50) dX12_sharesIt_9 (by decide) ?_
    refine x_cnV (c_X12_ran U0 (by simp only [bg_p, t0])) mo0 lkX12_ran sX12_380 dX12_sharesIt_11 rfl rfl (Nat.le_of_ble_eq_true rfl) (by decide) ⟨rfl, rfl, by decide, by decide⟩ ?_
    rintro h1 ⟨U1, F1⟩
    obtain ⟨s1, A1, hm1, hu1, hs1, hA1⟩ := id U1
    have mo1 := hm1.1
    refine x_aload_n dX12_sharesIt_14 rfl ?_
    refine x_iload_n dX12_sharesIt_15 rfl ?_
    refine x_iconst (v := 2) dX12_sharesIt_16 (by decide) ?_
    refine x_iadd dX12_sharesIt_17 ?_
    refine x_cvV (c_X12_plainShares U1 (by simp only [bg_p, tL_p, tS0_p, tS1_p, tS_p, tT0_p, t0]) k6 hk hnn haa) mo1 lkX12_plainShares sX12_407 dX12_sharesIt_18 rfl rfl (Nat.le_of_ble_eq_true rfl) (by decide) ⟨rfl, rfl, by decide, by decide⟩ ?_
    rintro h2 ⟨U2, F2⟩
    obtain ⟨s2, A2, hm2, hu2, hs2, hA2⟩ := id U2
    have mo2 := hm2.1
    refine x_iconst (v := 1) dX12_sharesIt_21 (by decide) ?_
    refine x_ixor dX12_sharesIt_22 ?_
    refine x_iret rfl dX12_sharesIt_23 ⟨by decide, by decide⟩ ?_
    have k0 : k = 4 := nI_eqn (b := 4) (by omega) (by decide) c5
    have E : tH k n a x t = ((tH0 n a (x + 2) (bg t 50)).1 ^^^ 1, (tH0 n a (x + 2) (bg t 50)).2) := by rw [tH, if_pos k0]
    rw [E]
    exact ⟨_, rfl, fun z => rfl, U2, (F1.tr F2)⟩
set_option maxRecDepth 10000 in
set_option maxHeartbeats 2000000 in
theorem c_X12_plainTells {g : gG} {h : gH} {m k : Nat} {V : VS} {s0 : Nat → Int32} {l : Nat → Int64} {A0 : Nat → Nat → Int32} {B : Nat → Nat → Int64} {t : TR} {n a : Int32} (hU : UU m V s0 l A0 B t h) (t0 : t.2.2 = 0) (k6 : k < 6) (hk : s0 19 = nI k) (hnn : s0 20 = n) (haa : s0 21 = a) {x : Int32} : Ct g mX12_plainTells [.ref m, .int x] h (some (.int (tT0 k n a x t).1)) (fun h' => UU m V s0 l A0 B (tT0 k n a x t).2 h' ∧ Fr m 27 h h') := by
  have U0 := hU
  obtain ⟨sa, Aa, hm0, hu0, hs0, hA0⟩ := id U0
  have mo0 := hm0.1
  have kx : sa 19 = nI k := (hs0 19 (by decide) (by decide)).trans hk
  refine Cn.of (L := [some (.ref m), some (.int x)]) (by decide) (Nat.le_of_ble_eq_true rfl) rfl ?_
  refine x_aload_n dX12_plainTells_0 rfl ?_
  refine x_bipush (v := 13) dX12_plainTells_1 (by decide) ?_
  refine x_cnV (c_X12_ran U0 (by simp only [bg_p, t0])) mo0 lkX12_ran sX12_380 dX12_plainTells_3 rfl rfl (Nat.le_of_ble_eq_true rfl) (by decide) ⟨rfl, rfl, by decide, by decide⟩ ?_
  rintro h1 ⟨U1, F1⟩
  obtain ⟨s1, A1, hm1, hu1, hs1, hA1⟩ := id U1
  have mo1 := hm1.1
  refine x_aload_n dX12_plainTells_6 rfl ?_
  refine x_iload_n dX12_plainTells_7 rfl ?_
  refine x_cvV (c_X12_staysIt U1 (by simp only [bg_p, tL_p, tS0_p, tS1_p, tS_p, tT0_p, t0]) k6 hk hnn haa) mo1 lkX12_staysIt sX12_410 dX12_plainTells_8 rfl rfl (Nat.le_of_ble_eq_true rfl) (by decide) ⟨rfl, rfl, by decide, by decide⟩ ?_
  rintro h2 ⟨U2, F2⟩
  obtain ⟨s2, A2, hm2, hu2, hs2, hA2⟩ := id U2
  have mo2 := hm2.1
  refine x_aload_n dX12_plainTells_11 rfl ?_
  refine x_get fX12_398 mo2 rfl dX12_plainTells_12 ?_
  rw [show s2 21 = a from (hs2 21 (by decide) (by decide)).trans haa]
  refine x_ixor dX12_plainTells_15 ?_
  refine x_iret rfl dX12_plainTells_16 ⟨by decide, by decide⟩ ?_
  exact ⟨rfl, U2, (F1.tr F2)⟩
set_option maxRecDepth 10000 in
set_option maxHeartbeats 2000000 in
theorem c_X12_tellsIt {g : gG} {h : gH} {m k : Nat} {V : VS} {s0 : Nat → Int32} {l : Nat → Int64} {A0 : Nat → Nat → Int32} {B : Nat → Nat → Int64} {t : TR} {n a : Int32} (hU : UU m V s0 l A0 B t h) (t0 : t.2.2 = 0) (k6 : k < 6) (hk : s0 19 = nI k) (hnn : s0 20 = n) (haa : s0 21 = a) {x : Int32} : Cn g mX12_tellsIt [.ref m, .int x] h (fun o h' => ∃ v, o = some (.int v) ∧ ((tT k n a x t).2.2.2 = 0 → v = (tT k n a x t).1) ∧ UU m V s0 l A0 B (tT k n a x t).2 h' ∧ Fr m 27 h h') := by
  have U0 := hU
  obtain ⟨sa, Aa, hm0, hu0, hs0, hA0⟩ := id U0
  have mo0 := hm0.1
  have kx : sa 19 = nI k := (hs0 19 (by decide) (by decide)).trans hk
  refine Cn.of (L := [some (.ref m), some (.int x), none]) (by decide) (Nat.le_of_ble_eq_true rfl) rfl ?_
  refine x_aload_n dX12_tellsIt_0 rfl ?_
  refine x_get fX12_386 mo0 rfl dX12_tellsIt_1 ?_
  rw [kx]
  refine x_iconst (v := 2) dX12_tellsIt_4 (by decide) ?_
  refine x_icmp_ne 31 dX12_tellsIt_5 (by decide) (fun c5 => ?_) (fun c5 => ?_)
  · refine x_aload_n dX12_tellsIt_31 rfl ?_
    refine x_get fX12_386 mo0 rfl dX12_tellsIt_32 ?_
    rw [kx]
    refine x_iconst (v := 5) dX12_tellsIt_35 (by decide) ?_
    refine x_icmp_ne 53 dX12_tellsIt_36 (by decide) (fun c36 => ?_) (fun c36 => ?_)
    · refine x_aload_n dX12_tellsIt_53 rfl ?_
      refine x_iload_n dX12_tellsIt_54 rfl ?_
      refine x_cvV (c_X12_plainTells U0 (by simp only [bg_p, tL_p, tS0_p, tS1_p, tS_p, tT0_p, t0]) k6 hk hnn haa) mo0 lkX12_plainTells sX12_413 dX12_tellsIt_55 rfl rfl (Nat.le_of_ble_eq_true rfl) (by decide) ⟨rfl, rfl, by decide, by decide⟩ ?_
      rintro h1 ⟨U1, F1⟩
      obtain ⟨s1, A1, hm1, hu1, hs1, hA1⟩ := id U1
      have mo1 := hm1.1
      refine x_iret rfl dX12_tellsIt_58 ⟨by decide, by decide⟩ ?_
      have E : tT k n a x t = tT0 k n a x t := by rw [tT, if_neg (fun z => c5 (by rw [z]; rfl)), if_neg (fun z => c36 (by rw [z]; rfl))]
      rw [E]
      exact ⟨_, rfl, fun z => rfl, U1, F1⟩
    · refine x_aload_n dX12_tellsIt_39 rfl ?_
      refine x_bipush (v := 60) dX12_tellsIt_40 (by decide) ?_
      refine x_cnV (c_X12_ran U0 (by simp only [bg_p, t0])) mo0 lkX12_ran sX12_380 dX12_tellsIt_42 rfl rfl (Nat.le_of_ble_eq_true rfl) (by decide) ⟨rfl, rfl, by decide, by decide⟩ ?_
      rintro h1 ⟨U1, F1⟩
      obtain ⟨s1, A1, hm1, hu1, hs1, hA1⟩ := id U1
      have mo1 := hm1.1
      refine x_aload_n dX12_tellsIt_45 rfl ?_
      refine x_iload_n dX12_tellsIt_46 rfl ?_
      refine x_cvV (c_X12_plainTells U1 (by simp only [bg_p, tL_p, tS0_p, tS1_p, tS_p, tT0_p, t0]) k6 hk hnn haa) mo1 lkX12_plainTells sX12_413 dX12_tellsIt_47 rfl rfl (Nat.le_of_ble_eq_true rfl) (by decide) ⟨rfl, rfl, by decide, by decide⟩ ?_
      rintro h2 ⟨U2, F2⟩
      obtain ⟨s2, A2, hm2, hu2, hs2, hA2⟩ := id U2
      have mo2 := hm2.1
      refine x_iconst (v := 2) dX12_tellsIt_50 (by decide) ?_
      refine x_imul dX12_tellsIt_51 ?_
      refine x_iret rfl dX12_tellsIt_52 ⟨by decide, by decide⟩ ?_
      have k0 : k = 5 := nI_eqn (b := 5) (by omega) (by decide) c36
      have E : tT k n a x t = ((tT0 k n a x (bg t 60)).1 * 2, (tT0 k n a x (bg t 60)).2) := by rw [tT, if_neg (by omega), if_pos k0]
      rw [E]
      exact ⟨_, rfl, fun z => rfl, U2, (F1.tr F2)⟩
  · refine x_aload_n dX12_tellsIt_8 rfl ?_
    refine x_bipush (v := 31) dX12_tellsIt_9 (by decide) ?_
    refine x_cnV (c_X12_ran U0 (by simp only [bg_p, t0])) mo0 lkX12_ran sX12_380 dX12_tellsIt_11 rfl rfl (Nat.le_of_ble_eq_true rfl) (by decide) ⟨rfl, rfl, by decide, by decide⟩ ?_
    rintro h1 ⟨U1, F1⟩
    obtain ⟨s1, A1, hm1, hu1, hs1, hA1⟩ := id U1
    have mo1 := hm1.1
    refine x_aload_n dX12_tellsIt_14 rfl ?_
    refine x_iload_n dX12_tellsIt_15 rfl ?_
    refine x_cvV (c_X12_plainTells U1 (by simp only [bg_p, tL_p, tS0_p, tS1_p, tS_p, tT0_p, t0]) k6 hk hnn haa) mo1 lkX12_plainTells sX12_413 dX12_tellsIt_16 rfl rfl (Nat.le_of_ble_eq_true rfl) (by decide) ⟨rfl, rfl, by decide, by decide⟩ ?_
    rintro h2 ⟨U2, F2⟩
    obtain ⟨s2, A2, hm2, hu2, hs2, hA2⟩ := id U2
    have mo2 := hm2.1
    refine x_ist_2 dX12_tellsIt_19 (by decide) rfl ?_
    refine x_iload_n dX12_tellsIt_20 rfl ?_
    refine x_aload_n dX12_tellsIt_21 rfl ?_
    refine x_aload_n dX12_tellsIt_22 rfl ?_
    refine x_get fX12_383 mo2 rfl dX12_tellsIt_23 ?_
    rw [show s2 20 = n from (hs2 20 (by decide) (by decide)).trans hnn]
    refine x_cqV (c_X12_sharesIt U2 (by simp only [bg_p, tL_p, tS0_p, tS1_p, tS_p, tT0_p, t0]) k6 hk hnn haa) mo2 lkX12_sharesIt sX12_416 dX12_tellsIt_26 rfl rfl (Nat.le_of_ble_eq_true rfl) (by decide) ⟨rfl, rfl, by decide, by decide⟩ ?_
    rintro v3 h3 ⟨e3, U3, F3⟩
    obtain ⟨s3, A3, hm3, hu3, hs3, hA3⟩ := id U3
    have mo3 := hm3.1
    refine x_iadd dX12_tellsIt_29 ?_
    refine x_iret rfl dX12_tellsIt_30 ⟨by decide, by decide⟩ ?_
    have k0 : k = 2 := nI_eqn (b := 2) (by omega) (by decide) c5
    have E : tT k n a x t = ((tT0 k n a x (bg t 31)).1 + (tH k n a n (tT0 k n a x (bg t 31)).2).1, (tH k n a n (tT0 k n a x (bg t 31)).2).2) := by rw [tT, if_pos k0]
    rw [E]
    exact ⟨_, rfl, fun z => by rw [e3 z], U3, ((F1.tr F2).tr F3)⟩
