set_option maxRecDepth 10000 in
set_option maxHeartbeats 2000000 in
theorem ma84 {g : gG} {h : gH} {m : Nat} {V : VS} {s : Nat → Int32} {l : Nat → Int64} {A : Nat → Nat → Int32} {B : Nat → Nat → Int64} (hm : MM h m V s l A B) {Q : Option Value → gH → Prop} {kv : Int32} (hr1 : V.1 4 ≤ 1) (kk : ∀ h8 A8, MM h8 m V (va_up s 25 (nI 0)) l A8 B → Fr m 27 h h8 → (∀ i, i ≠ 25 → A8 i = A i) → (A8 25 0 = nI (V.1 0) ∧ A8 25 1 = nI (V.1 3) ∧ A8 25 2 = nI (V.1 1) ∧ A8 25 3 = nI (V.1 4) ∧ A8 25 4 = nI (V.1 5) ∧ A8 25 5 = V.2.1 ∧ A8 25 6 = nI (V.1 2)) → Ex g mX12_moveAll (gZm g mX12_moveAll Q) 84 [some (.ref m), some (.int kv)] [] h8 0 0) : Ex g mX12_moveAll (gZm g mX12_moveAll Q) 0 [some (.ref m), some (.int kv)] [] h 0 0 := by
  have mo := hm.1
  have m26 : h.1 (m + 26) = some (.inl (0, 7, .inl (A 25))) := hm.2 25 (by decide)
  rcases (show V.1 4 = 0 ∨ V.1 4 = 1 by omega) with r1 | r1
  · have rx : (0 : Int32) = nI (V.1 4) := by rw [r1]; rfl
    refine x_aload_n dX12_moveAll_0 rfl ?_
    refine x_iconst (v := 0) dX12_moveAll_1 (by decide) ?_
    refine x_put (fs' := mF m V (va_up s 25 (nI 0)) l) fX12_422 mo (Nat.le_of_ble_eq_true rfl) rfl rfl rfl dX12_moveAll_2 ?_
    refine x_aload_n dX12_moveAll_5 rfl ?_
    refine x_get fX12_90 hset_s rfl dX12_moveAll_6 ?_
    refine x_iconst (v := 0) dX12_moveAll_9 (by decide) ?_
    refine x_aload_n dX12_moveAll_10 rfl ?_
    refine x_get fX12_97 hset_s rfl dX12_moveAll_11 ?_
    refine x_iast 0 ((hset_n (by omega)).trans m26) rfl (by decide) (by decide) dX12_moveAll_14 ?_
    refine x_aload_n dX12_moveAll_15 rfl ?_
    refine x_get fX12_90 ((hset_n (by omega)).trans hset_s) rfl dX12_moveAll_16 ?_
    refine x_iconst (v := 1) dX12_moveAll_19 (by decide) ?_
    refine x_aload_n dX12_moveAll_20 rfl ?_
    refine x_get fX12_103 ((hset_n (by omega)).trans hset_s) rfl dX12_moveAll_21 ?_
    refine x_iast 1 hset_s rfl (by decide) (by decide) dX12_moveAll_24 ?_
    refine x_aload_n dX12_moveAll_25 rfl ?_
    refine x_get fX12_90 ((hset_n (by omega)).trans ((hset_n (by omega)).trans hset_s)) rfl dX12_moveAll_26 ?_
    refine x_iconst (v := 2) dX12_moveAll_29 (by decide) ?_
    refine x_aload_n dX12_moveAll_30 rfl ?_
    refine x_get fX12_100 ((hset_n (by omega)).trans ((hset_n (by omega)).trans hset_s)) rfl dX12_moveAll_31 ?_
    refine x_iast 2 hset_s rfl (by decide) (by decide) dX12_moveAll_34 ?_
    refine x_aload_n dX12_moveAll_35 rfl ?_
    refine x_get fX12_90 ((hset_n (by omega)).trans ((hset_n (by omega)).trans ((hset_n (by omega)).trans hset_s))) rfl dX12_moveAll_36 ?_
    refine x_iconst (v := 3) dX12_moveAll_39 (by decide) ?_
    refine x_aload_n dX12_moveAll_40 rfl ?_
    refine x_get fX12_224 ((hset_n (by omega)).trans ((hset_n (by omega)).trans ((hset_n (by omega)).trans hset_s))) rfl dX12_moveAll_41 ?_
    refine x_if_eq_t 51 dX12_moveAll_44 (by decide) (by rw [r1]; rfl) ?_
    refine x_iconst (v := 0) dX12_moveAll_51 (by decide) ?_
    refine x_iast 3 hset_s rfl (by decide) (by decide) dX12_moveAll_52 ?_
    refine x_aload_n dX12_moveAll_53 rfl ?_
    refine x_get fX12_90 ((hset_n (by omega)).trans ((hset_n (by omega)).trans ((hset_n (by omega)).trans ((hset_n (by omega)).trans hset_s)))) rfl dX12_moveAll_54 ?_
    refine x_iconst (v := 4) dX12_moveAll_57 (by decide) ?_
    refine x_aload_n dX12_moveAll_58 rfl ?_
    refine x_get fX12_227 ((hset_n (by omega)).trans ((hset_n (by omega)).trans ((hset_n (by omega)).trans ((hset_n (by omega)).trans hset_s)))) rfl dX12_moveAll_59 ?_
    refine x_iast 4 hset_s rfl (by decide) (by decide) dX12_moveAll_62 ?_
    refine x_aload_n dX12_moveAll_63 rfl ?_
    refine x_get fX12_90 ((hset_n (by omega)).trans ((hset_n (by omega)).trans ((hset_n (by omega)).trans ((hset_n (by omega)).trans ((hset_n (by omega)).trans hset_s))))) rfl dX12_moveAll_64 ?_
    refine x_iconst (v := 5) dX12_moveAll_67 (by decide) ?_
    refine x_aload_n dX12_moveAll_68 rfl ?_
    refine x_get fX12_25 ((hset_n (by omega)).trans ((hset_n (by omega)).trans ((hset_n (by omega)).trans ((hset_n (by omega)).trans ((hset_n (by omega)).trans hset_s))))) rfl dX12_moveAll_69 ?_
    refine x_iast 5 hset_s rfl (by decide) (by decide) dX12_moveAll_72 ?_
    refine x_aload_n dX12_moveAll_73 rfl ?_
    refine x_get fX12_90 ((hset_n (by omega)).trans ((hset_n (by omega)).trans ((hset_n (by omega)).trans ((hset_n (by omega)).trans ((hset_n (by omega)).trans ((hset_n (by omega)).trans hset_s)))))) rfl dX12_moveAll_74 ?_
    refine x_bipush (v := 6) dX12_moveAll_77 (by decide) ?_
    refine x_aload_n dX12_moveAll_79 rfl ?_
    refine x_get fX12_339 ((hset_n (by omega)).trans ((hset_n (by omega)).trans ((hset_n (by omega)).trans ((hset_n (by omega)).trans ((hset_n (by omega)).trans ((hset_n (by omega)).trans hset_s)))))) rfl dX12_moveAll_80 ?_
    refine x_iast 6 hset_s rfl (by decide) (by decide) dX12_moveAll_83 ?_
    refine kk _ _ (((((((hm.num.int (i := 25) rfl).int (i := 25) rfl).int (i := 25) rfl).int (i := 25) rfl).int (i := 25) rfl).int (i := 25) rfl).int (i := 25) rfl) ((((((((Fr.set (by omega) (by omega)).tr (Fr.set (by omega) (by omega))).tr (Fr.set (by omega) (by omega))).tr (Fr.set (by omega) (by omega))).tr (Fr.set (by omega) (by omega))).tr (Fr.set (by omega) (by omega))).tr (Fr.set (by omega) (by omega))).tr (Fr.set (by omega) (by omega))) (fun i hi => ?_) ?_
    · rw [va_up_ne _ _ hi, va_up_ne _ _ hi, va_up_ne _ _ hi, va_up_ne _ _ hi, va_up_ne _ _ hi, va_up_ne _ _ hi, va_up_ne _ _ hi]
    · have e0 : (va_up (va_up (va_up (va_up (va_up (va_up (va_up (A 25) 0 (nI (V.1 0))) 1 (nI (V.1 3))) 2 (nI (V.1 1))) 3 (0)) 4 (nI (V.1 5))) 5 (V.2.1)) 6 (nI (V.1 2))) 0 = nI (V.1 0) := by unfold va_up; rw [if_neg (by decide), if_neg (by decide), if_neg (by decide), if_neg (by decide), if_neg (by decide), if_neg (by decide), if_pos rfl]
      have e1 : (va_up (va_up (va_up (va_up (va_up (va_up (va_up (A 25) 0 (nI (V.1 0))) 1 (nI (V.1 3))) 2 (nI (V.1 1))) 3 (0)) 4 (nI (V.1 5))) 5 (V.2.1)) 6 (nI (V.1 2))) 1 = nI (V.1 3) := by unfold va_up; rw [if_neg (by decide), if_neg (by decide), if_neg (by decide), if_neg (by decide), if_neg (by decide), if_pos rfl]
      have e2 : (va_up (va_up (va_up (va_up (va_up (va_up (va_up (A 25) 0 (nI (V.1 0))) 1 (nI (V.1 3))) 2 (nI (V.1 1))) 3 (0)) 4 (nI (V.1 5))) 5 (V.2.1)) 6 (nI (V.1 2))) 2 = nI (V.1 1) := by unfold va_up; rw [if_neg (by decide), if_neg (by decide), if_neg (by decide), if_neg (by decide), if_pos rfl]
      have e3 : (va_up (va_up (va_up (va_up (va_up (va_up (va_up (A 25) 0 (nI (V.1 0))) 1 (nI (V.1 3))) 2 (nI (V.1 1))) 3 (0)) 4 (nI (V.1 5))) 5 (V.2.1)) 6 (nI (V.1 2))) 3 = nI (V.1 4) := by unfold va_up; rw [if_neg (by decide), if_neg (by decide), if_neg (by decide), if_pos rfl]; exact rx
      have e4 : (va_up (va_up (va_up (va_up (va_up (va_up (va_up (A 25) 0 (nI (V.1 0))) 1 (nI (V.1 3))) 2 (nI (V.1 1))) 3 (0)) 4 (nI (V.1 5))) 5 (V.2.1)) 6 (nI (V.1 2))) 4 = nI (V.1 5) := by unfold va_up; rw [if_neg (by decide), if_neg (by decide), if_pos rfl]
      have e5 : (va_up (va_up (va_up (va_up (va_up (va_up (va_up (A 25) 0 (nI (V.1 0))) 1 (nI (V.1 3))) 2 (nI (V.1 1))) 3 (0)) 4 (nI (V.1 5))) 5 (V.2.1)) 6 (nI (V.1 2))) 5 = V.2.1 := by unfold va_up; rw [if_neg (by decide), if_pos rfl]
      have e6 : (va_up (va_up (va_up (va_up (va_up (va_up (va_up (A 25) 0 (nI (V.1 0))) 1 (nI (V.1 3))) 2 (nI (V.1 1))) 3 (0)) 4 (nI (V.1 5))) 5 (V.2.1)) 6 (nI (V.1 2))) 6 = nI (V.1 2) := by unfold va_up; rw [if_pos rfl]
      exact ⟨e0, e1, e2, e3, e4, e5, e6⟩
  · have rx : (1 : Int32) = nI (V.1 4) := by rw [r1]; rfl
    refine x_aload_n dX12_moveAll_0 rfl ?_
    refine x_iconst (v := 0) dX12_moveAll_1 (by decide) ?_
    refine x_put (fs' := mF m V (va_up s 25 (nI 0)) l) fX12_422 mo (Nat.le_of_ble_eq_true rfl) rfl rfl rfl dX12_moveAll_2 ?_
    refine x_aload_n dX12_moveAll_5 rfl ?_
    refine x_get fX12_90 hset_s rfl dX12_moveAll_6 ?_
    refine x_iconst (v := 0) dX12_moveAll_9 (by decide) ?_
    refine x_aload_n dX12_moveAll_10 rfl ?_
    refine x_get fX12_97 hset_s rfl dX12_moveAll_11 ?_
    refine x_iast 0 ((hset_n (by omega)).trans m26) rfl (by decide) (by decide) dX12_moveAll_14 ?_
    refine x_aload_n dX12_moveAll_15 rfl ?_
    refine x_get fX12_90 ((hset_n (by omega)).trans hset_s) rfl dX12_moveAll_16 ?_
    refine x_iconst (v := 1) dX12_moveAll_19 (by decide) ?_
    refine x_aload_n dX12_moveAll_20 rfl ?_
    refine x_get fX12_103 ((hset_n (by omega)).trans hset_s) rfl dX12_moveAll_21 ?_
    refine x_iast 1 hset_s rfl (by decide) (by decide) dX12_moveAll_24 ?_
    refine x_aload_n dX12_moveAll_25 rfl ?_
    refine x_get fX12_90 ((hset_n (by omega)).trans ((hset_n (by omega)).trans hset_s)) rfl dX12_moveAll_26 ?_
    refine x_iconst (v := 2) dX12_moveAll_29 (by decide) ?_
    refine x_aload_n dX12_moveAll_30 rfl ?_
    refine x_get fX12_100 ((hset_n (by omega)).trans ((hset_n (by omega)).trans hset_s)) rfl dX12_moveAll_31 ?_
    refine x_iast 2 hset_s rfl (by decide) (by decide) dX12_moveAll_34 ?_
    refine x_aload_n dX12_moveAll_35 rfl ?_
    refine x_get fX12_90 ((hset_n (by omega)).trans ((hset_n (by omega)).trans ((hset_n (by omega)).trans hset_s))) rfl dX12_moveAll_36 ?_
    refine x_iconst (v := 3) dX12_moveAll_39 (by decide) ?_
    refine x_aload_n dX12_moveAll_40 rfl ?_
    refine x_get fX12_224 ((hset_n (by omega)).trans ((hset_n (by omega)).trans ((hset_n (by omega)).trans hset_s))) rfl dX12_moveAll_41 ?_
    refine x_if_eq_f 51 dX12_moveAll_44 (by decide) (by rw [r1]; decide) ?_
    refine x_iconst (v := 1) dX12_moveAll_47 (by decide) ?_
    refine x_goto 52 dX12_moveAll_48 (by decide) ?_
    refine x_iast 3 hset_s rfl (by decide) (by decide) dX12_moveAll_52 ?_
    refine x_aload_n dX12_moveAll_53 rfl ?_
    refine x_get fX12_90 ((hset_n (by omega)).trans ((hset_n (by omega)).trans ((hset_n (by omega)).trans ((hset_n (by omega)).trans hset_s)))) rfl dX12_moveAll_54 ?_
    refine x_iconst (v := 4) dX12_moveAll_57 (by decide) ?_
    refine x_aload_n dX12_moveAll_58 rfl ?_
    refine x_get fX12_227 ((hset_n (by omega)).trans ((hset_n (by omega)).trans ((hset_n (by omega)).trans ((hset_n (by omega)).trans hset_s)))) rfl dX12_moveAll_59 ?_
    refine x_iast 4 hset_s rfl (by decide) (by decide) dX12_moveAll_62 ?_
    refine x_aload_n dX12_moveAll_63 rfl ?_
    refine x_get fX12_90 ((hset_n (by omega)).trans ((hset_n (by omega)).trans ((hset_n (by omega)).trans ((hset_n (by omega)).trans ((hset_n (by omega)).trans hset_s))))) rfl dX12_moveAll_64 ?_
    refine x_iconst (v := 5) dX12_moveAll_67 (by decide) ?_
    refine x_aload_n dX12_moveAll_68 rfl ?_
    refine x_get fX12_25 ((hset_n (by omega)).trans ((hset_n (by omega)).trans ((hset_n (by omega)).trans ((hset_n (by omega)).trans ((hset_n (by omega)).trans hset_s))))) rfl dX12_moveAll_69 ?_
    refine x_iast 5 hset_s rfl (by decide) (by decide) dX12_moveAll_72 ?_
    refine x_aload_n dX12_moveAll_73 rfl ?_
    refine x_get fX12_90 ((hset_n (by omega)).trans ((hset_n (by omega)).trans ((hset_n (by omega)).trans ((hset_n (by omega)).trans ((hset_n (by omega)).trans ((hset_n (by omega)).trans hset_s)))))) rfl dX12_moveAll_74 ?_
    refine x_bipush (v := 6) dX12_moveAll_77 (by decide) ?_
    refine x_aload_n dX12_moveAll_79 rfl ?_
    refine x_get fX12_339 ((hset_n (by omega)).trans ((hset_n (by omega)).trans ((hset_n (by omega)).trans ((hset_n (by omega)).trans ((hset_n (by omega)).trans ((hset_n (by omega)).trans hset_s)))))) rfl dX12_moveAll_80 ?_
    refine x_iast 6 hset_s rfl (by decide) (by decide) dX12_moveAll_83 ?_
    refine kk _ _ (((((((hm.num.int (i := 25) rfl).int (i := 25) rfl).int (i := 25) rfl).int (i := 25) rfl).int (i := 25) rfl).int (i := 25) rfl).int (i := 25) rfl) ((((((((Fr.set (by omega) (by omega)).tr (Fr.set (by omega) (by omega))).tr (Fr.set (by omega) (by omega))).tr (Fr.set (by omega) (by omega))).tr (Fr.set (by omega) (by omega))).tr (Fr.set (by omega) (by omega))).tr (Fr.set (by omega) (by omega))).tr (Fr.set (by omega) (by omega))) (fun i hi => ?_) ?_
    · rw [va_up_ne _ _ hi, va_up_ne _ _ hi, va_up_ne _ _ hi, va_up_ne _ _ hi, va_up_ne _ _ hi, va_up_ne _ _ hi, va_up_ne _ _ hi]
    · have e0 : (va_up (va_up (va_up (va_up (va_up (va_up (va_up (A 25) 0 (nI (V.1 0))) 1 (nI (V.1 3))) 2 (nI (V.1 1))) 3 (1)) 4 (nI (V.1 5))) 5 (V.2.1)) 6 (nI (V.1 2))) 0 = nI (V.1 0) := by unfold va_up; rw [if_neg (by decide), if_neg (by decide), if_neg (by decide), if_neg (by decide), if_neg (by decide), if_neg (by decide), if_pos rfl]
      have e1 : (va_up (va_up (va_up (va_up (va_up (va_up (va_up (A 25) 0 (nI (V.1 0))) 1 (nI (V.1 3))) 2 (nI (V.1 1))) 3 (1)) 4 (nI (V.1 5))) 5 (V.2.1)) 6 (nI (V.1 2))) 1 = nI (V.1 3) := by unfold va_up; rw [if_neg (by decide), if_neg (by decide), if_neg (by decide), if_neg (by decide), if_neg (by decide), if_pos rfl]
      have e2 : (va_up (va_up (va_up (va_up (va_up (va_up (va_up (A 25) 0 (nI (V.1 0))) 1 (nI (V.1 3))) 2 (nI (V.1 1))) 3 (1)) 4 (nI (V.1 5))) 5 (V.2.1)) 6 (nI (V.1 2))) 2 = nI (V.1 1) := by unfold va_up; rw [if_neg (by decide), if_neg (by decide), if_neg (by decide), if_neg (by decide), if_pos rfl]
      have e3 : (va_up (va_up (va_up (va_up (va_up (va_up (va_up (A 25) 0 (nI (V.1 0))) 1 (nI (V.1 3))) 2 (nI (V.1 1))) 3 (1)) 4 (nI (V.1 5))) 5 (V.2.1)) 6 (nI (V.1 2))) 3 = nI (V.1 4) := by unfold va_up; rw [if_neg (by decide), if_neg (by decide), if_neg (by decide), if_pos rfl]; exact rx
      have e4 : (va_up (va_up (va_up (va_up (va_up (va_up (va_up (A 25) 0 (nI (V.1 0))) 1 (nI (V.1 3))) 2 (nI (V.1 1))) 3 (1)) 4 (nI (V.1 5))) 5 (V.2.1)) 6 (nI (V.1 2))) 4 = nI (V.1 5) := by unfold va_up; rw [if_neg (by decide), if_neg (by decide), if_pos rfl]
      have e5 : (va_up (va_up (va_up (va_up (va_up (va_up (va_up (A 25) 0 (nI (V.1 0))) 1 (nI (V.1 3))) 2 (nI (V.1 1))) 3 (1)) 4 (nI (V.1 5))) 5 (V.2.1)) 6 (nI (V.1 2))) 5 = V.2.1 := by unfold va_up; rw [if_neg (by decide), if_pos rfl]
      have e6 : (va_up (va_up (va_up (va_up (va_up (va_up (va_up (A 25) 0 (nI (V.1 0))) 1 (nI (V.1 3))) 2 (nI (V.1 1))) 3 (1)) 4 (nI (V.1 5))) 5 (V.2.1)) 6 (nI (V.1 2))) 6 = nI (V.1 2) := by unfold va_up; rw [if_pos rfl]
      exact ⟨e0, e1, e2, e3, e4, e5, e6⟩
set_option maxRecDepth 10000 in
set_option maxHeartbeats 2000000 in
theorem c_X12_moveAll_k {g : gG} {h : gH} {m : Nat} {V : VS} {s : Nat → Int32} {l : Nat → Int64} {A : Nat → Nat → Int32} {B : Nat → Nat → Int64} (hm : MM h m V s l A B) (hr1 : V.1 4 ≤ 1) : Ct g mX12_moveAll [.ref m, .int 1] h none (fun h' => ∃ s' A', MM h' m V s' l A' B ∧ Fr m 27 h h' ∧ (∀ i, i ≠ 25 → s' i = s i) ∧ (∀ i, i ≠ 24 → i ≠ 25 → A' i = A i) ∧ (∀ i, i < 6 → ∀ j, j < mlen i → A' 24 (kof i + j) = A i j) ∧ (A' 24 0 = nI (V.1 0) ∧ A' 24 1 = nI (V.1 3) ∧ A' 24 2 = nI (V.1 1) ∧ A' 24 3 = nI (V.1 4) ∧ A' 24 4 = nI (V.1 5) ∧ A' 24 5 = V.2.1 ∧ A' 24 6 = nI (V.1 2))) := by
  refine Cn.of (L := [some (.ref m), some (.int 1)]) (by decide) (Nat.le_of_ble_eq_true rfl) rfl ?_
  refine ma84 hm hr1 (fun h0 a0 hm0 F0 y0 z0 => ?_)
  obtain ⟨s0, es⟩ : ∃ z, z = va_up s 25 (nI 0) := ⟨_, rfl⟩
  have t0 : s0 25 = nI 0 := by rw [es, va_up_self]
  rw [← es] at hm0
  refine x_aload_n dX12_moveAll_84 rfl ?_
  refine x_aload_n dX12_moveAll_85 rfl ?_
  refine x_get fX12_90 hm0.1 rfl dX12_moveAll_86 ?_
  refine x_bipush (v := 7) dX12_moveAll_89 (by decide) ?_
  refine x_iload_n dX12_moveAll_91 rfl ?_
  refine x_cnV (mrK (c := 25) (n1 := 7) (t := 0) (s := s0) (A := a0) (by decide) rfl (by decide) (by decide) (by decide) hm0 t0) hm0.1 lkX12_moveRow sX12_425 dX12_moveAll_92 rfl rfl (Nat.le_of_ble_eq_true rfl) (by decide) ⟨rfl, rfl, by decide, by decide⟩ ?_
  rintro h1 ⟨hm1, F1⟩
  obtain ⟨s1, es⟩ : ∃ z, z = va_up s0 25 (nI (0 + 7)) := ⟨_, rfl⟩
  obtain ⟨a1, ea⟩ : ∃ z, z = va_up a0 24 (kf (a0 24) (a0 25) 0 7) := ⟨_, rfl⟩
  rw [← es, ← ea] at hm1
  have t1 : s1 25 = nI 7 := by rw [es, va_up_self]
  have x1 : ∀ i, i ≠ 25 → s1 i = s0 i := fun i hi => by rw [es, va_up_ne _ _ hi]
  have y1 : ∀ i, i ≠ 24 → a1 i = a0 i := fun i hi => by rw [ea, va_up_ne _ _ hi]
  have b1 : a1 24 = kf (a0 24) (a0 25) 0 7 := by rw [ea, va_up_self]
  clear es ea
  refine x_aload_n dX12_moveAll_95 rfl ?_
  refine x_aload_n dX12_moveAll_96 rfl ?_
  refine x_get fX12_7 hm1.1 rfl dX12_moveAll_97 ?_
  refine x_bipush (v := 40) dX12_moveAll_100 (by decide) ?_
  refine x_iload_n dX12_moveAll_102 rfl ?_
  refine x_cnV (mrK (c := 0) (n1 := 40) (t := 7) (s := s1) (A := a1) (by decide) rfl (by decide) (by decide) (by decide) hm1 t1) hm1.1 lkX12_moveRow sX12_425 dX12_moveAll_103 rfl rfl (Nat.le_of_ble_eq_true rfl) (by decide) ⟨rfl, rfl, by decide, by decide⟩ ?_
  rintro h2 ⟨hm2, F2⟩
  obtain ⟨s2, es⟩ : ∃ z, z = va_up s1 25 (nI (7 + 40)) := ⟨_, rfl⟩
  obtain ⟨a2, ea⟩ : ∃ z, z = va_up a1 24 (kf (a1 24) (a1 0) 7 40) := ⟨_, rfl⟩
  rw [← es, ← ea] at hm2
  have t2 : s2 25 = nI 47 := by rw [es, va_up_self]
  have x2 : ∀ i, i ≠ 25 → s2 i = s1 i := fun i hi => by rw [es, va_up_ne _ _ hi]
  have y2 : ∀ i, i ≠ 24 → a2 i = a1 i := fun i hi => by rw [ea, va_up_ne _ _ hi]
  have b2 : a2 24 = kf (a1 24) (a1 0) 7 40 := by rw [ea, va_up_self]
  clear es ea
  refine x_aload_n dX12_moveAll_106 rfl ?_
  refine x_aload_n dX12_moveAll_107 rfl ?_
  refine x_get fX12_13 hm2.1 rfl dX12_moveAll_108 ?_
  refine x_iconst (v := 4) dX12_moveAll_111 (by decide) ?_
  refine x_iload_n dX12_moveAll_112 rfl ?_
  refine x_cnV (mrK (c := 1) (n1 := 4) (t := 47) (s := s2) (A := a2) (by decide) rfl (by decide) (by decide) (by decide) hm2 t2) hm2.1 lkX12_moveRow sX12_425 dX12_moveAll_113 rfl rfl (Nat.le_of_ble_eq_true rfl) (by decide) ⟨rfl, rfl, by decide, by decide⟩ ?_
  rintro h3 ⟨hm3, F3⟩
  obtain ⟨s3, es⟩ : ∃ z, z = va_up s2 25 (nI (47 + 4)) := ⟨_, rfl⟩
  obtain ⟨a3, ea⟩ : ∃ z, z = va_up a2 24 (kf (a2 24) (a2 1) 47 4) := ⟨_, rfl⟩
  rw [← es, ← ea] at hm3
  have t3 : s3 25 = nI 51 := by rw [es, va_up_self]
  have x3 : ∀ i, i ≠ 25 → s3 i = s2 i := fun i hi => by rw [es, va_up_ne _ _ hi]
  have y3 : ∀ i, i ≠ 24 → a3 i = a2 i := fun i hi => by rw [ea, va_up_ne _ _ hi]
  have b3 : a3 24 = kf (a2 24) (a2 1) 47 4 := by rw [ea, va_up_self]
  clear es ea
  refine x_aload_n dX12_moveAll_116 rfl ?_
  refine x_aload_n dX12_moveAll_117 rfl ?_
  refine x_get fX12_16 hm3.1 rfl dX12_moveAll_118 ?_
  refine x_iconst (v := 4) dX12_moveAll_121 (by decide) ?_
  refine x_iload_n dX12_moveAll_122 rfl ?_
  refine x_cnV (mrK (c := 2) (n1 := 4) (t := 51) (s := s3) (A := a3) (by decide) rfl (by decide) (by decide) (by decide) hm3 t3) hm3.1 lkX12_moveRow sX12_425 dX12_moveAll_123 rfl rfl (Nat.le_of_ble_eq_true rfl) (by decide) ⟨rfl, rfl, by decide, by decide⟩ ?_
  rintro h4 ⟨hm4, F4⟩
  obtain ⟨s4, es⟩ : ∃ z, z = va_up s3 25 (nI (51 + 4)) := ⟨_, rfl⟩
  obtain ⟨a4, ea⟩ : ∃ z, z = va_up a3 24 (kf (a3 24) (a3 2) 51 4) := ⟨_, rfl⟩
  rw [← es, ← ea] at hm4
  have t4 : s4 25 = nI 55 := by rw [es, va_up_self]
  have x4 : ∀ i, i ≠ 25 → s4 i = s3 i := fun i hi => by rw [es, va_up_ne _ _ hi]
  have y4 : ∀ i, i ≠ 24 → a4 i = a3 i := fun i hi => by rw [ea, va_up_ne _ _ hi]
  have b4 : a4 24 = kf (a3 24) (a3 2) 51 4 := by rw [ea, va_up_self]
  clear es ea
  refine x_aload_n dX12_moveAll_126 rfl ?_
  refine x_aload_n dX12_moveAll_127 rfl ?_
  refine x_get fX12_19 hm4.1 rfl dX12_moveAll_128 ?_
  refine x_iconst (v := 4) dX12_moveAll_131 (by decide) ?_
  refine x_iload_n dX12_moveAll_132 rfl ?_
  refine x_cnV (mrK (c := 3) (n1 := 4) (t := 55) (s := s4) (A := a4) (by decide) rfl (by decide) (by decide) (by decide) hm4 t4) hm4.1 lkX12_moveRow sX12_425 dX12_moveAll_133 rfl rfl (Nat.le_of_ble_eq_true rfl) (by decide) ⟨rfl, rfl, by decide, by decide⟩ ?_
  rintro h5 ⟨hm5, F5⟩
  obtain ⟨s5, es⟩ : ∃ z, z = va_up s4 25 (nI (55 + 4)) := ⟨_, rfl⟩
  obtain ⟨a5, ea⟩ : ∃ z, z = va_up a4 24 (kf (a4 24) (a4 3) 55 4) := ⟨_, rfl⟩
  rw [← es, ← ea] at hm5
  have t5 : s5 25 = nI 59 := by rw [es, va_up_self]
  have x5 : ∀ i, i ≠ 25 → s5 i = s4 i := fun i hi => by rw [es, va_up_ne _ _ hi]
  have y5 : ∀ i, i ≠ 24 → a5 i = a4 i := fun i hi => by rw [ea, va_up_ne _ _ hi]
  have b5 : a5 24 = kf (a4 24) (a4 3) 55 4 := by rw [ea, va_up_self]
  clear es ea
  refine x_aload_n dX12_moveAll_136 rfl ?_
  refine x_aload_n dX12_moveAll_137 rfl ?_
  refine x_get fX12_22 hm5.1 rfl dX12_moveAll_138 ?_
  refine x_bipush (v := 8) dX12_moveAll_141 (by decide) ?_
  refine x_iload_n dX12_moveAll_143 rfl ?_
  refine x_cnV (mrK (c := 4) (n1 := 8) (t := 59) (s := s5) (A := a5) (by decide) rfl (by decide) (by decide) (by decide) hm5 t5) hm5.1 lkX12_moveRow sX12_425 dX12_moveAll_144 rfl rfl (Nat.le_of_ble_eq_true rfl) (by decide) ⟨rfl, rfl, by decide, by decide⟩ ?_
  rintro h6 ⟨hm6, F6⟩
  obtain ⟨s6, es⟩ : ∃ z, z = va_up s5 25 (nI (59 + 8)) := ⟨_, rfl⟩
  obtain ⟨a6, ea⟩ : ∃ z, z = va_up a5 24 (kf (a5 24) (a5 4) 59 8) := ⟨_, rfl⟩
  rw [← es, ← ea] at hm6
  have t6 : s6 25 = nI 67 := by rw [es, va_up_self]
  have x6 : ∀ i, i ≠ 25 → s6 i = s5 i := fun i hi => by rw [es, va_up_ne _ _ hi]
  have y6 : ∀ i, i ≠ 24 → a6 i = a5 i := fun i hi => by rw [ea, va_up_ne _ _ hi]
  have b6 : a6 24 = kf (a5 24) (a5 4) 59 8 := by rw [ea, va_up_self]
  clear es ea
  refine x_aload_n dX12_moveAll_147 rfl ?_
  refine x_aload_n dX12_moveAll_148 rfl ?_
  refine x_get fX12_29 hm6.1 rfl dX12_moveAll_149 ?_
  refine x_bipush (v := 8) dX12_moveAll_152 (by decide) ?_
  refine x_iload_n dX12_moveAll_154 rfl ?_
  refine x_cnV (mrK (c := 5) (n1 := 8) (t := 67) (s := s6) (A := a6) (by decide) rfl (by decide) (by decide) (by decide) hm6 t6) hm6.1 lkX12_moveRow sX12_425 dX12_moveAll_155 rfl rfl (Nat.le_of_ble_eq_true rfl) (by decide) ⟨rfl, rfl, by decide, by decide⟩ ?_
  rintro h7 ⟨hm7, F7⟩
  obtain ⟨s7, es⟩ : ∃ z, z = va_up s6 25 (nI (67 + 8)) := ⟨_, rfl⟩
  obtain ⟨a7, ea⟩ : ∃ z, z = va_up a6 24 (kf (a6 24) (a6 5) 67 8) := ⟨_, rfl⟩
  rw [← es, ← ea] at hm7
  have t7 : s7 25 = nI 75 := by rw [es, va_up_self]
  have x7 : ∀ i, i ≠ 25 → s7 i = s6 i := fun i hi => by rw [es, va_up_ne _ _ hi]
  have y7 : ∀ i, i ≠ 24 → a7 i = a6 i := fun i hi => by rw [ea, va_up_ne _ _ hi]
  have b7 : a7 24 = kf (a6 24) (a6 5) 67 8 := by rw [ea, va_up_self]
  clear es ea
  refine x_vret rfl dX12_moveAll_158 ⟨by decide, by decide⟩ ?_
  refine ⟨rfl, s7, a7, hm7, F0.tr (((((((F1.tr F2).tr F3).tr F4).tr F5).tr F6).tr F7)), fun i hi => (((fun i hi => ((((((x7 i hi).trans (x6 i hi)).trans (x5 i hi)).trans (x4 i hi)).trans (x3 i hi)).trans (x2 i hi)).trans (x1 i hi)) i hi).trans (by rw [es, va_up_ne _ _ hi])), fun i h1 h2 => (((((((y7 i h1).trans (y6 i h1)).trans (y5 i h1)).trans (y4 i h1)).trans (y3 i h1)).trans (y2 i h1)).trans (y1 i h1)).trans (y0 i h2), fun i hi j hj => ?_, ?_⟩
  · rcases (show i = 0 ∨ i = 1 ∨ i = 2 ∨ i = 3 ∨ i = 4 ∨ i = 5 by omega) with rfl | rfl | rfl | rfl | rfl | rfl
    · have hj : j < 40 := hj
      show a7 24 (7 + j) = A 0 j
      rw [← y0 0 (by decide)]
      rw [b7, b6, b5, b4, b3, b2, b1]
      unfold kf
      rw [if_neg (by omega), if_neg (by omega), if_neg (by omega), if_neg (by omega), if_neg (by omega), if_pos (by omega)]
      rw [show 7 + j - 7 = j by omega, y1 0 (by decide)]
    · have hj : j < 4 := hj
      show a7 24 (47 + j) = A 1 j
      rw [← y0 1 (by decide)]
      rw [b7, b6, b5, b4, b3, b2, b1]
      unfold kf
      rw [if_neg (by omega), if_neg (by omega), if_neg (by omega), if_neg (by omega), if_pos (by omega)]
      rw [show 47 + j - 47 = j by omega, y2 1 (by decide), y1 1 (by decide)]
    · have hj : j < 4 := hj
      show a7 24 (51 + j) = A 2 j
      rw [← y0 2 (by decide)]
      rw [b7, b6, b5, b4, b3, b2, b1]
      unfold kf
      rw [if_neg (by omega), if_neg (by omega), if_neg (by omega), if_pos (by omega)]
      rw [show 51 + j - 51 = j by omega, y3 2 (by decide), y2 2 (by decide), y1 2 (by decide)]
    · have hj : j < 4 := hj
      show a7 24 (55 + j) = A 3 j
      rw [← y0 3 (by decide)]
      rw [b7, b6, b5, b4, b3, b2, b1]
      unfold kf
      rw [if_neg (by omega), if_neg (by omega), if_pos (by omega)]
      rw [show 55 + j - 55 = j by omega, y4 3 (by decide), y3 3 (by decide), y2 3 (by decide), y1 3 (by decide)]
    · have hj : j < 8 := hj
      show a7 24 (59 + j) = A 4 j
      rw [← y0 4 (by decide)]
      rw [b7, b6, b5, b4, b3, b2, b1]
      unfold kf
      rw [if_neg (by omega), if_pos (by omega)]
      rw [show 59 + j - 59 = j by omega, y5 4 (by decide), y4 4 (by decide), y3 4 (by decide), y2 4 (by decide), y1 4 (by decide)]
    · have hj : j < 8 := hj
      show a7 24 (67 + j) = A 5 j
      rw [← y0 5 (by decide)]
      rw [b7, b6, b5, b4, b3, b2, b1]
      unfold kf
      rw [if_pos (by omega)]
      rw [show 67 + j - 67 = j by omega, y6 5 (by decide), y5 5 (by decide), y4 5 (by decide), y3 5 (by decide), y2 5 (by decide), y1 5 (by decide)]
  · rw [b7, b6, b5, b4, b3, b2, b1]
    unfold kf
    simp only [show ∀ x : Nat, x - 0 = x from fun _ => rfl]
    exact ⟨z0.1, z0.2.1, z0.2.2.1, z0.2.2.2.1, z0.2.2.2.2.1, z0.2.2.2.2.2.1, z0.2.2.2.2.2.2⟩
set_option maxRecDepth 10000 in
set_option maxHeartbeats 2000000 in
theorem c_X12_moveAll_r {g : gG} {h : gH} {m : Nat} {V : VS} {s : Nat → Int32} {l : Nat → Int64} {A : Nat → Nat → Int32} {B : Nat → Nat → Int64} (hm : MM h m V s l A B) (hr1 : V.1 4 ≤ 1) : Ct g mX12_moveAll [.ref m, .int 0] h none (fun h' => ∃ s' A', MM h' m V s' l A' B ∧ Fr m 27 h h' ∧ (∀ i, i ≠ 25 → s' i = s i) ∧ (∀ i, 6 ≤ i → i ≠ 25 → A' i = A i) ∧ (∀ i, i < 6 → ∀ j, j < mlen i → A' i j = A 24 (kof i + j)) ∧ ∀ j, j < 7 → A' 25 j = A 24 j) := by
  refine Cn.of (L := [some (.ref m), some (.int 0)]) (by decide) (Nat.le_of_ble_eq_true rfl) rfl ?_
  refine ma84 hm hr1 (fun h0 a0 hm0 F0 y0 z0 => ?_)
  obtain ⟨s0, es⟩ : ∃ z, z = va_up s 25 (nI 0) := ⟨_, rfl⟩
  have t0 : s0 25 = nI 0 := by rw [es, va_up_self]
  rw [← es] at hm0
  refine x_aload_n dX12_moveAll_84 rfl ?_
  refine x_aload_n dX12_moveAll_85 rfl ?_
  refine x_get fX12_90 hm0.1 rfl dX12_moveAll_86 ?_
  refine x_bipush (v := 7) dX12_moveAll_89 (by decide) ?_
  refine x_iload_n dX12_moveAll_91 rfl ?_
  refine x_cnV (mrR (c := 25) (n1 := 7) (t := 0) (s := s0) (A := a0) (by decide) rfl (by decide) (by decide) (by decide) hm0 t0) hm0.1 lkX12_moveRow sX12_425 dX12_moveAll_92 rfl rfl (Nat.le_of_ble_eq_true rfl) (by decide) ⟨rfl, rfl, by decide, by decide⟩ ?_
  rintro h1 ⟨hm1, F1⟩
  obtain ⟨s1, es⟩ : ∃ z, z = va_up s0 25 (nI (0 + 7)) := ⟨_, rfl⟩
  obtain ⟨a1, ea⟩ : ∃ z, z = va_up a0 25 (rf (a0 25) (a0 24) 0 7) := ⟨_, rfl⟩
  rw [← es, ← ea] at hm1
  have t1 : s1 25 = nI 7 := by rw [es, va_up_self]
  have x1 : ∀ i, i ≠ 25 → s1 i = s0 i := fun i hi => by rw [es, va_up_ne _ _ hi]
  have y1 : ∀ i, i ≠ 25 → a1 i = a0 i := fun i hi => by rw [ea, va_up_ne _ _ hi]
  have b1 : a1 25 = rf (a0 25) (a0 24) 0 7 := by rw [ea, va_up_self]
  clear es ea
  refine x_aload_n dX12_moveAll_95 rfl ?_
  refine x_aload_n dX12_moveAll_96 rfl ?_
  refine x_get fX12_7 hm1.1 rfl dX12_moveAll_97 ?_
  refine x_bipush (v := 40) dX12_moveAll_100 (by decide) ?_
  refine x_iload_n dX12_moveAll_102 rfl ?_
  refine x_cnV (mrR (c := 0) (n1 := 40) (t := 7) (s := s1) (A := a1) (by decide) rfl (by decide) (by decide) (by decide) hm1 t1) hm1.1 lkX12_moveRow sX12_425 dX12_moveAll_103 rfl rfl (Nat.le_of_ble_eq_true rfl) (by decide) ⟨rfl, rfl, by decide, by decide⟩ ?_
  rintro h2 ⟨hm2, F2⟩
  obtain ⟨s2, es⟩ : ∃ z, z = va_up s1 25 (nI (7 + 40)) := ⟨_, rfl⟩
  obtain ⟨a2, ea⟩ : ∃ z, z = va_up a1 0 (rf (a1 0) (a1 24) 7 40) := ⟨_, rfl⟩
  rw [← es, ← ea] at hm2
  have t2 : s2 25 = nI 47 := by rw [es, va_up_self]
  have x2 : ∀ i, i ≠ 25 → s2 i = s1 i := fun i hi => by rw [es, va_up_ne _ _ hi]
  have y2 : ∀ i, i ≠ 0 → a2 i = a1 i := fun i hi => by rw [ea, va_up_ne _ _ hi]
  have b2 : a2 0 = rf (a1 0) (a1 24) 7 40 := by rw [ea, va_up_self]
  clear es ea
  refine x_aload_n dX12_moveAll_106 rfl ?_
  refine x_aload_n dX12_moveAll_107 rfl ?_
  refine x_get fX12_13 hm2.1 rfl dX12_moveAll_108 ?_
  refine x_iconst (v := 4) dX12_moveAll_111 (by decide) ?_
  refine x_iload_n dX12_moveAll_112 rfl ?_
  refine x_cnV (mrR (c := 1) (n1 := 4) (t := 47) (s := s2) (A := a2) (by decide) rfl (by decide) (by decide) (by decide) hm2 t2) hm2.1 lkX12_moveRow sX12_425 dX12_moveAll_113 rfl rfl (Nat.le_of_ble_eq_true rfl) (by decide) ⟨rfl, rfl, by decide, by decide⟩ ?_
  rintro h3 ⟨hm3, F3⟩
  obtain ⟨s3, es⟩ : ∃ z, z = va_up s2 25 (nI (47 + 4)) := ⟨_, rfl⟩
  obtain ⟨a3, ea⟩ : ∃ z, z = va_up a2 1 (rf (a2 1) (a2 24) 47 4) := ⟨_, rfl⟩
  rw [← es, ← ea] at hm3
  have t3 : s3 25 = nI 51 := by rw [es, va_up_self]
  have x3 : ∀ i, i ≠ 25 → s3 i = s2 i := fun i hi => by rw [es, va_up_ne _ _ hi]
  have y3 : ∀ i, i ≠ 1 → a3 i = a2 i := fun i hi => by rw [ea, va_up_ne _ _ hi]
  have b3 : a3 1 = rf (a2 1) (a2 24) 47 4 := by rw [ea, va_up_self]
  clear es ea
  refine x_aload_n dX12_moveAll_116 rfl ?_
  refine x_aload_n dX12_moveAll_117 rfl ?_
  refine x_get fX12_16 hm3.1 rfl dX12_moveAll_118 ?_
  refine x_iconst (v := 4) dX12_moveAll_121 (by decide) ?_
  refine x_iload_n dX12_moveAll_122 rfl ?_
  refine x_cnV (mrR (c := 2) (n1 := 4) (t := 51) (s := s3) (A := a3) (by decide) rfl (by decide) (by decide) (by decide) hm3 t3) hm3.1 lkX12_moveRow sX12_425 dX12_moveAll_123 rfl rfl (Nat.le_of_ble_eq_true rfl) (by decide) ⟨rfl, rfl, by decide, by decide⟩ ?_
  rintro h4 ⟨hm4, F4⟩
  obtain ⟨s4, es⟩ : ∃ z, z = va_up s3 25 (nI (51 + 4)) := ⟨_, rfl⟩
  obtain ⟨a4, ea⟩ : ∃ z, z = va_up a3 2 (rf (a3 2) (a3 24) 51 4) := ⟨_, rfl⟩
  rw [← es, ← ea] at hm4
  have t4 : s4 25 = nI 55 := by rw [es, va_up_self]
  have x4 : ∀ i, i ≠ 25 → s4 i = s3 i := fun i hi => by rw [es, va_up_ne _ _ hi]
  have y4 : ∀ i, i ≠ 2 → a4 i = a3 i := fun i hi => by rw [ea, va_up_ne _ _ hi]
  have b4 : a4 2 = rf (a3 2) (a3 24) 51 4 := by rw [ea, va_up_self]
  clear es ea
  refine x_aload_n dX12_moveAll_126 rfl ?_
  refine x_aload_n dX12_moveAll_127 rfl ?_
  refine x_get fX12_19 hm4.1 rfl dX12_moveAll_128 ?_
  refine x_iconst (v := 4) dX12_moveAll_131 (by decide) ?_
  refine x_iload_n dX12_moveAll_132 rfl ?_
  refine x_cnV (mrR (c := 3) (n1 := 4) (t := 55) (s := s4) (A := a4) (by decide) rfl (by decide) (by decide) (by decide) hm4 t4) hm4.1 lkX12_moveRow sX12_425 dX12_moveAll_133 rfl rfl (Nat.le_of_ble_eq_true rfl) (by decide) ⟨rfl, rfl, by decide, by decide⟩ ?_
  rintro h5 ⟨hm5, F5⟩
  obtain ⟨s5, es⟩ : ∃ z, z = va_up s4 25 (nI (55 + 4)) := ⟨_, rfl⟩
  obtain ⟨a5, ea⟩ : ∃ z, z = va_up a4 3 (rf (a4 3) (a4 24) 55 4) := ⟨_, rfl⟩
  rw [← es, ← ea] at hm5
  have t5 : s5 25 = nI 59 := by rw [es, va_up_self]
  have x5 : ∀ i, i ≠ 25 → s5 i = s4 i := fun i hi => by rw [es, va_up_ne _ _ hi]
  have y5 : ∀ i, i ≠ 3 → a5 i = a4 i := fun i hi => by rw [ea, va_up_ne _ _ hi]
  have b5 : a5 3 = rf (a4 3) (a4 24) 55 4 := by rw [ea, va_up_self]
  clear es ea
  refine x_aload_n dX12_moveAll_136 rfl ?_
  refine x_aload_n dX12_moveAll_137 rfl ?_
  refine x_get fX12_22 hm5.1 rfl dX12_moveAll_138 ?_
  refine x_bipush (v := 8) dX12_moveAll_141 (by decide) ?_
  refine x_iload_n dX12_moveAll_143 rfl ?_
  refine x_cnV (mrR (c := 4) (n1 := 8) (t := 59) (s := s5) (A := a5) (by decide) rfl (by decide) (by decide) (by decide) hm5 t5) hm5.1 lkX12_moveRow sX12_425 dX12_moveAll_144 rfl rfl (Nat.le_of_ble_eq_true rfl) (by decide) ⟨rfl, rfl, by decide, by decide⟩ ?_
  rintro h6 ⟨hm6, F6⟩
  obtain ⟨s6, es⟩ : ∃ z, z = va_up s5 25 (nI (59 + 8)) := ⟨_, rfl⟩
  obtain ⟨a6, ea⟩ : ∃ z, z = va_up a5 4 (rf (a5 4) (a5 24) 59 8) := ⟨_, rfl⟩
  rw [← es, ← ea] at hm6
  have t6 : s6 25 = nI 67 := by rw [es, va_up_self]
  have x6 : ∀ i, i ≠ 25 → s6 i = s5 i := fun i hi => by rw [es, va_up_ne _ _ hi]
  have y6 : ∀ i, i ≠ 4 → a6 i = a5 i := fun i hi => by rw [ea, va_up_ne _ _ hi]
  have b6 : a6 4 = rf (a5 4) (a5 24) 59 8 := by rw [ea, va_up_self]
  clear es ea
  refine x_aload_n dX12_moveAll_147 rfl ?_
  refine x_aload_n dX12_moveAll_148 rfl ?_
  refine x_get fX12_29 hm6.1 rfl dX12_moveAll_149 ?_
  refine x_bipush (v := 8) dX12_moveAll_152 (by decide) ?_
  refine x_iload_n dX12_moveAll_154 rfl ?_
  refine x_cnV (mrR (c := 5) (n1 := 8) (t := 67) (s := s6) (A := a6) (by decide) rfl (by decide) (by decide) (by decide) hm6 t6) hm6.1 lkX12_moveRow sX12_425 dX12_moveAll_155 rfl rfl (Nat.le_of_ble_eq_true rfl) (by decide) ⟨rfl, rfl, by decide, by decide⟩ ?_
  rintro h7 ⟨hm7, F7⟩
  obtain ⟨s7, es⟩ : ∃ z, z = va_up s6 25 (nI (67 + 8)) := ⟨_, rfl⟩
  obtain ⟨a7, ea⟩ : ∃ z, z = va_up a6 5 (rf (a6 5) (a6 24) 67 8) := ⟨_, rfl⟩
  rw [← es, ← ea] at hm7
  have t7 : s7 25 = nI 75 := by rw [es, va_up_self]
  have x7 : ∀ i, i ≠ 25 → s7 i = s6 i := fun i hi => by rw [es, va_up_ne _ _ hi]
  have y7 : ∀ i, i ≠ 5 → a7 i = a6 i := fun i hi => by rw [ea, va_up_ne _ _ hi]
  have b7 : a7 5 = rf (a6 5) (a6 24) 67 8 := by rw [ea, va_up_self]
  clear es ea
  refine x_vret rfl dX12_moveAll_158 ⟨by decide, by decide⟩ ?_
  refine ⟨rfl, s7, a7, hm7, F0.tr (((((((F1.tr F2).tr F3).tr F4).tr F5).tr F6).tr F7)), fun i hi => (((fun i hi => ((((((x7 i hi).trans (x6 i hi)).trans (x5 i hi)).trans (x4 i hi)).trans (x3 i hi)).trans (x2 i hi)).trans (x1 i hi)) i hi).trans (by rw [es, va_up_ne _ _ hi])), fun i h1 h2 => by rw [y7 i (by omega), y6 i (by omega), y5 i (by omega), y4 i (by omega), y3 i (by omega), y2 i (by omega), y1 i h2, y0 i h2], fun i hi j hj => ?_, fun j hj => ?_⟩
  · rcases (show i = 0 ∨ i = 1 ∨ i = 2 ∨ i = 3 ∨ i = 4 ∨ i = 5 by omega) with rfl | rfl | rfl | rfl | rfl | rfl
    · have hj : j < 40 := hj
      show a7 0 j = A 24 (7 + j)
      rw [y7 0 (by decide), y6 0 (by decide), y5 0 (by decide), y4 0 (by decide), y3 0 (by decide), b2]
      unfold rf
      rw [if_pos hj, y1 24 (by decide), y0 24 (by decide)]
    · have hj : j < 4 := hj
      show a7 1 j = A 24 (47 + j)
      rw [y7 1 (by decide), y6 1 (by decide), y5 1 (by decide), y4 1 (by decide), b3]
      unfold rf
      rw [if_pos hj, y2 24 (by decide), y1 24 (by decide), y0 24 (by decide)]
    · have hj : j < 4 := hj
      show a7 2 j = A 24 (51 + j)
      rw [y7 2 (by decide), y6 2 (by decide), y5 2 (by decide), b4]
      unfold rf
      rw [if_pos hj, y3 24 (by decide), y2 24 (by decide), y1 24 (by decide), y0 24 (by decide)]
    · have hj : j < 4 := hj
      show a7 3 j = A 24 (55 + j)
      rw [y7 3 (by decide), y6 3 (by decide), b5]
      unfold rf
      rw [if_pos hj, y4 24 (by decide), y3 24 (by decide), y2 24 (by decide), y1 24 (by decide), y0 24 (by decide)]
    · have hj : j < 8 := hj
      show a7 4 j = A 24 (59 + j)
      rw [y7 4 (by decide), b6]
      unfold rf
      rw [if_pos hj, y5 24 (by decide), y4 24 (by decide), y3 24 (by decide), y2 24 (by decide), y1 24 (by decide), y0 24 (by decide)]
    · have hj : j < 8 := hj
      show a7 5 j = A 24 (67 + j)
      rw [b7]
      unfold rf
      rw [if_pos hj, y6 24 (by decide), y5 24 (by decide), y4 24 (by decide), y3 24 (by decide), y2 24 (by decide), y1 24 (by decide), y0 24 (by decide)]
  · rw [y7 25 (by decide), y6 25 (by decide), y5 25 (by decide), y4 25 (by decide), y3 25 (by decide), y2 25 (by decide), b1]
    unfold rf
    rw [if_pos hj, y0 24 (by decide), Nat.zero_add]
theorem rpV.cg {V : VS} {A A' : Nat → Nat → Int32} (hv : rpV V A) (h : ∀ i, i < 6 → ∀ j, j < mlen i → A' i j = A i j) : rpV V A' := by
  have ok := hv.1.1
  refine ⟨hv.1, fun f p hf hp => ?_, fun w hw => ?_, fun c hc => ?_, fun r hr => ?_⟩
  · rw [h 0 (by decide) _ (show 5 * p + f < 40 by omega)]; exact hv.2.1 f p hf hp
  · rw [h 1 (by decide) _ (show w < 4 by omega), h 2 (by decide) _ (show w < 4 by omega), h 3 (by decide) _ (show w < 4 by omega)]; exact hv.2.2.1 w hw
  · rw [h 4 (by decide) _ (show c < 8 by omega)]; exact hv.2.2.2.1 c hc
  · rw [h 5 (by decide) _ (show 2 * r < 8 by omega), h 5 (by decide) _ (show 2 * r + 1 < 8 by omega)]; exact hv.2.2.2.2 r hr
theorem rpO.cg {S S' : AS} {s s' : Nat → Int32} {A A' : Nat → Nat → Int32} {B : Nat → Nat → Int64} (hr : rpO S s A B) (e : S'.2.2 = S.2.2) (h7 : s' 7 = s 7) (h18 : s' 18 = s 18) (h22 : s' 22 = s 22) (h : ∀ i, 6 ≤ i → i < 24 → A' i = A i) (hk : rpK S'.2.1 s' A') : rpO S' s' A' B := by
  obtain ⟨_, ⟨t1, t2, t3⟩, ⟨r1, r2, r3⟩, hH, hL, ⟨q1, q2, q3⟩⟩ := hr
  unfold rpO
  rw [e]
  refine ⟨hk, ⟨t1, h7.trans t2, by rw [h 6 (by decide) (by decide)]; exact t3⟩, ⟨r1, h18.trans r2, by rw [h 15 (by decide) (by decide)]; exact r3⟩, fun i hi => ?_, fun i hi => ?_, ⟨q1, h22.trans q2, by rw [h 23 (by decide) (by decide)]; exact q3⟩⟩
  · rw [h 17 (by decide) (by decide), h 18 (by decide) (by decide)]; exact hH i hi
  · rw [h 20 (by decide) (by decide), h 21 (by decide) (by decide), h 22 (by decide) (by decide)]; exact hL i hi
set_option maxRecDepth 10000 in
set_option maxHeartbeats 2000000 in
theorem c_X12_keep {g : gG} {h : gH} {m : Nat} {S : AS} (hn : isN h m S) : Ct g mX12_keep [.ref m] h (some (.int (oKeep S).1)) (Pn m (oKeep S).2 h) := by
  obtain ⟨hz, s, l, A, B, hm, hv, hr⟩ := id hn
  have mo := hm.1
  have ok8 : S.1.1 0 ≤ 8 := hv.1.1.1
  have ok4 : S.1.1 1 ≤ 4 := hv.1.1.2.1
  have okr : S.1.1 2 ≤ 4 := hv.1.1.2.2
  have t256 : S.1.1 3 < 256 := lt256 hv.1.2.1 hv.1.1.1
  refine Cn.of (L := [some (.ref m)]) (by decide) (Nat.le_of_ble_eq_true rfl) rfl ?_
  refine x_aload_n dX12_keep_0 rfl ?_
  refine x_iconst (v := 1) dX12_keep_1 (by decide) ?_
  refine x_cnV (c_X12_moveAll_k hm hv.1.2.2.1) mo lkX12_moveAll sX12_429 dX12_keep_2 rfl rfl (Nat.le_of_ble_eq_true rfl) (by decide) ⟨rfl, rfl, by decide, by decide⟩ ?_
  rintro h1 ⟨s1, A1, hm1, F1, x1, y1, z1, k1⟩
  refine x_aload_n dX12_keep_5 rfl ?_
  refine x_iconst (v := 1) dX12_keep_6 (by decide) ?_
  refine x_put (fs' := mF m S.1 (va_up s1 24 (nI 1)) l) fX12_433 hm1.1 (Nat.le_of_ble_eq_true rfl) rfl rfl rfl dX12_keep_7 ?_
  refine x_iconst (v := 1) dX12_keep_10 (by decide) ?_
  refine x_iret rfl dX12_keep_11 ⟨by decide, by decide⟩ ?_
  refine fnA (S' := (S.1, (1, S.1), S.2.2)) (isN.of hz hm1.num (hv.cg (fun i hi j hj => by rw [y1 i (by omega) (by omega)])) (hr.cg rfl (x1 7 (by decide)) (x1 18 (by decide)) (x1 22 (by decide)) (fun i h1 h2 => y1 i (by omega) (by omega)) ⟨⟨Nat.le_refl 1, va_up_self _ _ _⟩, fun _ => ⟨hv.cg (fun i hi j hj => z1 i hi j hj), k1⟩⟩) (F1.tr (Fr.set (by omega) (by omega)))) rfl
set_option maxRecDepth 10000 in
set_option maxHeartbeats 2000000 in
theorem c_X12_again {g : gG} {h : gH} {m : Nat} {S : AS} (hn : isN h m S) : Ct g mX12_again [.ref m] h (some (.int (oAgain S).1)) (Pn m (oAgain S).2 h) := by
  obtain ⟨hz, s, l, A, B, hm, hv, hr⟩ := id hn
  have mo := hm.1
  have ok8 : S.1.1 0 ≤ 8 := hv.1.1.1
  have ok4 : S.1.1 1 ≤ 4 := hv.1.1.2.1
  have okr : S.1.1 2 ≤ 4 := hv.1.1.2.2
  have t256 : S.1.1 3 < 256 := lt256 hv.1.2.1 hv.1.1.1
  refine Cn.of (L := [some (.ref m)]) (by decide) (Nat.le_of_ble_eq_true rfl) rfl ?_
  refine x_aload_n dX12_again_0 rfl ?_
  refine x_get fX12_433 mo rfl dX12_again_1 ?_
  rw [hr.1.1.2]
  refine x_if_ne 10 dX12_again_4 (by decide) (fun c4 => ?_) (fun c4 => ?_)
  · have k1 : S.2.1.1 = 1 := by have := hr.1.1.1; have : ¬ S.2.1.1 = 0 := fun z => c4 (by rw [z]; rfl); omega
    obtain ⟨kv, k0⟩ := hr.1.2 k1
    refine x_aload_n dX12_again_10 rfl ?_
    refine x_iconst (v := 0) dX12_again_11 (by decide) ?_
    refine x_cnV (c_X12_moveAll_r hm hv.1.2.2.1) mo lkX12_moveAll sX12_429 dX12_again_12 rfl rfl (Nat.le_of_ble_eq_true rfl) (by decide) ⟨rfl, rfl, by decide, by decide⟩ ?_
    rintro h1 ⟨s1, A1, hm1, F1, x1, y1, z1, w1⟩
    have m26 : h1.1 (m + 26) = some (.inl (0, 7, .inl (A1 25))) := hm1.2 25 (by decide)
    refine x_aload_n dX12_again_15 rfl ?_
    refine x_aload_n dX12_again_16 rfl ?_
    refine x_get fX12_90 hm1.1 rfl dX12_again_17 ?_
    refine x_iconst (v := 0) dX12_again_20 (by decide) ?_
    refine x_iald 0 m26 rfl (by decide) (by decide) dX12_again_21 ?_
    rw [w1 0 (by decide), k0.1]
    refine x_put (fs' := mF m ((va_up S.1.1 0 (S.2.1.2.1 0)), S.1.2.1, S.1.2.2) s1 l) fX12_97 hm1.1 (Nat.le_of_ble_eq_true rfl) rfl rfl rfl dX12_again_22 ?_
    refine x_aload_n dX12_again_25 rfl ?_
    refine x_aload_n dX12_again_26 rfl ?_
    refine x_get fX12_90 hset_s rfl dX12_again_27 ?_
    refine x_iconst (v := 1) dX12_again_30 (by decide) ?_
    refine x_iald 1 ((hset_n (by omega)).trans m26) rfl (by decide) (by decide) dX12_again_31 ?_
    rw [w1 1 (by decide), k0.2.1]
    refine x_put (fs' := mF m ((va_up (va_up S.1.1 0 (S.2.1.2.1 0)) 3 (S.2.1.2.1 3)), S.1.2.1, S.1.2.2) s1 l) fX12_103 hset_s (Nat.le_of_ble_eq_true rfl) rfl rfl rfl dX12_again_32 ?_
    refine x_aload_n dX12_again_35 rfl ?_
    refine x_aload_n dX12_again_36 rfl ?_
    refine x_get fX12_90 hset_s rfl dX12_again_37 ?_
    refine x_iconst (v := 2) dX12_again_40 (by decide) ?_
    refine x_iald 2 ((hset_n (by omega)).trans ((hset_n (by omega)).trans m26)) rfl (by decide) (by decide) dX12_again_41 ?_
    rw [w1 2 (by decide), k0.2.2.1]
    refine x_put (fs' := mF m ((va_up (va_up (va_up S.1.1 0 (S.2.1.2.1 0)) 3 (S.2.1.2.1 3)) 1 (S.2.1.2.1 1)), S.1.2.1, S.1.2.2) s1 l) fX12_100 hset_s (Nat.le_of_ble_eq_true rfl) rfl rfl rfl dX12_again_42 ?_
    refine x_aload_n dX12_again_45 rfl ?_
    refine x_aload_n dX12_again_46 rfl ?_
    refine x_get fX12_90 hset_s rfl dX12_again_47 ?_
    refine x_iconst (v := 3) dX12_again_50 (by decide) ?_
    refine x_iald 3 ((hset_n (by omega)).trans ((hset_n (by omega)).trans ((hset_n (by omega)).trans m26))) rfl (by decide) (by decide) dX12_again_51 ?_
    rw [w1 3 (by decide), k0.2.2.2.1]
    refine x_iconst (v := 1) dX12_again_52 (by decide) ?_
    refine x_icmp_ne 60 dX12_again_53 (by decide) (fun c53 => ?_) (fun c53 => ?_)
    · have e4 : S.2.1.2.1 4 = 0 := by have := kv.1.2.2.1; have : ¬ S.2.1.2.1 4 = 1 := fun z => c53 (by rw [z]; rfl); omega
      refine x_iconst (v := 0) dX12_again_60 (by decide) ?_
      rw [show (0 : Int32) = nI (S.2.1.2.1 4) by rw [e4]; rfl]
      refine x_put (fs' := mF m ((va_up (va_up (va_up (va_up S.1.1 0 (S.2.1.2.1 0)) 3 (S.2.1.2.1 3)) 1 (S.2.1.2.1 1)) 4 (S.2.1.2.1 4)), S.1.2.1, S.1.2.2) s1 l) fX12_224 hset_s (Nat.le_of_ble_eq_true rfl) (by rw [e4]; rfl) (by rw [e4]; rfl) rfl dX12_again_61 ?_
      refine x_aload_n dX12_again_64 rfl ?_
      refine x_aload_n dX12_again_65 rfl ?_
      refine x_get fX12_90 hset_s rfl dX12_again_66 ?_
      refine x_iconst (v := 4) dX12_again_69 (by decide) ?_
      refine x_iald 4 ((hset_n (by omega)).trans ((hset_n (by omega)).trans ((hset_n (by omega)).trans ((hset_n (by omega)).trans m26)))) rfl (by decide) (by decide) dX12_again_70 ?_
      rw [w1 4 (by decide), k0.2.2.2.2.1]
      refine x_put (fs' := mF m ((va_up (va_up (va_up (va_up (va_up S.1.1 0 (S.2.1.2.1 0)) 3 (S.2.1.2.1 3)) 1 (S.2.1.2.1 1)) 4 (S.2.1.2.1 4)) 5 (S.2.1.2.1 5)), S.1.2.1, S.1.2.2) s1 l) fX12_227 hset_s (Nat.le_of_ble_eq_true rfl) rfl rfl rfl dX12_again_71 ?_
      refine x_aload_n dX12_again_74 rfl ?_
      refine x_aload_n dX12_again_75 rfl ?_
      refine x_get fX12_90 hset_s rfl dX12_again_76 ?_
      refine x_iconst (v := 5) dX12_again_79 (by decide) ?_
      refine x_iald 5 ((hset_n (by omega)).trans ((hset_n (by omega)).trans ((hset_n (by omega)).trans ((hset_n (by omega)).trans ((hset_n (by omega)).trans m26))))) rfl (by decide) (by decide) dX12_again_80 ?_
      rw [w1 5 (by decide), k0.2.2.2.2.2.1]
      refine x_put (fs' := mF m ((va_up (va_up (va_up (va_up (va_up S.1.1 0 (S.2.1.2.1 0)) 3 (S.2.1.2.1 3)) 1 (S.2.1.2.1 1)) 4 (S.2.1.2.1 4)) 5 (S.2.1.2.1 5)), S.2.1.2.2.1, S.1.2.2) s1 l) fX12_25 hset_s (Nat.le_of_ble_eq_true rfl) rfl rfl rfl dX12_again_81 ?_
      refine x_aload_n dX12_again_84 rfl ?_
      refine x_aload_n dX12_again_85 rfl ?_
      refine x_get fX12_90 hset_s rfl dX12_again_86 ?_
      refine x_bipush (v := 6) dX12_again_89 (by decide) ?_
      refine x_iald 6 ((hset_n (by omega)).trans ((hset_n (by omega)).trans ((hset_n (by omega)).trans ((hset_n (by omega)).trans ((hset_n (by omega)).trans ((hset_n (by omega)).trans m26)))))) rfl (by decide) (by decide) dX12_again_91 ?_
      rw [w1 6 (by decide), k0.2.2.2.2.2.2]
      refine x_put (fs' := mF m S.2.1.2 s1 l) fX12_339 hset_s (Nat.le_of_ble_eq_true rfl) rfl rfl rfl dX12_again_92 ?_
      refine x_aload_n dX12_again_95 rfl ?_
      refine x_get fX12_97 hset_s rfl dX12_again_96 ?_
      refine x_iret rfl dX12_again_99 ⟨by decide, by decide⟩ ?_
      refine fnA (S' := (S.2.1.2, S.2)) (isN.of hz (hm1.num.num.num.num.num.num.num (V' := S.2.1.2)) (kv.cg (fun i hi j hj => z1 i hi j hj)) (hr.cg rfl (x1 7 (by decide)) (x1 18 (by decide)) (x1 22 (by decide)) (fun i h1 h2 => y1 i h1 (by omega)) ⟨⟨hr.1.1.1, (x1 24 (by decide)).trans hr.1.1.2⟩, fun q => by rw [show A1 24 = A 24 from y1 24 (by decide) (by decide)]; exact hr.1.2 q⟩) (((((((F1.tr (Fr.set (by omega) (by omega))).tr (Fr.set (by omega) (by omega))).tr (Fr.set (by omega) (by omega))).tr (Fr.set (by omega) (by omega))).tr (Fr.set (by omega) (by omega))).tr (Fr.set (by omega) (by omega))).tr (Fr.set (by omega) (by omega)))) ?_
      (rw [oAgain, if_pos k1]) <;> rfl
    · have e4 : S.2.1.2.1 4 = 1 := nI_eqn (b := 1) (by have := kv.1.2.2.1; omega) (by decide) c53
      refine x_iconst (v := 1) dX12_again_56 (by decide) ?_
      refine x_goto 61 dX12_again_57 (by decide) ?_
      rw [show (1 : Int32) = nI (S.2.1.2.1 4) by rw [e4]; rfl]
      refine x_put (fs' := mF m ((va_up (va_up (va_up (va_up S.1.1 0 (S.2.1.2.1 0)) 3 (S.2.1.2.1 3)) 1 (S.2.1.2.1 1)) 4 (S.2.1.2.1 4)), S.1.2.1, S.1.2.2) s1 l) fX12_224 hset_s (Nat.le_of_ble_eq_true rfl) (by rw [e4]; rfl) (by rw [e4]; rfl) rfl dX12_again_61 ?_
      refine x_aload_n dX12_again_64 rfl ?_
      refine x_aload_n dX12_again_65 rfl ?_
      refine x_get fX12_90 hset_s rfl dX12_again_66 ?_
      refine x_iconst (v := 4) dX12_again_69 (by decide) ?_
      refine x_iald 4 ((hset_n (by omega)).trans ((hset_n (by omega)).trans ((hset_n (by omega)).trans ((hset_n (by omega)).trans m26)))) rfl (by decide) (by decide) dX12_again_70 ?_
      rw [w1 4 (by decide), k0.2.2.2.2.1]
      refine x_put (fs' := mF m ((va_up (va_up (va_up (va_up (va_up S.1.1 0 (S.2.1.2.1 0)) 3 (S.2.1.2.1 3)) 1 (S.2.1.2.1 1)) 4 (S.2.1.2.1 4)) 5 (S.2.1.2.1 5)), S.1.2.1, S.1.2.2) s1 l) fX12_227 hset_s (Nat.le_of_ble_eq_true rfl) rfl rfl rfl dX12_again_71 ?_
      refine x_aload_n dX12_again_74 rfl ?_
      refine x_aload_n dX12_again_75 rfl ?_
      refine x_get fX12_90 hset_s rfl dX12_again_76 ?_
      refine x_iconst (v := 5) dX12_again_79 (by decide) ?_
      refine x_iald 5 ((hset_n (by omega)).trans ((hset_n (by omega)).trans ((hset_n (by omega)).trans ((hset_n (by omega)).trans ((hset_n (by omega)).trans m26))))) rfl (by decide) (by decide) dX12_again_80 ?_
      rw [w1 5 (by decide), k0.2.2.2.2.2.1]
      refine x_put (fs' := mF m ((va_up (va_up (va_up (va_up (va_up S.1.1 0 (S.2.1.2.1 0)) 3 (S.2.1.2.1 3)) 1 (S.2.1.2.1 1)) 4 (S.2.1.2.1 4)) 5 (S.2.1.2.1 5)), S.2.1.2.2.1, S.1.2.2) s1 l) fX12_25 hset_s (Nat.le_of_ble_eq_true rfl) rfl rfl rfl dX12_again_81 ?_
      refine x_aload_n dX12_again_84 rfl ?_
      refine x_aload_n dX12_again_85 rfl ?_
      refine x_get fX12_90 hset_s rfl dX12_again_86 ?_
      refine x_bipush (v := 6) dX12_again_89 (by decide) ?_
      refine x_iald 6 ((hset_n (by omega)).trans ((hset_n (by omega)).trans ((hset_n (by omega)).trans ((hset_n (by omega)).trans ((hset_n (by omega)).trans ((hset_n (by omega)).trans m26)))))) rfl (by decide) (by decide) dX12_again_91 ?_
      rw [w1 6 (by decide), k0.2.2.2.2.2.2]
      refine x_put (fs' := mF m S.2.1.2 s1 l) fX12_339 hset_s (Nat.le_of_ble_eq_true rfl) rfl rfl rfl dX12_again_92 ?_
      refine x_aload_n dX12_again_95 rfl ?_
      refine x_get fX12_97 hset_s rfl dX12_again_96 ?_
      refine x_iret rfl dX12_again_99 ⟨by decide, by decide⟩ ?_
      refine fnA (S' := (S.2.1.2, S.2)) (isN.of hz (hm1.num.num.num.num.num.num.num (V' := S.2.1.2)) (kv.cg (fun i hi j hj => z1 i hi j hj)) (hr.cg rfl (x1 7 (by decide)) (x1 18 (by decide)) (x1 22 (by decide)) (fun i h1 h2 => y1 i h1 (by omega)) ⟨⟨hr.1.1.1, (x1 24 (by decide)).trans hr.1.1.2⟩, fun q => by rw [show A1 24 = A 24 from y1 24 (by decide) (by decide)]; exact hr.1.2 q⟩) (((((((F1.tr (Fr.set (by omega) (by omega))).tr (Fr.set (by omega) (by omega))).tr (Fr.set (by omega) (by omega))).tr (Fr.set (by omega) (by omega))).tr (Fr.set (by omega) (by omega))).tr (Fr.set (by omega) (by omega))).tr (Fr.set (by omega) (by omega)))) ?_
      (rw [oAgain, if_pos k1]) <;> rfl
  · refine x_bipush (v := -3) dX12_again_7 (by decide) ?_
    refine x_iret rfl dX12_again_9 ⟨by decide, by decide⟩ ?_
    exact fnA hn.rf (by rw [oAgain, if_neg (fun z => by rw [z] at c4; exact absurd c4 (by decide))] <;> rfl)
