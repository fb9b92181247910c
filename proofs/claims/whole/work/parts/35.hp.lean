def byN (e : Int64) (k : Nat) : Nat := e.toBitVec.toNat / 2 ^ (8 * k) % 256
theorem l2i_N (m : Nat) : (lN m).toInt32 = nI m := Int64.toInt32_ofNat'
theorem byI (e : Int64) {k : Nat} (hk : k < 8) : ((e.toUInt64 >>> ((nI (8 * k)).toInt64.toUInt64 &&& Int64.toUInt64 63)).toInt64.toInt32.toInt8.toInt32).toInt8.toInt32 &&& 255 = nI (byN e k) := by
  obtain ⟨m, hm, rfl⟩ := wb_of e
  rw [wb_shr hm (by omega), l2i_N, bp_b, bp_b]
  rw [show (255 : Int32) = nI (2 ^ 8 - 1) from rfl, fa_mask, byN, wb_tn hm]
theorem m8 (k : Nat) : (8 : Int32) * nI k = nI (8 * k) := pk_mul 8 k
def tkT (T : Nat × (Nat → Nat)) (e : Int64) (n : Nat) : Nat × (Nat → Nat) := (T.1 + n, fun i => if i < T.1 then T.2 i else byN e (i - T.1))
abbrev tF (t : Nat) (l : Int32) (s0 s1 s2 s3 s4 : Int32) : List Value := [.ref (t + 1), .int l, .int s0, .int s1, .int s2, .int s3, .int s4]
set_option maxRecDepth 10000 in
set_option maxHeartbeats 2000000 in
theorem c_X6_take {g : gG} {h : gH} {t n1 : Nat} {T : Nat × (Nat → Nat)} {e : Int64} (ht : isT h t T) (hn : n1 ≤ 8) : Ct g mX6_take [.ref t, .long e, .int (nI n1)] h (some (.int (if T.1 + n1 ≤ 240 then nI (T.1 + n1) else -2))) (fun h' => isT h' t (if T.1 + n1 ≤ 240 then tkT T e n1 else T) ∧ Fr t 2 h h') := by
  obtain ⟨tl, ⟨s0, s1, s2, s3, s4, t0⟩, b, t1, tb⟩ := id ht
  have le240 : nI T.1 + nI n1 ≤ 240 ↔ T.1 + n1 ≤ 240 := by rw [nI_add]; exact nI_leI (b := 240) (by omega) (by decide)
  refine Cn.of (L := [some (.ref t), some (.long e), none, some (.int (nI n1)), none]) (by decide) (Nat.le_of_ble_eq_true rfl) rfl ?_
  refine x_aload_n dX6_take_0 rfl ?_
  refine x_get fX6_15 t0 rfl dX6_take_1 ?_
  refine x_iload_n dX6_take_4 rfl ?_
  refine x_iadd dX6_take_5 ?_
  refine x_sipush (v := 240) dX6_take_6 (by decide) ?_
  refine x_icmp_le 15 dX6_take_9 (by decide) (fun c9 => ?_) (fun c9 => ?_)
  · have c9 : T.1 + n1 ≤ 240 := le240.mp c9
    refine x_iconst (v := 0) dX6_take_15 (by decide) ?_
    refine x_ist_4 dX6_take_16 (by decide) rfl ?_
    refine lp_up (P := fun i => ∀ h1 b1, h1.1 t = some (.inr (6, tF t (nI (T.1 + i)) s0 s1 s2 s3 s4)) → h1.1 (t + 1) = some (.inl (2, 240, .inl b1)) → (∀ j, j < T.1 + i → (tkT T e i).2 j < 256 ∧ b1 j &&& 255 = nI ((tkT T e i).2 j)) → Fr t 2 h h1 → Ex g mX6_take _ 18 [some (.ref t), some (.long e), none, some (.int (nI n1)), some (.int (nI i))] [] h1 0 0) n1 (fun i hi ih h1 b1 e1 e2 hj F1 => ?_) (fun h1 b1 e1 e2 hj F1 => ?_) 0 (Nat.zero_le _) h b t0 t1 (fun j q => by rw [show (tkT T e 0).2 j = T.2 j from if_pos (by omega)]; exact tb j (by omega)) Fr.rf
    · refine x_iload dX6_take_18 rfl ?_
      refine x_iload_n dX6_take_20 rfl ?_
      refine x_icmp_ge_f 58 dX6_take_21 (by decide) (ge_f rfl hi (by omega)) ?_
      refine x_aload_n dX6_take_24 rfl ?_
      refine x_get fX6_9 e1 rfl dX6_take_25 ?_
      refine x_aload_n dX6_take_28 rfl ?_
      refine x_get fX6_15 e1 rfl dX6_take_29 ?_
      refine x_lload_n dX6_take_32 rfl ?_
      refine x_bipush (v := 8) dX6_take_33 (by decide) ?_
      refine x_iload dX6_take_35 rfl ?_
      refine x_imul dX6_take_37 ?_
      rw [m8]
      refine x_lushr dX6_take_38 ?_
      refine x_l2i dX6_take_39 ?_
      refine x_i2b dX6_take_40 ?_
      refine x_bast (T.1 + i) e2 rfl (by omega) (by decide) dX6_take_41 ?_
      refine x_aload_n dX6_take_42 rfl ?_
      refine x_dup dX6_take_43 rfl ?_
      refine x_get fX6_15 (show _ from (hset_n (by omega)).trans e1) rfl dX6_take_44 ?_
      refine x_iconst (v := 1) dX6_take_47 (by decide) ?_
      refine x_iadd dX6_take_48 ?_
      rw [nI_1]
      refine x_put (fs' := tF t (nI (T.1 + (i + 1))) s0 s1 s2 s3 s4) fX6_15 (show _ from (hset_n (by omega)).trans e1) (Nat.le_of_ble_eq_true rfl) rfl rfl rfl dX6_take_49 ?_
      refine x_inc_4  dX6_take_52 (by decide) (nI_inc _) rfl ?_
      refine x_goto 18 dX6_take_55 (by decide) ?_
      refine ih _ _ hset_s ((hset_n (by omega)).trans hset_s) (fun j hj1 => ?_) ((F1.tr (Fr.set (by omega) (by omega))).tr (Fr.set (by omega) (by omega)))
      by_cases q : j = T.1 + i
      · subst q
        rw [show (tkT T e (i + 1)).2 (T.1 + i) = byN e i from (if_neg (by omega)).trans (by rw [Nat.add_sub_cancel_left])]
        refine ⟨Nat.mod_lt _ (by decide), ?_⟩
        simp only [va_up, if_true]
        exact byI e (by omega)
      · simp only [va_up, if_neg q]
        exact hj j (by omega)
    · refine x_iload dX6_take_18 rfl ?_
      refine x_iload_n dX6_take_20 rfl ?_
      refine x_icmp_ge_t 58 dX6_take_21 (by decide) (ge_t rfl (by omega)) ?_
      refine x_aload_n dX6_take_58 rfl ?_
      refine x_get fX6_15 e1 rfl dX6_take_59 ?_
      refine x_iret rfl dX6_take_62 ⟨by decide, by decide⟩ ?_
      have l : T.1 + n1 ≤ 240 := c9
      exact ⟨by rw [if_pos l], by rw [if_pos l]; exact ⟨⟨l, ⟨s0, s1, s2, s3, s4, e1⟩, b1, e2, hj⟩, F1⟩⟩
  · have c9 : ¬ T.1 + n1 ≤ 240 := fun q => c9 (le240.mpr q)
    refine x_bipush (v := -2) dX6_take_12 (by decide) ?_
    refine x_iret rfl dX6_take_14 ⟨by decide, by decide⟩ ?_
    exact ⟨by rw [if_neg c9], by rw [if_neg c9]; exact ⟨ht, Fr.rf⟩⟩
def oFeed (S : AS) (e : Int64) (n : Int32) : Int32 × AS := if ¬ n < 1 ∧ n ≤ 8 then if S.2.2.1.1 + iN n ≤ 240 then (nI (S.2.2.1.1 + iN n), (S.1, S.2.1, tkT S.2.2.1 e (iN n), S.2.2.2)) else (-2, S) else (-1, S)
set_option maxRecDepth 10000 in
set_option maxHeartbeats 2000000 in
theorem c_X11_feed {g : gG} {h : gH} {x : Nat} {D : Nat → Prop} {S : AS} (hx : isX h x D S) {e : Int64} {n : Int32} : Ct g mX11_feed [.ref x, .long e, .int n] h (some (.int (oFeed S e n).1)) (Px x D (oFeed S e n).2 h) := by
  have ho := hx.2.1
  have hv := hx.2.2.1
  have n0 := hv.o
  have okw := hv.1

  have ht := hx.2.2.2.2.2.1
  obtain ⟨tl, ⟨s0, s1, s2, s3, s4, t0⟩, b, t1, tb⟩ := id ht
  refine Cn.of (L := [some (.ref x), some (.long e), none, some (.int n)]) (by decide) (Nat.le_of_ble_eq_true rfl) rfl ?_
  refine x_iload_n dX11_feed_0 rfl ?_
  refine x_iconst (v := 1) dX11_feed_1 (by decide) ?_
  refine x_icmp_lt 11 dX11_feed_2 (by decide) (fun c2 => ?_) (fun c2 => ?_)
  · refine x_iconst (v := -1) dX11_feed_11 (by decide) ?_
    refine x_iret rfl dX11_feed_12 ⟨by decide, by decide⟩ ?_
    exact finA hx.rf (by rw [oFeed, if_neg (fun q => q.1 c2)])
  · refine x_iload_n dX11_feed_5 rfl ?_
    refine x_bipush (v := 8) dX11_feed_6 (by decide) ?_
    refine x_icmp_le 13 dX11_feed_8 (by decide) (fun c8 => ?_) (fun c8 => ?_)
    · have c8x := c8
      obtain ⟨n1, hn, rfl⟩ := ut_E (b := 8) (v := n) (ut_p.mpr ⟨Int32.le_of_lt (Int32.lt_of_lt_of_le (by decide : (0 : Int32) < 1) (Int32.not_lt.mp c2)), c8x⟩) (by decide)
      refine x_aload_n dX11_feed_13 rfl ?_
      refine x_get fX11_25 ho rfl dX11_feed_14 ?_
      refine x_lload_n dX11_feed_17 rfl ?_
      refine x_iload_n dX11_feed_18 rfl ?_
      refine x_cvV (c_X6_take ht hn) t0 lkX6_take sX11_68 dX11_feed_19 rfl rfl (Nat.le_of_ble_eq_true rfl) (by decide) ⟨rfl, rfl, by decide, by decide⟩ ?_
      rintro h1 ⟨T1, F1⟩
      refine x_iret rfl dX11_feed_22 ⟨by decide, by decide⟩ ?_
      obtain ⟨x1, G1⟩ := hx.tp T1 F1
      by_cases l : S.2.2.1.1 + n1 ≤ 240
      · rw [if_pos l] at x1
        rw [if_pos l]
        exact finA ⟨x1, G1⟩ (by rw [oFeed, if_pos ⟨c2, c8x⟩, iN_nI (by omega), if_pos l])
      · rw [if_neg l] at x1
        rw [if_neg l]
        exact finA (S' := S) ⟨x1, G1⟩ (by rw [oFeed, if_pos ⟨c2, c8x⟩, iN_nI (by omega), if_neg l])
    · refine x_iconst (v := -1) dX11_feed_11 (by decide) ?_
      refine x_iret rfl dX11_feed_12 ⟨by decide, by decide⟩ ?_
      exact finA hx.rf (by rw [oFeed, if_neg (fun q => c8 q.2)])
