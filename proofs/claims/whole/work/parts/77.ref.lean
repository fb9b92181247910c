theorem fb_mul (c : Nat) (f : Nat → Nat) : ∀ n, fb_sm (fun u => c * f u) n = c * fb_sm f n
  | 0 => rfl
  | n + 1 => by rw [fb_sm_succ, fb_sm_succ, fb_mul c f n, Nat.mul_add]
theorem tb_low {a b k p : Nat} (h : a % 2 ^ k = b % 2 ^ k) (hp : p < k) : a.testBit p = b.testBit p := by
  have h1 : (a % 2 ^ k).testBit p = (b % 2 ^ k).testBit p := by rw [h]
  rw [Nat.testBit_mod_two_pow, Nat.testBit_mod_two_pow] at h1
  simpa [hp] using h1
theorem clr_eq (s k : Nat) : clr s k = s / 2 ^ (k + 1) * 2 ^ (k + 1) + s % 2 ^ k := by
  have hp := Nat.two_pow_pos k
  have e1 : s / 2 ^ k / 2 = s / 2 ^ (k + 1) := by rw [Nat.div_div_eq_div_mul, ← Nat.pow_succ]
  have e2 := Nat.div_add_mod s (2 ^ k)
  have e3 := Nat.div_add_mod (s / 2 ^ k) 2
  have tb : s.testBit k = decide (s / 2 ^ k % 2 = 1) := Nat.testBit_eq_decide_div_mod_eq
  obtain ⟨q, hq⟩ : ∃ q, q = s / 2 ^ k := ⟨_, rfl⟩
  obtain ⟨r, hr⟩ : ∃ r, r = s % 2 ^ k := ⟨_, rfl⟩
  rw [← e1]
  rw [← hq, ← hr] at e2
  rw [← hq] at e3 tb
  rw [← hq, ← hr, Nat.pow_succ]
  unfold clr
  have e4 : q / 2 * (2 ^ k * 2) = 2 ^ k * (2 * (q / 2)) := by rw [Nat.mul_comm, Nat.mul_assoc]
  rw [e4]
  by_cases h : q % 2 = 1
  · rw [if_pos (by rw [tb]; exact decide_eq_true h)]
    have e5 : 2 ^ k * q = 2 ^ k * (2 * (q / 2)) + 2 ^ k := by
      rw [show q = 2 * (q / 2) + 1 by omega]
      rw [show (2 * (q / 2) + 1) / 2 = q / 2 by omega, Nat.mul_add, Nat.mul_one]
    omega
  · rw [if_neg (by rw [tb]; exact fun z => h (of_decide_eq_true z))]
    have e5 : 2 ^ k * q = 2 ^ k * (2 * (q / 2)) := by rw [show 2 * (q / 2) = q by omega]
    omega
theorem mxs_sum {g t x : Nat → Nat} : ∀ k s, mxs g t x k s = fb_sm (fun u => x (s / 2 ^ k * 2 ^ k + u) * cwt (fun p => if s.testBit p then t p else g p) u k) (2 ^ k)
  | 0, s => by
    show x s = fb_sm _ 1
    rw [fb_sm_succ]
    show x s = 0 + x (s / 1 * 1 + 0) * 1
    simp
  | k + 1, s => by
    have hp := Nat.two_pow_pos k
    obtain ⟨H, hH⟩ : ∃ H, H = s / 2 ^ (k + 1) * 2 ^ (k + 1) := ⟨_, rfl⟩
    obtain ⟨c, hc⟩ : ∃ c : Nat → Nat, c = fun p => if s.testBit p then t p else g p := ⟨_, rfl⟩
    have hH2 : ∃ d, H = 2 ^ k * d := ⟨s / 2 ^ (k + 1) * 2, by
      rw [hH]
      obtain ⟨X, hX⟩ : ∃ X, X = s / 2 ^ (k + 1) := ⟨_, rfl⟩
      rw [← hX, Nat.pow_succ, ← Nat.mul_assoc, Nat.mul_comm X, Nat.mul_assoc]⟩
    obtain ⟨d, hd⟩ := hH2
    have rl : s % 2 ^ k < 2 ^ k := Nat.mod_lt _ hp
    have low : ∀ e, (2 ^ k * e + s % 2 ^ k) / 2 ^ k * 2 ^ k = 2 ^ k * e ∧ (2 ^ k * e + s % 2 ^ k) % 2 ^ k = s % 2 ^ k := fun e => by
      rw [Nat.mul_add_div hp, Nat.div_eq_of_lt rl, Nat.add_zero, Nat.mul_add_mod, Nat.mod_mod]
      exact ⟨Nat.mul_comm _ _, rfl⟩
    have cw : ∀ e u, cwt (fun p => if (2 ^ k * e + s % 2 ^ k).testBit p then t p else g p) u k = cwt c u k := fun e u => by
      have : ∀ n, n ≤ k → cwt (fun p => if (2 ^ k * e + s % 2 ^ k).testBit p then t p else g p) u n = cwt c u n := by
        intro n
        induction n with
        | zero => intro _; rfl
        | succ n ih =>
          intro hn
          rw [cwt, cwt, ih (by omega), hc]
          have e1 : (2 ^ k * e + s % 2 ^ k).testBit n = s.testBit n := tb_low (k := k) (low e).2 (by omega)
          simp only [e1]
      exact this k (Nat.le_refl _)
    show mx k (g k) (t k) (mxs g t x k) s = _
    unfold mx
    rw [clr_eq, ← hH, ← hc, hd, show 2 ^ k * d + s % 2 ^ k + 2 ^ k = 2 ^ k * (d + 1) + s % 2 ^ k by rw [Nat.mul_add, Nat.mul_one]; omega]
    rw [mxs_sum k (2 ^ k * d + s % 2 ^ k), mxs_sum k (2 ^ k * (d + 1) + s % 2 ^ k)]
    simp only [cw, (low d).1, (low (d + 1)).1]
    rw [show (if s.testBit k = true then t k else g k) = c k by rw [hc]]
    rw [show 2 ^ (k + 1) = 2 ^ k + 2 ^ k by rw [Nat.pow_succ]; omega, fb_sm_split]
    rw [← fb_mul, ← fb_mul]
    congr 1
    · apply fb_sm_cong
      intro u hu
      rw [cwt, if_neg (by rw [Nat.testBit_lt_two_pow hu]; decide), Nat.mul_comm (8 - c k), Nat.mul_assoc]
    · apply fb_sm_cong
      intro u hu
      have e1 : (2 ^ k + u).testBit k = true := by rw [Nat.testBit_two_pow_add_eq, Nat.testBit_lt_two_pow hu]; rfl
      have e2 : cwt c (2 ^ k + u) k = cwt c u k := cwt_c k (fun p hp2 => tb_low (k := k) (by rw [Nat.add_mod_left]) hp2)
      rw [cwt, if_pos e1, e2, Nat.mul_comm (c k), Nat.mul_assoc, Nat.mul_add, Nat.mul_one, Nat.add_assoc]
theorem l63_div {a b : Nat} (ha : a < 2 ^ 63) (hb : b < 2 ^ 63) : lN a / lN b = lN (a / b) := by
  apply Int64.toInt_inj.mp
  have h1 : a / b ≤ a := Nat.div_le_self a b
  rw [Int64.toInt_div, l63 ha, l63 hb, l63 (by omega), ← Int.ofNat_tdiv]
  have key : ∀ q : Nat, q < 2 ^ 63 → Int.bmod (q : Int) (2 ^ 64) = q := fun q hq => by rw [Int.bmod_eq_of_le] <;> omega
  exact key _ (by omega)
theorem l63_rem {a b : Nat} (ha : a < 2 ^ 63) (hb : b < 2 ^ 63) : lN a - lN a / lN b * lN b = lN (a % b) := by
  have h1 : a / b * b ≤ a := Nat.div_mul_le_self a b
  rw [l63_div ha hb, lN_mul, lN_sub h1]
  congr 1
  have := Nat.div_add_mod a b
  rw [Nat.mul_comm] at this
  omega
theorem gcd_odd {a : Nat} (h : ¬ a % 2 = 0) (k : Nat) : Nat.gcd a (2 ^ k) = 1 := by
  have h2 : Nat.gcd a 2 = 1 := by
    have hd := Nat.gcd_dvd_right a 2
    have hl := Nat.gcd_dvd_left a 2
    have hle : Nat.gcd a 2 ≤ 2 := Nat.le_of_dvd (by decide) hd
    have hp : 0 < Nat.gcd a 2 := Nat.gcd_pos_of_pos_right _ (by decide)
    rcases (show Nat.gcd a 2 = 1 ∨ Nat.gcd a 2 = 2 by omega) with e | e
    · exact e
    · rw [e] at hl; exact absurd (Nat.mod_eq_zero_of_dvd hl) h
  exact Nat.Coprime.pow_right k h2
theorem rdN_gcd : ∀ K a, (rdN a K).1 = a / Nat.gcd a (2 ^ K) ∧ 2 ^ (rdN a K).2 = 2 ^ K / Nat.gcd a (2 ^ K)
  | 0, a => by simp [rdN]
  | k + 1, a => by
    rw [rdN]
    by_cases h : a % 2 = 0
    · rw [if_pos h]
      obtain ⟨c, rfl⟩ : ∃ c, a = 2 * c := ⟨a / 2, by omega⟩
      have ih := rdN_gcd k c
      rw [show 2 * c / 2 = c by omega, Nat.pow_succ, Nat.mul_comm (2 ^ k) 2, Nat.gcd_mul_left, Nat.mul_div_mul_left _ _ (by decide), Nat.mul_div_mul_left _ _ (by decide)]
      exact ih
    · rw [if_neg h, gcd_odd h]; simp
theorem hvl_od {V : VS} {a b s : Nat} (hs : s < 2 ^ V.1 0) : hvl V a b s = od V (ofc V (V.1 3) (heldS V (V.1 1) ||| s)) a b (2 ^ V.1 0) := by
  unfold hvl od
  rw [mxs_sum]
  apply fb_sm_cong
  intro u hu
  rw [Nat.div_eq_of_lt hs, Nat.zero_mul, Nat.zero_add]
  have e : cwt (fun p => if s.testBit p = true then 8 else chv V p) u (V.1 0) = cwt (ofc V (V.1 3) (heldS V (V.1 1) ||| s)) u (V.1 0) := cwt_cg _ (fun p hp => by
    unfold ofc
    rw [Nat.testBit_or]
    by_cases z : s.testBit p = true
    · rw [if_pos z, if_pos (by rw [z]; simp)]
    · rw [if_neg z, ← ofc_chv]
      unfold ofc
      rw [Bool.eq_false_iff.mpr z, Bool.or_false])
  rw [e]
  unfold jv
  split
  · rw [Nat.one_mul]
  · rw [Nat.zero_mul]
set_option maxRecDepth 10000 in
set_option maxHeartbeats 2000000 in
theorem lo6 {g : gG} {h : gH} {m a b : Nat} {Q : Option Value → gH → Prop} (kk : ∀ x w9, x = Nat.gcd a b → Ex g mX12_lowest (gZm g mX12_lowest Q) 31 [some (.ref m), some (.long (lN a)), none, some (.long (lN b)), none, some (.long (lN x)), none, some (.long (lN 0)), none, w9, none] [] h 0 0) : ∀ n (w9 : Option Value) x y, y ≤ n → x < 2 ^ 63 → y < 2 ^ 63 → Nat.gcd x y = Nat.gcd a b → Ex g mX12_lowest (gZm g mX12_lowest Q) 6 [some (.ref m), some (.long (lN a)), none, some (.long (lN b)), none, some (.long (lN x)), none, some (.long (lN y)), none, w9, none] [] h 0 0 := by
  intro n
  induction n with
  | zero =>
    intro w9 x y hn hx hy hG
    have y0 : y = 0 := Nat.le_zero.mp hn
    refine x_lload dX12_lowest_6 rfl ?_
    refine x_lconst (v := 0) dX12_lowest_8 (by decide) ?_
    refine x_lcmp dX12_lowest_9 ?_
    refine x_if_eq_t 31 dX12_lowest_10 (by decide) (lg_0.mpr (by rw [y0]; rfl)) ?_
    subst y0
    have xg : x = Nat.gcd a b := by rw [← hG, Nat.gcd_zero_right]
    exact kk x _ xg
  | succ n ih =>
    intro w9 x y hn hx hy hG
    refine x_lload dX12_lowest_6 rfl ?_
    refine x_lconst (v := 0) dX12_lowest_8 (by decide) ?_
    refine x_lcmp dX12_lowest_9 ?_
    refine x_if_eq 31 dX12_lowest_10 (by decide) (fun c10 => ?_) (fun c10 => ?_)
    · have y0 : y = 0 := (l63_eq hy (by decide)).mp (lg_0.mp c10)
      subst y0
      have xg : x = Nat.gcd a b := by rw [← hG, Nat.gcd_zero_right]
      exact kk x _ xg
    · have y0 : ¬ y = 0 := fun z => c10 (lg_0.mpr (by rw [z]; rfl))
      refine x_lload dX12_lowest_13 rfl ?_
      refine x_lload dX12_lowest_15 rfl ?_
      refine x_lrem dX12_lowest_17 (fun z => y0 ((l63_eq hy (by decide)).mp z)) ?_
      rw [l63_rem hx hy]
      refine x_lst_9 dX12_lowest_18 (by decide) rfl ?_
      refine x_lload dX12_lowest_20 rfl ?_
      refine x_lst_5 dX12_lowest_22 (by decide) rfl ?_
      refine x_lload dX12_lowest_24 rfl ?_
      refine x_lst_7 dX12_lowest_26 (by decide) rfl ?_
      refine x_goto 6 dX12_lowest_28 (by decide) ?_
      exact ih (some (.long (lN (x % y)))) y (x % y) (by have := Nat.mod_lt x (Nat.pos_of_ne_zero y0); omega) hy (by have := Nat.mod_lt x (Nat.pos_of_ne_zero y0); omega) (by rw [← hG, Nat.gcd_comm x y, Nat.gcd_rec y x, Nat.gcd_comm])
set_option maxRecDepth 10000 in
set_option maxHeartbeats 2000000 in
theorem c_X12_lowest {g : gG} {h : gH} {m a K : Nat} {V : VS} {s : Nat → Int32} {l : Nat → Int64} {A : Nat → Nat → Int32} {B : Nat → Nat → Int64} (hm : MM h m V s l A B) (ha : a < 2 ^ 63) (hK : K < 63) : Ct g mX12_lowest [.ref m, .long (lN a), .long (lN (2 ^ K))] h none (fun h' => MM h' m V s (va_up (va_up l 1 (lN (rdN a K).1)) 2 (lN (2 ^ (rdN a K).2))) A B ∧ Fr m 27 h h') := by
  have mo := hm.1
  have hb : 2 ^ K < 2 ^ 63 := Nat.pow_lt_pow_right (by decide) hK
  have hg : 0 < Nat.gcd a (2 ^ K) := Nat.gcd_pos_of_pos_right _ (Nat.two_pow_pos K)
  have hg2 : Nat.gcd a (2 ^ K) ≤ 2 ^ K := Nat.le_of_dvd (Nat.two_pow_pos K) (Nat.gcd_dvd_right _ _)
  obtain ⟨r1, r2⟩ := rdN_gcd K a
  refine Cn.of (L := [some (.ref m), some (.long (lN a)), none, some (.long (lN (2 ^ K))), none, none, none, none, none, none, none]) (by decide) (Nat.le_of_ble_eq_true rfl) rfl ?_
  refine x_lload_n dX12_lowest_0 rfl ?_
  refine x_lst_5 dX12_lowest_1 (by decide) rfl ?_
  refine x_lload_n dX12_lowest_3 rfl ?_
  refine x_lst_7 dX12_lowest_4 (by decide) rfl ?_
  refine lo6 (fun x w9 hx => ?_) _ _ a (2 ^ K) (Nat.le_refl _) ha hb rfl
  subst hx
  refine x_aload_n dX12_lowest_31 rfl ?_
  refine x_lload_n dX12_lowest_32 rfl ?_
  refine x_lload dX12_lowest_33 rfl ?_
  refine x_ldiv dX12_lowest_35 (fun z => by have := (l63_eq (b := 0) (by omega) (by decide)).mp z; omega) ?_
  rw [l63_div ha (by omega), ← r1]
  refine x_put (fs' := mF m V s (va_up l 1 (lN (rdN a K).1))) fX12_295 mo (Nat.le_of_ble_eq_true rfl) rfl rfl rfl dX12_lowest_36 ?_
  refine x_aload_n dX12_lowest_39 rfl ?_
  refine x_lload_n dX12_lowest_40 rfl ?_
  refine x_lload dX12_lowest_41 rfl ?_
  refine x_ldiv dX12_lowest_43 (fun z => by have := (l63_eq (b := 0) (by omega) (by decide)).mp z; omega) ?_
  rw [l63_div hb (by omega), ← r2]
  refine x_put (fs' := mF m V s (va_up (va_up l 1 (lN (rdN a K).1)) 2 (lN (2 ^ (rdN a K).2)))) fX12_298 hset_s (Nat.le_of_ble_eq_true rfl) rfl rfl rfl dX12_lowest_44 ?_
  refine x_vret rfl dX12_lowest_47 ⟨by decide, by decide⟩ ?_
  exact ⟨rfl, hm.num.num, (Fr.set (by omega) (by omega)).tr (Fr.set (by omega) (by omega))⟩
