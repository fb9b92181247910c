/-! HeldPaths: the whole object -/
def bl (v b : Int32) : Bool := decide (0 ≤ v ∧ v < b)
def ut (v b : Int32) : Bool := decide (0 ≤ v ∧ v ≤ b)
theorem bl_p {v b : Int32} : bl v b = true ↔ 0 ≤ v ∧ v < b := decide_eq_true_iff
theorem ut_p {v b : Int32} : ut v b = true ↔ 0 ≤ v ∧ v ≤ b := decide_eq_true_iff
def iN (v : Int32) : Nat := v.toInt.toNat
theorem iN_nI {k : Nat} (h : k < 2 ^ 31) : iN (nI k) = k := by unfold iN; rw [nI_toInt h]; rfl
theorem bl_E {v : Int32} {b : Nat} (h : bl v (nI b) = true) (hb : b < 2 ^ 31) : ∃ k, k < b ∧ v = nI k := by
  have h := bl_p.mp h
  have h1 := (fa_le _ _).mp h.1
  have h2 := (fa_lt _ _).mp h.2
  rw [nI_toInt hb] at h2
  have h0 : (0 : Int32).toInt = 0 := rfl
  rw [h0] at h1
  refine ⟨v.toInt.toNat, by omega, (fa_eq _ _).mpr ?_⟩
  rw [nI_toInt (by omega)]
  omega
theorem ut_E {v : Int32} {b : Nat} (h : ut v (nI b) = true) (hb : b < 2 ^ 31) : ∃ k, k ≤ b ∧ v = nI k := by
  have h := ut_p.mp h
  have h1 := (fa_le _ _).mp h.1
  have h2 := (fa_le _ _).mp h.2
  rw [nI_toInt hb] at h2
  have h0 : (0 : Int32).toInt = 0 := rfl
  rw [h0] at h1
  refine ⟨v.toInt.toNat, by omega, (fa_eq _ _).mpr ?_⟩
  rw [nI_toInt (by omega)]
  omega
theorem bl_I {k b : Nat} (h : k < b) (hb : b < 2 ^ 31) : bl (nI k) (nI b) = true := bl_p.mpr ⟨(fa_le _ _).mpr (by rw [nI_toInt (by omega)]; exact Int.natCast_nonneg k), (fa_lt _ _).mpr (by rw [nI_toInt (by omega), nI_toInt hb]; omega)⟩
theorem bl_iff {k b : Nat} (hk : k < 2 ^ 31) (hb : b < 2 ^ 31) : bl (nI k) (nI b) = true ↔ k < b := ⟨fun q => (nI_ltI hk hb).mp (bl_p.mp q).2, fun q => bl_I q hb⟩
theorem c_bl {g : gG} {h : gH} {v b : Int32} : Rd g mX11_isBelow [.int v, .int b] h (.int (b2i (bl v b = true))) := by rw [b2i_c bl_p]; exact c_X11_isBelow
theorem c_ut {g : gG} {h : gH} {v b : Int32} : Rd g mX11_isUpTo [.int v, .int b] h (.int (b2i (ut v b = true))) := by rw [b2i_c ut_p]; exact c_X11_isUpTo
theorem c_cl {g : gG} {h : gH} {v : Int32} : Rd g mX11_isClearing [.int v] h (.int (b2i (bl v 8 = true))) := by rw [b2i_c bl_p]; exact c_X11_isClearing
theorem c_pt {g : gG} {h : gH} {v : Int32} : Rd g mX11_isPart [.int v] h (.int (b2i (bl v 2 = true))) := by rw [b2i_c bl_p]; exact c_X11_isPart
theorem c_hp {g : gG} {h : gH} {w : Nat} {V : VS} {p : Int32} (hv : isV h w V) : Rd g mX10_hasPath [.ref w, .int p] h (.int (b2i (bl p (nI (V.1 0)) = true))) := by rw [b2i_c bl_p]; exact c_X10_hasPath hv
theorem c_hw {g : gG} {h : gH} {w : Nat} {V : VS} {p : Int32} (hv : isV h w V) : Rd g mX10_hasWalker [.ref w, .int p] h (.int (b2i (bl p (nI (V.1 1)) = true))) := by rw [b2i_c bl_p]; exact c_X10_hasWalker hv
theorem c_hr {g : gG} {h : gH} {w : Nat} {V : VS} {p : Int32} (hv : isV h w V) : Rd g mX10_hasRule [.ref w, .int p] h (.int (b2i (bl p (nI (V.1 2)) = true))) := by rw [b2i_c bl_p]; exact c_X10_hasRule hv
/-- V; (kept?, the kept V); (length, bytes); (rows, paths, clearings); sheets (sort + 1, length, items); shelves (0 / 1 path / 2 sort length); trace (length, bodies) -/
abbrev AS : Type := VS × (Nat × VS) × (Nat × (Nat → Nat)) × (Nat × (Nat → Int32) × (Nat → Int32)) × (Nat → Nat × Nat × (Nat → Int64)) × (Nat → Nat × Nat × Nat) × (Nat × (Nat → Int32))
abbrev xF (x kp rn : Nat) : List Value := [.ref (x + 1), .ref (x + 13), .ref (x + 25), .int (nI kp), .ref (x + 37), .ref (x + 39), .ref (x + 43), .ref (x + 44), .int (nI rn), .ref (x + 45), .ref (x + 46), .ref (x + 47), .ref (x + 48)]
def agr (p n : Nat) (h h' : gH) : Prop := ∀ a, p ≤ a → a < p + n → h'.1 a = h.1 a
theorem Fr.agr {w n p k : Nat} {h h' : gH} (hf : Fr w n h h') (hd : p + k ≤ w ∨ w + n ≤ p) : agr p k h h' := fun a h1 h2 => hf.2 a (by omega)
def xK (h : gH) (x : Nat) (K : Nat × VS) : Prop := K.1 ≤ 1 ∧ ∃ v, isV h (x + 13) v ∧ (K.1 = 1 → v = K.2)
def xS (h : gH) (x : Nat) : Prop := ∃ v, isV h (x + 25) v
def isT (h : gH) (t : Nat) (T : Nat × (Nat → Nat)) : Prop := T.1 ≤ 240 ∧ (∃ s0 s1 s2 s3 s4, h.1 t = some (.inr (6, [.ref (t + 1), .int (nI T.1), .int s0, .int s1, .int s2, .int s3, .int s4]))) ∧ ∃ b, h.1 (t + 1) = some (.inl (2, 240, .inl b)) ∧ ∀ i, i < T.1 → T.2 i < 256 ∧ b i &&& 255 = nI (T.2 i)
def xC (h : gH) (x : Nat) : Prop := ∃ J K X s wh, isC h (x + 39) J K X s wh
def xP (h : gH) (x : Nat) (R : Nat × (Nat → Int32) × (Nat → Int32)) : Prop := R.1 ≤ 12 ∧ ∃ a b, h.1 (x + 43) = some (.inl (0, 12, .inl a)) ∧ h.1 (x + 44) = some (.inl (0, 12, .inl b)) ∧ ∀ i, i < R.1 → a i = R.2.1 i ∧ b i = R.2.2 i
def isS (h : gH) (q s n : Nat) (f : Nat → Int64) : Prop := h.1 q = some (.inr (5, [.int (nI s), .ref (q + 1)])) ∧ h.1 (q + 1) = some (.inl (1, n, .inr (.inl f)))
/-- a sheet: none, or a strip in D -/
def shO (h : gH) (D : Nat → Prop) (r : Option Nat) (s : Nat × Nat × (Nat → Int64)) : Prop := (s.1 = 0 ∧ r = none) ∨ (0 < s.1 ∧ s.1 ≤ 4 ∧ s.2.1 ≤ 40 ∧ ∃ q f, r = some q ∧ D q ∧ D (q + 1) ∧ isS h q (s.1 - 1) s.2.1 f ∧ ∀ j, j < s.2.1 → f j = s.2.2 j)
def slO (h : gH) (D : Nat → Prop) (p : Int32) (r : Option Nat) (s : Nat × Nat × Nat) : Prop := (s.1 = 0 ∧ p = -9 ∧ r = none) ∨ (s.1 = 1 ∧ s.2.1 < 8 ∧ p = nI s.2.1 ∧ r = none) ∨ (s.1 = 2 ∧ s.2.1 < 4 ∧ s.2.2 ≤ 40 ∧ p = -9 ∧ ∃ q f, r = some q ∧ D q ∧ D (q + 1) ∧ isS h q s.2.1 s.2.2 f)
def xH (h : gH) (x : Nat) (D : Nat → Prop) (S : Nat → Nat × Nat × (Nat → Int64)) : Prop := ∃ r : Nat → Option Nat, h.1 (x + 45) = some (.inl (3, 4, .inr (.inr (.inr (.inr r))))) ∧ (∀ i, i < 4 → shO h D (r i) (S i)) ∧ ∀ i j q, i < 4 → j < 4 → r i = some q → r j = some q → i = j
def xL (h : gH) (x : Nat) (D : Nat → Prop) (S : Nat → Nat × Nat × Nat) : Prop := ∃ (p : Nat → Int32) (r : Nat → Option Nat), h.1 (x + 46) = some (.inl (0, 4, .inl p)) ∧ h.1 (x + 47) = some (.inl (3, 4, .inr (.inr (.inr (.inr r))))) ∧ ∀ i, i < 4 → slO h D (p i) (r i) (S i)
def isR (h : gH) (r : Nat) (T : Nat × (Nat → Int32)) (pt : Int32) : Prop := T.1 ≤ 30 ∧ h.1 r = some (.inr (7, [.ref (r + 1), .int (nI T.1), .int pt])) ∧ ∃ b, h.1 (r + 1) = some (.inl (0, 30, .inl b)) ∧ ∀ i, i < T.1 → b i = T.2 i
def isX (h : gH) (x : Nat) (D : Nat → Prop) (S : AS) : Prop := (x + 50 ≤ h.2 ∧ ∀ a, D a → x + 50 ≤ a ∧ a < h.2) ∧ h.1 x = some (.inr (11, xF x S.2.1.1 S.2.2.2.1.1)) ∧ isV h (x + 1) S.1 ∧ xK h x S.2.1 ∧ xS h x ∧ isT h (x + 37) S.2.2.1 ∧ xC h x ∧ xP h x S.2.2.2.1 ∧ (xH h x D S.2.2.2.2.1 ∧ xL h x D S.2.2.2.2.2.1) ∧ ∃ pt, isR h (x + 48) S.2.2.2.2.2.2 pt
section loc
variable {h h' : gH} {x : Nat} {D D' : Nat → Prop}
theorem isV.ag {V : VS} (hv : isV h x V) (ha : agr x 12 h h') : isV h' x V := by
  obtain ⟨h1, a, h2, h3⟩ := hv
  exact ⟨h1, a, ⟨by rw [ha x (by omega) (by omega)]; exact h2.1, fun i hi => by rw [ha _ (by omega) (by omega)]; exact h2.2 i hi⟩, h3⟩
theorem xK.ag {K : Nat × VS} (hk : xK h x K) (ha : agr (x + 13) 12 h h') : xK h' x K := ⟨hk.1, hk.2.elim fun v q => ⟨v, q.1.ag ha, q.2⟩⟩
theorem xS.ag (hk : xS h x) (ha : agr (x + 25) 12 h h') : xS h' x := hk.elim fun v q => ⟨v, q.ag ha⟩
theorem isT.ag {T : Nat × (Nat → Nat)} (ht : isT h x T) (ha : agr x 2 h h') : isT h' x T := by
  obtain ⟨h0, ⟨s0, s1, s2, s3, s4, h1⟩, b, h2, h3⟩ := ht
  exact ⟨h0, ⟨s0, s1, s2, s3, s4, by rw [ha x (by omega) (by omega)]; exact h1⟩, b, by rw [ha _ (by omega) (by omega)]; exact h2, h3⟩
theorem xC.ag (hc : xC h x) (ha : agr (x + 39) 4 h h') : xC h' x := by
  obtain ⟨J, K, X, s, wh, h1, h2, h3, h4⟩ := hc
  exact ⟨J, K, X, s, wh, by rw [ha _ (by omega) (by omega)]; exact h1, by rw [ha _ (by omega) (by omega)]; exact h2, by rw [ha _ (by omega) (by omega)]; exact h3, by rw [ha _ (by omega) (by omega)]; exact h4⟩
theorem xP.ag {R : Nat × (Nat → Int32) × (Nat → Int32)} (hr : xP h x R) (ha : agr (x + 43) 2 h h') : xP h' x R := by
  obtain ⟨h0, a, b, h1, h2, h3⟩ := hr
  exact ⟨h0, a, b, by rw [ha _ (by omega) (by omega)]; exact h1, by rw [ha _ (by omega) (by omega)]; exact h2, h3⟩
theorem isS.ag {q s n : Nat} {f : Nat → Int64} (hs : isS h q s n f) (h0 : h'.1 q = h.1 q) (h1 : h'.1 (q + 1) = h.1 (q + 1)) : isS h' q s n f := ⟨h0.trans hs.1, h1.trans hs.2⟩
theorem xH.ag {S : Nat → Nat × Nat × (Nat → Int64)} (hh : xH h x D S) (ha : h'.1 (x + 45) = h.1 (x + 45)) (hd : ∀ a, D a → D' a ∧ h'.1 a = h.1 a) : xH h' x D' S := by
  obtain ⟨r, h1, h2, h3⟩ := hh
  refine ⟨r, ha.trans h1, fun i hi => ?_, h3⟩
  rcases h2 i hi with q | ⟨q1, q2, q3, q, f, q4, q5, q6, q7, q8⟩
  · exact .inl q
  · exact .inr ⟨q1, q2, q3, q, f, q4, (hd _ q5).1, (hd _ q6).1, q7.ag (hd _ q5).2 (hd _ q6).2, q8⟩
theorem xL.ag {S : Nat → Nat × Nat × Nat} (hh : xL h x D S) (ha : agr (x + 46) 2 h h') (hd : ∀ a, D a → D' a ∧ h'.1 a = h.1 a) : xL h' x D' S := by
  obtain ⟨p, r, h1, h2, h3⟩ := hh
  refine ⟨p, r, by rw [ha _ (by omega) (by omega)]; exact h1, by rw [ha _ (by omega) (by omega)]; exact h2, fun i hi => ?_⟩
  rcases h3 i hi with q | q | ⟨q1, q2, q3, q9, q, f, q4, q5, q6, q7⟩
  · exact .inl q
  · exact .inr (.inl q)
  · exact .inr (.inr ⟨q1, q2, q3, q9, q, f, q4, (hd _ q5).1, (hd _ q6).1, q7.ag (hd _ q5).2 (hd _ q6).2⟩)
theorem isR.ag {T : Nat × (Nat → Int32)} {pt : Int32} (hr : isR h x T pt) (ha : agr x 2 h h') : isR h' x T pt := by
  obtain ⟨h0, h1, b, h2, h3⟩ := hr
  exact ⟨h0, by rw [ha _ (by omega) (by omega)]; exact h1, b, by rw [ha _ (by omega) (by omega)]; exact h2, h3⟩
end loc
/-- outside the object's fixed cells nothing changed -/
theorem Fr.wid {w n p k : Nat} {h h' : gH} (hf : Fr w n h h') (h1 : p ≤ w) (h2 : w + n ≤ p + k) : Fr p k h h' := ⟨hf.1, fun a ha => hf.2 a (by omega)⟩
def Px (x : Nat) (D : Nat → Prop) (S : AS) (h : gH) : gH → Prop := fun h' => isX h' x D S ∧ Fr x 50 h h'
section upd
variable {h h' : gH} {x : Nat} {D : Nat → Prop} {S : AS}
theorem isX.rf (hx : isX h x D S) : Px x D S h h := ⟨hx, Fr.rf⟩
theorem isX.sz (hx : isX h x D S) {w n : Nat} (hf : Fr w n h h') : x + 50 ≤ h'.2 ∧ ∀ a, D a → x + 50 ≤ a ∧ a < h'.2 := by rw [hf.1]; exact hx.1
theorem isX.dd (hx : isX h x D S) {w n : Nat} (hf : Fr w n h h') (hw : w + n ≤ x + 50) : ∀ a, D a → D a ∧ h'.1 a = h.1 a := fun a q => ⟨q, hf.2 a (by have := hx.1.2 a q; omega)⟩
theorem isX.now (hx : isX h x D S) {V' : VS} (hv : isV h' (x + 1) V') (hf : Fr (x + 1) 12 h h') : Px x D (V', S.2) h h' := by
  obtain ⟨a1, a2, a3, a4, a5, a6, a7, a8, a9, pt, a10⟩ := id hx
  exact ⟨⟨hx.sz hf, by rw [hf.2 _ (by omega)]; exact a2, hv, a4.ag (hf.agr (by omega)), a5.ag (hf.agr (by omega)), a6.ag (hf.agr (by omega)), a7.ag (hf.agr (by omega)), a8.ag (hf.agr (by omega)), ⟨a9.1.ag (hf.2 _ (by omega)) (hx.dd hf (by omega)), a9.2.ag (hf.agr (by omega)) (hx.dd hf (by omega))⟩, pt, a10.ag (hf.agr (by omega))⟩, hf.wid (by omega) (by omega)⟩
theorem isX.ch (hx : isX h x D S) {J K X : Nat → Int64} {s : Int32} {wh : Int64} (hc : isC h' (x + 39) J K X s wh) (hf : Fr (x + 39) 4 h h') : Px x D S h h' := by
  obtain ⟨a1, a2, a3, a4, a5, a6, a7, a8, a9, pt, a10⟩ := id hx
  exact ⟨⟨hx.sz hf, by rw [hf.2 _ (by omega)]; exact a2, a3.ag (hf.agr (by omega)), a4.ag (hf.agr (by omega)), a5.ag (hf.agr (by omega)), a6.ag (hf.agr (by omega)), ⟨J, K, X, s, wh, hc⟩, a8.ag (hf.agr (by omega)), ⟨a9.1.ag (hf.2 _ (by omega)) (hx.dd hf (by omega)), a9.2.ag (hf.agr (by omega)) (hx.dd hf (by omega))⟩, pt, a10.ag (hf.agr (by omega))⟩, hf.wid (by omega) (by omega)⟩
theorem isX.sp (hx : isX h x D S) {V' : VS} (hv : isV h' (x + 25) V') (hf : Fr (x + 25) 12 h h') : Px x D S h h' := by
  obtain ⟨a1, a2, a3, a4, a5, a6, a7, a8, a9, pt, a10⟩ := id hx
  exact ⟨⟨hx.sz hf, by rw [hf.2 _ (by omega)]; exact a2, a3.ag (hf.agr (by omega)), a4.ag (hf.agr (by omega)), ⟨V', hv⟩, a6.ag (hf.agr (by omega)), a7.ag (hf.agr (by omega)), a8.ag (hf.agr (by omega)), ⟨a9.1.ag (hf.2 _ (by omega)) (hx.dd hf (by omega)), a9.2.ag (hf.agr (by omega)) (hx.dd hf (by omega))⟩, pt, a10.ag (hf.agr (by omega))⟩, hf.wid (by omega) (by omega)⟩
theorem isX.tp (hx : isX h x D S) {T : Nat × (Nat → Nat)} (ht : isT h' (x + 37) T) (hf : Fr (x + 37) 2 h h') : Px x D (S.1, S.2.1, T, S.2.2.2) h h' := by
  obtain ⟨a1, a2, a3, a4, a5, a6, a7, a8, a9, pt, a10⟩ := id hx
  exact ⟨⟨hx.sz hf, by rw [hf.2 _ (by omega)]; exact a2, a3.ag (hf.agr (by omega)), a4.ag (hf.agr (by omega)), a5.ag (hf.agr (by omega)), ht, a7.ag (hf.agr (by omega)), a8.ag (hf.agr (by omega)), ⟨a9.1.ag (hf.2 _ (by omega)) (hx.dd hf (by omega)), a9.2.ag (hf.agr (by omega)) (hx.dd hf (by omega))⟩, pt, a10.ag (hf.agr (by omega))⟩, hf.wid (by omega) (by omega)⟩
theorem fin {r : Int32 × VS} {v : Int32} (hx : isX h x D S) (E : r = (v, S.1)) : some (Value.int v) = some (.int r.1) ∧ Px x D (r.2, S.2) h h := by rw [E]; exact ⟨rfl, hx.rf⟩
theorem finV {r : Int32 × VS} {v : Int32} {V' : VS} (hx : isX h x D S) (hv : isV h' (x + 1) V') (hf : Fr (x + 1) 12 h h') (E : r = (v, V')) : some (Value.int v) = some (.int r.1) ∧ Px x D (r.2, S.2) h h' := by rw [E]; exact ⟨rfl, hx.now hv hf⟩
end upd
def f5 (a b c d e : Nat) : Nat → Nat
  | 0 => a | 1 => b | 2 => c | 3 => d | _ => e
def oPath (V : VS) (kd a b s c : Int32) : Int32 × VS := if bl a 8 = true ∧ bl b 8 = true ∧ ¬ a = b ∧ bl kd 6 = true ∧ ut s 8 = true ∧ ut c 8 = true then if V.1 0 < 8 then (nI (V.1 0), stT (adP V (f5 (iN kd) (iN a) (iN b) (iN s) (iN c))) (V.1 0) true) else (-2, V) else (-1, V)
set_option maxRecDepth 10000 in
set_option maxHeartbeats 2000000 in
theorem c_X11_path {g : gG} {h : gH} {x : Nat} {D : Nat → Prop} {S : AS} (hx : isX h x D S) {kd a b s c : Int32} : Ct g mX11_path [.ref x, .int kd, .int a, .int b, .int s, .int c] h (some (.int (oPath S.1 kd a b s c).1)) (Px x D ((oPath S.1 kd a b s c).2, S.2) h) := by
  have ho := hx.2.1
  have hv := hx.2.2.1
  have n0 := hv.o
  have okw := hv.1

  refine Cn.of (L := [some (.ref x), some (.int kd), some (.int a), some (.int b), some (.int s), some (.int c), none]) (by decide) (Nat.le_of_ble_eq_true rfl) rfl ?_
  refine x_iload_n dX11_path_0 rfl ?_
  refine x_rdS c_cl lkX11_isClearing sX11_90 dX11_path_1 rfl rfl (Nat.le_of_ble_eq_true rfl) (by decide) ⟨rfl, rfl, by decide, by decide⟩ ?_
  refine x_if_eqB 23 dX11_path_4 (by decide) (fun c4 => ?_) (fun c4 => ?_)
  · refine x_iconst (v := 0) dX11_path_23 (by decide) ?_
    refine x_ist_6 dX11_path_24 (by decide) rfl ?_
    refine x_iload dX11_path_26 rfl ?_
    refine x_if_eq_t 60 dX11_path_28 (by decide) rfl ?_
    refine x_iconst (v := -1) dX11_path_60 (by decide) ?_
    refine x_iret rfl dX11_path_61 ⟨by decide, by decide⟩ ?_
    exact fin hx (by simp only [oPath, c4, eq_self, Bool.false_eq_true, reduceCtorEq, and_true, true_and, and_false, false_and, not_true_eq_false, not_false_eq_true, if_true, if_false, ne_eq, or_true, true_or, or_false, false_or])
  · refine x_iload_n dX11_path_7 rfl ?_
    refine x_rdS c_cl lkX11_isClearing sX11_90 dX11_path_8 rfl rfl (Nat.le_of_ble_eq_true rfl) (by decide) ⟨rfl, rfl, by decide, by decide⟩ ?_
    refine x_if_eqB 23 dX11_path_11 (by decide) (fun c11 => ?_) (fun c11 => ?_)
    · refine x_iconst (v := 0) dX11_path_23 (by decide) ?_
      refine x_ist_6 dX11_path_24 (by decide) rfl ?_
      refine x_iload dX11_path_26 rfl ?_
      refine x_if_eq_t 60 dX11_path_28 (by decide) rfl ?_
      refine x_iconst (v := -1) dX11_path_60 (by decide) ?_
      refine x_iret rfl dX11_path_61 ⟨by decide, by decide⟩ ?_
      exact fin hx (by simp only [oPath, c4, c11, eq_self, Bool.false_eq_true, reduceCtorEq, and_true, true_and, and_false, false_and, not_true_eq_false, not_false_eq_true, if_true, if_false, ne_eq, or_true, true_or, or_false, false_or])
    · refine x_iload_n dX11_path_14 rfl ?_
      refine x_iload_n dX11_path_15 rfl ?_
      refine x_icmp_eq 23 dX11_path_16 (by decide) (fun c16 => ?_) (fun c16 => ?_)
      · refine x_iconst (v := 0) dX11_path_23 (by decide) ?_
        refine x_ist_6 dX11_path_24 (by decide) rfl ?_
        refine x_iload dX11_path_26 rfl ?_
        refine x_if_eq_t 60 dX11_path_28 (by decide) rfl ?_
        refine x_iconst (v := -1) dX11_path_60 (by decide) ?_
        refine x_iret rfl dX11_path_61 ⟨by decide, by decide⟩ ?_
        exact fin hx (by simp only [oPath, c4, c11, c16, eq_self, Bool.false_eq_true, reduceCtorEq, and_true, true_and, and_false, false_and, not_true_eq_false, not_false_eq_true, if_true, if_false, ne_eq, or_true, true_or, or_false, false_or])
      · refine x_iconst (v := 1) dX11_path_19 (by decide) ?_
        refine x_goto 24 dX11_path_20 (by decide) ?_
        refine x_ist_6 dX11_path_24 (by decide) rfl ?_
        refine x_iload dX11_path_26 rfl ?_
        refine x_if_eq_f 60 dX11_path_28 (by decide) (by decide) ?_
        refine x_iload_n dX11_path_31 rfl ?_
        refine x_bipush (v := 6) dX11_path_32 (by decide) ?_
        refine x_rdS c_bl lkX11_isBelow sX11_94 dX11_path_34 rfl rfl (Nat.le_of_ble_eq_true rfl) (by decide) ⟨rfl, rfl, by decide, by decide⟩ ?_
        refine x_if_eqB 60 dX11_path_37 (by decide) (fun c37 => ?_) (fun c37 => ?_)
        · refine x_iconst (v := -1) dX11_path_60 (by decide) ?_
          refine x_iret rfl dX11_path_61 ⟨by decide, by decide⟩ ?_
          exact fin hx (by simp only [oPath, c4, c11, c16, c37, eq_self, Bool.false_eq_true, reduceCtorEq, and_true, true_and, and_false, false_and, not_true_eq_false, not_false_eq_true, if_true, if_false, ne_eq, or_true, true_or, or_false, false_or])
        · refine x_iload dX11_path_40 rfl ?_
          refine x_bipush (v := 8) dX11_path_42 (by decide) ?_
          refine x_rdS c_ut lkX11_isUpTo sX11_98 dX11_path_44 rfl rfl (Nat.le_of_ble_eq_true rfl) (by decide) ⟨rfl, rfl, by decide, by decide⟩ ?_
          refine x_if_eqB 60 dX11_path_47 (by decide) (fun c47 => ?_) (fun c47 => ?_)
          · refine x_iconst (v := -1) dX11_path_60 (by decide) ?_
            refine x_iret rfl dX11_path_61 ⟨by decide, by decide⟩ ?_
            exact fin hx (by simp only [oPath, c4, c11, c16, c37, c47, eq_self, Bool.false_eq_true, reduceCtorEq, and_true, true_and, and_false, false_and, not_true_eq_false, not_false_eq_true, if_true, if_false, ne_eq, or_true, true_or, or_false, false_or])
          · refine x_iload dX11_path_50 rfl ?_
            refine x_bipush (v := 8) dX11_path_52 (by decide) ?_
            refine x_rdS c_ut lkX11_isUpTo sX11_98 dX11_path_54 rfl rfl (Nat.le_of_ble_eq_true rfl) (by decide) ⟨rfl, rfl, by decide, by decide⟩ ?_
            refine x_if_neB 62 dX11_path_57 (by decide) (fun c57 => ?_) (fun c57 => ?_)
            · obtain ⟨a1, ha, rfl⟩ := bl_E (b := 8) c4 (by decide)
              obtain ⟨b1, hb, rfl⟩ := bl_E (b := 8) c11 (by decide)
              obtain ⟨k1, hk, rfl⟩ := bl_E (b := 6) c37 (by decide)
              obtain ⟨s1, hs, rfl⟩ := ut_E (b := 8) c47 (by decide)
              obtain ⟨m1, hm, rfl⟩ := ut_E (b := 8) c57 (by decide)
              have lt8 : nI (S.1.1 0) < 8 ↔ S.1.1 0 < 8 := nI_ltI (a := S.1.1 0) (b := 8) (by have := okw.1.1; omega) (by decide)
              refine x_aload_n dX11_path_62 rfl ?_
              refine x_get fX11_12 (by assumption) rfl dX11_path_63 ?_
              refine x_get fX11_87 (by assumption) rfl dX11_path_66 ?_
              refine x_bipush (v := 8) dX11_path_69 (by decide) ?_
              refine x_icmp_lt 77 dX11_path_71 (by decide) (fun c71 => ?_) (fun c71 => ?_)
              · refine x_aload_n dX11_path_77 rfl ?_
                refine x_get fX11_12 (by assumption) rfl dX11_path_78 ?_
                refine x_iload_n dX11_path_81 rfl ?_
                refine x_iload_n dX11_path_82 rfl ?_
                refine x_iload_n dX11_path_83 rfl ?_
                refine x_iload dX11_path_84 rfl ?_
                refine x_iload dX11_path_86 rfl ?_
                refine x_cvV (c_X10_addPath (f5 k1 a1 b1 s1 m1) hv (lt8.mp c71) hk ha hb (fun q => c16 (congrArg nI q)) hs hm) (by assumption) lkX10_addPath sX11_101 dX11_path_88 rfl rfl (Nat.le_of_ble_eq_true rfl) (by decide) ⟨rfl, rfl, by decide, by decide⟩ ?_
                rintro h1 ⟨v1, F1⟩
                refine x_iret rfl dX11_path_91 ⟨by decide, by decide⟩ ?_
                refine finV hx v1 F1 ?_
                have c71 := lt8.mp c71
                simp only [oPath, c4, c11, c16, c37, c47, c57, c71, eq_self, Bool.false_eq_true, reduceCtorEq, and_true, true_and, and_false, false_and, not_true_eq_false, not_false_eq_true, if_true, if_false, ne_eq, or_true, true_or, or_false, false_or, iN_nI (show a1 < 2 ^ 31 by omega), iN_nI (show b1 < 2 ^ 31 by omega), iN_nI (show k1 < 2 ^ 31 by omega), iN_nI (show s1 < 2 ^ 31 by omega), iN_nI (show m1 < 2 ^ 31 by omega)]
              · refine x_bipush (v := -2) dX11_path_74 (by decide) ?_
                refine x_iret rfl dX11_path_76 ⟨by decide, by decide⟩ ?_
                have c71 : ¬ S.1.1 0 < 8 := fun q => c71 (lt8.mpr q)
                exact fin hx (by simp only [oPath, c4, c11, c16, c37, c47, c57, c71, eq_self, Bool.false_eq_true, reduceCtorEq, and_true, true_and, and_false, false_and, not_true_eq_false, not_false_eq_true, if_true, if_false, ne_eq, or_true, true_or, or_false, false_or])
            · refine x_iconst (v := -1) dX11_path_60 (by decide) ?_
              refine x_iret rfl dX11_path_61 ⟨by decide, by decide⟩ ?_
              exact fin hx (by simp only [oPath, c4, c11, c16, c37, c47, c57, eq_self, Bool.false_eq_true, reduceCtorEq, and_true, true_and, and_false, false_and, not_true_eq_false, not_false_eq_true, if_true, if_false, ne_eq, or_true, true_or, or_false, false_or])
