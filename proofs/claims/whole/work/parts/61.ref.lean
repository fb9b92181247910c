theorem sr_bit : ∀ x, x < 256 → ∀ k, k < 8 → (nI x >>> (nI k &&& 31)) &&& 1 = b2i (x.testBit k = true) := by decide +kernel
theorem in_lt {v : Int32} {k : Nat} (hk : k + 1 < 2 ^ 31) : v ≤ nI k ↔ v < nI (k + 1) := by
  rw [fa_le, fa_lt, nI_toInt (by omega), nI_toInt (by omega)]
  omega
theorem in_bl {v : Int32} {n : Nat} (hn : n < 2 ^ 31) : (0 ≤ v ∧ v ≤ nI n - 1) ↔ bl v (nI n) = true := by
  rw [bl_p]
  cases n with
  | zero =>
    constructor
    · intro q
      have h1 := (fa_le _ _).mp q.1
      have h2 := (fa_le _ _).mp q.2
      have e1 : (0 : Int32).toInt = 0 := rfl
      have e2 : (nI 0 - 1 : Int32).toInt = -1 := rfl
      omega
    · intro q
      have h1 := (fa_le _ _).mp q.1
      have h2 := (fa_lt _ _).mp q.2
      have e1 : (0 : Int32).toInt = 0 := rfl
      have e2 : (nI 0 : Int32).toInt = 0 := rfl
      omega
  | succ k => rw [nI_pred k, in_lt hn]
theorem onM_lt {q : Nat} (hq : q < 16) : onM q < 0 ↔ q < 8 := by
  unfold onM
  split
  · exact ⟨fun _ => by assumption, fun _ => by decide⟩
  · exact ⟨fun z => absurd z (nI_pos (by omega)), fun z => absurd z (by assumption)⟩
theorem onM_eq {q p : Nat} (hq : q < 16) (hp : p < 8) : onM q = nI p ↔ q = 8 + p := by
  unfold onM
  split
  · exact ⟨fun z => absurd (z ▸ nI_pos' (n := p) (by omega) : (0 : Int32) ≤ -1) (by decide), fun z => by omega⟩
  · rw [nI_eq (by omega) (by omega)]; omega
theorem onM_ge {q : Nat} (hq : 8 ≤ q) : onM q = nI (q - 8) := if_neg (by omega)
theorem wl16 {V : VS} {A : Nat → Nat → Int32} (hv : rpV V A) {w : Nat} (hw : w < V.1 1) : V.2.2 5 w < 16 := by
  have := (hv.1.2.2.2.2.1 w hw).1
  have := hv.1.1.1
  omega
set_option maxRecDepth 10000 in
set_option maxHeartbeats 2000000 in
theorem c_X12_in {g : gG} {h : gH} {v a b : Int32} : Rd g mX12_in [.int v, .int a, .int b] h (.int (b2i (a ≤ v ∧ v ≤ b))) := by
  refine Cn.of (L := [some (.int v), some (.int a), some (.int b)]) (by decide) (Nat.le_of_ble_eq_true rfl) rfl ?_
  refine x_iload_n dX12_in_0 rfl ?_
  refine x_iload_n dX12_in_1 rfl ?_
  refine x_icmp_lt 14 dX12_in_2 (by decide) (fun c2 => ?_) (fun c2 => ?_)
  · refine x_iconst (v := 0) dX12_in_14 (by decide) ?_
    refine x_zret rfl dX12_in_15 ⟨by decide, by decide⟩ rfl ?_
    exact ⟨by rw [b2i_f (fun z => absurd c2 (Int32.not_lt.mpr z.1))], rfl⟩
  · refine x_iload_n dX12_in_5 rfl ?_
    refine x_iload_n dX12_in_6 rfl ?_
    refine x_icmp_gt 14 dX12_in_7 (by decide) (fun c7 => ?_) (fun c7 => ?_)
    · refine x_iconst (v := 0) dX12_in_14 (by decide) ?_
      refine x_zret rfl dX12_in_15 ⟨by decide, by decide⟩ rfl ?_
      exact ⟨by rw [b2i_f (fun z => absurd c7 (Int32.not_lt.mpr z.2))], rfl⟩
    · refine x_iconst (v := 1) dX12_in_10 (by decide) ?_
      refine x_goto 15 dX12_in_11 (by decide) ?_
      refine x_zret rfl dX12_in_15 ⟨by decide, by decide⟩ rfl ?_
      exact ⟨by rw [b2i_t ⟨Int32.not_lt.mp c2, Int32.not_lt.mp c7⟩], rfl⟩
theorem mc_in {g : gG} {h : gH} {v b : Int32} : Rd g mX12_in [.int v, .int 0, .int b] h (.int (b2i (ut v b = true))) := by rw [b2i_c ut_p]; exact c_X12_in
theorem mc_inB {g : gG} {h : gH} {v : Int32} {n : Nat} (hn : n < 2 ^ 31) : Rd g mX12_in [.int v, .int 0, .int (nI n - 1)] h (.int (b2i (bl v (nI n) = true))) := by rw [b2i_c (in_bl hn).symm]; exact c_X12_in
theorem mc_inC {g : gG} {h : gH} {v b : Int32} (n : Nat) (hn : n < 2 ^ 31) (e : nI n - 1 = b) : Rd g mX12_in [.int v, .int 0, .int b] h (.int (b2i (bl v (nI n) = true))) := by subst e; exact mc_inB hn
set_option maxRecDepth 10000 in
set_option maxHeartbeats 2000000 in
theorem c_X12_isClearing {g : gG} {h : gH} {v : Int32} : Rd g mX12_isClearing [.int v] h (.int (b2i (bl v 8 = true))) := by
  refine Cn.of (L := [some (.int v)]) (by decide) (Nat.le_of_ble_eq_true rfl) rfl ?_
  refine x_iload_n dX12_isClearing_0 rfl ?_
  refine x_iconst (v := 0) dX12_isClearing_1 (by decide) ?_
  refine x_bipush (v := 7) dX12_isClearing_2 (by decide) ?_
  refine x_rdS (mc_inC 8 (by decide) (by decide)) lkX12_in sX12_93 dX12_isClearing_4 rfl rfl (Nat.le_of_ble_eq_true rfl) (by decide) ⟨rfl, rfl, by decide, by decide⟩ ?_
  refine x_zret rfl dX12_isClearing_7 ⟨by decide, by decide⟩ b2i_n ?_
  exact ⟨rfl, rfl⟩
set_option maxRecDepth 10000 in
set_option maxHeartbeats 2000000 in
theorem c_X12_isSide {g : gG} {h : gH} {v : Int32} : Rd g mX12_isSide [.int v] h (.int (b2i (bl v 2 = true))) := by
  refine Cn.of (L := [some (.int v)]) (by decide) (Nat.le_of_ble_eq_true rfl) rfl ?_
  refine x_iload_n dX12_isSide_0 rfl ?_
  refine x_iconst (v := 0) dX12_isSide_1 (by decide) ?_
  refine x_iconst (v := 1) dX12_isSide_2 (by decide) ?_
  refine x_rdS (mc_inC 2 (by decide) (by decide)) lkX12_in sX12_93 dX12_isSide_3 rfl rfl (Nat.le_of_ble_eq_true rfl) (by decide) ⟨rfl, rfl, by decide, by decide⟩ ?_
  refine x_zret rfl dX12_isSide_6 ⟨by decide, by decide⟩ b2i_n ?_
  exact ⟨rfl, rfl⟩
set_option maxRecDepth 10000 in
set_option maxHeartbeats 2000000 in
theorem c_X12_isShelf {g : gG} {h : gH} {v : Int32} : Rd g mX12_isShelf [.int v] h (.int (b2i (bl v 4 = true))) := by
  refine Cn.of (L := [some (.int v)]) (by decide) (Nat.le_of_ble_eq_true rfl) rfl ?_
  refine x_iload_n dX12_isShelf_0 rfl ?_
  refine x_iconst (v := 0) dX12_isShelf_1 (by decide) ?_
  refine x_iconst (v := 3) dX12_isShelf_2 (by decide) ?_
  refine x_rdS (mc_inC 4 (by decide) (by decide)) lkX12_in sX12_93 dX12_isShelf_3 rfl rfl (Nat.le_of_ble_eq_true rfl) (by decide) ⟨rfl, rfl, by decide, by decide⟩ ?_
  refine x_zret rfl dX12_isShelf_6 ⟨by decide, by decide⟩ b2i_n ?_
  exact ⟨rfl, rfl⟩
set_option maxRecDepth 10000 in
set_option maxHeartbeats 2000000 in
theorem c_X12_isPath {g : gG} {h : gH} {m : Nat} {V : VS} {s : Nat → Int32} {l : Nat → Int64} {A : Nat → Nat → Int32} {B : Nat → Nat → Int64} (hm : MM h m V s l A B) (hv : rpV V A) {p : Int32} : Rd g mX12_isPath [.ref m, .int p] h (.int (b2i (bl p (nI (V.1 0)) = true))) := by
  have mo := hm.1
  have ok8 : V.1 0 ≤ 8 := hv.1.1.1
  have ok4 : V.1 1 ≤ 4 := hv.1.1.2.1
  have okr : V.1 2 ≤ 4 := hv.1.1.2.2
  have t256 : V.1 3 < 256 := lt256 hv.1.2.1 hv.1.1.1
  refine Cn.of (L := [some (.ref m), some (.int p)]) (by decide) (Nat.le_of_ble_eq_true rfl) rfl ?_
  refine x_iload_n dX12_isPath_0 rfl ?_
  refine x_iconst (v := 0) dX12_isPath_1 (by decide) ?_
  refine x_aload_n dX12_isPath_2 rfl ?_
  refine x_get fX12_97 mo rfl dX12_isPath_3 ?_
  refine x_iconst (v := 1) dX12_isPath_6 (by decide) ?_
  refine x_isub dX12_isPath_7 ?_
  refine x_rdS (mc_inB (by omega)) lkX12_in sX12_93 dX12_isPath_8 rfl rfl (Nat.le_of_ble_eq_true rfl) (by decide) ⟨rfl, rfl, by decide, by decide⟩ ?_
  refine x_zret rfl dX12_isPath_11 ⟨by decide, by decide⟩ b2i_n ?_
  exact ⟨rfl, rfl⟩
set_option maxRecDepth 10000 in
set_option maxHeartbeats 2000000 in
theorem c_X12_isWalker {g : gG} {h : gH} {m : Nat} {V : VS} {s : Nat → Int32} {l : Nat → Int64} {A : Nat → Nat → Int32} {B : Nat → Nat → Int64} (hm : MM h m V s l A B) (hv : rpV V A) {p : Int32} : Rd g mX12_isWalker [.ref m, .int p] h (.int (b2i (bl p (nI (V.1 1)) = true))) := by
  have mo := hm.1
  have ok8 : V.1 0 ≤ 8 := hv.1.1.1
  have ok4 : V.1 1 ≤ 4 := hv.1.1.2.1
  have okr : V.1 2 ≤ 4 := hv.1.1.2.2
  have t256 : V.1 3 < 256 := lt256 hv.1.2.1 hv.1.1.1
  refine Cn.of (L := [some (.ref m), some (.int p)]) (by decide) (Nat.le_of_ble_eq_true rfl) rfl ?_
  refine x_iload_n dX12_isWalker_0 rfl ?_
  refine x_iconst (v := 0) dX12_isWalker_1 (by decide) ?_
  refine x_aload_n dX12_isWalker_2 rfl ?_
  refine x_get fX12_100 mo rfl dX12_isWalker_3 ?_
  refine x_iconst (v := 1) dX12_isWalker_6 (by decide) ?_
  refine x_isub dX12_isWalker_7 ?_
  refine x_rdS (mc_inB (by omega)) lkX12_in sX12_93 dX12_isWalker_8 rfl rfl (Nat.le_of_ble_eq_true rfl) (by decide) ⟨rfl, rfl, by decide, by decide⟩ ?_
  refine x_zret rfl dX12_isWalker_11 ⟨by decide, by decide⟩ b2i_n ?_
  exact ⟨rfl, rfl⟩
set_option maxRecDepth 10000 in
set_option maxHeartbeats 2000000 in
theorem c_X12_isRule {g : gG} {h : gH} {m : Nat} {V : VS} {s : Nat → Int32} {l : Nat → Int64} {A : Nat → Nat → Int32} {B : Nat → Nat → Int64} (hm : MM h m V s l A B) (hv : rpV V A) {p : Int32} : Rd g mX12_isRule [.ref m, .int p] h (.int (b2i (bl p (nI (V.1 2)) = true))) := by
  have mo := hm.1
  have ok8 : V.1 0 ≤ 8 := hv.1.1.1
  have ok4 : V.1 1 ≤ 4 := hv.1.1.2.1
  have okr : V.1 2 ≤ 4 := hv.1.1.2.2
  have t256 : V.1 3 < 256 := lt256 hv.1.2.1 hv.1.1.1
  refine Cn.of (L := [some (.ref m), some (.int p)]) (by decide) (Nat.le_of_ble_eq_true rfl) rfl ?_
  refine x_iload_n dX12_isRule_0 rfl ?_
  refine x_iconst (v := 0) dX12_isRule_1 (by decide) ?_
  refine x_aload_n dX12_isRule_2 rfl ?_
  refine x_get fX12_339 mo rfl dX12_isRule_3 ?_
  refine x_iconst (v := 1) dX12_isRule_6 (by decide) ?_
  refine x_isub dX12_isRule_7 ?_
  refine x_rdS (mc_inB (by omega)) lkX12_in sX12_93 dX12_isRule_8 rfl rfl (Nat.le_of_ble_eq_true rfl) (by decide) ⟨rfl, rfl, by decide, by decide⟩ ?_
  refine x_zret rfl dX12_isRule_11 ⟨by decide, by decide⟩ b2i_n ?_
  exact ⟨rfl, rfl⟩
set_option maxRecDepth 10000 in
set_option maxHeartbeats 2000000 in
theorem c_X12_its {g : gG} {h : gH} {m : Nat} {V : VS} {s : Nat → Int32} {l : Nat → Int64} {A : Nat → Nat → Int32} {B : Nat → Nat → Int64} (hm : MM h m V s l A B) (hv : rpV V A) {p f : Nat} (hp : p < V.1 0) (hf : f < 5) : Rd g mX12_its [.ref m, .int (nI p), .int (nI f)] h (.int (nI (V.2.2 f p))) := by
  have mo := hm.1
  have m1 : h.1 (m + 1) = some (.inl (0, 40, .inl (A 0))) := hm.2 0 (by decide)
  have ok8 : V.1 0 ≤ 8 := hv.1.1.1
  have ok4 : V.1 1 ≤ 4 := hv.1.1.2.1
  have okr : V.1 2 ≤ 4 := hv.1.1.2.2
  have t256 : V.1 3 < 256 := lt256 hv.1.2.1 hv.1.1.1
  refine Cn.of (L := [some (.ref m), some (.int (nI p)), some (.int (nI f))]) (by decide) (Nat.le_of_ble_eq_true rfl) rfl ?_
  refine x_aload_n dX12_its_0 rfl ?_
  refine x_get fX12_7 mo rfl dX12_its_1 ?_
  refine x_iconst (v := 5) dX12_its_4 (by decide) ?_
  refine x_iload_n dX12_its_5 rfl ?_
  refine x_imul dX12_its_6 ?_
  refine x_iload_n dX12_its_7 rfl ?_
  refine x_iadd dX12_its_8 ?_
  refine x_iald (5 * p + f) m1 (by rw [show (5 : Int32) = nI 5 from rfl, ts_mul, nI_add]) (by omega) (by decide) dX12_its_9 ?_
  refine x_iret rfl dX12_its_10 ⟨by decide, by decide⟩ ?_
  exact ⟨by rw [hv.2.1 f p hf hp], rfl⟩
set_option maxRecDepth 10000 in
set_option maxHeartbeats 2000000 in
theorem c_X12_isThere {g : gG} {h : gH} {m : Nat} {V : VS} {s : Nat → Int32} {l : Nat → Int64} {A : Nat → Nat → Int32} {B : Nat → Nat → Int64} (hm : MM h m V s l A B) (hv : rpV V A) {p : Nat} (hp : p < 8) : Rd g mX12_isThere [.ref m, .int (nI p)] h (.int (b2i ((V.1 3).testBit p = true))) := by
  have mo := hm.1
  have ok8 : V.1 0 ≤ 8 := hv.1.1.1
  have ok4 : V.1 1 ≤ 4 := hv.1.1.2.1
  have okr : V.1 2 ≤ 4 := hv.1.1.2.2
  have t256 : V.1 3 < 256 := lt256 hv.1.2.1 hv.1.1.1
  refine Cn.of (L := [some (.ref m), some (.int (nI p))]) (by decide) (Nat.le_of_ble_eq_true rfl) rfl ?_
  refine x_aload_n dX12_isThere_0 rfl ?_
  refine x_get fX12_103 mo rfl dX12_isThere_1 ?_
  refine x_iload_n dX12_isThere_4 rfl ?_
  refine x_ishr dX12_isThere_5 ?_
  refine x_iconst (v := 1) dX12_isThere_6 (by decide) ?_
  refine x_iand dX12_isThere_7 ?_
  rw [sr_bit _ t256 p hp]
  refine x_iconst (v := 1) dX12_isThere_8 (by decide) ?_
  refine x_icmp_ne 16 dX12_isThere_9 (by decide) (fun c9 => ?_) (fun c9 => ?_)
  · refine x_iconst (v := 0) dX12_isThere_16 (by decide) ?_
    refine x_zret rfl dX12_isThere_17 ⟨by decide, by decide⟩ rfl ?_
    exact ⟨by rw [b2i_f (fun z => c9 (b2i_t z))], rfl⟩
  · refine x_iconst (v := 1) dX12_isThere_12 (by decide) ?_
    refine x_goto 17 dX12_isThere_13 (by decide) ?_
    refine x_zret rfl dX12_isThere_17 ⟨by decide, by decide⟩ rfl ?_
    exact ⟨by rw [b2i_t (b2i_1.mp c9)], rfl⟩
set_option maxRecDepth 10000 in
set_option maxHeartbeats 2000000 in
theorem c_X12_isEnd {g : gG} {h : gH} {m : Nat} {V : VS} {s : Nat → Int32} {l : Nat → Int64} {A : Nat → Nat → Int32} {B : Nat → Nat → Int64} (hm : MM h m V s l A B) (hv : rpV V A) {p c : Nat} (hp : p < V.1 0) (hc : c < 8) : Rd g mX12_isEnd [.ref m, .int (nI p), .int (nI c)] h (.int (b2i (V.2.2 1 p = c ∨ V.2.2 2 p = c))) := by
  have mo := hm.1
  have e1 : nI (V.2.2 1 p) = nI c ↔ V.2.2 1 p = c := nI_eq (by have := (hv.1.2.2.2.1 p hp).2.1; omega) (by omega)
  have e2 : nI (V.2.2 2 p) = nI c ↔ V.2.2 2 p = c := nI_eq (by have := (hv.1.2.2.2.1 p hp).2.2.1; omega) (by omega)
  refine Cn.of (L := [some (.ref m), some (.int (nI p)), some (.int (nI c))]) (by decide) (Nat.le_of_ble_eq_true rfl) rfl ?_
  refine x_aload_n dX12_isEnd_0 rfl ?_
  refine x_iload_n dX12_isEnd_1 rfl ?_
  refine x_iconst (v := 1) dX12_isEnd_2 (by decide) ?_
  refine x_rdV (c_X12_its hm hv (f := 1) hp (by decide)) mo lkX12_its sX12_106 dX12_isEnd_3 rfl rfl (Nat.le_of_ble_eq_true rfl) (by decide) ⟨rfl, rfl, by decide, by decide⟩ ?_
  refine x_iload_n dX12_isEnd_6 rfl ?_
  refine x_icmp_eq 20 dX12_isEnd_7 (by decide) (fun c7 => ?_) (fun c7 => ?_)
  · refine x_iconst (v := 1) dX12_isEnd_20 (by decide) ?_
    refine x_goto 25 dX12_isEnd_21 (by decide) ?_
    refine x_zret rfl dX12_isEnd_25 ⟨by decide, by decide⟩ rfl ?_
    exact ⟨by rw [b2i_t (.inl (e1.mp c7))], rfl⟩
  · refine x_aload_n dX12_isEnd_10 rfl ?_
    refine x_iload_n dX12_isEnd_11 rfl ?_
    refine x_iconst (v := 2) dX12_isEnd_12 (by decide) ?_
    refine x_rdV (c_X12_its hm hv (f := 2) hp (by decide)) mo lkX12_its sX12_106 dX12_isEnd_13 rfl rfl (Nat.le_of_ble_eq_true rfl) (by decide) ⟨rfl, rfl, by decide, by decide⟩ ?_
    refine x_iload_n dX12_isEnd_16 rfl ?_
    refine x_icmp_ne 24 dX12_isEnd_17 (by decide) (fun c17 => ?_) (fun c17 => ?_)
    · refine x_iconst (v := 0) dX12_isEnd_24 (by decide) ?_
      refine x_zret rfl dX12_isEnd_25 ⟨by decide, by decide⟩ rfl ?_
      exact ⟨by rw [b2i_f (fun z => z.elim (fun y => c7 (e1.mpr y)) (fun y => c17 (e2.mpr y)))], rfl⟩
    · refine x_iconst (v := 1) dX12_isEnd_20 (by decide) ?_
      refine x_goto 25 dX12_isEnd_21 (by decide) ?_
      refine x_zret rfl dX12_isEnd_25 ⟨by decide, by decide⟩ rfl ?_
      exact ⟨by rw [b2i_t (.inr (e2.mp c17))], rfl⟩
set_option maxRecDepth 10000 in
set_option maxHeartbeats 2000000 in
theorem c_X12_otherEnd {g : gG} {h : gH} {m : Nat} {V : VS} {s : Nat → Int32} {l : Nat → Int64} {A : Nat → Nat → Int32} {B : Nat → Nat → Int64} (hm : MM h m V s l A B) (hv : rpV V A) {p c : Nat} (hp : p < V.1 0) (hc : c < 8) : Rd g mX12_otherEnd [.ref m, .int (nI p), .int (nI c)] h (.int (nI (oth V p c))) := by
  have mo := hm.1
  have e1 : nI (V.2.2 1 p) = nI c ↔ V.2.2 1 p = c := nI_eq (by have := (hv.1.2.2.2.1 p hp).2.1; omega) (by omega)
  have e2 : nI (V.2.2 2 p) = nI c ↔ V.2.2 2 p = c := nI_eq (by have := (hv.1.2.2.2.1 p hp).2.2.1; omega) (by omega)
  refine Cn.of (L := [some (.ref m), some (.int (nI p)), some (.int (nI c))]) (by decide) (Nat.le_of_ble_eq_true rfl) rfl ?_
  refine x_aload_n dX12_otherEnd_0 rfl ?_
  refine x_iload_n dX12_otherEnd_1 rfl ?_
  refine x_iconst (v := 1) dX12_otherEnd_2 (by decide) ?_
  refine x_rdV (c_X12_its hm hv (f := 1) hp (by decide)) mo lkX12_its sX12_106 dX12_otherEnd_3 rfl rfl (Nat.le_of_ble_eq_true rfl) (by decide) ⟨rfl, rfl, by decide, by decide⟩ ?_
  refine x_iload_n dX12_otherEnd_6 rfl ?_
  refine x_icmp_ne 19 dX12_otherEnd_7 (by decide) (fun c7 => ?_) (fun c7 => ?_)
  · refine x_aload_n dX12_otherEnd_19 rfl ?_
    refine x_iload_n dX12_otherEnd_20 rfl ?_
    refine x_iconst (v := 1) dX12_otherEnd_21 (by decide) ?_
    refine x_rdV (c_X12_its hm hv (f := 1) hp (by decide)) mo lkX12_its sX12_106 dX12_otherEnd_22 rfl rfl (Nat.le_of_ble_eq_true rfl) (by decide) ⟨rfl, rfl, by decide, by decide⟩ ?_
    refine x_iret rfl dX12_otherEnd_25 ⟨by decide, by decide⟩ ?_
    exact ⟨by rw [oth, if_neg (fun z => c7 (e1.mpr z))], rfl⟩
  · refine x_aload_n dX12_otherEnd_10 rfl ?_
    refine x_iload_n dX12_otherEnd_11 rfl ?_
    refine x_iconst (v := 2) dX12_otherEnd_12 (by decide) ?_
    refine x_rdV (c_X12_its hm hv (f := 2) hp (by decide)) mo lkX12_its sX12_106 dX12_otherEnd_13 rfl rfl (Nat.le_of_ble_eq_true rfl) (by decide) ⟨rfl, rfl, by decide, by decide⟩ ?_
    refine x_goto 25 dX12_otherEnd_16 (by decide) ?_
    refine x_iret rfl dX12_otherEnd_25 ⟨by decide, by decide⟩ ?_
    exact ⟨by rw [oth, if_pos (e1.mp c7)], rfl⟩
set_option maxRecDepth 10000 in
set_option maxHeartbeats 2000000 in
theorem c_X12_kept {g : gG} {h : gH} {v b : Int32} : Rd g mX12_kept [.int v, .int b] h (.int (if b < v then b else if v < 0 then 0 else v)) := by
  refine Cn.of (L := [some (.int v), some (.int b)]) (by decide) (Nat.le_of_ble_eq_true rfl) rfl ?_
  refine x_iload_n dX12_kept_0 rfl ?_
  refine x_iload_n dX12_kept_1 rfl ?_
  refine x_icmp_le 9 dX12_kept_2 (by decide) (fun c2 => ?_) (fun c2 => ?_)
  · refine x_iload_n dX12_kept_9 rfl ?_
    refine x_if_ge 17 dX12_kept_10 (by decide) (fun c10 => ?_) (fun c10 => ?_)
    · refine x_iload_n dX12_kept_17 rfl ?_
      refine x_iret rfl dX12_kept_18 ⟨by decide, by decide⟩ ?_
      exact ⟨by rw [if_neg (Int32.not_lt.mpr c2), if_neg (Int32.not_lt.mpr c10)], rfl⟩
    · refine x_iconst (v := 0) dX12_kept_13 (by decide) ?_
      refine x_goto 18 dX12_kept_14 (by decide) ?_
      refine x_iret rfl dX12_kept_18 ⟨by decide, by decide⟩ ?_
      exact ⟨by rw [if_neg (Int32.not_lt.mpr c2), if_pos (Int32.not_le.mp c10)], rfl⟩
  · refine x_iload_n dX12_kept_5 rfl ?_
    refine x_goto 18 dX12_kept_6 (by decide) ?_
    refine x_iret rfl dX12_kept_18 ⟨by decide, by decide⟩ ?_
    exact ⟨by rw [if_pos (Int32.not_le.mp c2)], rfl⟩
theorem atE_s (V : VS) (p w : Nat) : atE V p (w + 1) = (atE V p w || decide (V.2.2 5 w = V.2.2 1 p ∨ V.2.2 5 w = V.2.2 2 p)) := rfl
set_option maxRecDepth 10000 in
set_option maxHeartbeats 2000000 in
theorem ri4 {g : gG} {h : gH} {m : Nat} {V : VS} {s : Nat → Int32} {l : Nat → Int64} {A : Nat → Nat → Int32} {B : Nat → Nat → Int64} (hm : MM h m V s l A B) (hv : rpV V A) {p : Nat} (hp : p < V.1 0) : ∀ i, i ≤ V.1 1 → Ex g mX12_isRidden (gZm g mX12_isRidden (fun o h' => o = some (.int (b2i (atE V p (V.1 1) = true))) ∧ h' = h)) 4 [some (.ref m), some (.int (nI p)), some (.int (b2i (atE V p i = true))), some (.int (nI i))] [] h 0 0 := by
  have mo := hm.1
  have m2 : h.1 (m + 2) = some (.inl (0, 4, .inl (A 1))) := hm.2 1 (by decide)
  have m3 : h.1 (m + 3) = some (.inl (0, 4, .inl (A 2))) := hm.2 2 (by decide)
  have ok8 : V.1 0 ≤ 8 := hv.1.1.1
  have ok4 : V.1 1 ≤ 4 := hv.1.1.2.1
  have okr : V.1 2 ≤ 4 := hv.1.1.2.2
  have t256 : V.1 3 < 256 := lt256 hv.1.2.1 hv.1.1.1
  refine lp_up (V.1 1) (fun i hi ih => ?_) ?_
  · refine x_iload_n dX12_isRidden_4 rfl ?_
    refine x_aload_n dX12_isRidden_5 rfl ?_
    refine x_get fX12_100 mo rfl dX12_isRidden_6 ?_
    refine x_icmp_ge_f 51 dX12_isRidden_9 (by decide) (ge_f (N := V.1 1) rfl hi (by omega)) ?_
    refine x_iload_n dX12_isRidden_12 rfl ?_
    refine x_if_ne 39 dX12_isRidden_13 (by decide) (fun c13 => ?_) (fun c13 => ?_)
    · refine x_iconst (v := 1) dX12_isRidden_39 (by decide) ?_
      refine x_goto 44 dX12_isRidden_40 (by decide) ?_
      refine x_ist_2 dX12_isRidden_44 (by decide) rfl ?_
      refine x_inc_3  dX12_isRidden_45 (by decide) (nI_inc _) rfl ?_
      refine x_goto 4 dX12_isRidden_48 (by decide) ?_
      have E : b2i (atE V p (i + 1) = true) = 1 := b2i_t (by rw [atE_s, Decidable.not_not.mp (fun z => c13 (b2i_0.mpr z))]; rfl)
      rw [E] at ih
      exact ih
    · refine x_aload_n dX12_isRidden_16 rfl ?_
      refine x_get fX12_16 mo rfl dX12_isRidden_17 ?_
      refine x_iload_n dX12_isRidden_20 rfl ?_
      refine x_iald i m3 rfl (by omega) (by decide) dX12_isRidden_21 ?_
      rw [(hv.2.2.1 i hi).2.1]
      refine x_if_ge 43 dX12_isRidden_22 (by decide) (fun c22 => ?_) (fun c22 => ?_)
      · refine x_iconst (v := 0) dX12_isRidden_43 (by decide) ?_
        refine x_ist_2 dX12_isRidden_44 (by decide) rfl ?_
        refine x_inc_3  dX12_isRidden_45 (by decide) (nI_inc _) rfl ?_
        refine x_goto 4 dX12_isRidden_48 (by decide) ?_
        have a0 := b2i_0.mp c13
        have q8 : ¬ V.2.2 5 i < 8 := fun z => absurd ((onM_lt (wl16 hv hi)).mpr z) (Int32.not_lt.mpr c22)
        have E : b2i (atE V p (i + 1) = true) = 0 := b2i_f (by rw [atE_s, Bool.eq_false_iff.mpr a0, Bool.false_or, decide_eq_true_iff]; have := hv.1.2.2.2.1 p hp; omega)
        rw [E] at ih
        exact ih
      · refine x_aload_n dX12_isRidden_25 rfl ?_
        refine x_iload_n dX12_isRidden_26 rfl ?_
        refine x_aload_n dX12_isRidden_27 rfl ?_
        refine x_get fX12_13 mo rfl dX12_isRidden_28 ?_
        refine x_iload_n dX12_isRidden_31 rfl ?_
        refine x_iald i m2 rfl (by omega) (by decide) dX12_isRidden_32 ?_
        have q8 := (onM_lt (wl16 hv hi)).mp (Int32.not_le.mp c22)
        rw [(hv.2.2.1 i hi).1 q8]
        refine x_rdV (c_X12_isEnd hm hv hp q8) mo lkX12_isEnd sX12_236 dX12_isRidden_33 rfl rfl (Nat.le_of_ble_eq_true rfl) (by decide) ⟨rfl, rfl, by decide, by decide⟩ ?_
        refine x_if_eqB 43 dX12_isRidden_36 (by decide) (fun c36 => ?_) (fun c36 => ?_)
        · refine x_iconst (v := 0) dX12_isRidden_43 (by decide) ?_
          refine x_ist_2 dX12_isRidden_44 (by decide) rfl ?_
          refine x_inc_3  dX12_isRidden_45 (by decide) (nI_inc _) rfl ?_
          refine x_goto 4 dX12_isRidden_48 (by decide) ?_
          have a0 := b2i_0.mp c13
          have E : b2i (atE V p (i + 1) = true) = 0 := b2i_f (by rw [atE_s, Bool.eq_false_iff.mpr a0, Bool.false_or, decide_eq_true_iff]; exact fun z => c36 (z.elim (fun y => .inl y.symm) (fun y => .inr y.symm)))
          rw [E] at ih
          exact ih
        · refine x_iconst (v := 1) dX12_isRidden_39 (by decide) ?_
          refine x_goto 44 dX12_isRidden_40 (by decide) ?_
          refine x_ist_2 dX12_isRidden_44 (by decide) rfl ?_
          refine x_inc_3  dX12_isRidden_45 (by decide) (nI_inc _) rfl ?_
          refine x_goto 4 dX12_isRidden_48 (by decide) ?_
          have a0 := b2i_0.mp c13
          have E : b2i (atE V p (i + 1) = true) = 1 := b2i_t (by rw [atE_s, Bool.eq_false_iff.mpr a0, Bool.false_or, decide_eq_true_iff]; exact c36.elim (fun y => .inl y.symm) (fun y => .inr y.symm))
          rw [E] at ih
          exact ih
  · refine x_iload_n dX12_isRidden_4 rfl ?_
    refine x_aload_n dX12_isRidden_5 rfl ?_
    refine x_get fX12_100 mo rfl dX12_isRidden_6 ?_
    refine x_icmp_ge_t 51 dX12_isRidden_9 (by decide) (ge_t (N := V.1 1) rfl (by omega)) ?_
    refine x_iload_n dX12_isRidden_51 rfl ?_
    refine x_zret rfl dX12_isRidden_52 ⟨by decide, by decide⟩ b2i_n ?_
    exact ⟨rfl, rfl⟩
set_option maxRecDepth 10000 in
set_option maxHeartbeats 2000000 in
theorem c_X12_isRidden {g : gG} {h : gH} {m : Nat} {V : VS} {s : Nat → Int32} {l : Nat → Int64} {A : Nat → Nat → Int32} {B : Nat → Nat → Int64} (hm : MM h m V s l A B) (hv : rpV V A) {p : Nat} (hp : p < V.1 0) : Rd g mX12_isRidden [.ref m, .int (nI p)] h (.int (b2i (atE V p (V.1 1) = true))) := by
  refine Cn.of (L := [some (.ref m), some (.int (nI p)), none, none]) (by decide) (Nat.le_of_ble_eq_true rfl) rfl ?_
  refine x_iconst (v := 0) dX12_isRidden_0 (by decide) ?_
  refine x_ist_2 dX12_isRidden_1 (by decide) rfl ?_
  refine x_iconst (v := 0) dX12_isRidden_2 (by decide) ?_
  refine x_ist_3 dX12_isRidden_3 (by decide) rfl ?_
  exact ri4 hm hv hp 0 (Nat.zero_le _)
set_option maxRecDepth 10000 in
set_option maxHeartbeats 2000000 in
theorem ow4 {g : gG} {h : gH} {m : Nat} {V : VS} {s : Nat → Int32} {l : Nat → Int64} {A : Nat → Nat → Int32} {B : Nat → Nat → Int64} (hm : MM h m V s l A B) (hv : rpV V A) {p : Nat} (hp : p < 8) : ∀ i, i ≤ V.1 1 → Ex g mX12_onWhich (gZm g mX12_onWhich (fun o h' => o = some (.int (nI (onS V p (V.1 1)))) ∧ h' = h)) 4 [some (.ref m), some (.int (nI p)), some (.int (nI (onS V p i))), some (.int (nI i))] [] h 0 0 := by
  have mo := hm.1
  have m2 : h.1 (m + 2) = some (.inl (0, 4, .inl (A 1))) := hm.2 1 (by decide)
  have m3 : h.1 (m + 3) = some (.inl (0, 4, .inl (A 2))) := hm.2 2 (by decide)
  have ok8 : V.1 0 ≤ 8 := hv.1.1.1
  have ok4 : V.1 1 ≤ 4 := hv.1.1.2.1
  have okr : V.1 2 ≤ 4 := hv.1.1.2.2
  have t256 : V.1 3 < 256 := lt256 hv.1.2.1 hv.1.1.1
  refine lp_up (V.1 1) (fun i hi ih => ?_) ?_
  · refine x_iload_n dX12_onWhich_4 rfl ?_
    refine x_aload_n dX12_onWhich_5 rfl ?_
    refine x_get fX12_100 mo rfl dX12_onWhich_6 ?_
    refine x_icmp_ge_f 38 dX12_onWhich_9 (by decide) (ge_f (N := V.1 1) rfl hi (by omega)) ?_
    refine x_iload_n dX12_onWhich_12 rfl ?_
    refine x_aload_n dX12_onWhich_13 rfl ?_
    refine x_get fX12_16 mo rfl dX12_onWhich_14 ?_
    refine x_iload_n dX12_onWhich_17 rfl ?_
    refine x_iald i m3 rfl (by omega) (by decide) dX12_onWhich_18 ?_
    rw [(hv.2.2.1 i hi).2.1]
    refine x_iload_n dX12_onWhich_19 rfl ?_
    refine x_icmp_ne 29 dX12_onWhich_20 (by decide) (fun c20 => ?_) (fun c20 => ?_)
    · refine x_iconst (v := 0) dX12_onWhich_29 (by decide) ?_
      refine x_ior dX12_onWhich_30 ?_
      refine x_ist_2 dX12_onWhich_31 (by decide) rfl ?_
      refine x_inc_3  dX12_onWhich_32 (by decide) (nI_inc _) rfl ?_
      refine x_goto 4 dX12_onWhich_35 (by decide) ?_
      have E : nI (onS V p (i + 1)) = nI (onS V p i) ||| 0 := by rw [onS, if_neg (fun z => c20 ((onM_eq (wl16 hv hi) hp).mpr z)), show (0 : Int32) = nI 0 from rfl, fa_or, Nat.or_zero]
      rw [E] at ih
      exact ih
    · refine x_iconst (v := 1) dX12_onWhich_23 (by decide) ?_
      refine x_iload_n dX12_onWhich_24 rfl ?_
      refine x_ishl dX12_onWhich_25 ?_
      rw [sh1 i (by omega)]
      refine x_goto 30 dX12_onWhich_26 (by decide) ?_
      refine x_ior dX12_onWhich_30 ?_
      refine x_ist_2 dX12_onWhich_31 (by decide) rfl ?_
      refine x_inc_3  dX12_onWhich_32 (by decide) (nI_inc _) rfl ?_
      refine x_goto 4 dX12_onWhich_35 (by decide) ?_
      have E : nI (onS V p (i + 1)) = nI (onS V p i) ||| nI (2 ^ i) := by rw [onS, if_pos ((onM_eq (wl16 hv hi) hp).mp c20), fa_or]
      rw [E] at ih
      exact ih
  · refine x_iload_n dX12_onWhich_4 rfl ?_
    refine x_aload_n dX12_onWhich_5 rfl ?_
    refine x_get fX12_100 mo rfl dX12_onWhich_6 ?_
    refine x_icmp_ge_t 38 dX12_onWhich_9 (by decide) (ge_t (N := V.1 1) rfl (by omega)) ?_
    refine x_iload_n dX12_onWhich_38 rfl ?_
    refine x_iret rfl dX12_onWhich_39 ⟨by decide, by decide⟩ ?_
    exact ⟨rfl, rfl⟩
set_option maxRecDepth 10000 in
set_option maxHeartbeats 2000000 in
theorem c_X12_onWhich {g : gG} {h : gH} {m : Nat} {V : VS} {s : Nat → Int32} {l : Nat → Int64} {A : Nat → Nat → Int32} {B : Nat → Nat → Int64} (hm : MM h m V s l A B) (hv : rpV V A) {p : Nat} (hp : p < 8) : Rd g mX12_onWhich [.ref m, .int (nI p)] h (.int (nI (onS V p (V.1 1)))) := by
  refine Cn.of (L := [some (.ref m), some (.int (nI p)), none, none]) (by decide) (Nat.le_of_ble_eq_true rfl) rfl ?_
  refine x_iconst (v := 0) dX12_onWhich_0 (by decide) ?_
  refine x_ist_2 dX12_onWhich_1 (by decide) rfl ?_
  refine x_iconst (v := 0) dX12_onWhich_2 (by decide) ?_
  refine x_ist_3 dX12_onWhich_3 (by decide) rfl ?_
  exact ow4 hm hv hp 0 (Nat.zero_le _)
set_option maxRecDepth 10000 in
set_option maxHeartbeats 2000000 in
theorem he4 {g : gG} {h : gH} {m : Nat} {V : VS} {s : Nat → Int32} {l : Nat → Int64} {A : Nat → Nat → Int32} {B : Nat → Nat → Int64} (hm : MM h m V s l A B) (hv : rpV V A) : ∀ i, i ≤ V.1 1 → Ex g mX12_heldSet (gZm g mX12_heldSet (fun o h' => o = some (.int (nI (heldS V (V.1 1)))) ∧ h' = h)) 4 [some (.ref m), some (.int (nI (heldS V i))), some (.int (nI i))] [] h 0 0 := by
  have mo := hm.1
  have m2 : h.1 (m + 2) = some (.inl (0, 4, .inl (A 1))) := hm.2 1 (by decide)
  have m3 : h.1 (m + 3) = some (.inl (0, 4, .inl (A 2))) := hm.2 2 (by decide)
  have ok8 : V.1 0 ≤ 8 := hv.1.1.1
  have ok4 : V.1 1 ≤ 4 := hv.1.1.2.1
  have okr : V.1 2 ≤ 4 := hv.1.1.2.2
  have t256 : V.1 3 < 256 := lt256 hv.1.2.1 hv.1.1.1
  refine lp_up (V.1 1) (fun i hi ih => ?_) ?_
  · refine x_iload_n dX12_heldSet_4 rfl ?_
    refine x_aload_n dX12_heldSet_5 rfl ?_
    refine x_get fX12_100 mo rfl dX12_heldSet_6 ?_
    refine x_icmp_ge_f 42 dX12_heldSet_9 (by decide) (ge_f (N := V.1 1) rfl hi (by omega)) ?_
    refine x_iload_n dX12_heldSet_12 rfl ?_
    refine x_aload_n dX12_heldSet_13 rfl ?_
    refine x_get fX12_16 mo rfl dX12_heldSet_14 ?_
    refine x_iload_n dX12_heldSet_17 rfl ?_
    refine x_iald i m3 rfl (by omega) (by decide) dX12_heldSet_18 ?_
    rw [(hv.2.2.1 i hi).2.1]
    refine x_if_lt 33 dX12_heldSet_19 (by decide) (fun c19 => ?_) (fun c19 => ?_)
    · refine x_iconst (v := 0) dX12_heldSet_33 (by decide) ?_
      refine x_ior dX12_heldSet_34 ?_
      refine x_ist_1 dX12_heldSet_35 (by decide) rfl ?_
      refine x_inc_2  dX12_heldSet_36 (by decide) (nI_inc _) rfl ?_
      refine x_goto 4 dX12_heldSet_39 (by decide) ?_
      have E : nI (heldS V (i + 1)) = nI (heldS V i) ||| 0 := by rw [heldS, if_neg (by have := (onM_lt (wl16 hv hi)).mp c19; omega), show (0 : Int32) = nI 0 from rfl, fa_or, Nat.or_zero]
      rw [E] at ih
      exact ih
    · refine x_iconst (v := 1) dX12_heldSet_22 (by decide) ?_
      refine x_aload_n dX12_heldSet_23 rfl ?_
      refine x_get fX12_16 mo rfl dX12_heldSet_24 ?_
      refine x_iload_n dX12_heldSet_27 rfl ?_
      refine x_iald i m3 rfl (by omega) (by decide) dX12_heldSet_28 ?_
      have q8 : 8 ≤ V.2.2 5 i := Nat.not_lt.mp (fun z => c19 ((onM_lt (wl16 hv hi)).mpr z))
      rw [(hv.2.2.1 i hi).2.1, onM_ge q8]
      refine x_ishl dX12_heldSet_29 ?_
      rw [sh1 _ (by have := wl16 hv hi; omega)]
      refine x_goto 34 dX12_heldSet_30 (by decide) ?_
      refine x_ior dX12_heldSet_34 ?_
      refine x_ist_1 dX12_heldSet_35 (by decide) rfl ?_
      refine x_inc_2  dX12_heldSet_36 (by decide) (nI_inc _) rfl ?_
      refine x_goto 4 dX12_heldSet_39 (by decide) ?_
      have E : nI (heldS V (i + 1)) = nI (heldS V i) ||| nI (2 ^ (V.2.2 5 i - 8)) := by rw [heldS, if_pos q8, fa_or]
      rw [E] at ih
      exact ih
  · refine x_iload_n dX12_heldSet_4 rfl ?_
    refine x_aload_n dX12_heldSet_5 rfl ?_
    refine x_get fX12_100 mo rfl dX12_heldSet_6 ?_
    refine x_icmp_ge_t 42 dX12_heldSet_9 (by decide) (ge_t (N := V.1 1) rfl (by omega)) ?_
    refine x_iload_n dX12_heldSet_42 rfl ?_
    refine x_iret rfl dX12_heldSet_43 ⟨by decide, by decide⟩ ?_
    exact ⟨rfl, rfl⟩
set_option maxRecDepth 10000 in
set_option maxHeartbeats 2000000 in
theorem c_X12_heldSet {g : gG} {h : gH} {m : Nat} {V : VS} {s : Nat → Int32} {l : Nat → Int64} {A : Nat → Nat → Int32} {B : Nat → Nat → Int64} (hm : MM h m V s l A B) (hv : rpV V A) : Rd g mX12_heldSet [.ref m] h (.int (nI (heldS V (V.1 1)))) := by
  refine Cn.of (L := [some (.ref m), none, none]) (by decide) (Nat.le_of_ble_eq_true rfl) rfl ?_
  refine x_iconst (v := 0) dX12_heldSet_0 (by decide) ?_
  refine x_ist_1 dX12_heldSet_1 (by decide) rfl ?_
  refine x_iconst (v := 0) dX12_heldSet_2 (by decide) ?_
  refine x_ist_2 dX12_heldSet_3 (by decide) rfl ?_
  exact he4 hm hv 0 (Nat.zero_le _)
theorem kp_p2 : ∀ x, x ≤ 8 → (if (8 : Int32) < nI x + 2 then 8 else if nI x + 2 < 0 then 0 else nI x + 2) = nI (min 8 (x + 2)) := by decide
theorem kp_h2 : ∀ x, x ≤ 8 → nI x / 2 = nI (x / 2) := by decide
theorem kp_m3 : ∀ x, x ≤ 8 → (if (8 : Int32) < nI x - 3 then 8 else if nI x - 3 < 0 then 0 else nI x - 3) = nI (x - 3) := by decide
theorem kp_id : ∀ x, x ≤ 8 → (if (8 : Int32) < nI x then 8 else if nI x < 0 then 0 else nI x) = nI x := by decide
set_option maxRecDepth 10000 in
set_option maxHeartbeats 2000000 in
theorem c_X12_staysOf {g : gG} {h : gH} {m : Nat} {V : VS} {s : Nat → Int32} {l : Nat → Int64} {A : Nat → Nat → Int32} {B : Nat → Nat → Int64} (hm : MM h m V s l A B) (hv : rpV V A) {p : Nat} (hp : p < V.1 0) : Rd g mX12_staysOf [.ref m, .int (nI p)] h (.int (nI (stays V p))) := by
  have mo := hm.1
  have pp := hv.1.2.2.2.1 p hp
  have r0 : nI (V.1 4) = 0 ↔ V.1 4 = 0 := nI_z (by have := hv.1.2.2.1; omega)
  refine Cn.of (L := [some (.ref m), some (.int (nI p)), none, none]) (by decide) (Nat.le_of_ble_eq_true rfl) rfl ?_
  refine x_aload_n dX12_staysOf_0 rfl ?_
  refine x_iload_n dX12_staysOf_1 rfl ?_
  refine x_iconst (v := 3) dX12_staysOf_2 (by decide) ?_
  refine x_rdV (c_X12_its hm hv (f := 3) hp (by decide)) mo lkX12_its sX12_106 dX12_staysOf_3 rfl rfl (Nat.le_of_ble_eq_true rfl) (by decide) ⟨rfl, rfl, by decide, by decide⟩ ?_
  refine x_ist_2 dX12_staysOf_6 (by decide) rfl ?_
  refine x_iload_n dX12_staysOf_7 rfl ?_
  refine x_iconst (v := 2) dX12_staysOf_8 (by decide) ?_
  refine x_iadd dX12_staysOf_9 ?_
  refine x_bipush (v := 8) dX12_staysOf_10 (by decide) ?_
  refine x_rdS c_X12_kept lkX12_kept sX12_240 dX12_staysOf_12 rfl rfl (Nat.le_of_ble_eq_true rfl) (by decide) ⟨rfl, rfl, by decide, by decide⟩ ?_
  rw [kp_p2 _ (by omega)]
  refine x_ist_3 dX12_staysOf_15 (by decide) rfl ?_
  refine x_aload_n dX12_staysOf_16 rfl ?_
  refine x_iload_n dX12_staysOf_17 rfl ?_
  refine x_iconst (v := 0) dX12_staysOf_18 (by decide) ?_
  refine x_rdV (c_X12_its hm hv (f := 0) hp (by decide)) mo lkX12_its sX12_106 dX12_staysOf_19 rfl rfl (Nat.le_of_ble_eq_true rfl) (by decide) ⟨rfl, rfl, by decide, by decide⟩ ?_
  refine swX12_staysOf_22 (fun c22 => ?_) (fun c22 => ?_) (fun c22 => ?_) (fun c22 => ?_) (fun c22 => ?_) (fun c22_1 c22_2 c22_3 c22_4 c22_5 => ?_)
  · refine x_iload_n dX12_staysOf_56 rfl ?_
    refine x_iret rfl dX12_staysOf_57 ⟨by decide, by decide⟩ ?_
    have k0 : V.2.2 0 p = 1 := nI_eqn (b := 1) (by omega) (by decide) c22
    exact ⟨by rw [stays, if_pos k0], rfl⟩
  · refine x_bipush (v := 8) dX12_staysOf_58 (by decide) ?_
    refine x_iret rfl dX12_staysOf_60 ⟨by decide, by decide⟩ ?_
    have k0 : V.2.2 0 p = 2 := nI_eqn (b := 2) (by omega) (by decide) c22
    exact ⟨by rw [stays, if_neg (by omega), if_pos k0]; rfl, rfl⟩
  · refine x_iload_n dX12_staysOf_76 rfl ?_
    refine x_iconst (v := 2) dX12_staysOf_77 (by decide) ?_
    refine x_idiv dX12_staysOf_78 (by decide) ?_
    refine x_iret rfl dX12_staysOf_79 ⟨by decide, by decide⟩ ?_
    have k0 : V.2.2 0 p = 3 := nI_eqn (b := 3) (by omega) (by decide) c22
    exact ⟨by rw [stays, if_neg (by omega), if_neg (by omega), if_pos k0, kp_h2 _ (Nat.min_le_left _ _)], rfl⟩
  · refine x_aload_n dX12_staysOf_80 rfl ?_
    refine x_get fX12_224 mo rfl dX12_staysOf_81 ?_
    refine x_if_eq 93 dX12_staysOf_84 (by decide) (fun c84 => ?_) (fun c84 => ?_)
    · refine x_iload_n dX12_staysOf_93 rfl ?_
      refine x_bipush (v := 8) dX12_staysOf_94 (by decide) ?_
      refine x_rdS c_X12_kept lkX12_kept sX12_240 dX12_staysOf_96 rfl rfl (Nat.le_of_ble_eq_true rfl) (by decide) ⟨rfl, rfl, by decide, by decide⟩ ?_
      refine x_iret rfl dX12_staysOf_99 ⟨by decide, by decide⟩ ?_
      have k0 : V.2.2 0 p = 4 := nI_eqn (b := 4) (by omega) (by decide) c22
      exact ⟨by rw [kp_id _ (Nat.min_le_left _ _), stays, if_neg (by omega), if_neg (by omega), if_neg (by omega), if_pos k0, if_pos (r0.mp c84)], rfl⟩
    · refine x_iload_n dX12_staysOf_87 rfl ?_
      refine x_iconst (v := 3) dX12_staysOf_88 (by decide) ?_
      refine x_isub dX12_staysOf_89 ?_
      refine x_goto 94 dX12_staysOf_90 (by decide) ?_
      refine x_bipush (v := 8) dX12_staysOf_94 (by decide) ?_
      refine x_rdS c_X12_kept lkX12_kept sX12_240 dX12_staysOf_96 rfl rfl (Nat.le_of_ble_eq_true rfl) (by decide) ⟨rfl, rfl, by decide, by decide⟩ ?_
      refine x_iret rfl dX12_staysOf_99 ⟨by decide, by decide⟩ ?_
      have k0 : V.2.2 0 p = 4 := nI_eqn (b := 4) (by omega) (by decide) c22
      exact ⟨by rw [kp_m3 _ (Nat.min_le_left _ _), stays, if_neg (by omega), if_neg (by omega), if_neg (by omega), if_pos k0, if_neg (fun z => c84 (r0.mpr z))], rfl⟩
  · refine x_aload_n dX12_staysOf_61 rfl ?_
    refine x_iload_n dX12_staysOf_62 rfl ?_
    refine x_rdV (c_X12_isRidden hm hv hp) mo lkX12_isRidden sX12_243 dX12_staysOf_63 rfl rfl (Nat.le_of_ble_eq_true rfl) (by decide) ⟨rfl, rfl, by decide, by decide⟩ ?_
    refine x_if_eqB 74 dX12_staysOf_66 (by decide) (fun c66 => ?_) (fun c66 => ?_)
    · refine x_iload_n dX12_staysOf_74 rfl ?_
      refine x_iret rfl dX12_staysOf_75 ⟨by decide, by decide⟩ ?_
      have k0 : V.2.2 0 p = 5 := nI_eqn (b := 5) (by omega) (by decide) c22
      exact ⟨by rw [stays, if_neg (by omega), if_neg (by omega), if_neg (by omega), if_neg (by omega), if_pos k0, if_neg c66], rfl⟩
    · refine x_bipush (v := 8) dX12_staysOf_69 (by decide) ?_
      refine x_goto 75 dX12_staysOf_71 (by decide) ?_
      refine x_iret rfl dX12_staysOf_75 ⟨by decide, by decide⟩ ?_
      have k0 : V.2.2 0 p = 5 := nI_eqn (b := 5) (by omega) (by decide) c22
      exact ⟨by rw [stays, if_neg (by omega), if_neg (by omega), if_neg (by omega), if_neg (by omega), if_pos k0, if_pos c66]; rfl, rfl⟩
  · refine x_iload_n dX12_staysOf_100 rfl ?_
    refine x_iret rfl dX12_staysOf_101 ⟨by decide, by decide⟩ ?_
    have n1 : ¬ V.2.2 0 p = 1 := fun z => c22_1 (by rw [z]; rfl)
    have n2 : ¬ V.2.2 0 p = 2 := fun z => c22_2 (by rw [z]; rfl)
    have n3 : ¬ V.2.2 0 p = 3 := fun z => c22_3 (by rw [z]; rfl)
    have n4 : ¬ V.2.2 0 p = 4 := fun z => c22_4 (by rw [z]; rfl)
    have n5 : ¬ V.2.2 0 p = 5 := fun z => c22_5 (by rw [z]; rfl)
    exact ⟨by rw [stays, if_neg n1, if_neg n2, if_neg n3, if_neg n4, if_neg n5], rfl⟩
set_option maxRecDepth 10000 in
set_option maxHeartbeats 2000000 in
theorem c_X12_comesOf {g : gG} {h : gH} {m : Nat} {V : VS} {s : Nat → Int32} {l : Nat → Int64} {A : Nat → Nat → Int32} {B : Nat → Nat → Int64} (hm : MM h m V s l A B) (hv : rpV V A) {p : Nat} (hp : p < V.1 0) : Rd g mX12_comesOf [.ref m, .int (nI p)] h (.int (nI (comes V p))) := by
  have mo := hm.1
  have pp := hv.1.2.2.2.1 p hp
  have r0 : nI (V.1 4) = 0 ↔ V.1 4 = 0 := nI_z (by have := hv.1.2.2.1; omega)
  refine Cn.of (L := [some (.ref m), some (.int (nI p)), none]) (by decide) (Nat.le_of_ble_eq_true rfl) rfl ?_
  refine x_aload_n dX12_comesOf_0 rfl ?_
  refine x_iload_n dX12_comesOf_1 rfl ?_
  refine x_iconst (v := 4) dX12_comesOf_2 (by decide) ?_
  refine x_rdV (c_X12_its hm hv (f := 4) hp (by decide)) mo lkX12_its sX12_106 dX12_comesOf_3 rfl rfl (Nat.le_of_ble_eq_true rfl) (by decide) ⟨rfl, rfl, by decide, by decide⟩ ?_
  refine x_ist_2 dX12_comesOf_6 (by decide) rfl ?_
  refine x_aload_n dX12_comesOf_7 rfl ?_
  refine x_iload_n dX12_comesOf_8 rfl ?_
  refine x_iconst (v := 0) dX12_comesOf_9 (by decide) ?_
  refine x_rdV (c_X12_its hm hv (f := 0) hp (by decide)) mo lkX12_its sX12_106 dX12_comesOf_10 rfl rfl (Nat.le_of_ble_eq_true rfl) (by decide) ⟨rfl, rfl, by decide, by decide⟩ ?_
  refine swX12_comesOf_13 (fun c13 => ?_) (fun c13 => ?_) (fun c13 => ?_) (fun c13_2 c13_3 c13_4 => ?_)
  · refine x_iconst (v := 0) dX12_comesOf_40 (by decide) ?_
    refine x_iret rfl dX12_comesOf_41 ⟨by decide, by decide⟩ ?_
    have k0 : V.2.2 0 p = 2 := nI_eqn (b := 2) (by omega) (by decide) c13
    exact ⟨by rw [comes, if_pos k0]; rfl, rfl⟩
  · refine x_iload_n dX12_comesOf_42 rfl ?_
    refine x_iconst (v := 2) dX12_comesOf_43 (by decide) ?_
    refine x_iadd dX12_comesOf_44 ?_
    refine x_bipush (v := 8) dX12_comesOf_45 (by decide) ?_
    refine x_rdS c_X12_kept lkX12_kept sX12_240 dX12_comesOf_47 rfl rfl (Nat.le_of_ble_eq_true rfl) (by decide) ⟨rfl, rfl, by decide, by decide⟩ ?_
    refine x_iret rfl dX12_comesOf_50 ⟨by decide, by decide⟩ ?_
    have k0 : V.2.2 0 p = 3 := nI_eqn (b := 3) (by omega) (by decide) c13
    exact ⟨by rw [kp_p2 _ (by omega), comes, if_neg (by omega), if_pos k0], rfl⟩
  · refine x_aload_n dX12_comesOf_51 rfl ?_
    refine x_get fX12_224 mo rfl dX12_comesOf_52 ?_
    refine x_if_eq 62 dX12_comesOf_55 (by decide) (fun c55 => ?_) (fun c55 => ?_)
    · refine x_iload_n dX12_comesOf_62 rfl ?_
      refine x_iret rfl dX12_comesOf_63 ⟨by decide, by decide⟩ ?_
      have k0 : V.2.2 0 p = 4 := nI_eqn (b := 4) (by omega) (by decide) c13
      exact ⟨by rw [comes, if_neg (by omega), if_neg (by omega), if_pos k0, if_pos (r0.mp c55)], rfl⟩
    · refine x_iconst (v := 0) dX12_comesOf_58 (by decide) ?_
      refine x_goto 63 dX12_comesOf_59 (by decide) ?_
      refine x_iret rfl dX12_comesOf_63 ⟨by decide, by decide⟩ ?_
      have k0 : V.2.2 0 p = 4 := nI_eqn (b := 4) (by omega) (by decide) c13
      exact ⟨by rw [comes, if_neg (by omega), if_neg (by omega), if_pos k0, if_neg (fun z => c55 (r0.mpr z))]; rfl, rfl⟩
  · refine x_iload_n dX12_comesOf_64 rfl ?_
    refine x_iret rfl dX12_comesOf_65 ⟨by decide, by decide⟩ ?_
    have n2 : ¬ V.2.2 0 p = 2 := fun z => c13_2 (by rw [z]; rfl)
    have n3 : ¬ V.2.2 0 p = 3 := fun z => c13_3 (by rw [z]; rfl)
    have n4 : ¬ V.2.2 0 p = 4 := fun z => c13_4 (by rw [z]; rfl)
    exact ⟨by rw [comes, if_neg n2, if_neg n3, if_neg n4], rfl⟩
