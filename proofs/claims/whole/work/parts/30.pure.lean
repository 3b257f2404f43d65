/-! PURE ROWS: bits, sums, prices: what the class computes is what the reference computes -/
theorem k64_le {a b : Int32} : a.toInt64 ≤ b.toInt64 ↔ a ≤ b := by
  rw [Int64.le_iff_toInt_le, Int32.le_iff_toInt_le, Int32.toInt_toInt64, Int32.toInt_toInt64]
theorem k64_eq {a b : Int32} : a.toInt64 = b.toInt64 ↔ a = b :=
  ⟨fun h => Int32.toInt_inj.mp (by have := congrArg Int64.toInt h; rwa [Int32.toInt_toInt64, Int32.toInt_toInt64] at this), fun h => by rw [h]⟩
theorem k64_in {lo hi x : Int32} {l h : Int64} (hl : l = lo.toInt64) (hh : h = hi.toInt64) : (l ≤ x.toInt64 ∧ x.toInt64 ≤ h) ↔ (lo ≤ x ∧ x ≤ hi) := by
  rw [hl, hh, k64_le, k64_le]
theorem kofN {x : Int32} (h : 0 ≤ x) : ∃ n, n < 2 ^ 31 ∧ x = nI n := by
  have h0 : 0 ≤ x.toInt := by simpa using Int32.le_iff_toInt_le.mp h
  have h1 := Int32.toInt_lt x
  refine ⟨x.toInt.toNat, by omega, Int32.toInt_inj.mp ?_⟩
  rw [nI_toInt (by omega)]
  omega
theorem kofN2 {x : Int32} {k : Nat} (hk : k < 2 ^ 31) (h : 0 ≤ x) (h2 : x ≤ nI k) : ∃ n, n ≤ k ∧ x = nI n := by
  obtain ⟨n, hn, rfl⟩ := kofN h
  exact ⟨n, (nI_leI hn hk).mp h2, rfl⟩
theorem kbit_01 (set : Int32) (c : Nat) : kbit set c = 0 ∨ kbit set c = 1 := by
  unfold kbit
  generalize set >>> (nI c &&& 31) = x
  have h : x.toBitVec &&& 1#32 = BitVec.setWidth 32 (BitVec.ofBool (x.toBitVec.getLsbD 0)) := BitVec.and_one_eq_setWidth_ofBool_getLsbD
  cases hb : x.toBitVec.getLsbD 0
  · left
    apply Int32.toBitVec_inj.mp
    rw [Int32.toBitVec_and]
    show x.toBitVec &&& 1#32 = _
    rw [h, hb]
    decide
  · right
    apply Int32.toBitVec_inj.mp
    rw [Int32.toBitVec_and]
    show x.toBitVec &&& 1#32 = _
    rw [h, hb]
    decide
theorem kz64 : (0 : Int32).toInt64 = 0 := by decide
theorem ko64 : (1 : Int32).toInt64 = 1 := by decide
theorem kb_sq (set : Int32) (c : Nat) : (kbit set c).toInt64 * (kbit set c).toInt64 = (kbit set c).toInt64 := by
  rcases kbit_01 set c with h | h <;> rw [h] <;> decide
theorem kIn_eq (set : Int32) (f : Nat → Int64) (c : Nat) : kIn set f c = (kbit set c).toInt64 * f c := by
  rw [kIn]
  rcases kbit_01 set c with h | h
  · rw [h, if_neg (by decide), kz64, Int64.zero_mul]
  · rw [h, if_pos (by decide), ko64, Int64.one_mul]
theorem kbx (set x : Int32) (c : Nat) : (x * kbit set c).toInt64 = x.toInt64 * (kbit set c).toInt64 := by
  rcases kbit_01 set c with h | h
  · rw [h, Int32.mul_zero, kz64, Int64.mul_zero]
  · rw [h, Int32.mul_one, ko64, Int64.mul_one]
theorem kbw (set w : Int32) (c : Nat) : (kbit set c * w).toInt64 = (kbit set c).toInt64 * w.toInt64 := by
  rw [Int32.mul_comm, kbx, Int64.mul_comm]
theorem kbi (set x : Int32) (c : Nat) : (if kbit set c ≠ 0 then x else 0).toInt64 = x.toInt64 * (kbit set c).toInt64 := by
  rcases kbit_01 set c with h | h
  · rw [h, if_neg (by decide), kz64, Int64.mul_zero]
  · rw [h, if_pos (by decide), ko64, Int64.mul_one]
theorem kbl (set : Int32) (x : Int64) (c : Nat) : (if kbit set c ≠ 0 then x else 0) = x * (kbit set c).toInt64 := by
  rcases kbit_01 set c with h | h
  · rw [h, if_neg (by decide), kz64, Int64.mul_zero]
  · rw [h, if_pos (by decide), ko64, Int64.mul_one]
theorem su_add (a b : Nat → Int64) : ∀ n, su (fun c => a c + b c) n = su a n + su b n
  | 0 => rfl
  | n + 1 => by rw [su, su, su, su_add a b n]; grind
theorem su_mul (k : Int64) (a : Nat → Int64) : ∀ n, su (fun c => k * a c) n = k * su a n
  | 0 => by rw [su, su, Int64.mul_zero]
  | n + 1 => by rw [su, su, su_mul k a n]; grind
theorem su_z {a : Nat → Int64} : ∀ {n : Nat}, (∀ c, c < n → a c = 0) → su a n = 0
  | 0, _ => rfl
  | n + 1, h => by rw [su, su_z (fun c hc => h c (by omega)), h n (by omega)]; rfl
theorem su_upd {F G : Nat → Int64} {g : Nat} : ∀ {n : Nat}, g < n → (∀ f, f < n → f ≠ g → G f = F f) → su G n = su F n + (G g - F g)
  | n + 1, hg, h => by
    by_cases e : g = n
    · subst e
      rw [su, su, su_cong (f := G) (g := F) (fun c hc => h c (by omega) (by omega))]
      grind
    · rw [su, su, su_upd (F := F) (G := G) (g := g) (by omega) (fun f hf hne => h f (by omega) hne), h n (by omega) (fun q => e q.symm)]
      grind
/-- the number of bits -/
def kBn (set : Int32) (N : Nat) : Int64 := su (fun c => (kbit set c).toInt64) N
def kBf (set : Int32) (f : Nat → Int64) (N : Nat) : Int64 := su (fun c => (kbit set c).toInt64 * f c) N
theorem kS1_e (f : Nat → Int64) (set : Int32) (x : Int64) (N : Nat) : kS1 f set x N = su f N + x * kBn set N := by
  rw [kS1, su_add, su_mul, kBn]
theorem kS2_e (f : Nat → Int64) (set : Int32) (x : Int64) (N : Nat) : kS2 f set x N = su (fun c => f c * f c) N + (2 * x * kBf set f N + x * x * kBn set N) := by
  rw [kS2, kBf, kBn, ← su_mul, ← su_mul, ← su_add, ← su_add]
  refine su_cong (fun c _ => ?_)
  have h := kb_sq set c
  grind
theorem kS_0 (f : Nat → Int64) (N : Nat) : kS1 f 0 0 N = su f N ∧ kS2 f 0 0 N = su (fun c => f c * f c) N := by
  rw [kS1_e, kS2_e]
  constructor <;> grind
theorem kLv_0 (b : Int32) (N : Nat) (f : Nat → Int64) : kLv b N f 0 0 = 4 * b.toInt64 * su f N + (nI N).toInt64 * su (fun c => f c * f c) N - su f N * su f N := by
  rw [kLv, (kS_0 f N).1, (kS_0 f N).2]
theorem kSP_e (b : Int32) (N : Nat) (f : Nat → Int64) (ss : Int64) (set : Int32) : kSP b N f ss set = (4 * b.toInt64 - 2 * ss) * kBn set N + 2 * (nI N).toInt64 * kBf set f N := by
  rw [kSP, kBn, kBf, ← su_mul, ← su_mul, ← su_add]
  refine su_cong (fun c _ => ?_)
  rw [kIn_eq, kPr]
  grind
theorem kPr_cong {b : Int32} {N : Nat} {f g : Nat → Int64} {ss : Int64} {c : Nat} (h : f c = g c) : kPr b N f ss c = kPr b N g ss c := by rw [kPr, kPr, h]
theorem kSP_cong {b : Int32} {N : Nat} {f g : Nat → Int64} {ss : Int64} {set : Int32} (h : ∀ c, c < N → f c = g c) : kSP b N f ss set = kSP b N g ss set := by
  rw [kSP, kSP]
  exact su_cong (fun c hc => by rw [kIn, kIn, kPr_cong (h c hc)])
theorem kPd_e (b : Int32) (N : Nat) (f : Nat → Int64) (set : Int32) (x : Int64) : kPd b N f set x = 4 * b.toInt64 * (x * kBn set N) + (nI N).toInt64 * (2 * x * kBf set f N + x * x * kBn set N) - (2 * su f N * (x * kBn set N) + x * kBn set N * (x * kBn set N)) := by
  rw [kPd, kLv_0, kLv, kS1_e, kS2_e]
  grind
theorem kCost_pd {b : Int32} {N : Nat} {f g : Nat → Int64} {set x : Int32} (hbc : (kBC set).toInt64 = kBn set N) (h : ∀ c, c < N → g c = f c) : kCost b N g (su f N) set x = kPd b N f set x.toInt64 := by
  rw [kCost, kSP_cong h, kSP_e, kPd_e, hbc]
  generalize kBn set N = n
  generalize kBf set f N = q
  generalize su f N = S
  grind
theorem kprice_e {b : Int32} {N : Nat} {f g : Nat → Int64} {set : Int32} (h : ∀ c, c < N → g c = f c) : kSP b N g (su f N) set = su (fun c => (kbit set c).toInt64 * kPr b N f (su f N) c) N := by
  rw [kSP_cong h, kSP]
  exact su_cong (fun c _ => kIn_eq _ _ _)
theorem kall_cong {p q : Nat → Bool} : ∀ {n : Nat}, (∀ c, c < n → p c = q c) → kall p n = kall q n
  | 0, _ => rfl
  | n + 1, h => by rw [kall, kall, kall_cong (fun c hc => h c (by omega)), h n (by omega)]
theorem kAl_Am {b : Int32} {N : Nat} {f g : Nat → Int64} {set x : Int32} (hbc : (kBC set).toInt64 = kBn set N) (h : ∀ c, c < N → g c = f c) {c : Nat} (hc : c < N) : kAl b N g (su f N) set x c = kAm b N f (su f N + su (fun c => x.toInt64 * (kbit set c).toInt64) N) set x.toInt64 c := by
  have e : kPr b N g (su f N) c + 2 * ((nI N).toInt64 * (if kbit set c ≠ 0 then x.toInt64 else 0) - (kBC set).toInt64 * x.toInt64) = 4 * b.toInt64 + 2 * ((nI N).toInt64 * (f c + x.toInt64 * (kbit set c).toInt64) - (su f N + su (fun c => x.toInt64 * (kbit set c).toInt64) N)) := by
    rw [kPr, h c hc, kbl, su_mul, hbc, kBn]
    grind
  rw [kAl, kAm, e, Bool.decide_and]
theorem kLst_w {ho h : Nat → Int64} {set x : Int32} : ∀ {n : Nat}, (∀ c, c < n + 1 → ho c = h c) → kLst ho set x (n + 1) = kLw h set x.toInt64 n
  | 0, e => by
    rw [kLst, kLw, kbi, e 0 (by omega), kLst]
    have q := Int64.le_maxValue (h 0 + x.toInt64 * (kbit set 0).toInt64)
    rw [show Int64.maxValue = 9223372036854775807 from by decide] at q
    split
    · rfl
    · grind
  | n + 1, e => by
    rw [kLst, kLw, kLst_w (fun c hc => e c (by omega)), kbi, e (n + 1) (by omega)]
    split <;> split <;> grind
theorem kWb_y {b : Int32} {N : Nat} {f g ho h : Nat → Int64} {set x : Int32} {pu : Int64} (hbc : (kBC set).toInt64 = kBn set N) (hN : 1 ≤ N) (hf : ∀ c, c < N → g c = f c) (hh : ∀ c, c < N → ho c = h c) : kWb b N g (su f N) set x pu ho = kWy b N f set x.toInt64 pu h := by
  rw [kWb, kWy, kall_cong (fun c hc => kAl_Am hbc hf hc), kCost_pd hbc hf]
  obtain ⟨n, rfl⟩ : ∃ n, N = n + 1 := ⟨N - 1, by omega⟩
  rw [kLst_w hh, Nat.add_sub_cancel]
theorem kWb_v {b : Int32} {N : Nat} {f : Nat → Int64} {set : Int32} {x p : Int64} {h : Nat → Int64} : kWy b N f set x p h = 0 ∨ kWy b N f set x p h = 1 ∨ kWy b N f set x p h = 2 := by
  rw [kWy]
  split
  · split
    · exact Or.inl rfl
    · exact Or.inr (Or.inr rfl)
  · exact Or.inr (Or.inl rfl)
/-- weights -/
def kw1 (w : Nat → Int32) (n : Nat) : Prop := ∀ c, c < n → 0 ≤ w c ∧ w c ≤ 100
theorem kw1_sum {w : Nat → Int32} : ∀ {n : Nat}, kw1 w n → ∃ A, A ≤ 100 * n ∧ sw w n = nI A ∧ su (fun c => (w c).toInt64) n = lN A
  | 0, _ => ⟨0, by omega, rfl, rfl⟩
  | n + 1, h => by
    obtain ⟨A, h1, h2, h3⟩ := kw1_sum (n := n) (fun c hc => h c (by omega))
    obtain ⟨a, ha, e⟩ := kofN2 (k := 100) (by omega) (h n (by omega)).1 (h n (by omega)).2
    exact ⟨A + a, by omega, by rw [sw, h2, e, nI_add], by rw [su, h3, e, nI_l (by omega), lN_add]⟩
theorem kw1_le {w : Nat → Int32} {c A a : Nat} : ∀ {n : Nat}, kw1 w n → n < 2 ^ 20 → c < n → sw w n = nI A → A < 2 ^ 31 → w c = nI a → a < 2 ^ 31 → a ≤ A
  | n + 1, h, hn, hc, hA, hA2, ha, ha2 => by
    obtain ⟨A1, h1, h2, -⟩ := kw1_sum (n := n) (fun c hc => h c (by omega))
    obtain ⟨b, hb, e⟩ := kofN2 (k := 100) (by omega) (h n (by omega)).1 (h n (by omega)).2
    have e2 : A1 + b = A := (nI_eq (by omega) (by omega)).mp (by rw [← nI_add, ← h2, ← e]; exact hA)
    rcases Nat.lt_succ_iff_lt_or_eq.mp hc with q | q
    · have := kw1_le (n := n) (fun c hc => h c (by omega)) (by omega) q h2 (by omega) ha ha2
      omega
    · subst q
      have := (nI_eq (by omega) (by omega)).mp (e.symm.trans ha)
      omega
theorem kw1_64 {w : Nat → Int32} {n : Nat} (h : kw1 w n) (hn : n < 2 ^ 20) : (sw w n).toInt64 = su (fun c => (w c).toInt64) n := by
  obtain ⟨A, h1, h2, h3⟩ := kw1_sum h
  rw [h2, h3, nI_l (by omega)]
theorem kWt_o {b : Int32} {N : Nat} {f g : Nat → Int64} {w v : Nat → Int32} {set x : Int32} (hbc : (kBC set).toInt64 = kBn set N) (hN : N ≤ 8) (hf : ∀ c, c < N → g c = f c) (hw : ∀ c, c < N → v c = w c) (h1 : kw1 w N) : kWt b N g (su f N) v set x = kWo b N f w set x.toInt64 := by
  have e1 : su (kIn set (fun c => (v c).toInt64)) N = su (fun c => (kbit set c * w c).toInt64) N := su_cong (fun c hc => by rw [kIn_eq, kbw, hw c hc])
  have e2 : su (fun c => (v c).toInt64) N = su (fun c => (w c).toInt64) N := su_cong (fun c hc => by rw [hw c hc])
  rw [kWt, kWo, kCost_pd hbc hf, e1, e2, kw1_64 h1 (by omega)]
theorem kBs_cong {v v' : Int32 → Int64} {ok ok' : Int32 → Bool} (hv : ∀ x, v x = v' x) (ho : ∀ x, ok x = ok' x) (n : Nat) : kBs v ok n = kBs v' ok' n := by
  rw [show v = v' from funext hv, show ok = ok' from funext ho]
set_option maxRecDepth 100000 in
theorem kBC_all : ∀ N, N < 9 → ∀ n, n < 2 ^ N → (kBC (nI n)).toInt64 = kBn (nI n) N := by decide +kernel
theorem kset_t {N : Nat} (h2 : 2 ≤ N) (h8 : N ≤ 8) : (1 : Int32) <<< (nI N &&& 31) - 2 = nI (2 ^ N - 2) ∧ (1 : Int64) <<< ((nI N).toInt64 &&& 63) - 2 = lN (2 ^ N - 2) := by
  rcases (show N = 2 ∨ N = 3 ∨ N = 4 ∨ N = 5 ∨ N = 6 ∨ N = 7 ∨ N = 8 by omega) with rfl | rfl | rfl | rfl | rfl | rfl | rfl <;> decide
theorem k2N {N : Nat} (h8 : N ≤ 8) : 2 ^ N ≤ 256 := Nat.le_trans (Nat.pow_le_pow_right (by decide) h8) (by decide)
theorem kset_i {N : Nat} {set : Int32} (h2 : 2 ≤ N) (h8 : N ≤ 8) : (1 ≤ set.toInt64 ∧ set.toInt64 ≤ 1 <<< ((nI N).toInt64 &&& 63) - 2) ↔ (1 ≤ set ∧ set ≤ 1 <<< (nI N &&& 31) - 2) := by
  have hk := k2N h8
  rw [(kset_t h2 h8).1, (kset_t h2 h8).2]
  exact k64_in (lo := 1) (by decide) (nI_l (by omega)).symm
theorem kset_b {N : Nat} {set : Int32} (h2 : 2 ≤ N) (h8 : N ≤ 8) (h : 1 ≤ set ∧ set ≤ 1 <<< (nI N &&& 31) - 2) : (kBC set).toInt64 = kBn set N := by
  have hk := k2N h8
  rw [(kset_t h2 h8).1] at h
  obtain ⟨n, hn, rfl⟩ := kofN2 (by omega) (Int32.le_trans (by decide) h.1) h.2
  have h4 : 2 ^ 2 ≤ 2 ^ N := Nat.pow_le_pow_right (by decide) h2
  exact kBC_all N (by omega) n (by omega)
theorem kshr_i {x : Int32} : (¬ x = 0 ∧ ((-1000) ≤ x.toInt64 ∧ x.toInt64 ≤ 1000)) ↔ (¬ x = 0 ∧ (-1000) ≤ x ∧ x ≤ 1000) := by
  rw [k64_in (lo := -1000) (hi := 1000) (by decide) (by decide)]
/-- sizes -/
def kN (x : Int64) (A : Nat) : Prop := x.toInt.natAbs ≤ A
theorem kbm {z : Int} {A : Nat} (h : z.natAbs ≤ A) (hA : A < 2 ^ 63) : z.bmod (2 ^ 64) = z := Int.bmod_eq_of_le (by omega) (by omega)
theorem kN_mul {x y : Int64} {A B : Nat} (hx : kN x A) (hy : kN y B) (h : A * B < 2 ^ 63) : (x * y).toInt = x.toInt * y.toInt ∧ kN (x * y) (A * B) := by
  have e : (x.toInt * y.toInt).natAbs ≤ A * B := by rw [Int.natAbs_mul]; exact Nat.mul_le_mul hx hy
  have e2 : (x * y).toInt = x.toInt * y.toInt := by rw [Int64.toInt_mul, kbm e h]
  exact ⟨e2, by rw [kN, e2]; exact e⟩
theorem kN_add {x y : Int64} {A B : Nat} (hx : kN x A) (hy : kN y B) (h : A + B < 2 ^ 63) : (x + y).toInt = x.toInt + y.toInt ∧ kN (x + y) (A + B) := by
  unfold kN at *
  have e : (x.toInt + y.toInt).natAbs ≤ A + B := by omega
  have e2 : (x + y).toInt = x.toInt + y.toInt := by rw [Int64.toInt_add, kbm e h]
  exact ⟨e2, by rw [e2]; exact e⟩
theorem kN_sub {x y : Int64} {A B : Nat} (hx : kN x A) (hy : kN y B) (h : A + B < 2 ^ 63) : (x - y).toInt = x.toInt - y.toInt ∧ kN (x - y) (A + B) := by
  unfold kN at *
  have e : (x.toInt - y.toInt).natAbs ≤ A + B := by omega
  have e2 : (x - y).toInt = x.toInt - y.toInt := by rw [Int64.toInt_sub, kbm e h]
  exact ⟨e2, by rw [e2]; exact e⟩
theorem kN_le {x : Int64} {A B : Nat} (h : kN x A) (hAB : A ≤ B) : kN x B := Nat.le_trans h hAB
theorem kN_su {f : Nat → Int64} {A : Nat} : ∀ {n : Nat}, (∀ c, c < n → kN (f c) A) → n * A < 2 ^ 62 → kN (su f n) (n * A)
  | 0, _, _ => by show (0 : Int64).toInt.natAbs ≤ _; rw [show (0 : Int64).toInt = 0 from by decide]; exact Nat.zero_le _
  | n + 1, h, hA => by
    rw [Nat.add_mul, Nat.one_mul] at hA ⊢
    exact (kN_add (kN_su (n := n) (fun c hc => h c (by omega)) (by omega)) (h n (by omega)) (by omega)).2
theorem kN_lN {n : Nat} (h : n < 2 ^ 63) : kN (lN n) n := by rw [kN, pk_lT h]; omega
