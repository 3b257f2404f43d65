/-! the worst, the level's size -/
theorem kxact {g u y : Int64} (hg : kN g (10 ^ 14)) (hu : kN u 32000) (hy : kN y (10 ^ 6)) : (g - u * y).toInt = g.toInt - u.toInt * y.toInt := by
  have h1 := kN_mul hu hy (by decide)
  rw [(kN_sub hg h1.2 (by decide)).1, h1.1]
theorem kMz_mx {g u : Int64} {f : Nat → Int64} (hu : 0 ≤ u.toInt) (hu2 : kN u 32000) (hg : kN g (10 ^ 14)) : ∀ {n : Nat}, (∀ c, c < n + 1 → kN (f c) (10 ^ 6)) → kMz (fun c => g - u * f c) (n + 1) = g - u * kMx f n ∧ kN (kMx f n) (10 ^ 6)
  | 0, h => ⟨by rw [kMz, if_pos (Or.inl rfl), kMx], by rw [kMx]; exact h 0 (by omega)⟩
  | n + 1, h => by
    obtain ⟨e, hm⟩ := kMz_mx (n := n) hu hu2 hg (fun c hc => h c (by omega))
    have h1 := h (n + 1) (by omega)
    have x1 := kxact hg hu2 h1
    have x2 := kxact hg hu2 hm
    rw [kMz, e, kMx]
    refine ⟨?_, ?_⟩
    · by_cases q : f (n + 1) < kMx f n
      · have q' := Int64.lt_iff_toInt_lt.mp q
        have hm2 := Int.mul_le_mul_of_nonneg_left (Int.le_of_lt q') hu
        rw [if_pos q, if_neg]
        intro z
        rcases z with z | z
        · omega
        · rw [Int64.lt_iff_toInt_lt, x1, x2] at z
          omega
      · have q' : (kMx f n).toInt ≤ (f (n + 1)).toInt := Int64.le_iff_toInt_le.mp (kr_1 q)
        have hm2 := Int.mul_le_mul_of_nonneg_left q' hu
        rw [if_neg q]
        by_cases z : (g - u * f (n + 1)) < g - u * kMx f n
        · rw [if_pos (Or.inr z)]
        · rw [if_neg (fun y => y.elim (fun y => by omega) z)]
          have z' : ¬ (g - u * f (n + 1)).toInt < (g - u * kMx f n).toInt := fun y => z (Int64.lt_iff_toInt_lt.mpr y)
          apply Int64.toInt_inj.mp
          rw [x1, x2] at z' ⊢
          omega
    · split
      · exact hm
      · exact h1
theorem kU_e {b N : Nat} (hb : b ≤ 1000) (hN : N ≤ 8) : kU (nI b) N = lN (4 * b * N) := by
  rw [kU, nI_l (by omega), nI_l (by omega), show (4 : Int64) = lN 4 from rfl, lN_mul, lN_mul]
theorem kU_b {b N : Nat} (hb : b ≤ 1000) (hN : N ≤ 8) : 0 ≤ (kU (nI b) N).toInt ∧ kN (kU (nI b) N) 32000 := by
  have h : 4 * b * N ≤ 32000 := Nat.le_trans (Nat.mul_le_mul (Nat.mul_le_mul_left 4 hb) hN) (by decide)
  rw [kU_e hb hN, kN, pk_lT (by omega)]
  omega
theorem kLv_N {b N : Nat} {f : Nat → Int64} (hb : b ≤ 1000) (hN : N ≤ 8) (h : ∀ c, c < N → kN (f c) 512000) : kN (kLv (nI b) N f 0 0) (10 ^ 14) := by
  have hs : kN (su f N) 4096000 := kN_le (kN_su h (by omega)) (by omega)
  have hq : kN (su (fun c => f c * f c) N) (8 * (512000 * 512000)) := kN_le (kN_su (fun c hc => (kN_mul (h c hc) (h c hc) (by decide)).2) (by omega)) (by omega)
  have hbb : kN (4 * (nI b).toInt64) 4000 := by
    rw [nI_l (by omega), show (4 : Int64) = lN 4 from rfl, lN_mul]
    exact kN_le (kN_lN (by omega)) (by omega)
  have hNN : kN (nI N).toInt64 8 := by
    rw [nI_l (by omega)]
    exact kN_le (kN_lN (by omega)) (by omega)
  have h1 := (kN_mul hbb hs (by decide)).2
  have h2 := (kN_mul hNN hq (by decide)).2
  have h3 := (kN_mul hs hs (by decide)).2
  rw [kLv_0]
  exact kN_le (kN_sub (kN_add h1 h2 (by decide)).2 h3 (by decide)).2 (by decide)
/-- a deal -/
theorem kAd_e {f : Nat → Int64} {set : Int32} {x : Int64} {n c : Nat} (hc : c < n) : kAd f set x n c = f c + x * (kbit set c).toInt64 := by
  rw [kAd]
  rcases kbit_01 set c with h | h
  · rw [h, if_neg (fun z => z.2 rfl), kz64, Int64.mul_zero, Int64.add_zero]
  · rw [h, if_pos ⟨hc, by decide⟩, ko64, Int64.mul_one]
theorem kAx_e {f : Nat → Int64} {set x : Int32} {n c : Nat} (hc : c < n) : kAx f set x n c = f c + x.toInt64 * (kbit set c).toInt64 := by
  rw [kAx, if_pos hc, kbx]
theorem kAx_su {f : Nat → Int64} {set x : Int32} {N : Nat} : su (kAx f set x N) N = su f N + su (kIn set (fun _ => x.toInt64)) N := by
  rw [← su_add]
  exact su_cong (fun c hc => by rw [kAx_e hc, kIn_eq, Int64.mul_comm])
theorem kAx_Lv {b : Int32} {f : Nat → Int64} {set x : Int32} {N : Nat} : kLv b N (kAx f set x N) 0 0 = kLv b N f set x.toInt64 := by
  rw [kLv_0, kLv, kS1, kS2]
  rw [su_cong (f := kAx f set x N) (g := fun c => f c + x.toInt64 * (kbit set c).toInt64) (fun c hc => kAx_e hc), su_cong (f := fun c => kAx f set x N c * kAx f set x N c) (g := fun c => (f c + x.toInt64 * (kbit set c).toInt64) * (f c + x.toInt64 * (kbit set c).toInt64)) (fun c hc => by rw [kAx_e hc])]
theorem kHx_e {ho : Nat → Int64} {t N c : Nat} {set x : Int32} (hc : c < N) : kHx ho (8 * t) set x N (8 * t + c) = ho (8 * t + c) + x.toInt64 * (kbit set c).toInt64 := by
  rw [kHx, kBl_in _ _ _ _ hc, kbx]
theorem kHx_o {ho : Nat → Int64} {t t' N c : Nat} {set x : Int32} (hN : N ≤ 8) (hc : c < N) (h : t' ≠ t) : kHx ho (8 * t) set x N (8 * t' + c) = ho (8 * t' + c) := by
  rw [kHx, kBl, if_neg (by omega)]
theorem kxb {x : Int32} (h : (-1000) ≤ x ∧ x ≤ 1000) : kN x.toInt64 1000 := by
  rw [kN, Int32.toInt_toInt64]
  have h1 := Int32.le_iff_toInt_le.mp h.1
  have h2 := Int32.le_iff_toInt_le.mp h.2
  rw [show (-1000 : Int32).toInt = -1000 from by decide] at h1
  rw [show (1000 : Int32).toInt = 1000 from by decide] at h2
  omega
theorem kbb (set : Int32) (c : Nat) : kN (kbit set c).toInt64 1 := by
  rcases kbit_01 set c with h | h <;> rw [h, kN] <;> decide
/-- counts -/
theorem kcn_cong {p q : Nat → Bool} : ∀ {n : Nat}, (∀ c, c < n → p c = q c) → kcn p n = kcn q n
  | 0, _ => rfl
  | n + 1, h => by rw [kcn, kcn, kcn_cong (fun c hc => h c (by omega)), h n (by omega)]
theorem kHd_e {ho : Nat → Int64} {hc : Nat → Nat → Int64} {c : Nat} : ∀ {n : Nat}, (∀ t, t < n → hc t c = ho (8 * t + c)) → kHd ho c n = lN (kcn (fun z => !decide (hc z c ≤ 0)) n)
  | 0, _ => rfl
  | n + 1, h => by
    rw [kHd, kcn, kHd_e (n := n) (fun t ht => h t (by omega)), ← lN_add, h n (by omega)]
    by_cases q : ho (8 * n + c) ≤ 0
    · rw [if_pos q, decide_eq_true q]; rfl
    · rw [if_neg q, decide_eq_false q]; rfl
theorem k10 {t : Int32} (h : 0 ≤ t ∧ t ≤ 10) : (10 - t).toInt64 = 10 - t.toInt64 := by
  obtain ⟨n, hn, rfl⟩ := kofN2 (k := 10) (by omega) h.1 h.2
  rw [show (10 : Int32) = nI 10 from rfl, pk_sub hn, nI_l (by omega), nI_l (by omega), show (10 : Int64) = lN 10 from rfl, lN_sub hn]
theorem kHc_s {t : Int32} (h : 0 ≤ t ∧ t ≤ 10) (hh n : Nat) : ∀ j, kHc t hh n j = kHs t.toInt64 hh n j
  | 0 => rfl
  | j + 1 => by
    rw [kHc, kHs, kHc_s h hh n j, k10 h]
    split
    · rw [Int64.add_zero]
    · rfl
/-- scores -/
theorem kabs {up : Int64} {A : Nat} (h : kN up A) (hA : A < 2 ^ 30) : ∃ u, u < 2 ^ 30 ∧ (if 0 < up then up else -up) = lN u ∧ (if 0 ≤ up then up else -up) = lN u := by
  have hz : (0 : Int64).toInt = 0 := by decide
  unfold kN at h
  refine ⟨up.toInt.natAbs, by omega, ?_, ?_⟩
  · by_cases q : 0 < up
    · have q' := Int64.lt_iff_toInt_lt.mp q
      rw [if_pos q]
      apply Int64.toInt_inj.mp
      rw [pk_lT (by omega)]; omega
    · have q' := Int64.le_iff_toInt_le.mp (kr_1 q)
      rw [if_neg q]
      apply Int64.toInt_inj.mp
      rw [pk_lT (by omega), Int64.toInt_neg, kbm (A := A) (by omega) (by omega)]; omega
  · by_cases q : 0 ≤ up
    · have q' := Int64.le_iff_toInt_le.mp q
      rw [if_pos q]
      apply Int64.toInt_inj.mp
      rw [pk_lT (by omega)]; omega
    · have q' := Int64.lt_iff_toInt_lt.mp (kr_2 q)
      rw [if_neg q]
      apply Int64.toInt_inj.mp
      rw [pk_lT (by omega), Int64.toInt_neg, kbm (A := A) (by omega) (by omega)]; omega
theorem kw1_sq {w : Nat → Int32} : ∀ {n : Nat}, kw1 w n → ∃ B, B ≤ 10000 * n ∧ su (fun c => (w c * w c).toInt64) n = lN B ∧ su (fun c => (w c).toInt64 * (w c).toInt64) n = lN B
  | 0, _ => ⟨0, by omega, rfl, rfl⟩
  | n + 1, h => by
    obtain ⟨B, h1, h2, h3⟩ := kw1_sq (n := n) (fun c hc => h c (by omega))
    obtain ⟨a, ha, e⟩ := kofN2 (k := 100) (by omega) (h n (by omega)).1 (h n (by omega)).2
    have hs : a * a ≤ 100 * 100 := Nat.mul_le_mul ha ha
    exact ⟨B + a * a, by omega, by rw [su, h2, e, pk_mul, nI_l (by omega), lN_add], by rw [su, h3, e, nI_l (by omega), lN_mul, lN_add]⟩
theorem kw1_pr {w v : Nat → Int32} : ∀ {n : Nat}, kw1 w n → kw1 v n → ∃ B, B ≤ 10000 * n ∧ su (fun c => (w c).toInt64 * (v c).toInt64) n = lN B
  | 0, _, _ => ⟨0, by omega, rfl⟩
  | n + 1, h, g => by
    obtain ⟨B, h1, h3⟩ := kw1_pr (n := n) (fun c hc => h c (by omega)) (fun c hc => g c (by omega))
    obtain ⟨a, ha, e⟩ := kofN2 (k := 100) (by omega) (h n (by omega)).1 (h n (by omega)).2
    obtain ⟨d, hd, e2⟩ := kofN2 (k := 100) (by omega) (g n (by omega)).1 (g n (by omega)).2
    have hs : a * d ≤ 100 * 100 := Nat.mul_le_mul ha hd
    exact ⟨B + a * d, by omega, by rw [su, h3, e, e2, nI_l (by omega), nI_l (by omega), lN_mul, lN_add]⟩
theorem kUH_e {w v : Nat → Int64} {sm sq : Int64} (n : Nat) : su (fun c => v c * (2 * sm * w c - sq)) n = 2 * sm * su (fun c => v c * w c) n - sq * su v n := by
  induction n with
  | zero => rw [su, su, su]; grind
  | succ n ih => rw [su, su, su, ih]; grind
theorem kscore {w : Nat → Int32} {N c : Nat} (hN : N ≤ 8) (hc : c < N) (h : kw1 w N) (hz : ¬ sw w N = 0) : ∃ u d, u < 2 ^ 30 ∧ d < 2 ^ 30 ∧ 0 < d ∧ su (fun c => (w c).toInt64) N * su (fun c => (w c).toInt64) N = lN d ∧
    (if 0 < 2 * su (fun c => (w c).toInt64) N * (w c).toInt64 - su (fun c => (w c * w c).toInt64) N then 2 * su (fun c => (w c).toInt64) N * (w c).toInt64 - su (fun c => (w c * w c).toInt64) N else -(2 * su (fun c => (w c).toInt64) N * (w c).toInt64 - su (fun c => (w c * w c).toInt64) N)) = lN u ∧
    (if 0 ≤ 2 * su (fun c => (w c).toInt64) N * (w c).toInt64 - su (fun c => (w c * w c).toInt64) N then 2 * su (fun c => (w c).toInt64) N * (w c).toInt64 - su (fun c => (w c * w c).toInt64) N else -(2 * su (fun c => (w c).toInt64) N * (w c).toInt64 - su (fun c => (w c * w c).toInt64) N)) = lN u := by
  obtain ⟨A, h1, h2, h3⟩ := kw1_sum h
  obtain ⟨B, g1, g2, -⟩ := kw1_sq h
  obtain ⟨a, ha, e⟩ := kofN2 (k := 100) (by omega) (h c hc).1 (h c hc).2
  have hA : 0 < A := Nat.pos_of_ne_zero (fun q => hz (by rw [h2, q]; rfl))
  have hAA : A * A ≤ 800 * 800 := Nat.mul_le_mul (by omega) (by omega)
  have hAa : 2 * A * a ≤ 1600 * 100 := Nat.mul_le_mul (by omega) ha
  have hup : kN (2 * su (fun c => (w c).toInt64) N * (w c).toInt64 - su (fun c => (w c * w c).toInt64) N) 240000 := by
    rw [h3, g2, e, nI_l (by omega), show (2 : Int64) = lN 2 from rfl, lN_mul, lN_mul]
    exact kN_le (kN_sub (kN_lN (by omega)) (kN_lN (by omega)) (by omega)).2 (by omega)
  obtain ⟨u, hu, e1, e2⟩ := kabs hup (by decide)
  exact ⟨u, A * A, hu, by omega, Nat.mul_pos hA hA, by rw [h3, lN_mul], e1, e2⟩
theorem khonest {w v : Nat → Int32} {N : Nat} (hN : N ≤ 8) (h : kw1 w N) (hz : ¬ sw w N = 0) (g : kw1 v N) (gz : ¬ sw v N = 0) : ∃ u d, u < 2 ^ 30 ∧ d < 2 ^ 30 ∧ 0 < d ∧ su (fun c => (w c).toInt64) N * su (fun c => (w c).toInt64) N * su (fun c => (v c).toInt64) N = lN d ∧
    (if 0 < 2 * su (fun c => (w c).toInt64) N * su (fun c => (v c).toInt64 * (w c).toInt64) N - su (fun c => (w c * w c).toInt64) N * su (fun c => (v c).toInt64) N then 2 * su (fun c => (w c).toInt64) N * su (fun c => (v c).toInt64 * (w c).toInt64) N - su (fun c => (w c * w c).toInt64) N * su (fun c => (v c).toInt64) N else -(2 * su (fun c => (w c).toInt64) N * su (fun c => (v c).toInt64 * (w c).toInt64) N - su (fun c => (w c * w c).toInt64) N * su (fun c => (v c).toInt64) N)) = lN u ∧
    (if 0 ≤ 2 * su (fun c => (w c).toInt64) N * su (fun c => (v c).toInt64 * (w c).toInt64) N - su (fun c => (w c * w c).toInt64) N * su (fun c => (v c).toInt64) N then 2 * su (fun c => (w c).toInt64) N * su (fun c => (v c).toInt64 * (w c).toInt64) N - su (fun c => (w c * w c).toInt64) N * su (fun c => (v c).toInt64) N else -(2 * su (fun c => (w c).toInt64) N * su (fun c => (v c).toInt64 * (w c).toInt64) N - su (fun c => (w c * w c).toInt64) N * su (fun c => (v c).toInt64) N)) = lN u := by
  obtain ⟨A, h1, h2, h3⟩ := kw1_sum h
  obtain ⟨V, v1, v2, v3⟩ := kw1_sum g
  obtain ⟨B, g1, g2, -⟩ := kw1_sq h
  obtain ⟨E, x1, x2⟩ := kw1_pr g h
  have hA : 0 < A := Nat.pos_of_ne_zero (fun q => hz (by rw [h2, q]; rfl))
  have hV : 0 < V := Nat.pos_of_ne_zero (fun q => gz (by rw [v2, q]; rfl))
  have hAA : A * A ≤ 800 * 800 := Nat.mul_le_mul (by omega) (by omega)
  have hAAV : A * A * V ≤ 640000 * 800 := Nat.mul_le_mul (by omega) (by omega)
  have hAE : 2 * A * E ≤ 1600 * 80000 := Nat.mul_le_mul (by omega) (by omega)
  have hBV : B * V ≤ 80000 * 800 := Nat.mul_le_mul (by omega) (by omega)
  have hup : kN (2 * su (fun c => (w c).toInt64) N * su (fun c => (v c).toInt64 * (w c).toInt64) N - su (fun c => (w c * w c).toInt64) N * su (fun c => (v c).toInt64) N) 192000000 := by
    rw [h3, g2, v3, x2, show (2 : Int64) = lN 2 from rfl, lN_mul, lN_mul, lN_mul]
    exact kN_le (kN_sub (kN_lN (by omega)) (kN_lN (by omega)) (by omega)).2 (by omega)
  obtain ⟨u, hu, e1, e2⟩ := kabs hup (by decide)
  exact ⟨u, A * A * V, hu, by omega, Nat.mul_pos (Nat.mul_pos hA hA) hV, by rw [h3, v3, lN_mul, lN_mul], e1, e2⟩
/-- bundles -/
theorem kv_e (os oc : Nat → Int32) (r : Nat → Nat) (c : Nat) : ∀ n, sw (fun f => nI (r f) * (100 * kbit (os f) c - oc f)) n = 100 * kcv os r n c - kco oc r n
  | 0 => by rw [sw, kcv, kco, sw, sw]; rfl
  | n + 1 => by
    rw [sw, kv_e os oc r c n, kcv, kco, kcv, kco, sw, sw]
    rcases kbit_01 (os n) c with h | h
    · rw [h, if_neg (by decide)]; grind
    · rw [h, if_pos (by decide)]; grind
theorem kcv_n {os : Nat → Int32} {r : Nat → Nat} {c : Nat} : ∀ {n : Nat}, (∀ f, f < n → r f ≤ 3) → ∃ C, C ≤ 3 * n ∧ kcv os r n c = nI C
  | 0, _ => ⟨0, by omega, rfl⟩
  | n + 1, h => by
    obtain ⟨C, h1, h2⟩ := kcv_n (os := os) (c := c) (n := n) (fun f hf => h f (by omega))
    have h3 := h n (by omega)
    by_cases q : kbit (os n) c ≠ 0
    · exact ⟨C + r n, by omega, by rw [kcv, sw, if_pos q, ← nI_add]; exact congrArg (· + nI (r n)) h2⟩
    · exact ⟨C, by omega, by rw [kcv, sw, if_neg q, Int32.add_zero]; exact h2⟩
theorem kco_n {oc : Nat → Int32} {r : Nat → Nat} : ∀ {n : Nat}, (∀ f, f < n → r f ≤ 3) → (∀ f, f < n → 0 ≤ oc f ∧ oc f ≤ 99) → ∃ K, K ≤ 297 * n ∧ kco oc r n = nI K
  | 0, _, _ => ⟨0, by omega, rfl⟩
  | n + 1, h, g => by
    obtain ⟨K, h1, h2⟩ := kco_n (n := n) (fun f hf => h f (by omega)) (fun f hf => g f (by omega))
    obtain ⟨a, ha, e⟩ := kofN2 (k := 99) (by omega) (g n (by omega)).1 (g n (by omega)).2
    have hs : r n * a ≤ 3 * 99 := Nat.mul_le_mul (h n (by omega)) ha
    exact ⟨K + r n * a, by omega, by rw [kco, sw, e, pk_mul, ← nI_add]; exact congrArg (· + nI (r n * a)) h2⟩
theorem kMi_c {X : Nat → Int32} {K : Nat} (hK : K ≤ 2000) : ∀ {n : Nat}, (∀ c, c < n + 1 → ∃ C, C ≤ 18 ∧ X c = nI C) → kMi (fun c => 100 * X c - nI K) (n + 1) = 100 * kLc X n - nI K ∧ ∃ C, C ≤ 18 ∧ kLc X n = nI C
  | 0, h => ⟨by rw [kMi, if_pos (Or.inl rfl), kLc], h 0 (by omega)⟩
  | n + 1, h => by
    obtain ⟨e, L, hL, eL⟩ := kMi_c (n := n) hK (fun c hc => h c (by omega))
    obtain ⟨C, hC, eC⟩ := h (n + 1) (by omega)
    have x1 : (100 * nI C - nI K).toInt = (100 * C : Nat) - (K : Int) := by rw [show (100 : Int32) = nI 100 from rfl, pk_mul, pk_sub_toInt (by omega) (by omega)]
    have x2 : (100 * nI L - nI K).toInt = (100 * L : Nat) - (K : Int) := by rw [show (100 : Int32) = nI 100 from rfl, pk_mul, pk_sub_toInt (by omega) (by omega)]
    rw [kMi, e, kLc, eL, eC]
    by_cases q : C < L
    · rw [if_pos (Or.inr (Int32.lt_iff_toInt_lt.mpr (by rw [x1, x2]; omega))), if_pos (nI_lt q (by omega))]
      exact ⟨rfl, C, hC, rfl⟩
    · rw [if_neg (fun z => z.elim (fun z => by omega) (fun z => by rw [Int32.lt_iff_toInt_lt, x1, x2] at z; omega)), if_neg (nI_nlt (by omega) (by omega))]
      exact ⟨rfl, L, hL, rfl⟩
theorem kG_H {os oc : Nat → Int32} {no N : Nat} {r : Nat → Nat} (hno : no ≤ 6) (hN : 1 ≤ N) (hr : ∀ f, f < no → r f ≤ 3) (ho : ∀ f, f < no → 0 ≤ oc f ∧ oc f ≤ 99) : kG os oc no N r = kH os oc no N r := by
  obtain ⟨K, hK, eK⟩ := kco_n hr ho
  obtain ⟨n, rfl⟩ : ∃ n, N = n + 1 := ⟨N - 1, by omega⟩
  have e := (kMi_c (X := kcv os r no) (K := K) (by omega) (n := n) (fun c _ => by obtain ⟨C, h1, h2⟩ := kcv_n (os := os) (c := c) hr; exact ⟨C, by omega, h2⟩)).1
  rw [kG, kH, kSn, eK, Nat.add_sub_cancel, ← e]
  exact kMi_cong (fun c _ => by rw [kv_e, eK])
theorem kFo_cong {mm : Nat → Nat} {G G' : (Nat → Nat) → Int32} {n : Nat} (hG : ∀ r, (∀ f, f < n → r f ≤ mm f) → G r = G' r) : ∀ {k : Nat} {r : Nat → Nat} {b : Int32} {q : Nat → Nat}, (∀ f, f < n → r f ≤ mm f) → kFo mm G n k r b q = kFo mm G' n k r b q
  | 0, _, _, _, _ => rfl
  | k + 1, r, b, q, h => by
    rw [kFo, kFo, hG _ (kStp_bd (Nat.le_refl n) h)]
    split
    · exact kFo_cong hG (kStp_bd (Nat.le_refl n) h)
    · rfl
theorem kFo_fuel {mm : Nat → Nat} {G : (Nat → Nat) → Int32} {n : Nat} (hn : n ≤ 6) (h3 : ∀ f, f < n → mm f ≤ 3) : ∀ {k : Nat} {r : Nat → Nat} {b : Int32} {q : Nat → Nat}, (∀ f, f < n → r f ≤ mm f) → 4095 ≤ kVl mm r n + k → (kFo mm G n k r b q).2 = (kFo mm G n (k + 1) r b q).2
  | 0, r, b, q, h, hv => by
    by_cases e : (kStp mm n r).2 = true
    · have e1 := kVl_step h e
      have e2 := kVl_6 hn (kStp_bd (Nat.le_refl n) h) h3
      omega
    · rw [kFo_f rfl (kprf e)]; rfl
  | k + 1, r, b, q, h, hv => by
    by_cases e : (kStp mm n r).2 = true
    · have e1 := kVl_step h e
      rw [kFo_t rfl (kpr e), kFo_t (k := k + 1 + 1) rfl (kpr e)]
      exact kFo_fuel hn h3 (kStp_bd (Nat.le_refl n) h) (by omega)
    · rw [kFo_f rfl (kprf e), kFo_f rfl (kprf e)]
theorem kbundle {os oc : Nat → Int32} {no N : Nat} {mm : Nat → Nat} (hno : no ≤ 6) (hN : 1 ≤ N) (h3 : ∀ f, f < no → mm f ≤ 3) (ho : ∀ f, f < no → 0 ≤ oc f ∧ oc f ≤ 99) : (kFo mm (kG os oc no N) no 4095 (fun _ => 0) 0 (fun _ => 0)).2 = (kFo mm (kH os oc no N) no 4096 (fun _ => 0) 0 (fun _ => 0)).2 := by
  rw [kFo_cong (G' := kH os oc no N) (fun r hr => kG_H hno hN (fun f hf => Nat.le_trans (hr f hf) (h3 f hf)) ho) (fun _ _ => Nat.zero_le _)]
  exact kFo_fuel hno h3 (fun _ _ => Nat.zero_le _) (by rw [kVl_0]; omega)
