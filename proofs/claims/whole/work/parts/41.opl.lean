/-! what the calls' rows stand on -/
theorem kidx {x : Int32} {n : Nat} (hn : n < 2 ^ 31) (h : 0 ≤ x ∧ x < nI n) : ∃ t, t < n ∧ x = nI t := by
  obtain ⟨t, ht, rfl⟩ := kofN h.1
  exact ⟨t, (nI_ltI ht hn).mp h.2, rfl⟩
theorem kof {x : Int32} {a N : Nat} (hN : N < 2 ^ 31) (h : 0 ≤ x - nI a ∧ x - nI a < nI N) : ∃ c, c < N ∧ x = nI (a + c) := by
  obtain ⟨c, hc, e⟩ := kidx hN h
  exact ⟨c, hc, by rw [← nI_add, ← e]; grind⟩
theorem kLst_0 {ho h : Nat → Int64} {N : Nat} (hN : 1 ≤ N) (hh : ∀ c, c < N → ho c = h c) : kLst ho 0 0 N = kLw h 0 0 (N - 1) := by
  obtain ⟨n, rfl⟩ : ∃ n, N = n + 1 := ⟨N - 1, by omega⟩
  rw [kLst_w hh, kz64, Nat.add_sub_cancel]
theorem kMz_cong {f g : Nat → Int64} : ∀ {n : Nat}, (∀ c, c < n → f c = g c) → kMz f n = kMz g n
  | 0, _ => rfl
  | n + 1, h => by rw [kMz, kMz, kMz_cong (fun c hc => h c (by omega)), h n (by omega)]
theorem kMx_cong {f g : Nat → Int64} : ∀ {n : Nat}, (∀ c, c < n + 1 → f c = g c) → kMx f n = kMx g n
  | 0, h => h 0 (by omega)
  | n + 1, h => by rw [kMx, kMx, kMx_cong (fun c hc => h c (by omega)), h (n + 1) (by omega)]
theorem kworst {g : Int64} {b0 N nt kk : Nat} {cm da : Int32} {f fC ho : Nat → Int64} {de : Nat → Int32} (hb : b0 ≤ 1000) (hN2 : 2 ≤ N) (hN : N ≤ 8) (hkk : kk < 512) (hm : cm = (-9)) (hf : ∀ c, c < N → fC c = f c) (hG : kiG kk N nt (nI b0) cm da g f ho de) : (if ¬ cm = (-9) then g else g - kU (nI b0) N * kMx fC (N - 1)) = kWr g (kU (nI b0) N) ho nt N := by
  obtain ⟨h1, h2, h3⟩ := hG.2 hm
  obtain ⟨n, rfl⟩ : ∃ n, N = n + 1 := ⟨N - 1, by omega⟩
  have hu := kU_b hb hN
  rw [if_neg (fun q => q hm), kWr, Nat.add_sub_cancel, kMx_cong hf, kMz_cong (g := fun c => g - kU (nI b0) (n + 1) * f c) (fun c hc => by show g - kU (nI b0) (n + 1) * su (fun t => ho (8 * t + c)) nt = _; rw [← h1 c hc])]
  exact (kMz_mx hu.1 hu.2 (by rw [h2]; exact kLv_N hb hN (fun c hc => kN_le (h3 c hc) (by omega))) (fun c hc => kN_le (h3 c hc) (by omega))).1.symm
theorem kbel {w v : Nat → Int32} {N c : Nat} {x : Int32} (hN : N ≤ 8) (hc : c < N) (hv : ∀ c, c < N → v c = w c) (h1 : kw1 w N) (hx : 0 ≤ x ∧ x ≤ 100) : (su (fun c => (v c).toInt64) N - (v c).toInt64 + x.toInt64 = 0) ↔ (sw w N - w c + x = 0) := by
  obtain ⟨A, a1, a2, a3⟩ := kw1_sum h1
  obtain ⟨a, ha, ea⟩ := kofN2 (k := 100) (by omega) (h1 c hc).1 (h1 c hc).2
  obtain ⟨y, hy, rfl⟩ := kofN2 (k := 100) (by omega) hx.1 hx.2
  have hle := kw1_le h1 (by omega) hc a2 (by omega) ea (by omega)
  rw [su_cong (g := fun c => (w c).toInt64) (fun c hc => by rw [hv c hc]), hv c hc, a3, a2, ea, nI_l (by omega), nI_l (by omega), lN_sub hle, lN_add, pk_sub hle, nI_add]
  constructor
  · intro q
    have := (lN_eq (a := A - a + y) (b := 0) (by omega) (by omega)).mp q
    rw [this]; rfl
  · intro q
    have := (nI_eq (a := A - a + y) (b := 0) (by omega) (by omega)).mp q
    rw [this]; rfl
theorem kdf_n {th : Bool} {ln la i : Int32} {n : Nat} {q : Int32} (h : th = false) : kDF th ln la i n q = 1 := by
  subst h; rw [kDF, if_neg (fun z => by cases z.1), kRF, if_neg (by decide)]
theorem kdf_c {th : Bool} {ln la i : Int32} {n : Nat} {q : Int32} (h : th = true) (h2 : ¬ ln = la) : kDF th ln la i n q = 2 := by rw [kDF, if_pos ⟨h, h2⟩]
theorem krf_x {th : Bool} {i : Int32} {n : Nat} {q : Int32} (h : th = true) (h3 : i < 0 ∨ ¬ i ≤ nI n - q) : kRF th i n q = 3 := by
  rw [kRF, if_pos h]
  by_cases z : i < 0
  · rw [if_pos z]
  · rw [if_neg z, if_neg (h3.resolve_left z)]
theorem krf_0 {th : Bool} {i : Int32} {n : Nat} {q : Int32} (h : th = true) (h3 : ¬ i < 0) (h4 : i ≤ nI n - q) : kRF th i n q = 0 := by rw [kRF, if_pos h, if_neg h3, if_pos h4]
theorem krf_n {th : Bool} {i : Int32} {n : Nat} {q : Int32} (h : th = false) : kRF th i n q = 1 := by subst h; rw [kRF, if_neg (by decide)]
theorem kdf_r {th : Bool} {ln la i : Int32} {n : Nat} {q : Int32} (h2 : ln = la) : kDF th ln la i n q = kRF th i n q := by rw [kDF, if_neg (fun z => z.2 h2)]
theorem kix {i : Int32} {n q : Nat} (hn : n ≤ 24) (hq : q ≤ 8) (h0 : ¬ i < 0) (h : i ≤ nI n - nI q) : ∃ i0, i0 + q ≤ n ∧ i = nI i0 := by
  obtain ⟨i0, h1, rfl⟩ := kofN (kq_1 h0)
  have h2 := Int32.le_iff_toInt_le.mp h
  rw [pk_sub_toInt (by omega) (by omega), nI_toInt h1] at h2
  exact ⟨i0, by omega, rfl⟩
theorem kix1 {i : Int32} {n : Nat} (hn : n ≤ 24) : (0 ≤ i.toInt64 ∧ i.toInt64 ≤ (nI n).toInt64 - 1) ↔ (¬ i < 0 ∧ i ≤ nI n - 1) := by
  have e1 : ((nI n).toInt64 - 1).toInt = (n : Int) - 1 := by
    rw [nI_l (by omega), show (1 : Int64) = lN 1 from rfl, (kN_sub (kN_lN (n := n) (by omega)) (kN_lN (n := 1) (by omega)) (by omega)).1, pk_lT (by omega), pk_lT (by omega)]; rfl
  have e2 : (nI n - 1).toInt = (n : Int) - 1 := by rw [show (1 : Int32) = nI 1 from rfl, pk_sub_toInt (by omega) (by omega)]; rfl
  rw [Int64.le_iff_toInt_le, Int64.le_iff_toInt_le, Int32.toInt_toInt64, e1, Int32.le_iff_toInt_le, e2, Int32.lt_iff_toInt_lt, show (0 : Int64).toInt = 0 from by decide, show (0 : Int32).toInt = 0 from by decide]
  omega
theorem kwci {w v : Nat → Int32} {N : Nat} (h : ∀ c, c < N → w c = v c) : kall (kWc w) N = kall (kWi v) N := kall_cong (fun c hc => by
  rw [kWc, kWi, h c hc]
  exact decide_eq_decide.mpr (k64_in (lo := 0) (hi := 100) (by decide) (by decide)).symm)
theorem kwc1 {w : Nat → Int32} {N : Nat} (h : kall (kWc w) N = true) : kw1 w N := fun c hc => of_decide_eq_true ((kall_iff.mp h) c hc)
theorem va_up_id {α : Type} (f : Nat → α) (k : Nat) : va_up f k (f k) = f := by
  funext j
  by_cases h : j = k
  · subst h; rw [va_up_self]
  · rw [va_up_ne _ _ h]
/-- one trader anew -/
theorem kiT_set {tc : Nat → ClassId} {ad : Nat → Nat} {ct ct' : Nat → Option va_E} {N nt : Nat} {kd : Nat → Int32} {pu : Nat → Int64} {de : Nat → Int32} {ho ho' : Nat → Int64} {we we' : Nat → Int32} (q : kiT tc ad ct N nt kd pu de ho we) {t ci0 : Nat} (ht : t < nt) {fs0 : List Value} {pu1 : Int64} {de1 : Int32} {hoN : Nat → Int64} {weN : Nat → Int32} (h30 : ct (30 + t) = some (.inr (ci0, fs0))) (n30 : ct' (30 + t) = some (.inr (ci0, [.int (nI t), .ref (ad (36 + t)), .ref (ad (42 + t)), .long pu1, .int de1]))) (n36 : ct' (36 + t) = some (eJ tc N hoN)) (n42 : ct' (42 + t) = some (eI tc N weN)) (n203 : ct' 203 = some (eJ tc 6 (va_up pu t pu1))) (n204 : ct' 204 = some (eI tc 6 (va_up de t de1))) (n205 : ct' 205 = some (eJ tc 48 ho')) (n206 : ct' 206 = some (eI tc 48 we'))
    (hfr : ∀ j, (j = 3 ∨ (30 ≤ j ∧ j < 48 ∧ j ≠ 30 + t ∧ j ≠ 36 + t ∧ j ≠ 42 + t) ∨ j = 202) → ct' j = ct j) (hh : ∀ yy c, yy < nt → c < N → yy ≠ t → ho' (8 * yy + c) = ho (8 * yy + c)) (hh2 : ∀ c, c < N → hoN c = ho' (8 * t + c)) (hw : ∀ yy c, yy < nt → c < N → yy ≠ t → we' (8 * yy + c) = we (8 * yy + c)) (hw2 : ∀ c, c < N → weN c = we' (8 * t + c)) (hw1 : kw1 (fun c => we' (8 * t + c)) N) (hwz : ¬ sw (fun c => we' (8 * t + c)) N = 0) : kiT tc ad ct' N nt kd (va_up pu t pu1) (va_up de t de1) ho' we' := by
  obtain ⟨h0, h1, -, -, -, -, qt, ci, hoC, weC, h6, h7, h8, h9⟩ := q
  have hci : ci0 = ci t := by
    have e := (h7 t ht).2.1
    rw [h30] at e
    have e2 := Sum.inr.inj (Option.some.inj e)
    exact congrArg Prod.fst e2
  refine ⟨h0, (hfr 202 (by omega)).trans h1, n203, n204, n205, n206, qt, ci, va_up hoC t hoN, va_up weC t weN, (hfr 3 (by omega)).trans h6, fun yy hy => ?_, fun yy hy => ?_, fun yy hy hz => ⟨(hfr (30 + yy) (by omega)).trans (h9 yy hy hz).1, (hfr (36 + yy) (by omega)).trans (h9 yy hy hz).2.1, (hfr (42 + yy) (by omega)).trans (h9 yy hy hz).2.2⟩⟩
  · by_cases e : yy = t
    · subst e
      rw [va_up_self, va_up_self, va_up_self, va_up_self, ← hci]
      exact ⟨⟨(h7 yy hy).1.1, hci ▸ (h7 yy hy).1.2⟩, n30, n36, n42⟩
    · rw [va_up_ne _ _ e, va_up_ne _ _ e, va_up_ne _ _ e, va_up_ne _ _ e]
      exact ⟨(h7 yy hy).1, (hfr (30 + yy) (by omega)).trans (h7 yy hy).2.1, (hfr (36 + yy) (by omega)).trans (h7 yy hy).2.2.1, (hfr (42 + yy) (by omega)).trans (h7 yy hy).2.2.2⟩
  · by_cases e : yy = t
    · subst e
      rw [va_up_self, va_up_self]
      exact ⟨(h8 yy hy).1, hh2, hw2, hw1, hwz⟩
    · rw [va_up_ne _ _ e, va_up_ne _ _ e]
      obtain ⟨g1, g2, g3, g4, g5⟩ := h8 yy hy
      refine ⟨g1, fun c hc => (g2 c hc).trans (hh yy c hy hc e).symm, fun c hc => (g3 c hc).trans (hw yy c hy hc e).symm, fun c hc => ?_, fun z => g5 ?_⟩
      · show 0 ≤ we' (8 * yy + c) ∧ we' (8 * yy + c) ≤ 100
        rw [hw yy c hy hc e]; exact g4 c hc
      · rw [← z]; exact sw_cong (fun c hc => (hw yy c hy hc e).symm)
/-- a new trader -/
theorem kiT_new {tc : Nat → ClassId} {ad : Nat → Nat} {ct ct' : Nat → Option va_E} {N nt : Nat} {kd : Nat → Int32} {pu : Nat → Int64} {de : Nat → Int32} {ho : Nat → Int64} {we : Nat → Int32} (q : kiT tc ad ct N nt kd pu de ho we) (hN2 : 2 ≤ N) (hN : N ≤ 8) (hnt : nt < 6) {ci0 : Nat} {kd0 : Int32} {p1 : Int64} {qt0 : Nat → Option Nat} (h3 : ct 3 = some (eQ tc 4 6 qt0)) (hk : (ci0 = 5 ∧ kd0 = 0) ∨ (ci0 = 9 ∧ kd0 = 1) ∨ (ci0 = 7 ∧ kd0 = 2)) (n3 : ct' 3 = some (eQ tc 4 6 (va_up qt0 nt (some (ad (30 + nt)))))) (n30 : ct' (30 + nt) = some (.inr (ci0, [.int (nI nt), .ref (ad (36 + nt)), .ref (ad (42 + nt)), .long p1, .int 0]))) (n36 : ct' (36 + nt) = some (eJ tc N (fun _ => 0))) (n42 : ct' (42 + nt) = some (eI tc N (kFl (fun _ => 0) 1 N))) (n202 : ct' 202 = some (eI tc 6 (va_up kd nt kd0))) (n203 : ct' 203 = some (eJ tc 6 (va_up pu nt p1))) (n204 : ct' 204 = some (eI tc 6 (va_up de nt 0))) (n205 : ct' 205 = some (eJ tc 48 (kBl ho (8 * nt) 8 (fun _ => 0)))) (n206 : ct' 206 = some (eI tc 48 (kBl we (8 * nt) 8 (fun c => if N ≤ c then 0 else 1))))
    (hfr : ∀ j, (30 ≤ j ∧ j < 48 ∧ j ≠ 30 + nt ∧ j ≠ 36 + nt ∧ j ≠ 42 + nt) → ct' j = ct j) : kiT tc ad ct' N (nt + 1) (va_up kd nt kd0) (va_up pu nt p1) (va_up de nt 0) (kBl ho (8 * nt) 8 (fun _ => 0)) (kBl we (8 * nt) 8 (fun c => if N ≤ c then 0 else 1)) := by
  obtain ⟨h0, -, -, -, -, -, qt, ci, hoC, weC, h6, h7, h8, h9⟩ := q
  have hq : qt0 = qt := by
    rw [h3] at h6
    have e := Sum.inl.inj (Option.some.inj h6)
    simp only [Prod.mk.injEq, Sum.inr.injEq] at e
    exact e.2.2
  subst hq
  refine ⟨by omega, n202, n203, n204, n205, n206, va_up qt0 nt (some (ad (30 + nt))), va_up ci nt ci0, va_up hoC nt (fun _ => 0), va_up weC nt (kFl (fun _ => 0) 1 N), n3, fun yy hy => ?_, fun yy hy => ?_, fun yy hy hz => ⟨(hfr (30 + yy) (by omega)).trans (h9 yy (by omega) hz).1, (hfr (36 + yy) (by omega)).trans (h9 yy (by omega) hz).2.1, (hfr (42 + yy) (by omega)).trans (h9 yy (by omega) hz).2.2⟩⟩
  · by_cases e : yy = nt
    · subst e
      rw [va_up_self, va_up_self, va_up_self, va_up_self, va_up_self, va_up_self]
      exact ⟨⟨rfl, by rcases hk with h | h | h <;> omega⟩, n30, n36, n42⟩
    · rw [va_up_ne _ _ e, va_up_ne _ _ e, va_up_ne _ _ e, va_up_ne _ _ e, va_up_ne _ _ e, va_up_ne _ _ e]
      have hy2 : yy < nt := by omega
      exact ⟨(h7 yy hy2).1, (hfr (30 + yy) (by omega)).trans (h7 yy hy2).2.1, (hfr (36 + yy) (by omega)).trans (h7 yy hy2).2.2.1, (hfr (42 + yy) (by omega)).trans (h7 yy hy2).2.2.2⟩
  · by_cases e : yy = nt
    · subst e
      rw [va_up_self, va_up_self, va_up_self, va_up_self]
      have hone : ∀ c, c < N → kBl we (8 * yy) 8 (fun c => if N ≤ c then 0 else 1) (8 * yy + c) = 1 := fun c hc => by rw [kBl_in _ _ _ _ (by omega), if_neg (by omega)]
      refine ⟨hk, fun c hc => (show kBl ho (8 * yy) 8 (fun _ => 0) (8 * yy + c) = 0 from kBl_in _ _ _ _ (by omega)).symm, fun c hc => by rw [kFl, if_pos hc]; exact (hone c hc).symm, fun c hc => ?_, ?_⟩
      · show 0 ≤ kBl we (8 * yy) 8 _ (8 * yy + c) ∧ kBl we (8 * yy) 8 _ (8 * yy + c) ≤ 100
        rw [hone c hc]; decide
      · rw [sw_cong (g := fun _ => 1) (fun c hc => hone c hc)]
        rcases (show N = 2 ∨ N = 3 ∨ N = 4 ∨ N = 5 ∨ N = 6 ∨ N = 7 ∨ N = 8 by omega) with rfl | rfl | rfl | rfl | rfl | rfl | rfl <;> decide
    · rw [va_up_ne _ _ e, va_up_ne _ _ e, va_up_ne _ _ e, va_up_ne _ _ e]
      obtain ⟨g1, g2, g3, g4, g5⟩ := h8 yy (by omega)
      have o1 : ∀ c, c < N → kBl ho (8 * nt) 8 (fun _ => 0) (8 * yy + c) = ho (8 * yy + c) := fun c hc => by rw [kBl, if_neg (by omega)]
      have o2 : ∀ c, c < N → kBl we (8 * nt) 8 (fun c => if N ≤ c then 0 else 1) (8 * yy + c) = we (8 * yy + c) := fun c hc => by rw [kBl, if_neg (by omega)]
      refine ⟨g1, fun c hc => (g2 c hc).trans (o1 c hc).symm, fun c hc => (g3 c hc).trans (o2 c hc).symm, fun c hc => ?_, fun z => g5 ?_⟩
      · show 0 ≤ kBl we (8 * nt) 8 _ (8 * yy + c) ∧ kBl we (8 * nt) 8 _ (8 * yy + c) ≤ 100
        rw [o2 c hc]; exact g4 c hc
      · rw [← z]; exact sw_cong (fun c hc => (o2 c hc).symm)
/-- what comes -/
theorem kiT_comes {tc : Nat → ClassId} {ad : Nat → Nat} {ct' : Nat → Option va_E} {N nt c0 : Nat} {u : Int64} {kd : Nat → Int32} {pu : Nat → Int64} {de : Nat → Int32} {ho : Nat → Int64} {we : Nat → Int32} (hN : N ≤ 8) (hc0 : c0 < N) (hnt : nt ≤ 6) {qt : Nat → Option Nat} {ci : Nat → Nat} {hoC : Nat → Nat → Int64} {weC : Nat → Nat → Int32} (h202 : ct' 202 = some (eI tc 6 kd)) (n203 : ct' 203 = some (eJ tc 6 (kPu pu ho u c0 nt))) (h204 : ct' 204 = some (eI tc 6 de)) (n205 : ct' 205 = some (eJ tc 48 (kFl ho 0 (8 * nt)))) (h206 : ct' 206 = some (eI tc 48 we)) (h3 : ct' 3 = some (eQ tc 4 6 qt)) (hq : ∀ yy, yy < nt → qt yy = some (ad (30 + yy)) ∧ (ci yy = 5 ∨ ci yy = 7 ∨ ci yy = 9)) (n30 : ∀ yy, yy < nt → ct' (30 + yy) = some (.inr (ci yy, [.int (nI yy), .ref (ad (36 + yy)), .ref (ad (42 + yy)), .long (pu yy + u * hoC yy c0), .int (de yy)]))) (n36 : ∀ yy, yy < nt → ct' (36 + yy) = some (eJ tc N (kFl (hoC yy) 0 N))) (n42 : ∀ yy, yy < nt → ct' (42 + yy) = some (eI tc N (weC yy))) (hT1 : ∀ yy, yy < nt → kiT1 N (ci yy) (kd yy) (hoC yy) (weC yy) (fun c => ho (8 * yy + c)) (fun c => we (8 * yy + c)))
    (hTn : ∀ yy, nt ≤ yy → yy < 6 → ct' (30 + yy) = none ∧ ct' (36 + yy) = none ∧ ct' (42 + yy) = none) : kiT tc ad ct' N nt kd (kPu pu ho u c0 nt) de (kFl ho 0 (8 * nt)) we := by
  refine ⟨hnt, h202, n203, h204, n205, h206, qt, ci, fun yy => kFl (hoC yy) 0 N, weC, h3, fun yy hy => ⟨hq yy hy, ?_, n36 yy hy, n42 yy hy⟩, fun yy hy => ?_, hTn⟩
  · rw [n30 yy hy, kPu, if_pos hy, (hT1 yy hy).2.1 c0 hc0]
  · obtain ⟨g1, g2, g3, g4, g5⟩ := hT1 yy hy
    refine ⟨g1, fun c hc => ?_, g3, g4, g5⟩
    show kFl (hoC yy) 0 N c = kFl ho 0 (8 * nt) (8 * yy + c)
    rw [kFl, if_pos hc, kFl, if_pos (by omega)]
/-- a sheet anew -/
theorem kiS_set {tc : Nat → ClassId} {ad : Nat → Nat} {ct ct' : Nat → Option va_E} {la sl ce la' sl' ce' : Nat → Int32} (q : kiS tc ad ct la sl ce) {k : Nat} (hk : k < 4) {th1 : Bool} {ln1 : Int32} {n1 : Nat} {sc1 : Nat → Int32} (n20 : ct' (20 + k) = some (.inr (6, [.ref (ad (24 + k)), .int (kb (th1 = true)), .int ln1, .int (nI n1)]))) (n24 : ct' (24 + k) = some (eI tc 24 sc1)) (n207 : ct' 207 = some (eI tc 4 la')) (n208 : ct' 208 = some (eI tc 4 sl')) (n209 : ct' 209 = some (eI tc 96 ce')) (hfr : ∀ j, (j = 11 ∨ (20 ≤ j ∧ j < 28 ∧ j ≠ 20 + k ∧ j ≠ 24 + k)) → ct' j = ct j) (hl : ∀ yy, yy < 4 → yy ≠ k → la' yy = la yy) (hs : ∀ yy, yy < 4 → yy ≠ k → sl' yy = sl yy) (he : ∀ yy i, yy < 4 → i < 24 → yy ≠ k → ce' (24 * yy + i) = ce (24 * yy + i)) (h1 : kiS1 th1 ln1 n1 sc1 (la' k) (sl' k) (fun i => ce' (24 * k + i))) : kiS tc ad ct' la' sl' ce' := by
  obtain ⟨-, -, -, qs, th, ln, n, sc, h4, h5⟩ := q
  refine ⟨n207, n208, n209, qs, va_up th k th1, va_up ln k ln1, va_up n k n1, va_up sc k sc1, (hfr 11 (by omega)).trans h4, fun yy hy => ?_⟩
  by_cases e : yy = k
  · subst e
    rw [va_up_self, va_up_self, va_up_self, va_up_self]
    exact ⟨(h5 yy hy).1, n20, n24, h1⟩
  · rw [va_up_ne _ _ e, va_up_ne _ _ e, va_up_ne _ _ e, va_up_ne _ _ e, hl yy hy e, hs yy hy e]
    refine ⟨(h5 yy hy).1, (hfr (20 + yy) (by omega)).trans (h5 yy hy).2.1, (hfr (24 + yy) (by omega)).trans (h5 yy hy).2.2.1, (h5 yy hy).2.2.2.1, ?_⟩
    rcases (h5 yy hy).2.2.2.2 with g | g
    · exact Or.inl ⟨g.1, g.2.1, g.2.2.1, g.2.2.2.1, fun i hi => (g.2.2.2.2 i hi).trans (he yy i hy hi e).symm⟩
    · exact Or.inr g
/-- a new forecast -/
theorem kiF_new {tc : Nat → ClassId} {ad : Nat → Nat} {ct ct' : Nat → Option va_E} {N nf c0 n8 : Nat} {tl ca : Nat → Int32} (q : kiF tc ad ct N nf tl ca) (hN : N ≤ 8) (hnf : nf < 40) (hc0 : c0 < N) (h8 : n8 = N) {qf0 : Nat → Option Nat} {row : Nat → Int32} {w1 : Nat → Int32} (h10 : ct 10 = some (eQ tc 2 40 qf0)) (n9 : ct' 9 = some (.inr (2, [.ref (ad 10), .int (nI (nf + 1))]))) (n10 : ct' 10 = some (eQ tc 2 40 (va_up qf0 nf (some (ad (100 + nf)))))) (n100 : ct' (100 + nf) = some (.inr (1, [.ref (ad (140 + nf)), .int (nI c0), .long (su (fun c => (w1 c).toInt64) n8), .long (su (fun c => (w1 c * w1 c).toInt64) n8)]))) (n140 : ct' (140 + nf) = some (eI tc n8 w1)) (n215 : ct' 215 = some (eI tc 320 (kBl tl (8 * nf) N row))) (n216 : ct' 216 = some (eI tc 40 (va_up ca nf (nI c0)))) (hfr : ∀ j, (100 ≤ j ∧ j < 180 ∧ j ≠ 100 + nf ∧ j ≠ 140 + nf) → ct' j = ct j) (hw : ∀ c, c < N → w1 c = row c) (h1 : kw1 row N) (hz : ¬ sw row N = 0) : kiF tc ad ct' N (nf + 1) (kBl tl (8 * nf) N row) (va_up ca nf (nI c0)) := by
  subst h8
  obtain ⟨h0, -, -, qf, cf, sm, sq, wC, h3, h4, h5, h6, h7⟩ := q
  have hq : qf0 = qf := by
    rw [h10] at h4
    have e := Sum.inl.inj (Option.some.inj h4)
    simp only [Prod.mk.injEq, Sum.inr.injEq] at e
    exact e.2.2
  subst hq
  refine ⟨by omega, n215, n216, va_up qf0 nf (some (ad (100 + nf))), va_up cf nf c0, va_up sm nf (su (fun c => (w1 c).toInt64) n8), va_up sq nf (su (fun c => (w1 c * w1 c).toInt64) n8), va_up wC nf w1, n9, n10, fun yy hy => ?_, fun yy hy => ?_, fun yy hy hz => ⟨(hfr (100 + yy) (by omega)).trans (h7 yy (by omega) hz).1, (hfr (140 + yy) (by omega)).trans (h7 yy (by omega) hz).2⟩⟩
  · by_cases e : yy = nf
    · subst e
      rw [va_up_self, va_up_self, va_up_self, va_up_self, va_up_self]
      exact ⟨⟨rfl, hc0⟩, n100, n140⟩
    · rw [va_up_ne _ _ e, va_up_ne _ _ e, va_up_ne _ _ e, va_up_ne _ _ e, va_up_ne _ _ e]
      have hy2 : yy < nf := by omega
      exact ⟨(h5 yy hy2).1, (hfr (100 + yy) (by omega)).trans (h5 yy hy2).2.1, (hfr (140 + yy) (by omega)).trans (h5 yy hy2).2.2⟩
  · by_cases e : yy = nf
    · subst e
      rw [va_up_self, va_up_self, va_up_self, va_up_self, va_up_self]
      have o : ∀ c, c < n8 → kBl tl (8 * yy) n8 row (8 * yy + c) = row c := fun c hc => kBl_in _ _ _ _ hc
      refine ⟨rfl, fun c hc => (hw c hc).trans (o c hc).symm, fun c hc => ?_, fun z => hz ?_, ?_, ?_⟩
      · show 0 ≤ kBl tl (8 * yy) n8 row (8 * yy + c) ∧ kBl tl (8 * yy) n8 row (8 * yy + c) ≤ 100
        rw [o c hc]; exact h1 c hc
      · rw [← z]; exact sw_cong (fun c hc => (o c hc).symm)
      · exact su_cong (fun c hc => congrArg Int32.toInt64 ((hw c hc).trans (o c hc).symm))
      · exact su_cong (fun c hc => by
          show (w1 c * w1 c).toInt64 = (kBl tl (8 * yy) n8 row (8 * yy + c) * kBl tl (8 * yy) n8 row (8 * yy + c)).toInt64
          rw [o c hc, hw c hc])
    · rw [va_up_ne _ _ e, va_up_ne _ _ e, va_up_ne _ _ e, va_up_ne _ _ e, va_up_ne _ _ e]
      obtain ⟨g1, g2, g3, g4, g5, g6⟩ := h6 yy (by omega)
      have o : ∀ c, c < n8 → kBl tl (8 * nf) n8 row (8 * yy + c) = tl (8 * yy + c) := fun c hc => by rw [kBl, if_neg (by omega)]
      refine ⟨g1, fun c hc => (g2 c hc).trans (o c hc).symm, fun c hc => ?_, fun z => g4 ?_, ?_, ?_⟩
      · show 0 ≤ kBl tl (8 * nf) n8 row (8 * yy + c) ∧ kBl tl (8 * nf) n8 row (8 * yy + c) ≤ 100
        rw [o c hc]; exact g3 c hc
      · rw [← z]; exact sw_cong (fun c hc => (o c hc).symm)
      · rw [g5]; exact su_cong (fun c hc => congrArg Int32.toInt64 (o c hc).symm)
      · rw [g6]; exact su_cong (fun c hc => by
          show (tl (8 * yy + c) * tl (8 * yy + c)).toInt64 = (kBl tl (8 * nf) n8 row (8 * yy + c) * kBl tl (8 * nf) n8 row (8 * yy + c)).toInt64
          rw [o c hc])
def kdr (ct : Nat → Option va_E) : Nat → Option va_E := fun j => if (30 ≤ j ∧ j < 48) ∨ (60 ≤ j ∧ j < 66) ∨ (100 ≤ j ∧ j < 180) then none else ct j
theorem kdr_n {ct : Nat → Option va_E} {j : Nat} (h : (30 ≤ j ∧ j < 48) ∨ (60 ≤ j ∧ j < 66) ∨ (100 ≤ j ∧ j < 180)) : kdr ct j = none := by rw [kdr, if_pos h]
theorem kdr_o {ct : Nat → Option va_E} {j : Nat} (h : ¬ ((30 ≤ j ∧ j < 48) ∨ (60 ≤ j ∧ j < 66) ∨ (100 ≤ j ∧ j < 180))) : kdr ct j = ct j := by rw [kdr, if_neg h]
theorem kdr_s {ct : Nat → Option va_E} (j : Nat) (e : va_E) (h : kdr ct j = some e) : ct j = some e := by
  by_cases q : (30 ≤ j ∧ j < 48) ∨ (60 ≤ j ∧ j < 66) ∨ (100 ≤ j ∧ j < 180)
  · rw [kdr_n q] at h; cases h
  · rw [kdr_o q] at h; exact h
theorem kaz0 {z j : Nat} (h : ¬ ((36 ≤ j ∧ j < 42) ∨ (140 ≤ j ∧ j < 180)) ∧ ¬ (42 ≤ j ∧ j < 48)) : kAz z j = z := by rw [kAz, if_neg h.1, if_neg h.2]
theorem kaz1 {z j : Nat} (h : (36 ≤ j ∧ j < 42) ∨ (140 ≤ j ∧ j < 180)) : kAz z j = z + 1 := by rw [kAz, if_pos h]
theorem kaz2 {z j : Nat} (h : 42 ≤ j ∧ j < 48) : kAz z j = z + 2 := by rw [kAz, if_neg (by omega), if_pos h]
theorem kN_0 (A : Nat) : kN 0 A := by rw [kN, show (0 : Int64).toInt = 0 from by decide]; exact Nat.zero_le _
theorem kFl_z {f : Nat → Int64} {n N : Nat} (h : N ≤ n) : su (kFl f 0 n) N = 0 ∧ su (fun c => kFl f 0 n c * kFl f 0 n c) N = 0 :=
  ⟨su_z (fun c hc => by rw [kFl, if_pos (by omega)]), su_z (fun c hc => by rw [kFl, if_pos (by omega)]; decide)⟩
theorem kG_begin {kk N : Nat} {b : Int32} {f ho : Nat → Int64} {de : Nat → Int32} (hN : N ≤ 8) : kiG kk N 0 b (-9) 0 0 (kFl f 0 8) ho de :=
  ⟨rfl, fun _ => ⟨fun c hc => by rw [kFl, if_pos (by omega)]; rfl, by rw [kLv_0, (kFl_z hN).1, (kFl_z hN).2]; grind, fun c hc => by rw [kFl, if_pos (by omega)]; exact kN_0 _⟩⟩
theorem kG_trader {kk N nt : Nat} {b cm da : Int32} {g : Int64} {f ho : Nat → Int64} {de : Nat → Int32} (hN : N ≤ 8) (h : kiG kk N nt b cm da g f ho de) : kiG (kk + 1) N (nt + 1) b cm da g f (kBl ho (8 * nt) 8 (fun _ => 0)) (va_up de nt 0) := by
  refine ⟨?_, fun q => ⟨fun c hc => ?_, (h.2 q).2.1, fun c hc => kN_le ((h.2 q).2.2 c hc) (by omega)⟩⟩
  · rw [sw, va_up_self, Int32.add_zero, h.1]
    exact sw_cong (fun c hc => (va_up_ne _ _ (by omega)).symm)
  · rw [su, kBl_in _ _ _ _ (by omega), Int64.add_zero, (h.2 q).1 c hc]
    exact su_cong (fun t ht => by show ho (8 * t + c) = kBl ho (8 * nt) 8 _ (8 * t + c); rw [kBl, if_neg (by omega)])
theorem kG_deal {kk N nt t : Nat} {b cm da set x : Int32} {g : Int64} {f ho : Nat → Int64} {de : Nat → Int32} (hN : N ≤ 8) (ht : t < nt) (hkk : kk < 512) (hx : (-1000) ≤ x ∧ x ≤ 1000) (h : kiG kk N nt b cm da g f ho de) : kiG (kk + 1) N nt b cm (da + 1) (g + kPd b N f set x.toInt64) (kAx f set x N) (kHx ho (8 * t) set x N) (va_up de t (de t + 1)) := by
  refine ⟨?_, fun q => ⟨fun c hc => ?_, ?_, fun c hc => ?_⟩⟩
  · rw [sw_upd (F := de) ht (fun f _ hne => va_up_ne _ _ hne), va_up_self, h.1]
    grind
  · rw [su_upd (F := fun t => ho (8 * t + c)) (G := fun t' => kHx ho (8 * t) set x N (8 * t' + c)) ht (fun f _ hne => kHx_o hN hc hne), kHx_e hc, kAx_e hc, (h.2 q).1 c hc]
    grind
  · rw [kAx_Lv, kPd, (h.2 q).2.1]
    grind
  · rw [kAx_e hc]
    exact kN_le (kN_add ((h.2 q).2.2 c hc) (kN_mul (kxb hx) (kbb set c) (by decide)).2 (by omega)).2 (by omega)
theorem kG_comes {kk N nt : Nat} {b cm da : Int32} {g g' : Int64} {f ho ho' : Nat → Int64} {de : Nat → Int32} {c : Nat} (hc : c < N) (hN : N ≤ 8) (h : kiG kk N nt b cm da g f ho de) : kiG (kk + 1) N nt b (nI c) da g' f ho' de :=
  ⟨h.1, fun q => by
    exfalso
    have h1 : (0 : Int32) ≤ nI c := nI_pos' (by omega)
    rw [q] at h1
    exact absurd h1 (by decide)⟩
/-- an offer more; an offer's most -/
theorem kiB_new {tc : Nat → ClassId} {ad : Nat → Nat} {ct ct' : Nat → Option va_E} {N no : Nat} (hno : no < 6) {os oc om nw brR : Nat → Int32} {mm : Nat → Nat} {qo : Nat → Option Nat} {rw1 br cv : Nat → Int32} {co bg st0 oc0 : Int32} {m0 : Nat} (hOf : ∀ yy, yy < no → qo yy = some (ad (60 + yy)) ∧ ct (60 + yy) = some (.inr (4, [.int (os yy), .int (oc yy), .int (nI (mm yy))]))) (hom : ∀ yy, yy < no → om yy = nI (mm yy)) (hm3 : ∀ yy, yy < no → mm yy ≤ 3) (ho9 : ∀ yy, yy < no → 0 ≤ oc yy ∧ oc yy ≤ 99) (hOn : ∀ yy, no ≤ yy → yy < 6 → ct (60 + yy) = none) (hm0 : m0 ≤ 3) (h09 : 0 ≤ oc0 ∧ oc0 ≤ 99) (n210 : ct' 210 = some (eI tc 6 (va_up os no st0))) (n211 : ct' 211 = some (eI tc 6 (va_up oc no oc0))) (n212 : ct' 212 = some (eI tc 6 (va_up om no (nI m0)))) (n213 : ct' 213 = some (eI tc 6 nw)) (n214 : ct' 214 = some (eI tc 6 brR)) (n4 : ct' 4 = some (.inr (0, [.ref (ad 5), .ref (ad 6), .ref (ad 7), .ref (ad 8), .int (nI (no + 1)), .int co, .int bg, .int (kb (false = true))]))) (n5 : ct' 5 = some (eQ tc 3 6 (va_up qo no (some (ad (60 + no)))))) (n6 : ct' 6 = some (eI tc 6 rw1)) (n7 : ct' 7 = some (eI tc 6 br)) (n8 : ct' 8 = some (eI tc 8 cv)) (n60 : ct' (60 + no) = some (.inr (4, [.int st0, .int oc0, .int (nI m0)]))) (hfr : ∀ j, (60 ≤ j ∧ j < 66 ∧ j ≠ 60 + no) → ct' j = ct j) : kiB tc ad ct' N (no + 1) := by
  refine ⟨by omega, va_up os no st0, va_up oc no oc0, va_up om no (nI m0), nw, brR, va_up mm no m0, co, bg, false, va_up qo no (some (ad (60 + no))), rw1, br, cv, n210, n211, n212, n213, n214, n4, n5, n6, n7, n8, fun yy hy => ?_, fun yy hy => ?_, fun yy hy => ?_, fun yy hy => ?_, (fun q => by cases q), fun yy hy hz => (hfr (60 + yy) (by omega)).trans (hOn yy (by omega) hz)⟩ <;> by_cases e : yy = no
  · subst e; rw [va_up_self, va_up_self, va_up_self, va_up_self]; exact ⟨rfl, n60⟩
  · rw [va_up_ne _ _ e, va_up_ne _ _ e, va_up_ne _ _ e, va_up_ne _ _ e]; exact ⟨(hOf yy (by omega)).1, (hfr (60 + yy) (by omega)).trans (hOf yy (by omega)).2⟩
  · subst e; rw [va_up_self, va_up_self]
  · rw [va_up_ne _ _ e, va_up_ne _ _ e]; exact hom yy (by omega)
  · subst e; rw [va_up_self]; exact hm0
  · rw [va_up_ne _ _ e]; exact hm3 yy (by omega)
  · subst e; rw [va_up_self]; exact h09
  · rw [va_up_ne _ _ e]; exact ho9 yy (by omega)
theorem kiB_most {tc : Nat → ClassId} {ad : Nat → Nat} {ct ct' : Nat → Option va_E} {N no fx : Nat} (hno : no ≤ 6) (hfx : fx < no) {os oc om nw brR : Nat → Int32} {mm : Nat → Nat} {qo : Nat → Option Nat} {rw1 br cv : Nat → Int32} {co bg : Int32} {m0 : Nat} (hOf : ∀ yy, yy < no → qo yy = some (ad (60 + yy)) ∧ ct (60 + yy) = some (.inr (4, [.int (os yy), .int (oc yy), .int (nI (mm yy))]))) (hom : ∀ yy, yy < no → om yy = nI (mm yy)) (hm3 : ∀ yy, yy < no → mm yy ≤ 3) (ho9 : ∀ yy, yy < no → 0 ≤ oc yy ∧ oc yy ≤ 99) (hOn : ∀ yy, no ≤ yy → yy < 6 → ct (60 + yy) = none) (hm0 : m0 ≤ 3) (n210 : ct' 210 = some (eI tc 6 os)) (n211 : ct' 211 = some (eI tc 6 oc)) (n212 : ct' 212 = some (eI tc 6 (va_up om fx (nI m0)))) (n213 : ct' 213 = some (eI tc 6 nw)) (n214 : ct' 214 = some (eI tc 6 brR)) (n4 : ct' 4 = some (.inr (0, [.ref (ad 5), .ref (ad 6), .ref (ad 7), .ref (ad 8), .int (nI no), .int co, .int bg, .int (kb (false = true))]))) (n5 : ct' 5 = some (eQ tc 3 6 qo)) (n6 : ct' 6 = some (eI tc 6 rw1)) (n7 : ct' 7 = some (eI tc 6 br)) (n8 : ct' 8 = some (eI tc 8 cv)) (n60 : ct' (60 + fx) = some (.inr (4, [.int (os fx), .int (oc fx), .int (nI m0)]))) (hfr : ∀ j, (60 ≤ j ∧ j < 66 ∧ j ≠ 60 + fx) → ct' j = ct j) : kiB tc ad ct' N no := by
  refine ⟨hno, os, oc, va_up om fx (nI m0), nw, brR, va_up mm fx m0, co, bg, false, qo, rw1, br, cv, n210, n211, n212, n213, n214, n4, n5, n6, n7, n8, fun yy hy => ?_, fun yy hy => ?_, fun yy hy => ?_, ho9, (fun q => by cases q), fun yy hy hz => (hfr (60 + yy) (by omega)).trans (hOn yy (by omega) hz)⟩ <;> by_cases e : yy = fx
  · subst e; rw [va_up_self]; exact ⟨(hOf yy hy).1, n60⟩
  · rw [va_up_ne _ _ e]; exact ⟨(hOf yy hy).1, (hfr (60 + yy) (by omega)).trans (hOf yy hy).2⟩
  · subst e; rw [va_up_self, va_up_self]
  · rw [va_up_ne _ _ e, va_up_ne _ _ e]; exact hom yy hy
  · subst e; rw [va_up_self]; exact hm0
  · rw [va_up_ne _ _ e]; exact hm3 yy hy
theorem kaddz (a : Int32) : 0 < a ∨ a ≤ 0 := by grind
theorem kpos {w : Nat → Int32} {N : Nat} (hN : N ≤ 8) (h : kw1 w N) (hz : ¬ sw w N = 0) : 0 < sw w N ∧ ¬ sw w N ≤ 0 := by
  obtain ⟨A, h1, h2, -⟩ := kw1_sum h
  have hA : 0 < A := Nat.pos_of_ne_zero (fun q => hz (by rw [h2, q]; rfl))
  rw [h2]
  have e : (0 : Int32) < nI A := (nI_ltI (a := 0) (b := A) (by omega) (by omega)).mpr hA
  exact ⟨e, kq_3 e⟩
theorem ktw (a : Int32) : (a + 100) + a = 2 * a + 100 := by grind

theorem k43 {x : Int32} : (0 ≤ x.toInt64 ∧ x.toInt64 ≤ 3) ↔ (0 ≤ x ∧ x < 4) := by
  rw [k64_in (lo := 0) (hi := 3) (by decide) (by decide), Int32.le_iff_toInt_le, Int32.le_iff_toInt_le, Int32.lt_iff_toInt_lt, show (0 : Int32).toInt = 0 from by decide, show (3 : Int32).toInt = 3 from by decide, show (4 : Int32).toInt = 4 from by decide]
  omega
theorem kge {n a : Nat} (hn : n < 2 ^ 30) (ha : a < 2 ^ 30) (h : nI a ≤ nI n) : a ≤ n := Nat.le_of_not_lt (fun q => kq_4 h ((nI_ltI (a := n) (b := a) (by omega) (by omega)).mpr q))
theorem kwz_up {we : Nat → Int32} {t c N : Nat} {x : Int32} (hc : c < N) (hzz : ¬ sw (fun c => we (8 * t + c)) N - we (8 * t + c) + x = 0) : ¬ sw (fun c' => va_up we (8 * t + c) x (8 * t + c')) N = 0 := fun q => hzz (by
  have e := sw_upd (F := fun c => we (8 * t + c)) (G := fun c' => va_up we (8 * t + c) x (8 * t + c')) hc (fun f _ hne => va_up_ne _ _ (by omega))
  have e2 : va_up we (8 * t + c) x (8 * t + c) = x := va_up_self _ _ _
  rw [q] at e
  simp only [e2] at e
  generalize sw (fun c => we (8 * t + c)) N = S at e ⊢
  generalize we (8 * t + c) = y at e ⊢
  grind)
/-- one trader's belief of one case -/
theorem kiT_bel {tc : Nat → ClassId} {ad : Nat → Nat} {ct ct' : Nat → Option va_E} {N nt : Nat} {kd : Nat → Int32} {pu : Nat → Int64} {de : Nat → Int32} {ho : Nat → Int64} {we : Nat → Int32} (q : kiT tc ad ct N nt kd pu de ho we) {t ci0 c : Nat} {hoN : Nat → Int64} {weN : Nat → Int32} {x : Int32} (ht : t < nt) (hc : c < N) (hx : 0 ≤ x ∧ x ≤ 100) {fs0 : List Value} (hN : N ≤ 8) (h30 : ct (30 + t) = some (.inr (ci0, fs0))) (n30 : ct' (30 + t) = some (.inr (ci0, [.int (nI t), .ref (ad (36 + t)), .ref (ad (42 + t)), .long (pu t), .int (de t)]))) (n36 : ct' (36 + t) = some (eJ tc N hoN)) (n42 : ct' (42 + t) = some (eI tc N (va_up weN c x))) (n203 : ct' 203 = some (eJ tc 6 pu)) (n204 : ct' 204 = some (eI tc 6 de)) (n205 : ct' 205 = some (eJ tc 48 ho)) (n206 : ct' 206 = some (eI tc 48 (va_up we (8 * t + c) x))) (hfr : ∀ j, (j = 3 ∨ (30 ≤ j ∧ j < 48 ∧ j ≠ 30 + t ∧ j ≠ 36 + t ∧ j ≠ 42 + t) ∨ j = 202) → ct' j = ct j) (hho : ∀ c, c < N → hoN c = ho (8 * t + c)) (hwe : ∀ c, c < N → weN c = we (8 * t + c)) (hw1 : kw1 (fun c => we (8 * t + c)) N) (hzz : ¬ sw (fun c => we (8 * t + c)) N - we (8 * t + c) + x = 0) : kiT tc ad ct' N nt kd pu de ho (va_up we (8 * t + c) x) := by
  have r := kiT_set (pu1 := pu t) (de1 := de t) q ht h30 n30 n36 n42 (by rw [va_up_id]; exact n203) (by rw [va_up_id]; exact n204) n205 n206 hfr (fun _ _ _ _ _ => rfl) hho (fun yy c' hy hc' hne => va_up_ne _ _ (by omega)) (fun c' hc' => by
      by_cases e : c' = c
      · subst e; rw [va_up_self, va_up_self]
      · rw [va_up_ne _ _ e, va_up_ne _ _ (by omega)]; exact hwe c' hc') (fun c' hc' => by
      show 0 ≤ va_up we (8 * t + c) x (8 * t + c') ∧ va_up we (8 * t + c) x (8 * t + c') ≤ 100
      by_cases e : c' = c
      · subst e; rw [va_up_self]; exact hx
      · rw [va_up_ne _ _ (by omega)]; exact hw1 c' hc') (kwz_up hc hzz)
  rw [va_up_id, va_up_id] at r
  exact r
/-- one trader's beliefs of all cases -/
theorem kiT_bels {tc : Nat → ClassId} {ad : Nat → Nat} {ct ct' : Nat → Option va_E} {N nt : Nat} {kd : Nat → Int32} {pu : Nat → Int64} {de : Nat → Int32} {ho : Nat → Int64} {we : Nat → Int32} (q : kiT tc ad ct N nt kd pu de ho we) {t ci0 : Nat} {hoN : Nat → Int64} {weN row : Nat → Int32} (ht : t < nt) {fs0 : List Value} (hN : N ≤ 8) (h30 : ct (30 + t) = some (.inr (ci0, fs0))) (n30 : ct' (30 + t) = some (.inr (ci0, [.int (nI t), .ref (ad (36 + t)), .ref (ad (42 + t)), .long (pu t), .int (de t)]))) (n36 : ct' (36 + t) = some (eJ tc N hoN)) (n42 : ct' (42 + t) = some (eI tc N weN)) (n203 : ct' 203 = some (eJ tc 6 pu)) (n204 : ct' 204 = some (eI tc 6 de)) (n205 : ct' 205 = some (eJ tc 48 ho)) (n206 : ct' 206 = some (eI tc 48 (kBl we (8 * t) N row))) (hfr : ∀ j, (j = 3 ∨ (30 ≤ j ∧ j < 48 ∧ j ≠ 30 + t ∧ j ≠ 36 + t ∧ j ≠ 42 + t) ∨ j = 202) → ct' j = ct j) (hho : ∀ c, c < N → hoN c = ho (8 * t + c)) (hwe : ∀ c, c < N → weN c = row c) (hw1 : kw1 row N) (hzz : ¬ sw row N = 0) : kiT tc ad ct' N nt kd pu de ho (kBl we (8 * t) N row) := by
  have o : ∀ c, c < N → kBl we (8 * t) N row (8 * t + c) = row c := fun c hc => kBl_in _ _ _ _ hc
  have r := kiT_set (pu1 := pu t) (de1 := de t) q ht h30 n30 n36 n42 (by rw [va_up_id]; exact n203) (by rw [va_up_id]; exact n204) n205 n206 hfr (fun _ _ _ _ _ => rfl) hho (fun yy c' hy hc' hne => by rw [kBl, if_neg (by omega)]) (fun c' hc' => (hwe c' hc').trans (o c' hc').symm) (fun c' hc' => by
      show 0 ≤ kBl we (8 * t) N row (8 * t + c') ∧ kBl we (8 * t) N row (8 * t + c') ≤ 100
      rw [o c' hc']; exact hw1 c' hc') (fun z => hzz (by rw [← z]; exact sw_cong (fun c hc => (o c hc).symm)))
  rw [va_up_id, va_up_id] at r
  exact r
theorem kS_put {n : Nat} {th : Bool} {ln la sl x : Int32} {sc ce : Nat → Int32} {k i0 : Nat} (hn : n ≤ 24) (hth : th = true) (hla : la = ln) (hln : 0 ≤ ln ∧ ln ≤ 2) (hsl : sl = nI n) (hsc : ∀ i, i < 24 → sc i = ce (24 * k + i)) : kiS1 th ln n (va_up sc i0 (kCut ln x)) la sl (fun i => va_up ce (24 * k + i0) (kCut la x) (24 * k + i)) :=
  ⟨hn, Or.inl ⟨hth, hla, hln, hsl, fun i hi => by
    show va_up sc i0 (kCut ln x) i = va_up ce (24 * k + i0) (kCut la x) (24 * k + i)
    by_cases e : i = i0
    · subst e; rw [va_up_self, va_up_self, hla]
    · rw [va_up_ne _ _ e, va_up_ne _ _ (by omega)]; exact hsc i hi⟩⟩
theorem ka1 {la ln : Int32} (h : la = ln) (h2 : 0 ≤ ln ∧ ln ≤ 2) : ¬ la = (-9) := fun q => by
  rw [← h, q] at h2
  exact absurd h2.1 (by decide)
