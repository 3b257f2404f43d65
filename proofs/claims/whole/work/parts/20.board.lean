/-! the board's search, and the reference's -/
theorem kx_m1 (j : Nat) : nI (j + 1) - 1 = nI j := pk_sub (a := j + 1) (b := 1) (by omega)
theorem kx_neg {i : Nat} (h : nI i - 1 < 0) (hi : i < 2 ^ 30) : i = 0 := by
  rcases Nat.eq_zero_or_pos i with q | q
  · exact q
  · obtain ⟨j, rfl⟩ : ∃ j, i = j + 1 := ⟨i - 1, by omega⟩
    rw [kx_m1] at h
    exact absurd h (nI_pos (by omega))
theorem kx_neg0 {i : Nat} (h : ¬ nI i - 1 < 0) : 1 ≤ i := by
  rcases Nat.eq_zero_or_pos i with q | q
  · subst q; exact absurd (by decide) h
  · exact q
theorem kCp_in {α : Type} {f g : Nat → α} {n c : Nat} (h : c < n) : kCp f g n c = g c := by rw [kCp, if_pos h]
def kStp (mm : Nat → Nat) : Nat → (Nat → Nat) → (Nat → Nat) × Bool
  | 0, r => (r, false)
  | f + 1, r => if r f < mm f then (va_up r f (r f + 1), true) else kStp mm f (va_up r f 0)
theorem kStp_t {mm r : Nat → Nat} {f : Nat} (h : r f < mm f) : kStp mm (f + 1) r = (va_up r f (r f + 1), true) := by rw [kStp, if_pos h]
theorem kStp_f {mm r : Nat → Nat} {f : Nat} (h : ¬ r f < mm f) : kStp mm (f + 1) r = kStp mm f (va_up r f 0) := by rw [kStp, if_neg h]
theorem kup_le {mm r : Nat → Nat} {N n v : Nat} (h : ∀ f, f < N → r f ≤ mm f) (hv : v ≤ mm n) : ∀ f, f < N → va_up r n v f ≤ mm f := fun f hf => by
  by_cases e : f = n
  · subst e; rw [va_up_self]; exact hv
  · rw [va_up_ne _ _ e]; exact h f hf
theorem kup_z {r : Nat → Nat} {N n v : Nat} (h : ∀ f, N ≤ f → r f = 0) (hn : n < N) : ∀ f, N ≤ f → va_up r n v f = 0 := fun f hf => by
  rw [va_up_ne _ _ (by omega)]; exact h f hf
theorem kStp_bd {mm : Nat → Nat} {N : Nat} : ∀ {n : Nat} {r : Nat → Nat}, n ≤ N → (∀ f, f < N → r f ≤ mm f) → ∀ f, f < N → (kStp mm n r).1 f ≤ mm f
  | 0, r, _, h => h
  | n + 1, r, hn, h => by
    by_cases q : r n < mm n
    · rw [kStp_t q]; exact kup_le h (by omega)
    · rw [kStp_f q]; exact kStp_bd (by omega) (kup_le h (by omega))
theorem kStp_hi {mm : Nat → Nat} : ∀ {n : Nat} {r : Nat → Nat} {f : Nat}, n ≤ f → (kStp mm n r).1 f = r f
  | 0, r, f, _ => rfl
  | n + 1, r, f, h => by
    by_cases q : r n < mm n
    · rw [kStp_t q]; exact va_up_ne _ _ (by omega)
    · rw [kStp_f q, kStp_hi (by omega)]; exact va_up_ne _ _ (by omega)
def kFo (mm : Nat → Nat) (G : (Nat → Nat) → Int32) (n : Nat) : Nat → (Nat → Nat) → Int32 → (Nat → Nat) → (Nat → Nat) × Int32 × (Nat → Nat)
  | 0, r, b, q => (r, b, q)
  | k + 1, r, b, q => if (kStp mm n r).2 = true then kFo mm G n k (kStp mm n r).1 (if b < G (kStp mm n r).1 then G (kStp mm n r).1 else b) (if b < G (kStp mm n r).1 then (kStp mm n r).1 else q) else ((kStp mm n r).1, b, q)
theorem kFo_t {mm : Nat → Nat} {G : (Nat → Nat) → Int32} {n k k1 : Nat} {r q r' : Nat → Nat} {b : Int32} (hk : k = k1 + 1) (h : kStp mm n r = (r', true)) : kFo mm G n k r b q = kFo mm G n k1 r' (if b < G r' then G r' else b) (if b < G r' then r' else q) := by
  subst hk; rw [kFo, h, if_pos rfl]
theorem kFo_f {mm : Nat → Nat} {G : (Nat → Nat) → Int32} {n k k1 : Nat} {r q r' : Nat → Nat} {b : Int32} (hk : k = k1 + 1) (h : kStp mm n r = (r', false)) : kFo mm G n k r b q = (r', b, q) := by
  subst hk; rw [kFo, h, if_neg Bool.false_ne_true]
theorem kpr {α : Type} {x : α × Bool} (h : x.2 = true) : x = (x.1, true) := by rw [← h]
theorem kprf {α : Type} {x : α × Bool} (h : ¬ x.2 = true) : x = (x.1, false) := by
  obtain ⟨a, b⟩ := x
  cases b
  · rfl
  · exact absurd rfl h
def kVl (mm r : Nat → Nat) : Nat → Nat
  | 0 => 0
  | n + 1 => kVl mm r n * (mm n + 1) + r n
theorem kVl_cong {mm r r' : Nat → Nat} : ∀ {n : Nat}, (∀ f, f < n → r f = r' f) → kVl mm r n = kVl mm r' n
  | 0, _ => rfl
  | n + 1, h => by rw [kVl, kVl, kVl_cong (fun f hf => h f (by omega)), h n (by omega)]
theorem kVl_step {mm : Nat → Nat} : ∀ {n : Nat} {r : Nat → Nat}, (∀ f, f < n → r f ≤ mm f) → (kStp mm n r).2 = true → kVl mm (kStp mm n r).1 n = kVl mm r n + 1
  | 0, r, _, h => absurd h Bool.false_ne_true
  | n + 1, r, hb, h => by
    by_cases q : r n < mm n
    · rw [kStp_t q]
      show kVl mm (va_up r n (r n + 1)) n * (mm n + 1) + va_up r n (r n + 1) n = _
      rw [va_up_self, kVl_cong (r' := r) (fun f hf => va_up_ne r (r n + 1) (by omega)), kVl]
      omega
    · rw [kStp_f q] at h ⊢
      have ih := kVl_step (r := va_up r n 0) (fun f hf => by rw [va_up_ne _ _ (by omega)]; exact hb f (by omega)) h
      rw [kVl, kVl, kStp_hi (Nat.le_refl n), va_up_self, ih, kVl_cong (r' := r) (fun f hf => va_up_ne r 0 (by omega)), show r n = mm n from by have := hb n (by omega); omega, Nat.add_mul]
      omega
theorem kVl_lt {mm r : Nat → Nat} : ∀ {n : Nat}, (∀ f, f < n → r f ≤ mm f) → (∀ f, f < n → mm f ≤ 3) → kVl mm r n < 4 ^ n
  | 0, _, _ => by show 0 < 4 ^ 0; decide
  | n + 1, h, h3 => by
    have ih := kVl_lt (n := n) (fun f hf => h f (by omega)) (fun f hf => h3 f (by omega))
    have h1 := h n (by omega)
    have h2 := h3 n (by omega)
    have e := Nat.mul_le_mul (show kVl mm r n + 1 ≤ 4 ^ n from ih) (show mm n + 1 ≤ 4 by omega)
    rw [kVl, Nat.pow_succ]
    rw [Nat.add_mul] at e
    omega
theorem kVl_6 {mm r : Nat → Nat} {n : Nat} (hn : n ≤ 6) (h : ∀ f, f < n → r f ≤ mm f) (h3 : ∀ f, f < n → mm f ≤ 3) : kVl mm r n < 4096 :=
  Nat.lt_of_lt_of_le (kVl_lt h h3) (Nat.le_trans (Nat.pow_le_pow_right (by decide) hn) (by decide))
theorem sw_upd {F G : Nat → Int32} {g : Nat} : ∀ {n : Nat}, g < n → (∀ f, f < n → f ≠ g → G f = F f) → sw G n = sw F n + (G g - F g)
  | n + 1, hg, h => by
    by_cases e : g = n
    · subst e
      rw [sw, sw, sw_cong (f := G) (g := F) (fun c hc => h c (by omega) (by omega))]
      grind
    · rw [sw, sw, sw_upd (F := F) (G := G) (g := g) (by omega) (fun f hf hne => h f (by omega) hne), h n (by omega) (fun q => e q.symm)]
      grind
def kAc (cv : Nat → Int32) (set x : Int32) (n : Nat) : Nat → Int32 := fun c => if c < n ∧ kbit set c ≠ 0 then cv c + x else cv c
theorem kAc_0 (f : Nat → Int32) (set x : Int32) : f = kAc f set x 0 := by funext c; simp [kAc]
theorem kAc_i {f : Nat → Int32} {set x : Int32} {i : Nat} (h : kbit set i ≠ 0) : va_up (kAc f set x i) i (kAc f set x i i + x) = kAc f set x (i + 1) := by funext c; grind [kAc, va_up]
theorem kAc_o {f : Nat → Int32} {set x : Int32} {i : Nat} (h : ¬ kbit set i ≠ 0) : kAc f set x i = kAc f set x (i + 1) := by funext c; grind [kAc]
def kcv (st : Nat → Int32) (r : Nat → Nat) (n c : Nat) : Int32 := sw (fun f => if kbit (st f) c ≠ 0 then nI (r f) else 0) n
def kco (oc : Nat → Int32) (r : Nat → Nat) (n : Nat) : Int32 := sw (fun f => nI (r f) * oc f) n
theorem sw_z {F : Nat → Int32} : ∀ {n : Nat}, (∀ f, f < n → F f = 0) → sw F n = 0
  | 0, _ => rfl
  | n + 1, h => by rw [sw, sw_z (fun f hf => h f (by omega)), h n (by omega)]; rfl
theorem kcv_0 (st : Nat → Int32) (n c : Nat) : kcv st (fun _ => 0) n c = 0 := sw_z (fun f _ => by
  show (if kbit (st f) c ≠ 0 then nI 0 else 0) = 0
  split <;> rfl)
theorem kco_0 (oc : Nat → Int32) (n : Nat) : kco oc (fun _ => 0) n = 0 := sw_z (fun f _ => by
  show (0 : Int32) * oc f = 0
  exact Int32.zero_mul)
theorem kr6 {rw1 : Nat → Int32} {r : Nat → Nat} {j v : Nat} {x : Int32} (hj : j < 6) (hv : nI (r j) + x = nI v) : va_up (kCp rw1 (fun f => nI (r f)) 6) j (kCp rw1 (fun f => nI (r f)) 6 j + x) = kCp rw1 (fun f => nI (va_up r j v f)) 6 := by
  rw [kCp_in hj, hv]
  funext c
  by_cases e : c = j
  · subst e; rw [va_up_self, kCp_in hj, va_up_self]
  · rw [va_up_ne _ _ e, kCp, kCp, va_up_ne _ _ e]
theorem kr8 {cv st : Nat → Int32} {r : Nat → Nat} {n j v : Nat} {x : Int32} (hj : j < n) (hv : nI (r j) + x = nI v) : kAc (kCp cv (kcv st r n) 8) (st j) x 8 = kCp cv (kcv st (va_up r j v) n) 8 := by
  funext c
  by_cases hc : c < 8
  · rw [kCp_in hc]
    have e : kcv st (va_up r j v) n c = kcv st r n c + ((if kbit (st j) c ≠ 0 then nI (va_up r j v j) else 0) - (if kbit (st j) c ≠ 0 then nI (r j) else 0)) :=
      sw_upd (F := fun f => if kbit (st f) c ≠ 0 then nI (r f) else 0) (G := fun f => if kbit (st f) c ≠ 0 then nI (va_up r j v f) else 0) hj (fun f _ hne => by show (if _ then nI (va_up r j v f) else 0) = _; rw [va_up_ne _ _ hne])
    rw [e, va_up_self, kAc, kCp_in hc, ← hv]
    by_cases q : kbit (st j) c ≠ 0
    · rw [if_pos ⟨hc, q⟩, if_pos q, if_pos q]; grind
    · rw [if_neg (fun z => q z.2), if_neg q, if_neg q]; grind
  · rw [kAc, if_neg (fun z => hc z.1), kCp, if_neg hc, kCp, if_neg hc]
theorem kr4 {oc : Nat → Int32} {r : Nat → Nat} {n j v : Nat} {x : Int32} (hj : j < n) (hv : nI (r j) + x = nI v) : kco oc r n + x * oc j = kco oc (va_up r j v) n := by
  have e : kco oc (va_up r j v) n = kco oc r n + (nI (va_up r j v j) * oc j - nI (r j) * oc j) :=
    sw_upd (F := fun f => nI (r f) * oc f) (G := fun f => nI (va_up r j v f) * oc f) hj (fun f _ hne => by show nI (va_up r j v f) * oc f = _; rw [va_up_ne _ _ hne])
  rw [e, va_up_self, ← hv]
  grind
theorem kv_0 (a : Nat) : nI a + -(nI a) = nI 0 := by rw [show nI 0 = 0 from rfl]; grind
def kLc (cv : Nat → Int32) : Nat → Int32
  | 0 => cv 0
  | n + 1 => if cv (n + 1) < kLc cv n then cv (n + 1) else kLc cv n
theorem kLc_s (f : Nat → Int32) {i : Nat} (h : 1 ≤ i) : (if f i < kLc f (i - 1) then f i else kLc f (i - 1)) = kLc f (i + 1 - 1) := by
  obtain ⟨j, rfl⟩ : ∃ j, i = j + 1 := ⟨i - 1, by omega⟩
  rfl
theorem kLc_cong {f g : Nat → Int32} : ∀ {n : Nat}, (∀ c, c ≤ n → f c = g c) → kLc f n = kLc g n
  | 0, h => h 0 (by omega)
  | n + 1, h => by rw [kLc, kLc, kLc_cong (fun c hc => h c (by omega)), h (n + 1) (by omega)]
def kG (st oc : Nat → Int32) (no N : Nat) (r : Nat → Nat) : Int32 := 100 * kLc (kcv st r no) (N - 1) - kco oc r no
theorem kG_c {cv st oc : Nat → Int32} {no N : Nat} {r : Nat → Nat} (h2 : 2 ≤ N) (hN : N ≤ 8) : 100 * kLc (kCp cv (kcv st r no) 8) (N - 1) - kco oc r no = kG st oc no N r := by
  rw [kG, kLc_cong (f := kCp cv (kcv st r no) 8) (g := kcv st r no) (fun c hc => kCp_in (by omega))]
theorem kCp_cp {α : Type} (f g h : Nat → α) (n : Nat) : kCp (kCp f g n) (kCp f h n) n = kCp f h n := by funext c; grind [kCp]
theorem kCp_cp2 {α : Type} (f f2 g h : Nat → α) (n : Nat) : kCp (kCp f g n) (kCp f2 h n) n = kCp f h n := by funext c; grind [kCp]
def kMi (v : Nat → Int32) : Nat → Int32
  | 0 => 0
  | n + 1 => if n = 0 ∨ v n < kMi v n then v n else kMi v n
theorem kMi_1 {v : Nat → Int32} {i : Nat} (hi : i < 2 ^ 31) (h : nI i = 0) : v i = kMi v (i + 1) := by
  have : i = 0 := (nI_eq hi (by omega)).mp h
  rw [kMi, if_pos (Or.inl this)]
theorem kMi_2 {v : Nat → Int32} {i : Nat} (h : ¬ kMi v i ≤ v i) : v i = kMi v (i + 1) := by rw [kMi, if_pos (Or.inr (kq_2 h))]
theorem kMi_3 {v : Nat → Int32} {i : Nat} (hi : i < 2 ^ 31) (h : ¬ nI i = 0) (h2 : kMi v i ≤ v i) : kMi v i = kMi v (i + 1) := by
  rw [kMi, if_neg (fun q => q.elim (fun q => h (by rw [q]; rfl)) (fun q => kq_4 h2 q))]
theorem kMi_cong {f g : Nat → Int32} : ∀ {n : Nat}, (∀ c, c < n → f c = g c) → kMi f n = kMi g n
  | 0, h => rfl
  | n + 1, h => by rw [kMi, kMi, kMi_cong (fun c hc => h c (by omega)), h n (by omega)]
def kSn (nw os oc : Nat → Int32) (no N : Nat) : Int32 := kMi (fun c => sw (fun f => nw f * (100 * kbit (os f) c - oc f)) no) N
def kH (os oc : Nat → Int32) (no N : Nat) (r : Nat → Nat) : Int32 := kSn (fun f => nI (r f)) os oc no N
theorem kH_c {nw os oc : Nat → Int32} {no N : Nat} {r : Nat → Nat} (h6 : no ≤ 6) : kSn (kCp nw (fun f => nI (r f)) 6) os oc no N = kH os oc no N r :=
  kMi_cong (fun c _ => sw_cong (fun f hf => by show kCp nw (fun f => nI (r f)) 6 f * _ = _; rw [kCp_in (by omega)]))
theorem kcp_no {br nw : Nat → Int32} {r rb : Nat → Nat} {no : Nat} (h6 : no ≤ 6) (hz : ∀ f, no ≤ f → r f = 0) (hz2 : ∀ f, no ≤ f → rb f = 0) : kCp (kCp br (fun f => nI (rb f)) 6) (kCp nw (fun f => nI (r f)) 6) no = kCp br (fun f => nI (r f)) 6 := by
  funext c
  by_cases h : c < no
  · rw [kCp_in h, kCp_in (by omega), kCp_in (by omega)]
  · by_cases h2 : c < 6
    · rw [kCp, if_neg h, kCp_in h2, kCp_in h2, hz c (by omega), hz2 c (by omega)]
    · rw [kCp, if_neg h, kCp, if_neg h2, kCp, if_neg h2]
theorem kVl_0 {mm : Nat → Nat} : ∀ n, kVl mm (fun _ => 0) n = 0
  | 0 => rfl
  | n + 1 => by rw [kVl, kVl_0 n, Nat.zero_mul]
theorem kMi_z {v : Nat → Int32} : ∀ {n : Nat}, (∀ c, c < n → v c = 0) → kMi v n = 0
  | 0, _ => rfl
  | n + 1, h => by rw [kMi, kMi_z (n := n) (fun c hc => h c (by omega)), h n (by omega)]; split <;> rfl
theorem kH_0 (os oc : Nat → Int32) (no N : Nat) : kH os oc no N (fun _ => 0) = 0 := kMi_z (fun c _ => sw_z (fun f _ => by
  show (0 : Int32) * _ = 0
  exact Int32.zero_mul))
theorem kFi_0 {mm : Nat → Nat} {os oc : Nat → Int32} {no N : Nat} (hno : no ≤ 6) : (no = 0 ∧ ((fun _ => 0 : Nat → Nat), (0 : Int32), (fun _ => 0 : Nat → Nat)) = kFo mm (kH os oc no N) no 4096 (fun _ => 0) 0 (fun _ => 0)) ∨ (0 < no ∧ kFo mm (kH os oc no N) no (4096 - kVl mm (fun _ => 0) no) (fun _ => 0) (if (0 : Int32) < kH os oc no N (fun _ => 0) then kH os oc no N (fun _ => 0) else 0) (if (0 : Int32) < kH os oc no N (fun _ => 0) then (fun _ => 0) else (fun _ => 0)) = kFo mm (kH os oc no N) no 4096 (fun _ => 0) 0 (fun _ => 0)) := by
  rcases Nat.eq_zero_or_pos no with q | q
  · subst q
    exact Or.inl ⟨rfl, by rw [kFo_f (k1 := 4095) rfl (show kStp mm 0 (fun _ => 0) = _ from rfl)]⟩
  · refine Or.inr ⟨q, ?_⟩
    rw [kVl_0, kH_0, if_neg (by decide), if_neg (by decide)]
theorem kr6s {rw1 : Nat → Int32} {r : Nat → Nat} {j : Nat} (hj : j < 6) : va_up (kCp rw1 (fun f => nI (r f)) 6) j 0 = kCp rw1 (fun f => nI (va_up r j 0 f)) 6 := by
  funext c
  by_cases e : c = j
  · subst e; rw [va_up_self, kCp_in hj, va_up_self]; rfl
  · rw [va_up_ne _ _ e, kCp, kCp, va_up_ne _ _ e]
set_option maxHeartbeats 4000000 in
set_option maxRecDepth 100000 in
theorem c_X0_change (l : Launch) (D : va_G) (tc : Nat → ClassId) (sz : Nat) (ad : Nat → Nat) (ct : Nat → Option va_E) {no fx : Nat} {co bg st oc sh : Int32}    {rw cv : Nat → Int32} {se : Bool} {x1 : Int32} (h4 : ct 4 = some (.inr (0, [.ref (ad 5), .ref (ad 6), .ref (ad 7), .ref (ad 8), .int (nI no), .int co, .int bg, .int (kb (se = true))]))) (h6 : ct 6 = some (eI tc 6 rw)) (h8 : ct 8 = some (eI tc 8 cv)) (h60 : ct (60 + fx) = some (.inr (4, [.int st, .int oc, .int sh]))) (hf : fx < 6) : Met l yX0_change wsX0_change ({ frames := 1, cells := 0, slots := 0, locals := 25 }) (va_Pc [.ref (ad 4), .int (nI fx), .ref (ad (60 + fx)), .int x1] (kw_B D tc sz ad ct)) (kw_Q D ad (kw_A ad ct sz) (none) (kw_up (kw_up (kw_up ct 4 (.inr (0, [.ref (ad 5), .ref (ad 6), .ref (ad 7), .ref (ad 8), .int (nI no), .int (co + x1 * oc), .int bg, .int (kb (se = true))]))) 6 (eI tc 6 (va_up rw fx (rw fx + x1)))) 8 (eI tc 8 (kAc cv st x1 8))) 0) 0 0 (kw_A ad ct sz) := by
  refine Met.ofW (cc := cX0_change) (maxL := 5) (ret := none) (by decide) rfl ?_
  intro pg en s m args below meth cod s₁ B hml hv
  obtain ⟨rfl, hsz, hP0, hK⟩ := hv
  have hx := B.exec
  have hb := B.bytes
  have hr := B.returns
  have hts := atoms_spec (ws := wsX0_change) B.pre
  have hown : s.vm.findClass RX0 = some m.cls := findClass_of_methodNamed B.named
  have hlocks := B.notSynchronized
  subst hsz
  have hw := kw_H.start hP0
  generalize hAe : kw_A ad ct s.heap.size = A at hw ⊢
  have hA : ∀ q, s.heap.size ≤ q → A q := fun q h => by rw [← hAe]; exact Or.inr h
  have hinX0 : ∀ w ∈ wsX00, w ∈ wsX0_change := by decide +kernel
  have hl := lv_entry ([.ref (ad 4), .int (nI fx), .ref (ad (60 + fx)), .int x1]) (n := 5) (Nat.le_of_ble_eq_true rfl)
  rw [lg_entry_eq]
  generalize (lg_sl ([.ref (ad 4), .int (nI fx), .ref (ad (60 + fx)), .int x1]) ++ List.replicate (5 - (lg_sl ([.ref (ad 4), .int (nI fx), .ref (ad (60 + fx)), .int x1])).length) Slot.unset).toArray = ls at hl ⊢
  have hl : lv_has ls 5 [(0, .ref (ad 4)), (1, .int (nI fx)), (2, .ref (ad (60 + fx))), (3, .int x1)] := hl
  have S0 : CallFix pg m cod cX0_change 5 s _ wsX0_change RX0 := ⟨hx, hb, hml, hown, hts⟩
  have hfr : ∀ j, j ≠ 4 → j ≠ 6 → j ≠ 8 → ct j = ct j := fun _ _ _ _ => rfl
  refine lv_aload_n hx hb dX0_change_0 rfl (lv_at hl 0 rfl) ?_
  refine kg_get (v := .ref (ad 6)) (C := RX0) (T := TX0) (N := 8) hx hb hts hinX0 hown hK hw h4 rfl 1 (by decide) (hts (.fieldLink RX0 17 "BetMaker$Board" "row" "[I") (by decide +kernel)) (fun _ h9 => h9) rfl dX0_change_1 ?_
  refine lv_iload_n hx hb dX0_change_4 rfl (lv_at hl 1 rfl) ?_
  refine lv_dup2_11 hx hb dX0_change_5 rfl rfl ?_
  refine kg_iald hx hb hK hw h6 fx rfl (by omega) (by omega) dX0_change_6 ?_
  refine lv_iload_n hx hb dX0_change_7 rfl (lv_at hl 3 rfl) ?_
  refine lv_iadd hx hb dX0_change_8 ?_
  refine kg_iast hx hb hK hw h6 fx rfl (by omega) (by omega) dX0_change_9 (fun H locs hw => ?_)
  obtain ⟨ct_1, ect_1⟩ : ∃ z, z = kw_up ct 6 (eI tc 6 (va_up rw fx ((rw fx) + x1))) := ⟨_, rfl⟩
  rw [← ect_1] at hw
  have h_2 : ct_1 4 = some (.inr (0, [.ref (ad 5), .ref (ad 6), .ref (ad 7), .ref (ad 8), .int (nI no), .int co, .int bg, .int (kb (se = true))])) := by rw [ect_1, kw_up_n (by omega)]; exact h4
  have h_3 : ct_1 8 = some (eI tc 8 cv) := by rw [ect_1, kw_up_n (by omega)]; exact h8
  have h_4 : ct_1 (60 + fx) = some (.inr (4, [.int st, .int oc, .int sh])) := by rw [ect_1, kw_up_n (by omega)]; exact h60
  have h_5 : ct_1 6 = some (eI tc 6 (va_up rw fx ((rw fx) + x1))) := by rw [ect_1]; exact kw_up_s
  have hfr_6 : ∀ j, j ≠ 4 → j ≠ 6 → j ≠ 8 → ct_1 j = ct j := fun j a0 a1 a2 => by rw [ect_1]; exact (kw_up_n a1).trans (hfr j a0 a1 a2)
  refine lv_aload_n hx hb dX0_change_10 rfl (lv_at hl 0 rfl) ?_
  refine lv_dup hx hb dX0_change_11 rfl ?_
  refine kg_get (v := .int co) (C := RX0) (T := TX0) (N := 8) hx hb hts hinX0 hown hK hw h_2 rfl 5 (by decide) (hts (.fieldLink RX0 63 "BetMaker$Board" "cost" "I") (by decide +kernel)) (fun _ h9 => h9) rfl dX0_change_12 ?_
  refine lv_iload_n hx hb dX0_change_15 rfl (lv_at hl 3 rfl) ?_
  refine lv_aload_n hx hb dX0_change_16 rfl (lv_at hl 2 rfl) ?_
  refine kc_v (As := []) (rest := [.int x1, .int co, .ref (ad 4)]) S0 (c_X4_cost l D tc s.heap.size ad ct_1 h_4) (cwV 0 hts gX0_change_X4_cost rfl rfl rfl (by decide +kernel) ⟨Nat.le_of_ble_eq_true rfl, Nat.le_of_ble_eq_true rfl⟩) hK hw h_4 rfl rfl hl.1 rfl (Nat.le_of_ble_eq_true rfl) dX0_change_17 ⟨Nat.le_of_ble_eq_true rfl, (Nat.le_of_ble_eq_true rfl)⟩ ?_
  refine lv_imul hx hb dX0_change_20 ?_
  refine lv_iadd hx hb dX0_change_21 ?_
  refine kg_put (v := .int (co + (x1 * oc))) (ty := .int) (C := RX0) (T := TX0) (N := 8) (fs' := [.ref (ad 5), .ref (ad 6), .ref (ad 7), .ref (ad 8), .int (nI no), .int (co + (x1 * oc)), .int bg, .int (kb (se = true))]) hx hb hts hinX0 tyX0 tyX0_ok nmX0 hown hK hw h_2 rfl 5 (by decide) (hts (.fieldLink RX0 63 "BetMaker$Board" "cost" "I") (by decide +kernel)) (fun _ h9 => h9) rfl (by decide +kernel) rfl rfl (Nat.le_of_ble_eq_true rfl) rfl dX0_change_22 (fun H locs hw => ?_)
  obtain ⟨ct_7, ect_7⟩ : ∃ z, z = kw_up ct_1 4 (.inr (0, [.ref (ad 5), .ref (ad 6), .ref (ad 7), .ref (ad 8), .int (nI no), .int (co + (x1 * oc)), .int bg, .int (kb (se = true))])) := ⟨_, rfl⟩
  rw [← ect_7] at hw
  have h_8 : ct_7 8 = some (eI tc 8 cv) := by rw [ect_7, kw_up_n (by omega)]; exact h_3
  have h_9 : ct_7 (60 + fx) = some (.inr (4, [.int st, .int oc, .int sh])) := by rw [ect_7, kw_up_n (by omega)]; exact h_4
  have h_10 : ct_7 6 = some (eI tc 6 (va_up rw fx ((rw fx) + x1))) := by rw [ect_7, kw_up_n (by omega)]; exact h_5
  have h_11 : ct_7 4 = some (.inr (0, [.ref (ad 5), .ref (ad 6), .ref (ad 7), .ref (ad 8), .int (nI no), .int (co + (x1 * oc)), .int bg, .int (kb (se = true))])) := by rw [ect_7]; exact kw_up_s
  have hfr_12 : ∀ j, j ≠ 4 → j ≠ 6 → j ≠ 8 → ct_7 j = ct j := fun j a0 a1 a2 => by rw [ect_7]; exact (kw_up_n a0).trans (hfr_6 j a0 a1 a2)
  refine lv_iconst (v := 0) hx hb dX0_change_25 (by decide) ?_
  refine lv_istore (lv' := [(4, .int 0), (0, .ref (ad 4)), (1, .int (nI fx)), (2, .ref (ad (60 + fx))), (3, .int x1)]) hx hb dX0_change_26 hl (by decide) rfl (fun ls hl => ?_)
  suffices lp28 : ∀ (nfu : Nat) (i : Nat) (g1 : Nat → Int32) (ctL28 : Nat → Option va_E) (H : Heap) (locs : List Loc) (ls : Array Slot), 8 - i < nfu → i ≤ 8 → g1 = kAc cv st x1 i → ctL28 8 = some (eI tc 8 g1) → ctL28 (60 + fx) = some (.inr (4, [.int st, .int oc, .int sh])) → ctL28 6 = some (eI tc 6 (va_up rw fx ((rw fx) + x1))) → ctL28 4 = some (.inr (0, [.ref (ad 5), .ref (ad 6), .ref (ad 7), .ref (ad 8), .int (nI no), .int (co + (x1 * oc)), .int bg, .int (kb (se = true))])) → (∀ j, j ≠ 4 → j ≠ 6 → j ≠ 8 → ctL28 j = ct j) → kw_H D ad A s.heap ctL28 H locs s.heap.size → lv_has ls 5 [(0, .ref (ad 4)), (1, .int (nI fx)), (2, .ref (ad (60 + fx))), (3, .int x1), (4, .int (nI i))] → W pg l en (headSpec wsX0_change ({ frames := 1, cells := 0, slots := 0, locals := 25 })).room s m (([.ref (ad 4), .int (nI fx), .ref (ad (60 + fx)), .int x1] : List Value).toArray) below meth cod H locs 0 0 (MQ below (kw_Q D ad A (none) (kw_up (kw_up (kw_up ct 4 (.inr (0, [.ref (ad 5), .ref (ad 6), .ref (ad 7), .ref (ad 8), .int (nI no), .int (co + x1 * oc), .int bg, .int (kb (se = true))]))) 6 (eI tc 6 (va_up rw fx (rw fx + x1)))) 8 (eI tc 8 (kAc cv st x1 8))) 0) (([.ref (ad 4), .int (nI fx), .ref (ad (60 + fx)), .int x1] : List Value).toArray) s 0 0 A) (F0 m 28 ls []) by
    exact lp28 (8 - 0 + 1) 0 cv _ _ _ ls (by omega) (by omega) (by exact kAc_0 cv st x1) h_8 h_9 h_10 h_11 hfr_12 hw (by have hl9 := lv_sub hl (l' := [(0, .ref (ad 4)), (1, .int (nI fx)), (2, .ref (ad (60 + fx))), (3, .int x1), (4, .int 0)]) [1, 2, 3, 4, 0] rfl; exact hl9)
  intro n28
  induction n28 with
  | zero => intro i g1 ctL28 H locs ls hfu; exact absurd hfu (Nat.not_lt_zero _)
  | succ n28 ih28 =>
    intro i g1 ctL28 H locs ls hfu28 hi hg h_13 h_14 h_15 h_16 hfr_17 hw hl
    refine lv_iload hx hb dX0_change_28 (lv_at hl 4 rfl) ?_
    refine lv_bipush (v := 8) hx hb dX0_change_30 (by decide) ?_
    refine kn_ge i 8 rfl rfl (by omega) (by omega) (tgt := 64) hx hb dX0_change_32 (by decide) (fun c_18 => ?_) (fun c_18 => ?_)
    · have hq_19 : ctL28 4 = some (.inr (0, [.ref (ad 5), .ref (ad 6), .ref (ad 7), .ref (ad 8), .int (nI no), .int (co + x1 * oc), .int bg, .int (kb (se = true))])) := h_16.trans (congrArg some (show (.inr (0, [.ref (ad 5), .ref (ad 6), .ref (ad 7), .ref (ad 8), .int (nI no), .int (co + (x1 * oc)), .int bg, .int (kb (se = true))]) : va_E) = .inr (0, [.ref (ad 5), .ref (ad 6), .ref (ad 7), .ref (ad 8), .int (nI no), .int (co + x1 * oc), .int bg, .int (kb (se = true))]) from by rfl))
      have hq_20 : ctL28 6 = some (eI tc 6 (va_up rw fx (rw fx + x1))) := h_15.trans (congrArg some (show (eI tc 6 (va_up rw fx ((rw fx) + x1)) : va_E) = eI tc 6 (va_up rw fx (rw fx + x1)) from by rfl))
      have hq_21 : ctL28 8 = some (eI tc 8 (kAc cv st x1 8)) := h_13.trans (congrArg some (show (eI tc 8 g1 : va_E) = eI tc 8 (kAc cv st x1 8) from by rw [hg, show i = 8 by omega]))
      have hend := kw_eq3 hq_19 hq_20 hq_21 hfr_17
      rw [hend] at hw
      exact W.vret hx hb hr (fun t ht _ => ⟨rfl, by rw [ht]; exact hw.1, hw.2.2.1, hw.2.1.F ht, by rw [ht]; exact hw.2.2.2⟩) hw.2.1.2.2 dX0_change_64
    · refine lv_aload_n hx hb dX0_change_35 rfl (lv_at hl 2 rfl) ?_
      refine kc_v (As := []) (rest := []) S0 (c_X4_set l D tc s.heap.size ad ctL28 h_14) (cwV 0 hts gX0_change_X4_set rfl rfl rfl (by decide +kernel) ⟨Nat.le_of_ble_eq_true rfl, Nat.le_of_ble_eq_true rfl⟩) hK hw h_14 rfl rfl hl.1 rfl (Nat.le_of_ble_eq_true rfl) dX0_change_36 ⟨Nat.le_of_ble_eq_true rfl, (Nat.le_of_ble_eq_true rfl)⟩ ?_
      refine lv_iload hx hb dX0_change_39 (lv_at hl 4 rfl) ?_
      refine kc_sn (As := [.int st, .int (nI i)]) (rest := []) S0 (c_X10_isIn l D tc s.heap.size ad ctL28 (c := i) ) ⟨va_cnB 2 hts gX0_change_X10_isIn_n91 rfl rfl rfl hK.2.1 (hts (.initialized RX10) (by decide +kernel)) (by decide +kernel) ⟨Nat.le_of_ble_eq_true rfl, Nat.le_of_ble_eq_true rfl⟩, hts (.static yX10_isIn) (by decide +kernel), trivial⟩ hK hw rfl hl.1 rfl (Nat.le_of_ble_eq_true rfl) dX0_change_41 ⟨Nat.le_of_ble_eq_true rfl, (Nat.le_of_ble_eq_true rfl)⟩ ?_
      refine kb_ifeq (tgt := 58) hx hb dX0_change_44 (by decide) (fun c_22 => ?_) (fun c_22 => ?_)
      · refine lv_iinc (v := (nI (i + 1))) (lv' := [(4, .int (nI (i + 1))), (0, .ref (ad 4)), (1, .int (nI fx)), (2, .ref (ad (60 + fx))), (3, .int x1)]) hx hb dX0_change_58 hl (k := 4) rfl (nI_1 i) (by decide) rfl (fun ls hl => ?_)
        refine lv_goto (tgt := 28) hx hb dX0_change_61 (by decide) ?_
        exact ih28 (i + 1) g1 _ _ _ ls (by omega) (by omega) (by rw [hg]; exact kAc_o c_22) h_13 h_14 h_15 h_16 hfr_17 hw (lv_sub hl [1, 2, 3, 4, 0] rfl)
      · refine lv_aload_n hx hb dX0_change_47 rfl (lv_at hl 0 rfl) ?_
        refine kg_get (v := .ref (ad 8)) (C := RX0) (T := TX0) (N := 8) hx hb hts hinX0 hown hK hw h_16 rfl 3 (by decide) (hts (.fieldLink RX0 24 "BetMaker$Board" "covered" "[I") (by decide +kernel)) (fun _ h9 => h9) rfl dX0_change_48 ?_
        refine lv_iload hx hb dX0_change_51 (lv_at hl 4 rfl) ?_
        refine lv_dup2_11 hx hb dX0_change_53 rfl rfl ?_
        refine kg_iald hx hb hK hw h_13 i rfl (by omega) (by omega) dX0_change_54 ?_
        refine lv_iload_n hx hb dX0_change_55 rfl (lv_at hl 3 rfl) ?_
        refine lv_iadd hx hb dX0_change_56 ?_
        refine kg_iast hx hb hK hw h_13 i rfl (by omega) (by omega) dX0_change_57 (fun H locs hw => ?_)
        obtain ⟨ct_23, ect_23⟩ : ∃ z, z = kw_up ctL28 8 (eI tc 8 (va_up g1 i ((g1 i) + x1))) := ⟨_, rfl⟩
        rw [← ect_23] at hw
        have h_24 : ct_23 (60 + fx) = some (.inr (4, [.int st, .int oc, .int sh])) := by rw [ect_23, kw_up_n (by omega)]; exact h_14
        have h_25 : ct_23 6 = some (eI tc 6 (va_up rw fx ((rw fx) + x1))) := by rw [ect_23, kw_up_n (by omega)]; exact h_15
        have h_26 : ct_23 4 = some (.inr (0, [.ref (ad 5), .ref (ad 6), .ref (ad 7), .ref (ad 8), .int (nI no), .int (co + (x1 * oc)), .int bg, .int (kb (se = true))])) := by rw [ect_23, kw_up_n (by omega)]; exact h_16
        have h_27 : ct_23 8 = some (eI tc 8 (va_up g1 i ((g1 i) + x1))) := by rw [ect_23]; exact kw_up_s
        have hfr_28 : ∀ j, j ≠ 4 → j ≠ 6 → j ≠ 8 → ct_23 j = ct j := fun j a0 a1 a2 => by rw [ect_23]; exact (kw_up_n a2).trans (hfr_17 j a0 a1 a2)
        refine lv_iinc (v := (nI (i + 1))) (lv' := [(4, .int (nI (i + 1))), (0, .ref (ad 4)), (1, .int (nI fx)), (2, .ref (ad (60 + fx))), (3, .int x1)]) hx hb dX0_change_58 hl (k := 4) rfl (nI_1 i) (by decide) rfl (fun ls hl => ?_)
        refine lv_goto (tgt := 28) hx hb dX0_change_61 (by decide) ?_
        exact ih28 (i + 1) (va_up g1 i ((g1 i) + x1)) _ _ _ ls (by omega) (by omega) (by rw [hg]; exact kAc_i c_22) h_27 h_24 h_25 h_26 hfr_28 hw (lv_sub hl [1, 2, 3, 4, 0] rfl)
set_option maxHeartbeats 4000000 in
set_option maxRecDepth 100000 in
theorem c_X0_leastCovered (l : Launch) (D : va_G) (tc : Nat → ClassId) (sz : Nat) (ad : Nat → Nat) (ct : Nat → Option va_E) {N no : Nat} {co bg : Int32}    {cv : Nat → Int32} {se : Bool}  (h4 : ct 4 = some (.inr (0, [.ref (ad 5), .ref (ad 6), .ref (ad 7), .ref (ad 8), .int (nI no), .int co, .int bg, .int (kb (se = true))]))) (h8 : ct 8 = some (eI tc 8 cv)) (hN : N ≤ 8) (hN2 : 2 ≤ N) : Met l yX0_leastCovered wsX0_leastCovered ({ frames := 1, cells := 0, slots := 0, locals := 25 }) (va_Pc [.ref (ad 4), .int (nI N)] (kw_B D tc sz ad ct)) (k2_QcV (.int (kLc cv (N - 1)))) 0 0 (fun _ => False) := by
  refine Met.ofW (cc := cX0_leastCovered) (maxL := 4) (ret := (some .int)) (by decide) rfl ?_
  intro pg en s m args below meth cod s₁ B hml hv
  obtain ⟨rfl, hsz, hP0, hK⟩ := hv
  have hx := B.exec
  have hb := B.bytes
  have hr := B.returns
  have hts := atoms_spec (ws := wsX0_leastCovered) B.pre
  have hown : s.vm.findClass RX0 = some m.cls := findClass_of_methodNamed B.named
  have hlocks := B.notSynchronized
  subst hsz
  have hw := kw_H.start hP0
  generalize kw_A ad ct s.heap.size = A at hw
  have hinX0 : ∀ w ∈ wsX00, w ∈ wsX0_leastCovered := by decide +kernel
  have hl := lv_entry ([.ref (ad 4), .int (nI N)]) (n := 4) (Nat.le_of_ble_eq_true rfl)
  rw [lg_entry_eq]
  generalize (lg_sl ([.ref (ad 4), .int (nI N)]) ++ List.replicate (4 - (lg_sl ([.ref (ad 4), .int (nI N)])).length) Slot.unset).toArray = ls at hl ⊢
  have hl : lv_has ls 4 [(0, .ref (ad 4)), (1, .int (nI N))] := hl
  have S0 : CallFix pg m cod cX0_leastCovered 4 s _ wsX0_leastCovered RX0 := ⟨hx, hb, hml, hown, hts⟩
  refine lv_aload_n hx hb dX0_leastCovered_0 rfl (lv_at hl 0 rfl) ?_
  refine kg_get (v := .ref (ad 8)) (C := RX0) (T := TX0) (N := 8) hx hb hts hinX0 hown hK hw h4 rfl 3 (by decide) (hts (.fieldLink RX0 24 "BetMaker$Board" "covered" "[I") (by decide +kernel)) (fun _ h9 => h9) rfl dX0_leastCovered_1 ?_
  refine lv_iconst (v := 0) hx hb dX0_leastCovered_4 (by decide) ?_
  refine kg_iald hx hb hK hw h8 0 rfl (by omega) (by omega) dX0_leastCovered_5 ?_
  refine lv_istore_n (lv' := [(2, .int (cv 0)), (0, .ref (ad 4)), (1, .int (nI N))]) hx hb dX0_leastCovered_6 rfl hl (by decide) rfl (fun ls hl => ?_)
  refine lv_iconst (v := 1) hx hb dX0_leastCovered_7 (by decide) ?_
  refine lv_istore_n (lv' := [(3, .int 1), (2, .int (cv 0)), (0, .ref (ad 4)), (1, .int (nI N))]) hx hb dX0_leastCovered_8 rfl hl (by decide) rfl (fun ls hl => ?_)
  suffices lp9 : ∀ (nfu : Nat) (i : Nat) (acc : Int32) (ls : Array Slot), N - i < nfu → 1 ≤ i → i ≤ N → acc = kLc cv (i - 1) → lv_has ls 4 [(0, .ref (ad 4)), (1, .int (nI N)), (2, .int acc), (3, .int (nI i))] → W pg l en (headSpec wsX0_leastCovered ({ frames := 1, cells := 0, slots := 0, locals := 25 })).room s m (([.ref (ad 4), .int (nI N)] : List Value).toArray) below meth cod s.heap [] 0 0 (MQ below (k2_QcV (.int (kLc cv (N - 1)))) (([.ref (ad 4), .int (nI N)] : List Value).toArray) s 0 0 (fun _ => False)) (F0 m 9 ls []) by
    exact lp9 (N - 1 + 1) 1 (cv 0) ls (by omega) (by omega) (by omega) (by rfl) (by have hl9 := lv_sub hl (l' := [(0, .ref (ad 4)), (1, .int (nI N)), (2, .int (cv 0)), (3, .int 1)]) [2, 3, 1, 0] rfl; exact hl9)
  intro n9
  induction n9 with
  | zero => intro i acc ls hfu; exact absurd hfu (Nat.not_lt_zero _)
  | succ n9 ih9 =>
    intro i acc ls hfu9 hi1 hi ha hl
    refine lv_iload_n hx hb dX0_leastCovered_9 rfl (lv_at hl 3 rfl) ?_
    refine lv_iload_n hx hb dX0_leastCovered_10 rfl (lv_at hl 1 rfl) ?_
    refine kn_ge i N rfl rfl (by omega) (by omega) (tgt := 37) hx hb dX0_leastCovered_11 (by decide) (fun c_1 => ?_) (fun c_1 => ?_)
    · refine lv_iload_n hx hb dX0_leastCovered_37 rfl (lv_at hl 2 rfl) ?_
      refine W.eq (congrArg (fun z => F0 m 38 ls [.int z]) (show acc = (kLc cv (N - 1)) from by rw [ha, show i = N by omega])) ?_
      exact W.iret hx hb hr (fun t ht _ => ⟨rfl, ht⟩) (fun _ h => absurd h List.not_mem_nil) dX0_leastCovered_38
    · refine lv_iload_n hx hb dX0_leastCovered_14 rfl (lv_at hl 3 rfl) ?_
      refine lv_bipush (v := 8) hx hb dX0_leastCovered_15 (by decide) ?_
      refine kn_ge i 8 rfl rfl (by omega) (by omega) (tgt := 37) hx hb dX0_leastCovered_17 (by decide) (fun c_2 => ?_) (fun c_2 => ?_)
      · exfalso; omega
      · refine lv_iload_n hx hb dX0_leastCovered_20 rfl (lv_at hl 2 rfl) ?_
        refine lv_aload_n hx hb dX0_leastCovered_21 rfl (lv_at hl 0 rfl) ?_
        refine kg_get (v := .ref (ad 8)) (C := RX0) (T := TX0) (N := 8) hx hb hts hinX0 hown hK hw h4 rfl 3 (by decide) (hts (.fieldLink RX0 24 "BetMaker$Board" "covered" "[I") (by decide +kernel)) (fun _ h9 => h9) rfl dX0_leastCovered_22 ?_
        refine lv_iload_n hx hb dX0_leastCovered_25 rfl (lv_at hl 3 rfl) ?_
        refine kg_iald hx hb hK hw h8 i rfl (by omega) (by omega) dX0_leastCovered_26 ?_
        refine va_mmin hx hb (by rw [hml]; exact hl.1.symm) hown (hts (.methodLink RX0 95 Lib.Math.min.name) (by decide +kernel)) (hts (.static Lib.Math.min.name) (by decide +kernel)) (hts (.initialized "java/lang/Math") (by decide +kernel)) (hts (.code Lib.Math.min.name Lib.Math.min.code 2 (some .int)) (by decide +kernel)) (Nat.le_of_ble_eq_true rfl) (Nat.le_of_ble_eq_true rfl) (Nat.le_of_ble_eq_true rfl) (Nat.le_of_ble_eq_true rfl) dX0_leastCovered_27 ?_
        refine lv_istore_n (lv' := [(2, .int (if (cv i) < acc then (cv i) else acc)), (0, .ref (ad 4)), (1, .int (nI N)), (3, .int (nI i))]) hx hb dX0_leastCovered_30 rfl hl (by decide) rfl (fun ls hl => ?_)
        refine lv_iinc (v := (nI (i + 1))) (lv' := [(3, .int (nI (i + 1))), (2, .int (if (cv i) < acc then (cv i) else acc)), (0, .ref (ad 4)), (1, .int (nI N))]) hx hb dX0_leastCovered_31 hl (k := 3) rfl (nI_1 i) (by decide) rfl (fun ls hl => ?_)
        refine lv_goto (tgt := 9) hx hb dX0_leastCovered_34 (by decide) ?_
        exact ih9 (i + 1) (if (cv i) < acc then (cv i) else acc) ls (by omega) (by omega) (by omega) (by rw [ha]; exact kLc_s cv hi1) (lv_sub hl [2, 3, 1, 0] rfl)
set_option maxHeartbeats 4000000 in
set_option maxRecDepth 100000 in
theorem c_X0_clearRows (l : Launch) (D : va_G) (tc : Nat → ClassId) (sz : Nat) (ad : Nat → Nat) (ct : Nat → Option va_E) {no : Nat} {co bg : Int32}    {rw br cv : Nat → Int32} {se : Bool}  (h4 : ct 4 = some (.inr (0, [.ref (ad 5), .ref (ad 6), .ref (ad 7), .ref (ad 8), .int (nI no), .int co, .int bg, .int (kb (se = true))]))) (h6 : ct 6 = some (eI tc 6 rw)) (h7 : ct 7 = some (eI tc 6 br)) (h8 : ct 8 = some (eI tc 8 cv)) : Met l yX0_clearRows wsX0_clearRows ({ frames := 1, cells := 0, slots := 0, locals := 27 }) (va_Pc [.ref (ad 4)] (kw_B D tc sz ad ct)) (kw_Q D ad (kw_A ad ct sz) (none) (kw_up (kw_up (kw_up (kw_up ct 4 (.inr (0, [.ref (ad 5), .ref (ad 6), .ref (ad 7), .ref (ad 8), .int (nI no), .int 0, .int 0, .int (kb (se = true))]))) 6 (eI tc 6 (kFl rw 0 6))) 7 (eI tc 6 (kFl br 0 6))) 8 (eI tc 8 (kFl cv 0 8))) 0) 0 0 (kw_A ad ct sz) := by
  refine Met.ofW (cc := cX0_clearRows) (maxL := 1) (ret := none) (by decide) rfl ?_
  intro pg en s m args below meth cod s₁ B hml hv
  obtain ⟨rfl, hsz, hP0, hK⟩ := hv
  have hx := B.exec
  have hb := B.bytes
  have hr := B.returns
  have hts := atoms_spec (ws := wsX0_clearRows) B.pre
  have hown : s.vm.findClass RX0 = some m.cls := findClass_of_methodNamed B.named
  have hlocks := B.notSynchronized
  subst hsz
  have hw := kw_H.start hP0
  generalize hAe : kw_A ad ct s.heap.size = A at hw ⊢
  have hA : ∀ q, s.heap.size ≤ q → A q := fun q h => by rw [← hAe]; exact Or.inr h
  have hinX0 : ∀ w ∈ wsX00, w ∈ wsX0_clearRows := by decide +kernel
  have hl := lv_entry ([.ref (ad 4)]) (n := 1) (Nat.le_of_ble_eq_true rfl)
  rw [lg_entry_eq]
  generalize (lg_sl ([.ref (ad 4)]) ++ List.replicate (1 - (lg_sl ([.ref (ad 4)])).length) Slot.unset).toArray = ls at hl ⊢
  have hl : lv_has ls 1 [(0, .ref (ad 4))] := hl
  have S0 : CallFix pg m cod cX0_clearRows 1 s _ wsX0_clearRows RX0 := ⟨hx, hb, hml, hown, hts⟩
  have hfr : ∀ j, j ≠ 4 → j ≠ 6 → j ≠ 7 → j ≠ 8 → ct j = ct j := fun _ _ _ _ _ => rfl
  refine lv_aload_n hx hb dX0_clearRows_0 rfl (lv_at hl 0 rfl) ?_
  refine kg_get (v := .ref (ad 6)) (C := RX0) (T := TX0) (N := 8) hx hb hts hinX0 hown hK hw h4 rfl 1 (by decide) (hts (.fieldLink RX0 17 "BetMaker$Board" "row" "[I") (by decide +kernel)) (fun _ h9 => h9) rfl dX0_clearRows_1 ?_
  refine lv_iconst (v := 0) hx hb dX0_clearRows_4 (by decide) ?_
  refine kc_su (As := [.ref (ad 6), .int 0]) (rest := []) S0 (c_J7_fill_53178 l D tc s.heap.size ad ct h6 (by omega)) (va_cwS 2 hts gX0_clearRows_J7_fill_53178 rfl rfl rfl (by decide +kernel) ⟨Nat.le_of_ble_eq_true rfl, Nat.le_of_ble_eq_true rfl⟩) hK hw hA rfl hl.1 rfl (Nat.le_of_ble_eq_true rfl) dX0_clearRows_5 ⟨Nat.le_of_ble_eq_true rfl, (Nat.le_of_ble_eq_true rfl)⟩ (fun H locs hw => ?_)
  obtain ⟨ct_1, ect_1⟩ : ∃ z, z = kw_up ct 6 (eI tc 6 (kFl rw 0 6)) := ⟨_, rfl⟩
  rw [← ect_1] at hw
  have h_2 : ct_1 4 = some (.inr (0, [.ref (ad 5), .ref (ad 6), .ref (ad 7), .ref (ad 8), .int (nI no), .int co, .int bg, .int (kb (se = true))])) := by rw [ect_1, kw_up_n (by omega)]; exact h4
  have h_3 : ct_1 7 = some (eI tc 6 br) := by rw [ect_1, kw_up_n (by omega)]; exact h7
  have h_4 : ct_1 8 = some (eI tc 8 cv) := by rw [ect_1, kw_up_n (by omega)]; exact h8
  have h_5 : ct_1 6 = some (eI tc 6 (kFl rw 0 6)) := by rw [ect_1]; exact kw_up_s
  have hfr_6 : ∀ j, j ≠ 4 → j ≠ 6 → j ≠ 7 → j ≠ 8 → ct_1 j = ct j := fun j a0 a1 a2 a3 => by rw [ect_1]; exact (kw_up_n a1).trans (hfr j a0 a1 a2 a3)
  refine lv_aload_n hx hb dX0_clearRows_8 rfl (lv_at hl 0 rfl) ?_
  refine kg_get (v := .ref (ad 7)) (C := RX0) (T := TX0) (N := 8) hx hb hts hinX0 hown hK hw h_2 rfl 2 (by decide) (hts (.fieldLink RX0 21 "BetMaker$Board" "bestRow" "[I") (by decide +kernel)) (fun _ h9 => h9) rfl dX0_clearRows_9 ?_
  refine lv_iconst (v := 0) hx hb dX0_clearRows_12 (by decide) ?_
  refine kc_su (As := [.ref (ad 7), .int 0]) (rest := []) S0 (c_J7_fill_53178 l D tc s.heap.size ad ct_1 h_3 (by omega)) (va_cwS 2 hts gX0_clearRows_J7_fill_53178 rfl rfl rfl (by decide +kernel) ⟨Nat.le_of_ble_eq_true rfl, Nat.le_of_ble_eq_true rfl⟩) hK hw hA rfl hl.1 rfl (Nat.le_of_ble_eq_true rfl) dX0_clearRows_13 ⟨Nat.le_of_ble_eq_true rfl, (Nat.le_of_ble_eq_true rfl)⟩ (fun H locs hw => ?_)
  obtain ⟨ct_7, ect_7⟩ : ∃ z, z = kw_up ct_1 7 (eI tc 6 (kFl br 0 6)) := ⟨_, rfl⟩
  rw [← ect_7] at hw
  have h_8 : ct_7 4 = some (.inr (0, [.ref (ad 5), .ref (ad 6), .ref (ad 7), .ref (ad 8), .int (nI no), .int co, .int bg, .int (kb (se = true))])) := by rw [ect_7, kw_up_n (by omega)]; exact h_2
  have h_9 : ct_7 8 = some (eI tc 8 cv) := by rw [ect_7, kw_up_n (by omega)]; exact h_4
  have h_10 : ct_7 6 = some (eI tc 6 (kFl rw 0 6)) := by rw [ect_7, kw_up_n (by omega)]; exact h_5
  have h_11 : ct_7 7 = some (eI tc 6 (kFl br 0 6)) := by rw [ect_7]; exact kw_up_s
  have hfr_12 : ∀ j, j ≠ 4 → j ≠ 6 → j ≠ 7 → j ≠ 8 → ct_7 j = ct j := fun j a0 a1 a2 a3 => by rw [ect_7]; exact (kw_up_n a2).trans (hfr_6 j a0 a1 a2 a3)
  refine lv_aload_n hx hb dX0_clearRows_16 rfl (lv_at hl 0 rfl) ?_
  refine kg_get (v := .ref (ad 8)) (C := RX0) (T := TX0) (N := 8) hx hb hts hinX0 hown hK hw h_8 rfl 3 (by decide) (hts (.fieldLink RX0 24 "BetMaker$Board" "covered" "[I") (by decide +kernel)) (fun _ h9 => h9) rfl dX0_clearRows_17 ?_
  refine lv_iconst (v := 0) hx hb dX0_clearRows_20 (by decide) ?_
  refine kc_su (As := [.ref (ad 8), .int 0]) (rest := []) S0 (c_J7_fill_53178 l D tc s.heap.size ad ct_7 h_9 (by omega)) (va_cwS 2 hts gX0_clearRows_J7_fill_53178 rfl rfl rfl (by decide +kernel) ⟨Nat.le_of_ble_eq_true rfl, Nat.le_of_ble_eq_true rfl⟩) hK hw hA rfl hl.1 rfl (Nat.le_of_ble_eq_true rfl) dX0_clearRows_21 ⟨Nat.le_of_ble_eq_true rfl, (Nat.le_of_ble_eq_true rfl)⟩ (fun H locs hw => ?_)
  obtain ⟨ct_13, ect_13⟩ : ∃ z, z = kw_up ct_7 8 (eI tc 8 (kFl cv 0 8)) := ⟨_, rfl⟩
  rw [← ect_13] at hw
  have h_14 : ct_13 4 = some (.inr (0, [.ref (ad 5), .ref (ad 6), .ref (ad 7), .ref (ad 8), .int (nI no), .int co, .int bg, .int (kb (se = true))])) := by rw [ect_13, kw_up_n (by omega)]; exact h_8
  have h_15 : ct_13 6 = some (eI tc 6 (kFl rw 0 6)) := by rw [ect_13, kw_up_n (by omega)]; exact h_10
  have h_16 : ct_13 7 = some (eI tc 6 (kFl br 0 6)) := by rw [ect_13, kw_up_n (by omega)]; exact h_11
  have h_17 : ct_13 8 = some (eI tc 8 (kFl cv 0 8)) := by rw [ect_13]; exact kw_up_s
  have hfr_18 : ∀ j, j ≠ 4 → j ≠ 6 → j ≠ 7 → j ≠ 8 → ct_13 j = ct j := fun j a0 a1 a2 a3 => by rw [ect_13]; exact (kw_up_n a3).trans (hfr_12 j a0 a1 a2 a3)
  refine lv_aload_n hx hb dX0_clearRows_24 rfl (lv_at hl 0 rfl) ?_
  refine lv_iconst (v := 0) hx hb dX0_clearRows_25 (by decide) ?_
  refine kg_put (v := .int 0) (ty := .int) (C := RX0) (T := TX0) (N := 8) (fs' := [.ref (ad 5), .ref (ad 6), .ref (ad 7), .ref (ad 8), .int (nI no), .int 0, .int bg, .int (kb (se = true))]) hx hb hts hinX0 tyX0 tyX0_ok nmX0 hown hK hw h_14 rfl 5 (by decide) (hts (.fieldLink RX0 63 "BetMaker$Board" "cost" "I") (by decide +kernel)) (fun _ h9 => h9) rfl (by decide +kernel) rfl rfl (Nat.le_of_ble_eq_true rfl) rfl dX0_clearRows_26 (fun H locs hw => ?_)
  obtain ⟨ct_19, ect_19⟩ : ∃ z, z = kw_up ct_13 4 (.inr (0, [.ref (ad 5), .ref (ad 6), .ref (ad 7), .ref (ad 8), .int (nI no), .int 0, .int bg, .int (kb (se = true))])) := ⟨_, rfl⟩
  rw [← ect_19] at hw
  have h_20 : ct_19 6 = some (eI tc 6 (kFl rw 0 6)) := by rw [ect_19, kw_up_n (by omega)]; exact h_15
  have h_21 : ct_19 7 = some (eI tc 6 (kFl br 0 6)) := by rw [ect_19, kw_up_n (by omega)]; exact h_16
  have h_22 : ct_19 8 = some (eI tc 8 (kFl cv 0 8)) := by rw [ect_19, kw_up_n (by omega)]; exact h_17
  have h_23 : ct_19 4 = some (.inr (0, [.ref (ad 5), .ref (ad 6), .ref (ad 7), .ref (ad 8), .int (nI no), .int 0, .int bg, .int (kb (se = true))])) := by rw [ect_19]; exact kw_up_s
  have hfr_24 : ∀ j, j ≠ 4 → j ≠ 6 → j ≠ 7 → j ≠ 8 → ct_19 j = ct j := fun j a0 a1 a2 a3 => by rw [ect_19]; exact (kw_up_n a0).trans (hfr_18 j a0 a1 a2 a3)
  refine lv_aload_n hx hb dX0_clearRows_29 rfl (lv_at hl 0 rfl) ?_
  refine lv_iconst (v := 0) hx hb dX0_clearRows_30 (by decide) ?_
  refine kg_put (v := .int 0) (ty := .int) (C := RX0) (T := TX0) (N := 8) (fs' := [.ref (ad 5), .ref (ad 6), .ref (ad 7), .ref (ad 8), .int (nI no), .int 0, .int 0, .int (kb (se = true))]) hx hb hts hinX0 tyX0 tyX0_ok nmX0 hown hK hw h_23 rfl 6 (by decide) (hts (.fieldLink RX0 50 "BetMaker$Board" "bestGain" "I") (by decide +kernel)) (fun _ h9 => h9) rfl (by decide +kernel) rfl rfl (Nat.le_of_ble_eq_true rfl) rfl dX0_clearRows_31 (fun H locs hw => ?_)
  obtain ⟨ct_25, ect_25⟩ : ∃ z, z = kw_up ct_19 4 (.inr (0, [.ref (ad 5), .ref (ad 6), .ref (ad 7), .ref (ad 8), .int (nI no), .int 0, .int 0, .int (kb (se = true))])) := ⟨_, rfl⟩
  rw [← ect_25] at hw
  have h_26 : ct_25 6 = some (eI tc 6 (kFl rw 0 6)) := by rw [ect_25, kw_up_n (by omega)]; exact h_20
  have h_27 : ct_25 7 = some (eI tc 6 (kFl br 0 6)) := by rw [ect_25, kw_up_n (by omega)]; exact h_21
  have h_28 : ct_25 8 = some (eI tc 8 (kFl cv 0 8)) := by rw [ect_25, kw_up_n (by omega)]; exact h_22
  have h_29 : ct_25 4 = some (.inr (0, [.ref (ad 5), .ref (ad 6), .ref (ad 7), .ref (ad 8), .int (nI no), .int 0, .int 0, .int (kb (se = true))])) := by rw [ect_25]; exact kw_up_s
  have hfr_30 : ∀ j, j ≠ 4 → j ≠ 6 → j ≠ 7 → j ≠ 8 → ct_25 j = ct j := fun j a0 a1 a2 a3 => by rw [ect_25]; exact (kw_up_n a0).trans (hfr_24 j a0 a1 a2 a3)
  have hq_31 := h_29
  have hq_32 := h_26
  have hq_33 := h_27
  have hq_34 := h_28
  have hend := kw_eq4 hq_31 hq_32 hq_33 hq_34 hfr_30
  rw [hend] at hw
  exact W.vret hx hb hr (fun t ht _ => ⟨rfl, by rw [ht]; exact hw.1, hw.2.2.1, hw.2.1.F ht, by rw [ht]; exact hw.2.2.2⟩) hw.2.1.2.2 dX0_clearRows_34
set_option maxHeartbeats 4000000 in
set_option maxRecDepth 100000 in
theorem c_X0_nextRow (l : Launch) (D : va_G) (tc : Nat → ClassId) (sz : Nat) (ad : Nat → Nat) (ct : Nat → Option va_E) {no : Nat} {bg : Int32}   {qo : Nat → Option Nat} {rw cv : Nat → Int32} {se : Bool} {st oc : Nat → Int32} {mm r : Nat → Nat} (h4 : ct 4 = some (.inr (0, [.ref (ad 5), .ref (ad 6), .ref (ad 7), .ref (ad 8), .int (nI no), .int (kco oc r no), .int bg, .int (kb (se = true))]))) (h6 : ct 6 = some (eI tc 6 (kCp rw (fun f => nI (r f)) 6))) (h8 : ct 8 = some (eI tc 8 (kCp cv (kcv st r no) 8))) (h5 : ct 5 = some (eQ tc 3 6 qo)) (hno : no ≤ 6) (hfam : ∀ yy, yy < no → qo yy = some (ad (60 + yy)) ∧ ct (60 + yy) = some (.inr (4, [.int (st yy), .int (oc yy), .int (nI (mm yy))]))) (hm3 : ∀ y9, y9 < no → mm y9 ≤ 3) (hb0 : ∀ y9, y9 < no → r y9 ≤ mm y9) : Met l yX0_nextRow wsX0_nextRow ({ frames := 2, cells := 0, slots := 0, locals := 53 }) (va_Pc [.ref (ad 4)] (kw_B D tc sz ad ct)) (kw_Q D ad (kw_A ad ct sz) (some (.int (kb ((kStp mm no r).2 = true)))) (kw_up (kw_up (kw_up ct 4 (.inr (0, [.ref (ad 5), .ref (ad 6), .ref (ad 7), .ref (ad 8), .int (nI no), .int (kco oc (kStp mm no r).1 no), .int bg, .int (kb (se = true))]))) 6 (eI tc 6 (kCp rw (fun f => nI ((kStp mm no r).1 f)) 6))) 8 (eI tc 8 (kCp cv (kcv st (kStp mm no r).1 no) 8))) 0) 0 0 (kw_A ad ct sz) := by
  refine Met.ofW (cc := cX0_nextRow) (maxL := 3) (ret := (some .boolean)) (by decide) rfl ?_
  intro pg en s m args below meth cod s₁ B hml hv
  obtain ⟨rfl, hsz, hP0, hK⟩ := hv
  have hx := B.exec
  have hb := B.bytes
  have hr := B.returns
  have hts := atoms_spec (ws := wsX0_nextRow) B.pre
  have hown : s.vm.findClass RX0 = some m.cls := findClass_of_methodNamed B.named
  have hlocks := B.notSynchronized
  subst hsz
  have hw := kw_H.start hP0
  generalize hAe : kw_A ad ct s.heap.size = A at hw ⊢
  have hA : ∀ q, s.heap.size ≤ q → A q := fun q h => by rw [← hAe]; exact Or.inr h
  have hinX0 : ∀ w ∈ wsX00, w ∈ wsX0_nextRow := by decide +kernel
  have hl := lv_entry ([.ref (ad 4)]) (n := 3) (Nat.le_of_ble_eq_true rfl)
  rw [lg_entry_eq]
  generalize (lg_sl ([.ref (ad 4)]) ++ List.replicate (3 - (lg_sl ([.ref (ad 4)])).length) Slot.unset).toArray = ls at hl ⊢
  have hl : lv_has ls 3 [(0, .ref (ad 4))] := hl
  have S0 : CallFix pg m cod cX0_nextRow 3 s _ wsX0_nextRow RX0 := ⟨hx, hb, hml, hown, hts⟩
  have hfr : ∀ j, j ≠ 4 → j ≠ 6 → j ≠ 8 → ct j = ct j := fun _ _ _ _ => rfl
  refine lv_aload_n hx hb dX0_nextRow_0 rfl (lv_at hl 0 rfl) ?_
  refine kg_get (v := .int (nI no)) (C := RX0) (T := TX0) (N := 8) hx hb hts hinX0 hown hK hw h4 rfl 4 (by decide) (hts (.fieldLink RX0 27 "BetMaker$Board" "size" "I") (by decide +kernel)) (fun _ h9 => h9) rfl dX0_nextRow_1 ?_
  refine lv_iconst (v := 1) hx hb dX0_nextRow_4 (by decide) ?_
  refine lv_isub hx hb dX0_nextRow_5 ?_
  refine lv_istore_n (lv' := [(1, .int ((nI no) - 1)), (0, .ref (ad 4))]) hx hb dX0_nextRow_6 rfl hl (by decide) rfl (fun ls hl => ?_)
  suffices lp7 : ∀ (nfu : Nat) (i : Nat) (r1 : Nat → Nat) (ctL7 : Nat → Option va_E) (H : Heap) (locs : List Loc) (ls : Array Slot), i < nfu → i ≤ no → (∀ f, f < no → r1 f ≤ mm f) → kStp mm i r1 = kStp mm no r → ctL7 4 = some (.inr (0, [.ref (ad 5), .ref (ad 6), .ref (ad 7), .ref (ad 8), .int (nI no), .int (kco oc r1 no), .int bg, .int (kb (se = true))])) → ctL7 6 = some (eI tc 6 (kCp rw (fun f => nI (r1 f)) 6)) → ctL7 8 = some (eI tc 8 (kCp cv (kcv st r1 no) 8)) → ctL7 5 = some (eQ tc 3 6 qo) → (∀ j, j ≠ 4 → j ≠ 6 → j ≠ 8 → ctL7 j = ct j) → kw_H D ad A s.heap ctL7 H locs s.heap.size → lv_has ls 3 [(0, .ref (ad 4)), (1, .int (nI i - 1))] → W pg l en (headSpec wsX0_nextRow ({ frames := 2, cells := 0, slots := 0, locals := 53 })).room s m (([.ref (ad 4)] : List Value).toArray) below meth cod H locs 0 0 (MQ below (kw_Q D ad A (some (.int (kb ((kStp mm no r).2 = true)))) (kw_up (kw_up (kw_up ct 4 (.inr (0, [.ref (ad 5), .ref (ad 6), .ref (ad 7), .ref (ad 8), .int (nI no), .int (kco oc (kStp mm no r).1 no), .int bg, .int (kb (se = true))]))) 6 (eI tc 6 (kCp rw (fun f => nI ((kStp mm no r).1 f)) 6))) 8 (eI tc 8 (kCp cv (kcv st (kStp mm no r).1 no) 8))) 0) (([.ref (ad 4)] : List Value).toArray) s 0 0 A) (F0 m 7 ls []) by
    exact lp7 (no + 1) no r _ _ _ ls (by omega) (by omega) (by exact hb0) (by rfl) h4 h6 h8 h5 hfr hw (by have hl9 := lv_sub hl (l' := [(0, .ref (ad 4)), (1, .int ((nI no) - 1))]) [1, 0] rfl; exact hl9)
  intro n7
  induction n7 with
  | zero => intro i r1 ctL7 H locs ls hfu; exact absurd hfu (Nat.not_lt_zero _)
  | succ n7 ih7 =>
    intro i r1 ctL7 H locs ls hfu7 hi hbd hS h_1 h_2 h_3 h_4 hfr_5 hw hl
    refine lv_iload_n hx hb dX0_nextRow_7 rfl (lv_at hl 1 rfl) ?_
    refine lv_if_lt (tgt := 66) hx hb dX0_nextRow_8 (by decide) (fun c_6 => ?_) (fun c_6 => ?_)
    · refine lv_iconst (v := 0) hx hb dX0_nextRow_66 (by decide) ?_
      refine W.eq (congrArg (fun z => F0 m 67 ls [.int z]) (show 0 = (kb ((kStp mm no r).2 = true)) from by exact (kb_f (by rw [← hS, show i = 0 from kx_neg c_6 (by omega)]; exact Bool.false_ne_true)).symm)) ?_
      have hq_7 : ctL7 4 = some (.inr (0, [.ref (ad 5), .ref (ad 6), .ref (ad 7), .ref (ad 8), .int (nI no), .int (kco oc (kStp mm no r).1 no), .int bg, .int (kb (se = true))])) := h_1.trans (congrArg some (show (.inr (0, [.ref (ad 5), .ref (ad 6), .ref (ad 7), .ref (ad 8), .int (nI no), .int (kco oc r1 no), .int bg, .int (kb (se = true))]) : va_E) = .inr (0, [.ref (ad 5), .ref (ad 6), .ref (ad 7), .ref (ad 8), .int (nI no), .int (kco oc (kStp mm no r).1 no), .int bg, .int (kb (se = true))]) from by rw [← hS, show i = 0 from kx_neg c_6 (by omega)]; rfl))
      have hq_8 : ctL7 6 = some (eI tc 6 (kCp rw (fun f => nI ((kStp mm no r).1 f)) 6)) := h_2.trans (congrArg some (show (eI tc 6 (kCp rw (fun f => nI (r1 f)) 6) : va_E) = eI tc 6 (kCp rw (fun f => nI ((kStp mm no r).1 f)) 6) from by rw [← hS, show i = 0 from kx_neg c_6 (by omega)]; rfl))
      have hq_9 : ctL7 8 = some (eI tc 8 (kCp cv (kcv st (kStp mm no r).1 no) 8)) := h_3.trans (congrArg some (show (eI tc 8 (kCp cv (kcv st r1 no) 8) : va_E) = eI tc 8 (kCp cv (kcv st (kStp mm no r).1 no) 8) from by rw [← hS, show i = 0 from kx_neg c_6 (by omega)]; rfl))
      have hend := kw_eq3 hq_7 hq_8 hq_9 hfr_5
      rw [hend] at hw
      exact W.zret hx hb hr kb_nar (fun t ht _ => ⟨rfl, by rw [ht]; exact hw.1, hw.2.2.1, hw.2.1.F ht, by rw [ht]; exact hw.2.2.2⟩) hw.2.1.2.2 dX0_nextRow_67
    · obtain ⟨j, rfl⟩ : ∃ j, i = j + 1 := ⟨i - 1, by have := kx_neg0 c_6; omega⟩
      rw [kx_m1] at hl
      obtain ⟨hq, hOc0⟩ := hfam j (by omega)
      have hOc := (hfr_5 (60 + j) (by omega) (by omega) (by omega)).trans hOc0
      have hm9 := hm3 j (by omega)
      have hb9 := hbd j (by omega)
      refine lv_aload_n hx hb dX0_nextRow_11 rfl (lv_at hl 0 rfl) ?_
      refine lv_iload_n hx hb dX0_nextRow_12 rfl (lv_at hl 1 rfl) ?_
      refine kc_v (As := [.int (nI j)]) (rest := []) S0 (c_X0_find l D tc s.heap.size ad ctL7 (fx := j) (no := no) h_1 h_4 (by omega) (by omega) hq) (cwV 1 hts gX0_nextRow_X0_find rfl rfl rfl (by decide +kernel) ⟨Nat.le_of_ble_eq_true rfl, Nat.le_of_ble_eq_true rfl⟩) hK hw h_1 rfl rfl hl.1 rfl (Nat.le_of_ble_eq_true rfl) dX0_nextRow_13 ⟨Nat.le_of_ble_eq_true rfl, (Nat.le_of_ble_eq_true rfl)⟩ ?_
      refine lv_astore_n (lv' := [(2, .ref (ad (60 + j))), (0, .ref (ad 4)), (1, .int (nI j))]) hx hb dX0_nextRow_16 rfl hl (by decide) rfl (fun ls hl => ?_)
      refine lv_aload_n hx hb dX0_nextRow_17 rfl (lv_at hl 0 rfl) ?_
      refine lv_ifnull hx hb dX0_nextRow_18 ?_
      refine lv_aload_n hx hb dX0_nextRow_21 rfl (lv_at hl 1 rfl) ?_
      refine kg_get (v := .ref (ad 6)) (C := RX0) (T := TX0) (N := 8) hx hb hts hinX0 hown hK hw h_1 rfl 1 (by decide) (hts (.fieldLink RX0 17 "BetMaker$Board" "row" "[I") (by decide +kernel)) (fun _ h9 => h9) rfl dX0_nextRow_22 ?_
      refine lv_iload_n hx hb dX0_nextRow_25 rfl (lv_at hl 2 rfl) ?_
      refine kg_iald hx hb hK hw h_2 j rfl (by omega) (by omega) dX0_nextRow_26 ?_
      rw [show (kCp rw (fun f => nI (r1 f)) 6) j = nI (r1 j) from (kCp_in (by omega))]
      refine lv_aload_n hx hb dX0_nextRow_27 rfl (lv_at hl 0 rfl) ?_
      refine kc_v (As := []) (rest := [.int (nI (r1 j))]) S0 (c_X4_shares l D tc s.heap.size ad ctL7 hOc) (cwV 0 hts gX0_nextRow_X4_shares rfl rfl rfl (by decide +kernel) ⟨Nat.le_of_ble_eq_true rfl, Nat.le_of_ble_eq_true rfl⟩) hK hw hOc rfl rfl hl.1 rfl (Nat.le_of_ble_eq_true rfl) dX0_nextRow_28 ⟨Nat.le_of_ble_eq_true rfl, (Nat.le_of_ble_eq_true rfl)⟩ ?_
      refine kn_ge (r1 j) (mm j) rfl rfl (by omega) (by omega) (tgt := 43) hx hb dX0_nextRow_31 (by decide) (fun c_10 => ?_) (fun c_10 => ?_)
      · refine lv_aload_n hx hb dX0_nextRow_43 rfl (lv_at hl 0 rfl) ?_
        refine lv_ifnull hx hb dX0_nextRow_44 ?_
        refine lv_aload_n hx hb dX0_nextRow_47 rfl (lv_at hl 1 rfl) ?_
        refine lv_iload_n hx hb dX0_nextRow_48 rfl (lv_at hl 2 rfl) ?_
        refine lv_aload_n hx hb dX0_nextRow_49 rfl (lv_at hl 0 rfl) ?_
        refine lv_aload_n hx hb dX0_nextRow_50 rfl (lv_at hl 1 rfl) ?_
        refine kg_get (v := .ref (ad 6)) (C := RX0) (T := TX0) (N := 8) hx hb hts hinX0 hown hK hw h_1 rfl 1 (by decide) (hts (.fieldLink RX0 17 "BetMaker$Board" "row" "[I") (by decide +kernel)) (fun _ h9 => h9) rfl dX0_nextRow_51 ?_
        refine lv_iload_n hx hb dX0_nextRow_54 rfl (lv_at hl 2 rfl) ?_
        refine kg_iald hx hb hK hw h_2 j rfl (by omega) (by omega) dX0_nextRow_55 ?_
        rw [show (kCp rw (fun f => nI (r1 f)) 6) j = nI (r1 j) from (kCp_in (by omega))]
        refine lv_ineg hx hb dX0_nextRow_56 ?_
        refine kc_vu (As := [.int (nI j), .ref (ad (60 + j)), .int (-(nI (r1 j)))]) (rest := []) S0 (c_X0_change l D tc s.heap.size ad ctL7 (fx := j) (no := no) h_1 h_2 h_3 hOc (by omega)) (cwV 3 hts gX0_nextRow_X0_change rfl rfl rfl (by decide +kernel) ⟨Nat.le_of_ble_eq_true rfl, Nat.le_of_ble_eq_true rfl⟩) hK hw hA h_1 rfl rfl hl.1 rfl (Nat.le_of_ble_eq_true rfl) dX0_nextRow_57 ⟨Nat.le_of_ble_eq_true rfl, (Nat.le_of_ble_eq_true rfl)⟩ (fun H locs hw => ?_)
        obtain ⟨ct_11, ect_11⟩ : ∃ z, z = kw_up (kw_up (kw_up ctL7 4 (.inr (0, [.ref (ad 5), .ref (ad 6), .ref (ad 7), .ref (ad 8), .int (nI no), .int ((kco oc r1 no) + (-(nI (r1 j))) * (oc j)), .int bg, .int (kb (se = true))]))) 6 (eI tc 6 (va_up (kCp rw (fun f => nI (r1 f)) 6) j ((kCp rw (fun f => nI (r1 f)) 6) j + (-(nI (r1 j))))))) 8 (eI tc 8 (kAc (kCp cv (kcv st r1 no) 8) (st j) (-(nI (r1 j))) 8)) := ⟨_, rfl⟩
        rw [← ect_11] at hw
        have h_12 : ct_11 5 = some (eQ tc 3 6 qo) := by rw [ect_11, kw_up_n (by omega), kw_up_n (by omega), kw_up_n (by omega)]; exact h_4
        have h_13 : ct_11 (60 + j) = some (.inr (4, [.int (st j), .int (oc j), .int (nI (mm j))])) := by rw [ect_11, kw_up_n (by omega), kw_up_n (by omega), kw_up_n (by omega)]; exact hOc
        have h_14 : ct_11 4 = some (.inr (0, [.ref (ad 5), .ref (ad 6), .ref (ad 7), .ref (ad 8), .int (nI no), .int ((kco oc r1 no) + (-(nI (r1 j))) * (oc j)), .int bg, .int (kb (se = true))])) := by rw [ect_11, kw_up_n (by omega), kw_up_n (by omega)]; exact kw_up_s
        have h_15 : ct_11 6 = some (eI tc 6 (va_up (kCp rw (fun f => nI (r1 f)) 6) j ((kCp rw (fun f => nI (r1 f)) 6) j + (-(nI (r1 j)))))) := by rw [ect_11, kw_up_n (by omega)]; exact kw_up_s
        have h_16 : ct_11 8 = some (eI tc 8 (kAc (kCp cv (kcv st r1 no) 8) (st j) (-(nI (r1 j))) 8)) := by rw [ect_11]; exact kw_up_s
        have hfr_17 : ∀ j, j ≠ 4 → j ≠ 6 → j ≠ 8 → ct_11 j = ct j := fun j a0 a1 a2 => by rw [ect_11]; exact (kw_up_n a2).trans ((kw_up_n a1).trans ((kw_up_n a0).trans (hfr_5 j a0 a1 a2)))
        refine lv_iinc (v := ((nI j) + (-1))) (lv' := [(1, .int ((nI j) + (-1))), (2, .ref (ad (60 + j))), (0, .ref (ad 4))]) hx hb dX0_nextRow_60 hl (k := 2) rfl rfl (by decide) rfl (fun ls hl => ?_)
        refine lv_goto (tgt := 7) hx hb dX0_nextRow_63 (by decide) ?_
        exact ih7 j (va_up r1 j 0) _ _ _ ls (by omega) (by omega) (by exact kup_le hbd (Nat.zero_le _)) (by rw [← kStp_f (Nat.not_lt.mpr c_10)]; exact hS) (h_14.trans (congrArg some (show (.inr (0, [.ref (ad 5), .ref (ad 6), .ref (ad 7), .ref (ad 8), .int (nI no), .int ((kco oc r1 no) + (-(nI (r1 j))) * (oc j)), .int bg, .int (kb (se = true))]) : va_E) = .inr (0, [.ref (ad 5), .ref (ad 6), .ref (ad 7), .ref (ad 8), .int (nI no), .int (kco oc (va_up r1 j 0) no), .int bg, .int (kb (se = true))]) from by rw [kr4 (by omega) (kv_0 _)]))) (h_15.trans (congrArg some (show (eI tc 6 (va_up (kCp rw (fun f => nI (r1 f)) 6) j ((kCp rw (fun f => nI (r1 f)) 6) j + (-(nI (r1 j))))) : va_E) = eI tc 6 (kCp rw (fun f => nI ((va_up r1 j 0) f)) 6) from by rw [kr6 (by omega) (kv_0 _)]))) (h_16.trans (congrArg some (show (eI tc 8 (kAc (kCp cv (kcv st r1 no) 8) (st j) (-(nI (r1 j))) 8) : va_E) = eI tc 8 (kCp cv (kcv st (va_up r1 j 0) no) 8) from by rw [kr8 (by omega) (kv_0 _)]))) h_12 hfr_17 hw (by have hl9 := lv_sub hl (l' := [(0, .ref (ad 4)), (1, .int ((nI j) + (-1)))]) [2, 0] rfl; rw [← Int32.sub_eq_add_neg] at hl9; exact hl9)
      · refine lv_aload_n hx hb dX0_nextRow_34 rfl (lv_at hl 1 rfl) ?_
        refine lv_iload_n hx hb dX0_nextRow_35 rfl (lv_at hl 2 rfl) ?_
        refine lv_aload_n hx hb dX0_nextRow_36 rfl (lv_at hl 0 rfl) ?_
        refine lv_iconst (v := 1) hx hb dX0_nextRow_37 (by decide) ?_
        refine kc_vu (As := [.int (nI j), .ref (ad (60 + j)), .int 1]) (rest := []) S0 (c_X0_change l D tc s.heap.size ad ctL7 (fx := j) (no := no) h_1 h_2 h_3 hOc (by omega)) (cwV 3 hts gX0_nextRow_X0_change rfl rfl rfl (by decide +kernel) ⟨Nat.le_of_ble_eq_true rfl, Nat.le_of_ble_eq_true rfl⟩) hK hw hA h_1 rfl rfl hl.1 rfl (Nat.le_of_ble_eq_true rfl) dX0_nextRow_38 ⟨Nat.le_of_ble_eq_true rfl, (Nat.le_of_ble_eq_true rfl)⟩ (fun H locs hw => ?_)
        obtain ⟨ct_18, ect_18⟩ : ∃ z, z = kw_up (kw_up (kw_up ctL7 4 (.inr (0, [.ref (ad 5), .ref (ad 6), .ref (ad 7), .ref (ad 8), .int (nI no), .int ((kco oc r1 no) + 1 * (oc j)), .int bg, .int (kb (se = true))]))) 6 (eI tc 6 (va_up (kCp rw (fun f => nI (r1 f)) 6) j ((kCp rw (fun f => nI (r1 f)) 6) j + 1)))) 8 (eI tc 8 (kAc (kCp cv (kcv st r1 no) 8) (st j) 1 8)) := ⟨_, rfl⟩
        rw [← ect_18] at hw
        have h_19 : ct_18 5 = some (eQ tc 3 6 qo) := by rw [ect_18, kw_up_n (by omega), kw_up_n (by omega), kw_up_n (by omega)]; exact h_4
        have h_20 : ct_18 (60 + j) = some (.inr (4, [.int (st j), .int (oc j), .int (nI (mm j))])) := by rw [ect_18, kw_up_n (by omega), kw_up_n (by omega), kw_up_n (by omega)]; exact hOc
        have h_21 : ct_18 4 = some (.inr (0, [.ref (ad 5), .ref (ad 6), .ref (ad 7), .ref (ad 8), .int (nI no), .int ((kco oc r1 no) + 1 * (oc j)), .int bg, .int (kb (se = true))])) := by rw [ect_18, kw_up_n (by omega), kw_up_n (by omega)]; exact kw_up_s
        have h_22 : ct_18 6 = some (eI tc 6 (va_up (kCp rw (fun f => nI (r1 f)) 6) j ((kCp rw (fun f => nI (r1 f)) 6) j + 1))) := by rw [ect_18, kw_up_n (by omega)]; exact kw_up_s
        have h_23 : ct_18 8 = some (eI tc 8 (kAc (kCp cv (kcv st r1 no) 8) (st j) 1 8)) := by rw [ect_18]; exact kw_up_s
        have hfr_24 : ∀ j, j ≠ 4 → j ≠ 6 → j ≠ 8 → ct_18 j = ct j := fun j a0 a1 a2 => by rw [ect_18]; exact (kw_up_n a2).trans ((kw_up_n a1).trans ((kw_up_n a0).trans (hfr_5 j a0 a1 a2)))
        refine lv_iconst (v := 1) hx hb dX0_nextRow_41 (by decide) ?_
        refine W.eq (congrArg (fun z => F0 m 42 ls [.int z]) (show 1 = (kb ((kStp mm no r).2 = true)) from by exact (kb_t (by rw [← hS, kStp_t c_10])).symm)) ?_
        have hq_25 : ct_18 4 = some (.inr (0, [.ref (ad 5), .ref (ad 6), .ref (ad 7), .ref (ad 8), .int (nI no), .int (kco oc (kStp mm no r).1 no), .int bg, .int (kb (se = true))])) := h_21.trans (congrArg some (show (.inr (0, [.ref (ad 5), .ref (ad 6), .ref (ad 7), .ref (ad 8), .int (nI no), .int ((kco oc r1 no) + 1 * (oc j)), .int bg, .int (kb (se = true))]) : va_E) = .inr (0, [.ref (ad 5), .ref (ad 6), .ref (ad 7), .ref (ad 8), .int (nI no), .int (kco oc (kStp mm no r).1 no), .int bg, .int (kb (se = true))]) from by rw [kr4 (by omega) (nI_1 _), ← hS, kStp_t c_10]))
        have hq_26 : ct_18 6 = some (eI tc 6 (kCp rw (fun f => nI ((kStp mm no r).1 f)) 6)) := h_22.trans (congrArg some (show (eI tc 6 (va_up (kCp rw (fun f => nI (r1 f)) 6) j ((kCp rw (fun f => nI (r1 f)) 6) j + 1)) : va_E) = eI tc 6 (kCp rw (fun f => nI ((kStp mm no r).1 f)) 6) from by rw [kr6 (by omega) (nI_1 _), ← hS, kStp_t c_10]))
        have hq_27 : ct_18 8 = some (eI tc 8 (kCp cv (kcv st (kStp mm no r).1 no) 8)) := h_23.trans (congrArg some (show (eI tc 8 (kAc (kCp cv (kcv st r1 no) 8) (st j) 1 8) : va_E) = eI tc 8 (kCp cv (kcv st (kStp mm no r).1 no) 8) from by rw [kr8 (by omega) (nI_1 _), ← hS, kStp_t c_10]))
        have hend := kw_eq3 hq_25 hq_26 hq_27 hfr_24
        rw [hend] at hw
        exact W.zret hx hb hr kb_nar (fun t ht _ => ⟨rfl, by rw [ht]; exact hw.1, hw.2.2.1, hw.2.1.F ht, by rw [ht]; exact hw.2.2.2⟩) hw.2.1.2.2 dX0_nextRow_42
set_option maxHeartbeats 4000000 in
set_option maxRecDepth 100000 in
theorem c_X0_search (l : Launch) (D : va_G) (tc : Nat → ClassId) (sz : Nat) (ad : Nat → Nat) (ct : Nat → Option va_E) {N no : Nat} {co bg : Int32}   {qo : Nat → Option Nat} {rw br cv : Nat → Int32} {se : Bool} {st oc : Nat → Int32} {mm : Nat → Nat} (h4 : ct 4 = some (.inr (0, [.ref (ad 5), .ref (ad 6), .ref (ad 7), .ref (ad 8), .int (nI no), .int co, .int bg, .int (kb (se = true))]))) (h5 : ct 5 = some (eQ tc 3 6 qo)) (h6 : ct 6 = some (eI tc 6 rw)) (h7 : ct 7 = some (eI tc 6 br)) (h8 : ct 8 = some (eI tc 8 cv)) (hno : no ≤ 6) (hN : N ≤ 8) (hN2 : 2 ≤ N) (hfam : ∀ yy, yy < no → qo yy = some (ad (60 + yy)) ∧ ct (60 + yy) = some (.inr (4, [.int (st yy), .int (oc yy), .int (nI (mm yy))]))) (hm3 : ∀ y9, y9 < no → mm y9 ≤ 3) (hse : ¬ (se = true)) : Met l yX0_search wsX0_search ({ frames := 3, cells := 0, slots := 0, locals := 79 }) (va_Pc [.ref (ad 4), .int (nI N)] (kw_B D tc sz ad ct)) (kw_Q D ad (kw_A ad ct sz) (none) (kw_up (kw_up (kw_up (kw_up ct 4 (.inr (0, [.ref (ad 5), .ref (ad 6), .ref (ad 7), .ref (ad 8), .int (nI no), .int (kco oc (kFo mm (kG st oc no N) no 4095 (fun _ => 0) 0 (fun _ => 0)).1 no), .int ((kFo mm (kG st oc no N) no 4095 (fun _ => 0) 0 (fun _ => 0)).2.1), .int (kb (true = true))]))) 6 (eI tc 6 (kCp rw (fun f => nI ((kFo mm (kG st oc no N) no 4095 (fun _ => 0) 0 (fun _ => 0)).1 f)) 6))) 7 (eI tc 6 (kCp br (fun f => nI ((kFo mm (kG st oc no N) no 4095 (fun _ => 0) 0 (fun _ => 0)).2.2 f)) 6))) 8 (eI tc 8 (kCp cv (kcv st (kFo mm (kG st oc no N) no 4095 (fun _ => 0) 0 (fun _ => 0)).1 no) 8))) 0) 0 0 (kw_A ad ct sz) := by
  refine Met.ofW (cc := cX0_search) (maxL := 4) (ret := none) (by decide) rfl ?_
  intro pg en s m args below meth cod s₁ B hml hv
  obtain ⟨rfl, hsz, hP0, hK⟩ := hv
  have hx := B.exec
  have hb := B.bytes
  have hr := B.returns
  have hts := atoms_spec (ws := wsX0_search) B.pre
  have hown : s.vm.findClass RX0 = some m.cls := findClass_of_methodNamed B.named
  have hlocks := B.notSynchronized
  subst hsz
  have hw := kw_H.start hP0
  generalize hAe : kw_A ad ct s.heap.size = A at hw ⊢
  have hA : ∀ q, s.heap.size ≤ q → A q := fun q h => by rw [← hAe]; exact Or.inr h
  have hinX0 : ∀ w ∈ wsX00, w ∈ wsX0_search := by decide +kernel
  have hl := lv_entry ([.ref (ad 4), .int (nI N)]) (n := 4) (Nat.le_of_ble_eq_true rfl)
  rw [lg_entry_eq]
  generalize (lg_sl ([.ref (ad 4), .int (nI N)]) ++ List.replicate (4 - (lg_sl ([.ref (ad 4), .int (nI N)])).length) Slot.unset).toArray = ls at hl ⊢
  have hl : lv_has ls 4 [(0, .ref (ad 4)), (1, .int (nI N))] := hl
  have S0 : CallFix pg m cod cX0_search 4 s _ wsX0_search RX0 := ⟨hx, hb, hml, hown, hts⟩
  have hfr : ∀ j, j ≠ 4 → j ≠ 6 → j ≠ 7 → j ≠ 8 → ct j = ct j := fun _ _ _ _ _ => rfl
  refine lv_aload_n hx hb dX0_search_0 rfl (lv_at hl 0 rfl) ?_
  refine kg_get (v := .int (kb (se = true))) (C := RX0) (T := TX0) (N := 8) hx hb hts hinX0 hown hK hw h4 rfl 7 (by decide) (hts (.fieldLink RX0 31 "BetMaker$Board" "searched" "Z") (by decide +kernel)) (fun _ h9 => h9) rfl dX0_search_1 ?_
  refine kb_ifeq (tgt := 8) hx hb dX0_search_4 (by decide) (fun c_1 => ?_) (fun c_1 => ?_)
  · refine lv_aload_n hx hb dX0_search_8 rfl (lv_at hl 0 rfl) ?_
    refine kc_vu (As := []) (rest := []) S0 (c_X0_clearRows l D tc s.heap.size ad ct (no := no) h4 h6 h7 h8) (cwV 0 hts gX0_search_X0_clearRows rfl rfl rfl (by decide +kernel) ⟨Nat.le_of_ble_eq_true rfl, Nat.le_of_ble_eq_true rfl⟩) hK hw hA h4 rfl rfl hl.1 rfl (Nat.le_of_ble_eq_true rfl) dX0_search_9 ⟨Nat.le_of_ble_eq_true rfl, (Nat.le_of_ble_eq_true rfl)⟩ (fun H locs hw => ?_)
    obtain ⟨ct_2, ect_2⟩ : ∃ z, z = kw_up (kw_up (kw_up (kw_up ct 4 (.inr (0, [.ref (ad 5), .ref (ad 6), .ref (ad 7), .ref (ad 8), .int (nI no), .int 0, .int 0, .int (kb (se = true))]))) 6 (eI tc 6 (kFl rw 0 6))) 7 (eI tc 6 (kFl br 0 6))) 8 (eI tc 8 (kFl cv 0 8)) := ⟨_, rfl⟩
    rw [← ect_2] at hw
    have h_3 : ct_2 5 = some (eQ tc 3 6 qo) := by rw [ect_2, kw_up_n (by omega), kw_up_n (by omega), kw_up_n (by omega), kw_up_n (by omega)]; exact h5
    have h_4 : ct_2 4 = some (.inr (0, [.ref (ad 5), .ref (ad 6), .ref (ad 7), .ref (ad 8), .int (nI no), .int 0, .int 0, .int (kb (se = true))])) := by rw [ect_2, kw_up_n (by omega), kw_up_n (by omega), kw_up_n (by omega)]; exact kw_up_s
    have h_5 : ct_2 6 = some (eI tc 6 (kFl rw 0 6)) := by rw [ect_2, kw_up_n (by omega), kw_up_n (by omega)]; exact kw_up_s
    have h_6 : ct_2 7 = some (eI tc 6 (kFl br 0 6)) := by rw [ect_2, kw_up_n (by omega)]; exact kw_up_s
    have h_7 : ct_2 8 = some (eI tc 8 (kFl cv 0 8)) := by rw [ect_2]; exact kw_up_s
    have hfr_8 : ∀ j, j ≠ 4 → j ≠ 6 → j ≠ 7 → j ≠ 8 → ct_2 j = ct j := fun j a0 a1 a2 a3 => by rw [ect_2]; exact (kw_up_n a3).trans ((kw_up_n a2).trans ((kw_up_n a1).trans ((kw_up_n a0).trans (hfr j a0 a1 a2 a3))))
    refine lv_iconst (v := 1) hx hb dX0_search_12 (by decide) ?_
    refine lv_istore_n (lv' := [(2, .int 1), (0, .ref (ad 4)), (1, .int (nI N))]) hx hb dX0_search_13 rfl hl (by decide) rfl (fun ls hl => ?_)
    suffices lp14 : ∀ (nfu : Nat) (k1 : Nat) (r1 : Nat → Nat) (g1 : Int32) (rb1 : Nat → Nat) (ctL14 : Nat → Option va_E) (H : Heap) (locs : List Loc) (ls : Array Slot), 4096 - k1 < nfu → 1 ≤ k1 → k1 ≤ 4096 → (∀ f, f < no → r1 f ≤ mm f) → kFo mm (kG st oc no N) no (4096 - k1) r1 g1 rb1 = kFo mm (kG st oc no N) no 4095 (fun _ => 0) 0 (fun _ => 0) → ctL14 5 = some (eQ tc 3 6 qo) → ctL14 4 = some (.inr (0, [.ref (ad 5), .ref (ad 6), .ref (ad 7), .ref (ad 8), .int (nI no), .int (kco oc r1 no), .int g1, .int (kb (se = true))])) → ctL14 6 = some (eI tc 6 (kCp rw (fun f => nI (r1 f)) 6)) → ctL14 7 = some (eI tc 6 (kCp br (fun f => nI (rb1 f)) 6)) → ctL14 8 = some (eI tc 8 (kCp cv (kcv st r1 no) 8)) → (∀ j, j ≠ 4 → j ≠ 6 → j ≠ 7 → j ≠ 8 → ctL14 j = ct j) → kw_H D ad A s.heap ctL14 H locs s.heap.size → lv_has ls 4 [(0, .ref (ad 4)), (1, .int (nI N)), (2, .int (nI k1))] → W pg l en (headSpec wsX0_search ({ frames := 3, cells := 0, slots := 0, locals := 79 })).room s m (([.ref (ad 4), .int (nI N)] : List Value).toArray) below meth cod H locs 0 0 (MQ below (kw_Q D ad A (none) (kw_up (kw_up (kw_up (kw_up ct 4 (.inr (0, [.ref (ad 5), .ref (ad 6), .ref (ad 7), .ref (ad 8), .int (nI no), .int (kco oc (kFo mm (kG st oc no N) no 4095 (fun _ => 0) 0 (fun _ => 0)).1 no), .int ((kFo mm (kG st oc no N) no 4095 (fun _ => 0) 0 (fun _ => 0)).2.1), .int (kb (true = true))]))) 6 (eI tc 6 (kCp rw (fun f => nI ((kFo mm (kG st oc no N) no 4095 (fun _ => 0) 0 (fun _ => 0)).1 f)) 6))) 7 (eI tc 6 (kCp br (fun f => nI ((kFo mm (kG st oc no N) no 4095 (fun _ => 0) 0 (fun _ => 0)).2.2 f)) 6))) 8 (eI tc 8 (kCp cv (kcv st (kFo mm (kG st oc no N) no 4095 (fun _ => 0) 0 (fun _ => 0)).1 no) 8))) 0) (([.ref (ad 4), .int (nI N)] : List Value).toArray) s 0 0 A) (F0 m 14 ls []) by
      exact lp14 (4096 - 1 + 1) 1 (fun _ => 0) 0 (fun _ => 0) _ _ _ ls (by omega) (by omega) (by omega) (by exact fun _ _ => Nat.zero_le _) (by rfl) h_3 (h_4.trans (congrArg some (show (.inr (0, [.ref (ad 5), .ref (ad 6), .ref (ad 7), .ref (ad 8), .int (nI no), .int 0, .int 0, .int (kb (se = true))]) : va_E) = .inr (0, [.ref (ad 5), .ref (ad 6), .ref (ad 7), .ref (ad 8), .int (nI no), .int (kco oc (fun _ => 0) no), .int 0, .int (kb (se = true))]) from by rw [kco_0]))) (h_5.trans (congrArg some (show (eI tc 6 (kFl rw 0 6) : va_E) = eI tc 6 (kCp rw (fun f => nI ((fun _ => 0) f)) 6) from by rfl))) (h_6.trans (congrArg some (show (eI tc 6 (kFl br 0 6) : va_E) = eI tc 6 (kCp br (fun f => nI ((fun _ => 0) f)) 6) from by rfl))) (h_7.trans (congrArg some (show (eI tc 8 (kFl cv 0 8) : va_E) = eI tc 8 (kCp cv (kcv st (fun _ => 0) no) 8) from by exact congrArg _ (funext fun c => by simp only [kFl, kCp, kcv_0])))) hfr_8 hw (by have hl9 := lv_sub hl (l' := [(0, .ref (ad 4)), (1, .int (nI N)), (2, .int 1)]) [1, 2, 0] rfl; exact hl9)
    intro n14
    induction n14 with
    | zero => intro k1 r1 g1 rb1 ctL14 H locs ls hfu; exact absurd hfu (Nat.not_lt_zero _)
    | succ n14 ih14 =>
      intro k1 r1 g1 rb1 ctL14 H locs ls hfu14 hk1 hk2 hbd hB h_9 h_10 h_11 h_12 h_13 hfr_14 hw hl
      refine lv_iload_n hx hb dX0_search_14 rfl (lv_at hl 2 rfl) ?_
      refine lv_sipush (v := 4096) hx hb dX0_search_15 (by decide) ?_
      refine kn_ge k1 4096 rfl rfl (by omega) (by omega) (tgt := 76) hx hb dX0_search_18 (by decide) (fun c_15 => ?_) (fun c_15 => ?_)
      · have hE : kFo mm (kG st oc no N) no 4095 (fun _ => 0) 0 (fun _ => 0) = (r1, g1, rb1) := by rw [← hB, show 4096 - k1 = 0 by omega]; rfl
        refine lv_aload_n hx hb dX0_search_76 rfl (lv_at hl 0 rfl) ?_
        refine lv_iconst (v := 1) hx hb dX0_search_77 (by decide) ?_
        refine kg_put (v := .int 1) (ty := .boolean) (C := RX0) (T := TX0) (N := 8) (fs' := [.ref (ad 5), .ref (ad 6), .ref (ad 7), .ref (ad 8), .int (nI no), .int (kco oc r1 no), .int g1, .int 1]) hx hb hts hinX0 tyX0 tyX0_ok nmX0 hown hK hw h_10 rfl 7 (by decide) (hts (.fieldLink RX0 31 "BetMaker$Board" "searched" "Z") (by decide +kernel)) (fun _ h9 => h9) rfl (by decide +kernel) rfl rfl (Nat.le_of_ble_eq_true rfl) rfl dX0_search_78 (fun H locs hw => ?_)
        obtain ⟨ct_16, ect_16⟩ : ∃ z, z = kw_up ctL14 4 (.inr (0, [.ref (ad 5), .ref (ad 6), .ref (ad 7), .ref (ad 8), .int (nI no), .int (kco oc r1 no), .int g1, .int 1])) := ⟨_, rfl⟩
        rw [← ect_16] at hw
        have h_17 : ct_16 5 = some (eQ tc 3 6 qo) := by rw [ect_16, kw_up_n (by omega)]; exact h_9
        have h_18 : ct_16 6 = some (eI tc 6 (kCp rw (fun f => nI (r1 f)) 6)) := by rw [ect_16, kw_up_n (by omega)]; exact h_11
        have h_19 : ct_16 7 = some (eI tc 6 (kCp br (fun f => nI (rb1 f)) 6)) := by rw [ect_16, kw_up_n (by omega)]; exact h_12
        have h_20 : ct_16 8 = some (eI tc 8 (kCp cv (kcv st r1 no) 8)) := by rw [ect_16, kw_up_n (by omega)]; exact h_13
        have h_21 : ct_16 4 = some (.inr (0, [.ref (ad 5), .ref (ad 6), .ref (ad 7), .ref (ad 8), .int (nI no), .int (kco oc r1 no), .int g1, .int 1])) := by rw [ect_16]; exact kw_up_s
        have hfr_22 : ∀ j, j ≠ 4 → j ≠ 6 → j ≠ 7 → j ≠ 8 → ct_16 j = ct j := fun j a0 a1 a2 a3 => by rw [ect_16]; exact (kw_up_n a0).trans (hfr_14 j a0 a1 a2 a3)
        have hq_23 : ct_16 4 = some (.inr (0, [.ref (ad 5), .ref (ad 6), .ref (ad 7), .ref (ad 8), .int (nI no), .int (kco oc (kFo mm (kG st oc no N) no 4095 (fun _ => 0) 0 (fun _ => 0)).1 no), .int ((kFo mm (kG st oc no N) no 4095 (fun _ => 0) 0 (fun _ => 0)).2.1), .int (kb (true = true))])) := h_21.trans (congrArg some (show (.inr (0, [.ref (ad 5), .ref (ad 6), .ref (ad 7), .ref (ad 8), .int (nI no), .int (kco oc r1 no), .int g1, .int 1]) : va_E) = .inr (0, [.ref (ad 5), .ref (ad 6), .ref (ad 7), .ref (ad 8), .int (nI no), .int (kco oc (kFo mm (kG st oc no N) no 4095 (fun _ => 0) 0 (fun _ => 0)).1 no), .int ((kFo mm (kG st oc no N) no 4095 (fun _ => 0) 0 (fun _ => 0)).2.1), .int (kb (true = true))]) from by rw [hE]; rfl))
        have hq_24 : ct_16 6 = some (eI tc 6 (kCp rw (fun f => nI ((kFo mm (kG st oc no N) no 4095 (fun _ => 0) 0 (fun _ => 0)).1 f)) 6)) := h_18.trans (congrArg some (show (eI tc 6 (kCp rw (fun f => nI (r1 f)) 6) : va_E) = eI tc 6 (kCp rw (fun f => nI ((kFo mm (kG st oc no N) no 4095 (fun _ => 0) 0 (fun _ => 0)).1 f)) 6) from by rw [hE]))
        have hq_25 : ct_16 7 = some (eI tc 6 (kCp br (fun f => nI ((kFo mm (kG st oc no N) no 4095 (fun _ => 0) 0 (fun _ => 0)).2.2 f)) 6)) := h_19.trans (congrArg some (show (eI tc 6 (kCp br (fun f => nI (rb1 f)) 6) : va_E) = eI tc 6 (kCp br (fun f => nI ((kFo mm (kG st oc no N) no 4095 (fun _ => 0) 0 (fun _ => 0)).2.2 f)) 6) from by rw [hE]))
        have hq_26 : ct_16 8 = some (eI tc 8 (kCp cv (kcv st (kFo mm (kG st oc no N) no 4095 (fun _ => 0) 0 (fun _ => 0)).1 no) 8)) := h_20.trans (congrArg some (show (eI tc 8 (kCp cv (kcv st r1 no) 8) : va_E) = eI tc 8 (kCp cv (kcv st (kFo mm (kG st oc no N) no 4095 (fun _ => 0) 0 (fun _ => 0)).1 no) 8) from by rw [hE]))
        have hend := kw_eq4 hq_23 hq_24 hq_25 hq_26 hfr_22
        rw [hend] at hw
        exact W.vret hx hb hr (fun t ht _ => ⟨rfl, by rw [ht]; exact hw.1, hw.2.2.1, hw.2.1.F ht, by rw [ht]; exact hw.2.2.2⟩) hw.2.1.2.2 dX0_search_81
      · refine lv_aload_n hx hb dX0_search_21 rfl (lv_at hl 0 rfl) ?_
        refine kc_vu (As := []) (rest := []) S0 (c_X0_nextRow l D tc s.heap.size ad ctL14 (r := r1) (no := no) h_10 h_11 h_13 h_9 (by omega) (fun yy hy => ⟨(hfam yy hy).1, (hfr_14 (60 + yy) (by omega) (by omega) (by omega) (by omega)).trans (hfam yy hy).2⟩) hm3 hbd) (cwV 0 hts gX0_search_X0_nextRow rfl rfl rfl (by decide +kernel) ⟨Nat.le_of_ble_eq_true rfl, Nat.le_of_ble_eq_true rfl⟩) hK hw hA h_10 rfl rfl hl.1 rfl (Nat.le_of_ble_eq_true rfl) dX0_search_22 ⟨Nat.le_of_ble_eq_true rfl, (Nat.le_of_ble_eq_true rfl)⟩ (fun H locs hw => ?_)
        obtain ⟨ct_27, ect_27⟩ : ∃ z, z = kw_up (kw_up (kw_up ctL14 4 (.inr (0, [.ref (ad 5), .ref (ad 6), .ref (ad 7), .ref (ad 8), .int (nI no), .int (kco oc (kStp mm no r1).1 no), .int g1, .int (kb (se = true))]))) 6 (eI tc 6 (kCp rw (fun f => nI ((kStp mm no r1).1 f)) 6))) 8 (eI tc 8 (kCp cv (kcv st (kStp mm no r1).1 no) 8)) := ⟨_, rfl⟩
        rw [← ect_27] at hw
        have h_28 : ct_27 5 = some (eQ tc 3 6 qo) := by rw [ect_27, kw_up_n (by omega), kw_up_n (by omega), kw_up_n (by omega)]; exact h_9
        have h_29 : ct_27 7 = some (eI tc 6 (kCp br (fun f => nI (rb1 f)) 6)) := by rw [ect_27, kw_up_n (by omega), kw_up_n (by omega), kw_up_n (by omega)]; exact h_12
        have h_30 : ct_27 4 = some (.inr (0, [.ref (ad 5), .ref (ad 6), .ref (ad 7), .ref (ad 8), .int (nI no), .int (kco oc (kStp mm no r1).1 no), .int g1, .int (kb (se = true))])) := by rw [ect_27, kw_up_n (by omega), kw_up_n (by omega)]; exact kw_up_s
        have h_31 : ct_27 6 = some (eI tc 6 (kCp rw (fun f => nI ((kStp mm no r1).1 f)) 6)) := by rw [ect_27, kw_up_n (by omega)]; exact kw_up_s
        have h_32 : ct_27 8 = some (eI tc 8 (kCp cv (kcv st (kStp mm no r1).1 no) 8)) := by rw [ect_27]; exact kw_up_s
        have hfr_33 : ∀ j, j ≠ 4 → j ≠ 6 → j ≠ 7 → j ≠ 8 → ct_27 j = ct j := fun j a0 a1 a2 a3 => by rw [ect_27]; exact (kw_up_n a3).trans ((kw_up_n a1).trans ((kw_up_n a0).trans (hfr_14 j a0 a1 a2 a3)))
        refine kb_ifeq (tgt := 76) hx hb dX0_search_25 (by decide) (fun c_34 => ?_) (fun c_34 => ?_)
        · have hE : kFo mm (kG st oc no N) no 4095 (fun _ => 0) 0 (fun _ => 0) = ((kStp mm no r1).1, g1, rb1) := by rw [← hB, kFo_f (k1 := 4096 - (k1 + 1)) (by omega) (kprf c_34)]
          refine lv_aload_n hx hb dX0_search_76 rfl (lv_at hl 0 rfl) ?_
          refine lv_iconst (v := 1) hx hb dX0_search_77 (by decide) ?_
          refine kg_put (v := .int 1) (ty := .boolean) (C := RX0) (T := TX0) (N := 8) (fs' := [.ref (ad 5), .ref (ad 6), .ref (ad 7), .ref (ad 8), .int (nI no), .int (kco oc (kStp mm no r1).1 no), .int g1, .int 1]) hx hb hts hinX0 tyX0 tyX0_ok nmX0 hown hK hw h_30 rfl 7 (by decide) (hts (.fieldLink RX0 31 "BetMaker$Board" "searched" "Z") (by decide +kernel)) (fun _ h9 => h9) rfl (by decide +kernel) rfl rfl (Nat.le_of_ble_eq_true rfl) rfl dX0_search_78 (fun H locs hw => ?_)
          obtain ⟨ct_35, ect_35⟩ : ∃ z, z = kw_up ct_27 4 (.inr (0, [.ref (ad 5), .ref (ad 6), .ref (ad 7), .ref (ad 8), .int (nI no), .int (kco oc (kStp mm no r1).1 no), .int g1, .int 1])) := ⟨_, rfl⟩
          rw [← ect_35] at hw
          have h_36 : ct_35 5 = some (eQ tc 3 6 qo) := by rw [ect_35, kw_up_n (by omega)]; exact h_28
          have h_37 : ct_35 7 = some (eI tc 6 (kCp br (fun f => nI (rb1 f)) 6)) := by rw [ect_35, kw_up_n (by omega)]; exact h_29
          have h_38 : ct_35 6 = some (eI tc 6 (kCp rw (fun f => nI ((kStp mm no r1).1 f)) 6)) := by rw [ect_35, kw_up_n (by omega)]; exact h_31
          have h_39 : ct_35 8 = some (eI tc 8 (kCp cv (kcv st (kStp mm no r1).1 no) 8)) := by rw [ect_35, kw_up_n (by omega)]; exact h_32
          have h_40 : ct_35 4 = some (.inr (0, [.ref (ad 5), .ref (ad 6), .ref (ad 7), .ref (ad 8), .int (nI no), .int (kco oc (kStp mm no r1).1 no), .int g1, .int 1])) := by rw [ect_35]; exact kw_up_s
          have hfr_41 : ∀ j, j ≠ 4 → j ≠ 6 → j ≠ 7 → j ≠ 8 → ct_35 j = ct j := fun j a0 a1 a2 a3 => by rw [ect_35]; exact (kw_up_n a0).trans (hfr_33 j a0 a1 a2 a3)
          have hq_42 : ct_35 4 = some (.inr (0, [.ref (ad 5), .ref (ad 6), .ref (ad 7), .ref (ad 8), .int (nI no), .int (kco oc (kFo mm (kG st oc no N) no 4095 (fun _ => 0) 0 (fun _ => 0)).1 no), .int ((kFo mm (kG st oc no N) no 4095 (fun _ => 0) 0 (fun _ => 0)).2.1), .int (kb (true = true))])) := h_40.trans (congrArg some (show (.inr (0, [.ref (ad 5), .ref (ad 6), .ref (ad 7), .ref (ad 8), .int (nI no), .int (kco oc (kStp mm no r1).1 no), .int g1, .int 1]) : va_E) = .inr (0, [.ref (ad 5), .ref (ad 6), .ref (ad 7), .ref (ad 8), .int (nI no), .int (kco oc (kFo mm (kG st oc no N) no 4095 (fun _ => 0) 0 (fun _ => 0)).1 no), .int ((kFo mm (kG st oc no N) no 4095 (fun _ => 0) 0 (fun _ => 0)).2.1), .int (kb (true = true))]) from by rw [hE]; rfl))
          have hq_43 : ct_35 6 = some (eI tc 6 (kCp rw (fun f => nI ((kFo mm (kG st oc no N) no 4095 (fun _ => 0) 0 (fun _ => 0)).1 f)) 6)) := h_38.trans (congrArg some (show (eI tc 6 (kCp rw (fun f => nI ((kStp mm no r1).1 f)) 6) : va_E) = eI tc 6 (kCp rw (fun f => nI ((kFo mm (kG st oc no N) no 4095 (fun _ => 0) 0 (fun _ => 0)).1 f)) 6) from by rw [hE]))
          have hq_44 : ct_35 7 = some (eI tc 6 (kCp br (fun f => nI ((kFo mm (kG st oc no N) no 4095 (fun _ => 0) 0 (fun _ => 0)).2.2 f)) 6)) := h_37.trans (congrArg some (show (eI tc 6 (kCp br (fun f => nI (rb1 f)) 6) : va_E) = eI tc 6 (kCp br (fun f => nI ((kFo mm (kG st oc no N) no 4095 (fun _ => 0) 0 (fun _ => 0)).2.2 f)) 6) from by rw [hE]))
          have hq_45 : ct_35 8 = some (eI tc 8 (kCp cv (kcv st (kFo mm (kG st oc no N) no 4095 (fun _ => 0) 0 (fun _ => 0)).1 no) 8)) := h_39.trans (congrArg some (show (eI tc 8 (kCp cv (kcv st (kStp mm no r1).1 no) 8) : va_E) = eI tc 8 (kCp cv (kcv st (kFo mm (kG st oc no N) no 4095 (fun _ => 0) 0 (fun _ => 0)).1 no) 8) from by rw [hE]))
          have hend := kw_eq4 hq_42 hq_43 hq_44 hq_45 hfr_41
          rw [hend] at hw
          exact W.vret hx hb hr (fun t ht _ => ⟨rfl, by rw [ht]; exact hw.1, hw.2.2.1, hw.2.1.F ht, by rw [ht]; exact hw.2.2.2⟩) hw.2.1.2.2 dX0_search_81
        · refine lv_bipush (v := 100) hx hb dX0_search_28 (by decide) ?_
          refine lv_aload_n hx hb dX0_search_30 rfl (lv_at hl 0 rfl) ?_
          refine lv_iload_n hx hb dX0_search_31 rfl (lv_at hl 1 rfl) ?_
          refine kc_v (As := [.int (nI N)]) (rest := [.int 100]) S0 (c_X0_leastCovered l D tc s.heap.size ad ct_27 (N := N) (no := no) h_30 h_32 (by omega) (by omega)) (cwV 1 hts gX0_search_X0_leastCovered rfl rfl rfl (by decide +kernel) ⟨Nat.le_of_ble_eq_true rfl, Nat.le_of_ble_eq_true rfl⟩) hK hw h_30 rfl rfl hl.1 rfl (Nat.le_of_ble_eq_true rfl) dX0_search_32 ⟨Nat.le_of_ble_eq_true rfl, (Nat.le_of_ble_eq_true rfl)⟩ ?_
          refine lv_imul hx hb dX0_search_35 ?_
          refine lv_aload_n hx hb dX0_search_36 rfl (lv_at hl 0 rfl) ?_
          refine kg_get (v := .int (kco oc (kStp mm no r1).1 no)) (C := RX0) (T := TX0) (N := 8) hx hb hts hinX0 hown hK hw h_30 rfl 5 (by decide) (hts (.fieldLink RX0 63 "BetMaker$Board" "cost" "I") (by decide +kernel)) (fun _ h9 => h9) rfl dX0_search_37 ?_
          refine lv_isub hx hb dX0_search_40 ?_
          refine W.eq (congrArg (fun z => F0 m 41 ls (.int z :: [])) (show (100 * (kLc (kCp cv (kcv st (kStp mm no r1).1 no) 8) (N - 1))) - (kco oc (kStp mm no r1).1 no) = kG st oc no N (kStp mm no r1).1 from by exact kG_c hN2 hN)) ?_
          refine lv_istore_n (lv' := [(3, .int (kG st oc no N (kStp mm no r1).1)), (0, .ref (ad 4)), (1, .int (nI N)), (2, .int (nI k1))]) hx hb dX0_search_41 rfl hl (by decide) rfl (fun ls hl => ?_)
          refine lv_iload_n hx hb dX0_search_42 rfl (lv_at hl 0 rfl) ?_
          refine lv_aload_n hx hb dX0_search_43 rfl (lv_at hl 1 rfl) ?_
          refine kg_get (v := .int g1) (C := RX0) (T := TX0) (N := 8) hx hb hts hinX0 hown hK hw h_30 rfl 6 (by decide) (hts (.fieldLink RX0 50 "BetMaker$Board" "bestGain" "I") (by decide +kernel)) (fun _ h9 => h9) rfl dX0_search_44 ?_
          refine lv_icmp_le (tgt := 70) hx hb dX0_search_47 (by decide) (fun c_46 => ?_) (fun c_46 => ?_)
          · refine lv_iinc (v := (nI (k1 + 1))) (lv' := [(2, .int (nI (k1 + 1))), (3, .int (kG st oc no N (kStp mm no r1).1)), (0, .ref (ad 4)), (1, .int (nI N))]) hx hb dX0_search_70 hl (k := 3) rfl (nI_1 k1) (by decide) rfl (fun ls hl => ?_)
            refine lv_goto (tgt := 14) hx hb dX0_search_73 (by decide) ?_
            exact ih14 (k1 + 1) ((kStp mm no r1).1) g1 rb1 _ _ _ ls (by omega) (by omega) (by omega) (by exact kStp_bd (Nat.le_refl _) hbd) (by rw [← hB, kFo_t (k1 := 4096 - (k1 + 1)) (by omega) (kpr c_34), if_neg (kq_4 c_46), if_neg (kq_4 c_46)]) h_28 (h_30.trans (congrArg some (show (.inr (0, [.ref (ad 5), .ref (ad 6), .ref (ad 7), .ref (ad 8), .int (nI no), .int (kco oc (kStp mm no r1).1 no), .int g1, .int (kb (se = true))]) : va_E) = .inr (0, [.ref (ad 5), .ref (ad 6), .ref (ad 7), .ref (ad 8), .int (nI no), .int (kco oc ((kStp mm no r1).1) no), .int g1, .int (kb (se = true))]) from by rfl))) (h_31.trans (congrArg some (show (eI tc 6 (kCp rw (fun f => nI ((kStp mm no r1).1 f)) 6) : va_E) = eI tc 6 (kCp rw (fun f => nI (((kStp mm no r1).1) f)) 6) from by rfl))) h_29 (h_32.trans (congrArg some (show (eI tc 8 (kCp cv (kcv st (kStp mm no r1).1 no) 8) : va_E) = eI tc 8 (kCp cv (kcv st ((kStp mm no r1).1) no) 8) from by rfl))) hfr_33 hw (lv_sub hl [2, 3, 0] rfl)
          · refine lv_aload_n hx hb dX0_search_50 rfl (lv_at hl 1 rfl) ?_
            refine lv_iload_n hx hb dX0_search_51 rfl (lv_at hl 0 rfl) ?_
            refine kg_put (v := .int (kG st oc no N (kStp mm no r1).1)) (ty := .int) (C := RX0) (T := TX0) (N := 8) (fs' := [.ref (ad 5), .ref (ad 6), .ref (ad 7), .ref (ad 8), .int (nI no), .int (kco oc (kStp mm no r1).1 no), .int (kG st oc no N (kStp mm no r1).1), .int (kb (se = true))]) hx hb hts hinX0 tyX0 tyX0_ok nmX0 hown hK hw h_30 rfl 6 (by decide) (hts (.fieldLink RX0 50 "BetMaker$Board" "bestGain" "I") (by decide +kernel)) (fun _ h9 => h9) rfl (by decide +kernel) rfl rfl (Nat.le_of_ble_eq_true rfl) rfl dX0_search_52 (fun H locs hw => ?_)
            obtain ⟨ct_47, ect_47⟩ : ∃ z, z = kw_up ct_27 4 (.inr (0, [.ref (ad 5), .ref (ad 6), .ref (ad 7), .ref (ad 8), .int (nI no), .int (kco oc (kStp mm no r1).1 no), .int (kG st oc no N (kStp mm no r1).1), .int (kb (se = true))])) := ⟨_, rfl⟩
            rw [← ect_47] at hw
            have h_48 : ct_47 5 = some (eQ tc 3 6 qo) := by rw [ect_47, kw_up_n (by omega)]; exact h_28
            have h_49 : ct_47 7 = some (eI tc 6 (kCp br (fun f => nI (rb1 f)) 6)) := by rw [ect_47, kw_up_n (by omega)]; exact h_29
            have h_50 : ct_47 6 = some (eI tc 6 (kCp rw (fun f => nI ((kStp mm no r1).1 f)) 6)) := by rw [ect_47, kw_up_n (by omega)]; exact h_31
            have h_51 : ct_47 8 = some (eI tc 8 (kCp cv (kcv st (kStp mm no r1).1 no) 8)) := by rw [ect_47, kw_up_n (by omega)]; exact h_32
            have h_52 : ct_47 4 = some (.inr (0, [.ref (ad 5), .ref (ad 6), .ref (ad 7), .ref (ad 8), .int (nI no), .int (kco oc (kStp mm no r1).1 no), .int (kG st oc no N (kStp mm no r1).1), .int (kb (se = true))])) := by rw [ect_47]; exact kw_up_s
            have hfr_53 : ∀ j, j ≠ 4 → j ≠ 6 → j ≠ 7 → j ≠ 8 → ct_47 j = ct j := fun j a0 a1 a2 a3 => by rw [ect_47]; exact (kw_up_n a0).trans (hfr_33 j a0 a1 a2 a3)
            refine lv_aload_n hx hb dX0_search_55 rfl (lv_at hl 1 rfl) ?_
            refine kg_get (v := .ref (ad 6)) (C := RX0) (T := TX0) (N := 8) hx hb hts hinX0 hown hK hw h_52 rfl 1 (by decide) (hts (.fieldLink RX0 17 "BetMaker$Board" "row" "[I") (by decide +kernel)) (fun _ h9 => h9) rfl dX0_search_56 ?_
            refine lv_iconst (v := 0) hx hb dX0_search_59 (by decide) ?_
            refine lv_aload_n hx hb dX0_search_60 rfl (lv_at hl 1 rfl) ?_
            refine kg_get (v := .ref (ad 7)) (C := RX0) (T := TX0) (N := 8) hx hb hts hinX0 hown hK hw h_52 rfl 2 (by decide) (hts (.fieldLink RX0 21 "BetMaker$Board" "bestRow" "[I") (by decide +kernel)) (fun _ h9 => h9) rfl dX0_search_61 ?_
            refine lv_iconst (v := 0) hx hb dX0_search_64 (by decide) ?_
            refine lv_bipush (v := 6) hx hb dX0_search_65 (by decide) ?_
            refine kg_copyi hx hb (by rw [hml]; exact hl.1.symm) hown (hts (.methodLink RX0 66 arraycopyName) (by decide +kernel)) (hts (.native arraycopyName) (by decide +kernel)) (hts (.static arraycopyName) (by decide +kernel)) (hts (.initialized "java/lang/System") (by decide +kernel)) hK hw h_50 h_49 6 rfl (by omega) (by omega) (by omega) (Nat.le_of_ble_eq_true rfl) (by decide +kernel) dX0_search_67 (fun H locs hw => ?_)
            obtain ⟨ct_54, ect_54⟩ : ∃ z, z = kw_up ct_47 7 (eI tc 6 (kCp (kCp br (fun f => nI (rb1 f)) 6) (kCp rw (fun f => nI ((kStp mm no r1).1 f)) 6) 6)) := ⟨_, rfl⟩
            rw [← ect_54] at hw
            have h_55 : ct_54 5 = some (eQ tc 3 6 qo) := by rw [ect_54, kw_up_n (by omega)]; exact h_48
            have h_56 : ct_54 6 = some (eI tc 6 (kCp rw (fun f => nI ((kStp mm no r1).1 f)) 6)) := by rw [ect_54, kw_up_n (by omega)]; exact h_50
            have h_57 : ct_54 8 = some (eI tc 8 (kCp cv (kcv st (kStp mm no r1).1 no) 8)) := by rw [ect_54, kw_up_n (by omega)]; exact h_51
            have h_58 : ct_54 4 = some (.inr (0, [.ref (ad 5), .ref (ad 6), .ref (ad 7), .ref (ad 8), .int (nI no), .int (kco oc (kStp mm no r1).1 no), .int (kG st oc no N (kStp mm no r1).1), .int (kb (se = true))])) := by rw [ect_54, kw_up_n (by omega)]; exact h_52
            have h_59 : ct_54 7 = some (eI tc 6 (kCp (kCp br (fun f => nI (rb1 f)) 6) (kCp rw (fun f => nI ((kStp mm no r1).1 f)) 6) 6)) := by rw [ect_54]; exact kw_up_s
            have hfr_60 : ∀ j, j ≠ 4 → j ≠ 6 → j ≠ 7 → j ≠ 8 → ct_54 j = ct j := fun j a0 a1 a2 a3 => by rw [ect_54]; exact (kw_up_n a2).trans (hfr_53 j a0 a1 a2 a3)
            refine lv_iinc (v := (nI (k1 + 1))) (lv' := [(2, .int (nI (k1 + 1))), (3, .int (kG st oc no N (kStp mm no r1).1)), (0, .ref (ad 4)), (1, .int (nI N))]) hx hb dX0_search_70 hl (k := 3) rfl (nI_1 k1) (by decide) rfl (fun ls hl => ?_)
            refine lv_goto (tgt := 14) hx hb dX0_search_73 (by decide) ?_
            exact ih14 (k1 + 1) ((kStp mm no r1).1) (kG st oc no N (kStp mm no r1).1) ((kStp mm no r1).1) _ _ _ ls (by omega) (by omega) (by omega) (by exact kStp_bd (Nat.le_refl _) hbd) (by rw [← hB, kFo_t (k1 := 4096 - (k1 + 1)) (by omega) (kpr c_34), if_pos (kq_2 c_46), if_pos (kq_2 c_46)]) h_55 (h_58.trans (congrArg some (show (.inr (0, [.ref (ad 5), .ref (ad 6), .ref (ad 7), .ref (ad 8), .int (nI no), .int (kco oc (kStp mm no r1).1 no), .int (kG st oc no N (kStp mm no r1).1), .int (kb (se = true))]) : va_E) = .inr (0, [.ref (ad 5), .ref (ad 6), .ref (ad 7), .ref (ad 8), .int (nI no), .int (kco oc ((kStp mm no r1).1) no), .int (kG st oc no N (kStp mm no r1).1), .int (kb (se = true))]) from by rfl))) (h_56.trans (congrArg some (show (eI tc 6 (kCp rw (fun f => nI ((kStp mm no r1).1 f)) 6) : va_E) = eI tc 6 (kCp rw (fun f => nI (((kStp mm no r1).1) f)) 6) from by rfl))) (h_59.trans (congrArg some (show (eI tc 6 (kCp (kCp br (fun f => nI (rb1 f)) 6) (kCp rw (fun f => nI ((kStp mm no r1).1 f)) 6) 6) : va_E) = eI tc 6 (kCp br (fun f => nI (((kStp mm no r1).1) f)) 6) from by rw [kCp_cp2]))) (h_57.trans (congrArg some (show (eI tc 8 (kCp cv (kcv st (kStp mm no r1).1 no) 8) : va_E) = eI tc 8 (kCp cv (kcv st ((kStp mm no r1).1) no) 8) from by rfl))) hfr_60 hw (lv_sub hl [2, 3, 0] rfl)
  · exact absurd c_1 hse
set_option maxHeartbeats 4000000 in
set_option maxRecDepth 100000 in
theorem c_X0_search_c (l : Launch) (D : va_G) (tc : Nat → ClassId) (sz : Nat) (ad : Nat → Nat) (ct : Nat → Option va_E) {N no : Nat} {co bg : Int32}     {se : Bool}  (h4 : ct 4 = some (.inr (0, [.ref (ad 5), .ref (ad 6), .ref (ad 7), .ref (ad 8), .int (nI no), .int co, .int bg, .int (kb (se = true))]))) (hse : se = true) : Met l yX0_search wsX0_search ({ frames := 3, cells := 0, slots := 0, locals := 79 }) (va_Pc [.ref (ad 4), .int (nI N)] (kw_B D tc sz ad ct)) (kw_Q D ad (kw_A ad ct sz) (none) (kw_up ct 4 (.inr (0, [.ref (ad 5), .ref (ad 6), .ref (ad 7), .ref (ad 8), .int (nI no), .int co, .int bg, .int (kb (se = true))]))) 0) 0 0 (kw_A ad ct sz) := by
  refine Met.ofW (cc := cX0_search) (maxL := 4) (ret := none) (by decide) rfl ?_
  intro pg en s m args below meth cod s₁ B hml hv
  obtain ⟨rfl, hsz, hP0, hK⟩ := hv
  have hx := B.exec
  have hb := B.bytes
  have hr := B.returns
  have hts := atoms_spec (ws := wsX0_search) B.pre
  have hown : s.vm.findClass RX0 = some m.cls := findClass_of_methodNamed B.named
  have hlocks := B.notSynchronized
  subst hsz
  have hw := kw_H.start hP0
  generalize hAe : kw_A ad ct s.heap.size = A at hw ⊢
  have hA : ∀ q, s.heap.size ≤ q → A q := fun q h => by rw [← hAe]; exact Or.inr h
  have hinX0 : ∀ w ∈ wsX00, w ∈ wsX0_search := by decide +kernel
  have hl := lv_entry ([.ref (ad 4), .int (nI N)]) (n := 4) (Nat.le_of_ble_eq_true rfl)
  rw [lg_entry_eq]
  generalize (lg_sl ([.ref (ad 4), .int (nI N)]) ++ List.replicate (4 - (lg_sl ([.ref (ad 4), .int (nI N)])).length) Slot.unset).toArray = ls at hl ⊢
  have hl : lv_has ls 4 [(0, .ref (ad 4)), (1, .int (nI N))] := hl
  have S0 : CallFix pg m cod cX0_search 4 s _ wsX0_search RX0 := ⟨hx, hb, hml, hown, hts⟩
  have hfr : ∀ j, j ≠ 4 → ct j = ct j := fun _ _ => rfl
  refine lv_aload_n hx hb dX0_search_0 rfl (lv_at hl 0 rfl) ?_
  refine kg_get (v := .int (kb (se = true))) (C := RX0) (T := TX0) (N := 8) hx hb hts hinX0 hown hK hw h4 rfl 7 (by decide) (hts (.fieldLink RX0 31 "BetMaker$Board" "searched" "Z") (by decide +kernel)) (fun _ h9 => h9) rfl dX0_search_1 ?_
  refine kb_ifeq (tgt := 8) hx hb dX0_search_4 (by decide) (fun c_1 => ?_) (fun c_1 => ?_)
  · exact absurd hse c_1
  · have hq_2 := h4
    have hend := kw_eq1 hq_2 hfr
    rw [hend] at hw
    exact W.vret hx hb hr (fun t ht _ => ⟨rfl, by rw [ht]; exact hw.1, hw.2.2.1, hw.2.1.F ht, by rw [ht]; exact hw.2.2.2⟩) hw.2.1.2.2 dX0_search_7
set_option maxHeartbeats 4000000 in
set_option maxRecDepth 100000 in
theorem c_X0_bestGain (l : Launch) (D : va_G) (tc : Nat → ClassId) (sz : Nat) (ad : Nat → Nat) (ct : Nat → Option va_E) {N no : Nat} {co bg : Int32}   {qo : Nat → Option Nat} {rw br cv : Nat → Int32} {se : Bool} {st oc : Nat → Int32} {mm : Nat → Nat} (h4 : ct 4 = some (.inr (0, [.ref (ad 5), .ref (ad 6), .ref (ad 7), .ref (ad 8), .int (nI no), .int co, .int bg, .int (kb (se = true))]))) (h5 : ct 5 = some (eQ tc 3 6 qo)) (h6 : ct 6 = some (eI tc 6 rw)) (h7 : ct 7 = some (eI tc 6 br)) (h8 : ct 8 = some (eI tc 8 cv)) (hno : no ≤ 6) (hN : N ≤ 8) (hN2 : 2 ≤ N) (hfam : ∀ yy, yy < no → qo yy = some (ad (60 + yy)) ∧ ct (60 + yy) = some (.inr (4, [.int (st yy), .int (oc yy), .int (nI (mm yy))]))) (hm3 : ∀ y9, y9 < no → mm y9 ≤ 3) (hse : ¬ (se = true)) : Met l yX0_bestGain wsX0_bestGain ({ frames := 4, cells := 0, slots := 0, locals := 106 }) (va_Pc [.ref (ad 4), .int (nI N)] (kw_B D tc sz ad ct)) (kw_Q D ad (kw_A ad ct sz) (some (.int ((kFo mm (kG st oc no N) no 4095 (fun _ => 0) 0 (fun _ => 0)).2.1))) (kw_up (kw_up (kw_up (kw_up ct 4 (.inr (0, [.ref (ad 5), .ref (ad 6), .ref (ad 7), .ref (ad 8), .int (nI no), .int (kco oc (kFo mm (kG st oc no N) no 4095 (fun _ => 0) 0 (fun _ => 0)).1 no), .int ((kFo mm (kG st oc no N) no 4095 (fun _ => 0) 0 (fun _ => 0)).2.1), .int (kb (true = true))]))) 6 (eI tc 6 (kCp rw (fun f => nI ((kFo mm (kG st oc no N) no 4095 (fun _ => 0) 0 (fun _ => 0)).1 f)) 6))) 7 (eI tc 6 (kCp br (fun f => nI ((kFo mm (kG st oc no N) no 4095 (fun _ => 0) 0 (fun _ => 0)).2.2 f)) 6))) 8 (eI tc 8 (kCp cv (kcv st (kFo mm (kG st oc no N) no 4095 (fun _ => 0) 0 (fun _ => 0)).1 no) 8))) 0) 0 0 (kw_A ad ct sz) := by
  refine Met.ofW (cc := cX0_bestGain) (maxL := 2) (ret := (some .int)) (by decide) rfl ?_
  intro pg en s m args below meth cod s₁ B hml hv
  obtain ⟨rfl, hsz, hP0, hK⟩ := hv
  have hx := B.exec
  have hb := B.bytes
  have hr := B.returns
  have hts := atoms_spec (ws := wsX0_bestGain) B.pre
  have hown : s.vm.findClass RX0 = some m.cls := findClass_of_methodNamed B.named
  have hlocks := B.notSynchronized
  subst hsz
  have hw := kw_H.start hP0
  generalize hAe : kw_A ad ct s.heap.size = A at hw ⊢
  have hA : ∀ q, s.heap.size ≤ q → A q := fun q h => by rw [← hAe]; exact Or.inr h
  have hinX0 : ∀ w ∈ wsX00, w ∈ wsX0_bestGain := by decide +kernel
  have hl := lv_entry ([.ref (ad 4), .int (nI N)]) (n := 2) (Nat.le_of_ble_eq_true rfl)
  rw [lg_entry_eq]
  generalize (lg_sl ([.ref (ad 4), .int (nI N)]) ++ List.replicate (2 - (lg_sl ([.ref (ad 4), .int (nI N)])).length) Slot.unset).toArray = ls at hl ⊢
  have hl : lv_has ls 2 [(0, .ref (ad 4)), (1, .int (nI N))] := hl
  have S0 : CallFix pg m cod cX0_bestGain 2 s _ wsX0_bestGain RX0 := ⟨hx, hb, hml, hown, hts⟩
  have hfr : ∀ j, j ≠ 4 → j ≠ 6 → j ≠ 7 → j ≠ 8 → ct j = ct j := fun _ _ _ _ _ => rfl
  refine lv_aload_n hx hb dX0_bestGain_0 rfl (lv_at hl 0 rfl) ?_
  refine lv_iload_n hx hb dX0_bestGain_1 rfl (lv_at hl 1 rfl) ?_
  refine kc_vu (As := [.int (nI N)]) (rest := []) S0 (c_X0_search l D tc s.heap.size ad ct (N := N) (no := no) h4 h5 h6 h7 h8 (by omega) (by omega) (by omega) hfam hm3 hse) (cwV 1 hts gX0_bestGain_X0_search rfl rfl rfl (by decide +kernel) ⟨Nat.le_of_ble_eq_true rfl, Nat.le_of_ble_eq_true rfl⟩) hK hw hA h4 rfl rfl hl.1 rfl (Nat.le_of_ble_eq_true rfl) dX0_bestGain_2 ⟨Nat.le_of_ble_eq_true rfl, (Nat.le_of_ble_eq_true rfl)⟩ (fun H locs hw => ?_)
  obtain ⟨ct_1, ect_1⟩ : ∃ z, z = kw_up (kw_up (kw_up (kw_up ct 4 (.inr (0, [.ref (ad 5), .ref (ad 6), .ref (ad 7), .ref (ad 8), .int (nI no), .int (kco oc (kFo mm (kG st oc no N) no 4095 (fun _ => 0) 0 (fun _ => 0)).1 no), .int ((kFo mm (kG st oc no N) no 4095 (fun _ => 0) 0 (fun _ => 0)).2.1), .int (kb (true = true))]))) 6 (eI tc 6 (kCp rw (fun f => nI ((kFo mm (kG st oc no N) no 4095 (fun _ => 0) 0 (fun _ => 0)).1 f)) 6))) 7 (eI tc 6 (kCp br (fun f => nI ((kFo mm (kG st oc no N) no 4095 (fun _ => 0) 0 (fun _ => 0)).2.2 f)) 6))) 8 (eI tc 8 (kCp cv (kcv st (kFo mm (kG st oc no N) no 4095 (fun _ => 0) 0 (fun _ => 0)).1 no) 8)) := ⟨_, rfl⟩
  rw [← ect_1] at hw
  have h_2 : ct_1 5 = some (eQ tc 3 6 qo) := by rw [ect_1, kw_up_n (by omega), kw_up_n (by omega), kw_up_n (by omega), kw_up_n (by omega)]; exact h5
  have h_3 : ct_1 4 = some (.inr (0, [.ref (ad 5), .ref (ad 6), .ref (ad 7), .ref (ad 8), .int (nI no), .int (kco oc (kFo mm (kG st oc no N) no 4095 (fun _ => 0) 0 (fun _ => 0)).1 no), .int ((kFo mm (kG st oc no N) no 4095 (fun _ => 0) 0 (fun _ => 0)).2.1), .int (kb (true = true))])) := by rw [ect_1, kw_up_n (by omega), kw_up_n (by omega), kw_up_n (by omega)]; exact kw_up_s
  have h_4 : ct_1 6 = some (eI tc 6 (kCp rw (fun f => nI ((kFo mm (kG st oc no N) no 4095 (fun _ => 0) 0 (fun _ => 0)).1 f)) 6)) := by rw [ect_1, kw_up_n (by omega), kw_up_n (by omega)]; exact kw_up_s
  have h_5 : ct_1 7 = some (eI tc 6 (kCp br (fun f => nI ((kFo mm (kG st oc no N) no 4095 (fun _ => 0) 0 (fun _ => 0)).2.2 f)) 6)) := by rw [ect_1, kw_up_n (by omega)]; exact kw_up_s
  have h_6 : ct_1 8 = some (eI tc 8 (kCp cv (kcv st (kFo mm (kG st oc no N) no 4095 (fun _ => 0) 0 (fun _ => 0)).1 no) 8)) := by rw [ect_1]; exact kw_up_s
  have hfr_7 : ∀ j, j ≠ 4 → j ≠ 6 → j ≠ 7 → j ≠ 8 → ct_1 j = ct j := fun j a0 a1 a2 a3 => by rw [ect_1]; exact (kw_up_n a3).trans ((kw_up_n a2).trans ((kw_up_n a1).trans ((kw_up_n a0).trans (hfr j a0 a1 a2 a3))))
  refine lv_aload_n hx hb dX0_bestGain_5 rfl (lv_at hl 0 rfl) ?_
  refine kg_get (v := .int ((kFo mm (kG st oc no N) no 4095 (fun _ => 0) 0 (fun _ => 0)).2.1)) (C := RX0) (T := TX0) (N := 8) hx hb hts hinX0 hown hK hw h_3 rfl 6 (by decide) (hts (.fieldLink RX0 50 "BetMaker$Board" "bestGain" "I") (by decide +kernel)) (fun _ h9 => h9) rfl dX0_bestGain_6 ?_
  have hq_8 := h_3
  have hq_9 := h_4
  have hq_10 := h_5
  have hq_11 := h_6
  have hend := kw_eq4 hq_8 hq_9 hq_10 hq_11 hfr_7
  rw [hend] at hw
  exact W.iret hx hb hr (fun t ht _ => ⟨rfl, by rw [ht]; exact hw.1, hw.2.2.1, hw.2.1.F ht, by rw [ht]; exact hw.2.2.2⟩) hw.2.1.2.2 dX0_bestGain_9
set_option maxHeartbeats 4000000 in
set_option maxRecDepth 100000 in
theorem c_X0_bestGain_c (l : Launch) (D : va_G) (tc : Nat → ClassId) (sz : Nat) (ad : Nat → Nat) (ct : Nat → Option va_E) {N no : Nat} {co bg : Int32}     {se : Bool}  (h4 : ct 4 = some (.inr (0, [.ref (ad 5), .ref (ad 6), .ref (ad 7), .ref (ad 8), .int (nI no), .int co, .int bg, .int (kb (se = true))]))) (hse : se = true) : Met l yX0_bestGain wsX0_bestGain ({ frames := 4, cells := 0, slots := 0, locals := 106 }) (va_Pc [.ref (ad 4), .int (nI N)] (kw_B D tc sz ad ct)) (kw_Q D ad (kw_A ad ct sz) (some (.int bg)) (kw_up ct 4 (.inr (0, [.ref (ad 5), .ref (ad 6), .ref (ad 7), .ref (ad 8), .int (nI no), .int co, .int bg, .int (kb (se = true))]))) 0) 0 0 (kw_A ad ct sz) := by
  refine Met.ofW (cc := cX0_bestGain) (maxL := 2) (ret := (some .int)) (by decide) rfl ?_
  intro pg en s m args below meth cod s₁ B hml hv
  obtain ⟨rfl, hsz, hP0, hK⟩ := hv
  have hx := B.exec
  have hb := B.bytes
  have hr := B.returns
  have hts := atoms_spec (ws := wsX0_bestGain) B.pre
  have hown : s.vm.findClass RX0 = some m.cls := findClass_of_methodNamed B.named
  have hlocks := B.notSynchronized
  subst hsz
  have hw := kw_H.start hP0
  generalize hAe : kw_A ad ct s.heap.size = A at hw ⊢
  have hA : ∀ q, s.heap.size ≤ q → A q := fun q h => by rw [← hAe]; exact Or.inr h
  have hinX0 : ∀ w ∈ wsX00, w ∈ wsX0_bestGain := by decide +kernel
  have hl := lv_entry ([.ref (ad 4), .int (nI N)]) (n := 2) (Nat.le_of_ble_eq_true rfl)
  rw [lg_entry_eq]
  generalize (lg_sl ([.ref (ad 4), .int (nI N)]) ++ List.replicate (2 - (lg_sl ([.ref (ad 4), .int (nI N)])).length) Slot.unset).toArray = ls at hl ⊢
  have hl : lv_has ls 2 [(0, .ref (ad 4)), (1, .int (nI N))] := hl
  have S0 : CallFix pg m cod cX0_bestGain 2 s _ wsX0_bestGain RX0 := ⟨hx, hb, hml, hown, hts⟩
  have hfr : ∀ j, j ≠ 4 → ct j = ct j := fun _ _ => rfl
  refine lv_aload_n hx hb dX0_bestGain_0 rfl (lv_at hl 0 rfl) ?_
  refine lv_iload_n hx hb dX0_bestGain_1 rfl (lv_at hl 1 rfl) ?_
  refine kc_vu (As := [.int (nI N)]) (rest := []) S0 (c_X0_search_c l D tc s.heap.size ad ct (N := N) (no := no) h4 hse) (cwV 1 hts gX0_bestGain_X0_search rfl rfl rfl (by decide +kernel) ⟨Nat.le_of_ble_eq_true rfl, Nat.le_of_ble_eq_true rfl⟩) hK hw hA h4 rfl rfl hl.1 rfl (Nat.le_of_ble_eq_true rfl) dX0_bestGain_2 ⟨Nat.le_of_ble_eq_true rfl, (Nat.le_of_ble_eq_true rfl)⟩ (fun H locs hw => ?_)
  obtain ⟨ct_1, ect_1⟩ : ∃ z, z = kw_up ct 4 (.inr (0, [.ref (ad 5), .ref (ad 6), .ref (ad 7), .ref (ad 8), .int (nI no), .int co, .int bg, .int (kb (se = true))])) := ⟨_, rfl⟩
  rw [← ect_1] at hw
  have h_2 : ct_1 4 = some (.inr (0, [.ref (ad 5), .ref (ad 6), .ref (ad 7), .ref (ad 8), .int (nI no), .int co, .int bg, .int (kb (se = true))])) := by rw [ect_1]; exact kw_up_s
  have hfr_3 : ∀ j, j ≠ 4 → ct_1 j = ct j := fun j a0 => by rw [ect_1]; exact (kw_up_n a0).trans (hfr j a0)
  refine lv_aload_n hx hb dX0_bestGain_5 rfl (lv_at hl 0 rfl) ?_
  refine kg_get (v := .int bg) (C := RX0) (T := TX0) (N := 8) hx hb hts hinX0 hown hK hw h_2 rfl 6 (by decide) (hts (.fieldLink RX0 50 "BetMaker$Board" "bestGain" "I") (by decide +kernel)) (fun _ h9 => h9) rfl dX0_bestGain_6 ?_
  have hq_4 := h_2
  have hend := kw_eq1 hq_4 hfr_3
  rw [hend] at hw
  exact W.iret hx hb hr (fun t ht _ => ⟨rfl, by rw [ht]; exact hw.1, hw.2.2.1, hw.2.1.F ht, by rw [ht]; exact hw.2.2.2⟩) hw.2.1.2.2 dX0_bestGain_9
set_option maxHeartbeats 4000000 in
set_option maxRecDepth 100000 in
theorem c_X0_bestShares (l : Launch) (D : va_G) (tc : Nat → ClassId) (sz : Nat) (ad : Nat → Nat) (ct : Nat → Option va_E) {N no fx : Nat} {co bg : Int32}   {qo : Nat → Option Nat} {rw br cv : Nat → Int32} {se : Bool} {st oc : Nat → Int32} {mm : Nat → Nat} (h4 : ct 4 = some (.inr (0, [.ref (ad 5), .ref (ad 6), .ref (ad 7), .ref (ad 8), .int (nI no), .int co, .int bg, .int (kb (se = true))]))) (h5 : ct 5 = some (eQ tc 3 6 qo)) (h6 : ct 6 = some (eI tc 6 rw)) (h7 : ct 7 = some (eI tc 6 br)) (h8 : ct 8 = some (eI tc 8 cv)) (hno : no ≤ 6) (hN : N ≤ 8) (hN2 : 2 ≤ N) (hfam : ∀ yy, yy < no → qo yy = some (ad (60 + yy)) ∧ ct (60 + yy) = some (.inr (4, [.int (st yy), .int (oc yy), .int (nI (mm yy))]))) (hm3 : ∀ y9, y9 < no → mm y9 ≤ 3) (hse : ¬ (se = true)) (hf6 : fx < 6) : Met l yX0_bestShares wsX0_bestShares ({ frames := 4, cells := 0, slots := 0, locals := 106 }) (va_Pc [.ref (ad 4), .int (nI fx), .int (nI N)] (kw_B D tc sz ad ct)) (kw_Q D ad (kw_A ad ct sz) (some (.int (nI ((kFo mm (kG st oc no N) no 4095 (fun _ => 0) 0 (fun _ => 0)).2.2 fx)))) (kw_up (kw_up (kw_up (kw_up ct 4 (.inr (0, [.ref (ad 5), .ref (ad 6), .ref (ad 7), .ref (ad 8), .int (nI no), .int (kco oc (kFo mm (kG st oc no N) no 4095 (fun _ => 0) 0 (fun _ => 0)).1 no), .int ((kFo mm (kG st oc no N) no 4095 (fun _ => 0) 0 (fun _ => 0)).2.1), .int (kb (true = true))]))) 6 (eI tc 6 (kCp rw (fun f => nI ((kFo mm (kG st oc no N) no 4095 (fun _ => 0) 0 (fun _ => 0)).1 f)) 6))) 7 (eI tc 6 (kCp br (fun f => nI ((kFo mm (kG st oc no N) no 4095 (fun _ => 0) 0 (fun _ => 0)).2.2 f)) 6))) 8 (eI tc 8 (kCp cv (kcv st (kFo mm (kG st oc no N) no 4095 (fun _ => 0) 0 (fun _ => 0)).1 no) 8))) 0) 0 0 (kw_A ad ct sz) := by
  refine Met.ofW (cc := cX0_bestShares) (maxL := 3) (ret := (some .int)) (by decide) rfl ?_
  intro pg en s m args below meth cod s₁ B hml hv
  obtain ⟨rfl, hsz, hP0, hK⟩ := hv
  have hx := B.exec
  have hb := B.bytes
  have hr := B.returns
  have hts := atoms_spec (ws := wsX0_bestShares) B.pre
  have hown : s.vm.findClass RX0 = some m.cls := findClass_of_methodNamed B.named
  have hlocks := B.notSynchronized
  subst hsz
  have hw := kw_H.start hP0
  generalize hAe : kw_A ad ct s.heap.size = A at hw ⊢
  have hA : ∀ q, s.heap.size ≤ q → A q := fun q h => by rw [← hAe]; exact Or.inr h
  have hinX0 : ∀ w ∈ wsX00, w ∈ wsX0_bestShares := by decide +kernel
  have hl := lv_entry ([.ref (ad 4), .int (nI fx), .int (nI N)]) (n := 3) (Nat.le_of_ble_eq_true rfl)
  rw [lg_entry_eq]
  generalize (lg_sl ([.ref (ad 4), .int (nI fx), .int (nI N)]) ++ List.replicate (3 - (lg_sl ([.ref (ad 4), .int (nI fx), .int (nI N)])).length) Slot.unset).toArray = ls at hl ⊢
  have hl : lv_has ls 3 [(0, .ref (ad 4)), (1, .int (nI fx)), (2, .int (nI N))] := hl
  have S0 : CallFix pg m cod cX0_bestShares 3 s _ wsX0_bestShares RX0 := ⟨hx, hb, hml, hown, hts⟩
  have hfr : ∀ j, j ≠ 4 → j ≠ 6 → j ≠ 7 → j ≠ 8 → ct j = ct j := fun _ _ _ _ _ => rfl
  refine lv_aload_n hx hb dX0_bestShares_0 rfl (lv_at hl 0 rfl) ?_
  refine lv_iload_n hx hb dX0_bestShares_1 rfl (lv_at hl 2 rfl) ?_
  refine kc_vu (As := [.int (nI N)]) (rest := []) S0 (c_X0_search l D tc s.heap.size ad ct (N := N) (no := no) h4 h5 h6 h7 h8 (by omega) (by omega) (by omega) hfam hm3 hse) (cwV 1 hts gX0_bestShares_X0_search rfl rfl rfl (by decide +kernel) ⟨Nat.le_of_ble_eq_true rfl, Nat.le_of_ble_eq_true rfl⟩) hK hw hA h4 rfl rfl hl.1 rfl (Nat.le_of_ble_eq_true rfl) dX0_bestShares_2 ⟨Nat.le_of_ble_eq_true rfl, (Nat.le_of_ble_eq_true rfl)⟩ (fun H locs hw => ?_)
  obtain ⟨ct_1, ect_1⟩ : ∃ z, z = kw_up (kw_up (kw_up (kw_up ct 4 (.inr (0, [.ref (ad 5), .ref (ad 6), .ref (ad 7), .ref (ad 8), .int (nI no), .int (kco oc (kFo mm (kG st oc no N) no 4095 (fun _ => 0) 0 (fun _ => 0)).1 no), .int ((kFo mm (kG st oc no N) no 4095 (fun _ => 0) 0 (fun _ => 0)).2.1), .int (kb (true = true))]))) 6 (eI tc 6 (kCp rw (fun f => nI ((kFo mm (kG st oc no N) no 4095 (fun _ => 0) 0 (fun _ => 0)).1 f)) 6))) 7 (eI tc 6 (kCp br (fun f => nI ((kFo mm (kG st oc no N) no 4095 (fun _ => 0) 0 (fun _ => 0)).2.2 f)) 6))) 8 (eI tc 8 (kCp cv (kcv st (kFo mm (kG st oc no N) no 4095 (fun _ => 0) 0 (fun _ => 0)).1 no) 8)) := ⟨_, rfl⟩
  rw [← ect_1] at hw
  have h_2 : ct_1 5 = some (eQ tc 3 6 qo) := by rw [ect_1, kw_up_n (by omega), kw_up_n (by omega), kw_up_n (by omega), kw_up_n (by omega)]; exact h5
  have h_3 : ct_1 4 = some (.inr (0, [.ref (ad 5), .ref (ad 6), .ref (ad 7), .ref (ad 8), .int (nI no), .int (kco oc (kFo mm (kG st oc no N) no 4095 (fun _ => 0) 0 (fun _ => 0)).1 no), .int ((kFo mm (kG st oc no N) no 4095 (fun _ => 0) 0 (fun _ => 0)).2.1), .int (kb (true = true))])) := by rw [ect_1, kw_up_n (by omega), kw_up_n (by omega), kw_up_n (by omega)]; exact kw_up_s
  have h_4 : ct_1 6 = some (eI tc 6 (kCp rw (fun f => nI ((kFo mm (kG st oc no N) no 4095 (fun _ => 0) 0 (fun _ => 0)).1 f)) 6)) := by rw [ect_1, kw_up_n (by omega), kw_up_n (by omega)]; exact kw_up_s
  have h_5 : ct_1 7 = some (eI tc 6 (kCp br (fun f => nI ((kFo mm (kG st oc no N) no 4095 (fun _ => 0) 0 (fun _ => 0)).2.2 f)) 6)) := by rw [ect_1, kw_up_n (by omega)]; exact kw_up_s
  have h_6 : ct_1 8 = some (eI tc 8 (kCp cv (kcv st (kFo mm (kG st oc no N) no 4095 (fun _ => 0) 0 (fun _ => 0)).1 no) 8)) := by rw [ect_1]; exact kw_up_s
  have hfr_7 : ∀ j, j ≠ 4 → j ≠ 6 → j ≠ 7 → j ≠ 8 → ct_1 j = ct j := fun j a0 a1 a2 a3 => by rw [ect_1]; exact (kw_up_n a3).trans ((kw_up_n a2).trans ((kw_up_n a1).trans ((kw_up_n a0).trans (hfr j a0 a1 a2 a3))))
  refine lv_iload_n hx hb dX0_bestShares_5 rfl (lv_at hl 1 rfl) ?_
  refine lv_if_lt (tgt := 24) hx hb dX0_bestShares_6 (by decide) (fun c_8 => ?_) (fun c_8 => ?_)
  · exact absurd c_8 (nI_pos (by omega))
  · refine lv_iload_n hx hb dX0_bestShares_9 rfl (lv_at hl 1 rfl) ?_
    refine lv_bipush (v := 6) hx hb dX0_bestShares_10 (by decide) ?_
    refine kn_ge fx 6 rfl rfl (by omega) (by omega) (tgt := 24) hx hb dX0_bestShares_12 (by decide) (fun c_9 => ?_) (fun c_9 => ?_)
    · exfalso; omega
    · refine lv_aload_n hx hb dX0_bestShares_15 rfl (lv_at hl 0 rfl) ?_
      refine kg_get (v := .ref (ad 7)) (C := RX0) (T := TX0) (N := 8) hx hb hts hinX0 hown hK hw h_3 rfl 2 (by decide) (hts (.fieldLink RX0 21 "BetMaker$Board" "bestRow" "[I") (by decide +kernel)) (fun _ h9 => h9) rfl dX0_bestShares_16 ?_
      refine lv_iload_n hx hb dX0_bestShares_19 rfl (lv_at hl 1 rfl) ?_
      refine kg_iald hx hb hK hw h_5 fx rfl (by omega) (by omega) dX0_bestShares_20 ?_
      refine lv_goto (tgt := 25) hx hb dX0_bestShares_21 (by decide) ?_
      refine W.eq (congrArg (fun z => F0 m 25 ls [.int z]) (show ((kCp br (fun f => nI ((kFo mm (kG st oc no N) no 4095 (fun _ => 0) 0 (fun _ => 0)).2.2 f)) 6) fx) = (nI ((kFo mm (kG st oc no N) no 4095 (fun _ => 0) 0 (fun _ => 0)).2.2 fx)) from by exact kCp_in hf6)) ?_
      have hq_10 := h_3
      have hq_11 := h_4
      have hq_12 := h_5
      have hq_13 := h_6
      have hend := kw_eq4 hq_10 hq_11 hq_12 hq_13 hfr_7
      rw [hend] at hw
      exact W.iret hx hb hr (fun t ht _ => ⟨rfl, by rw [ht]; exact hw.1, hw.2.2.1, hw.2.1.F ht, by rw [ht]; exact hw.2.2.2⟩) hw.2.1.2.2 dX0_bestShares_25
set_option maxHeartbeats 4000000 in
set_option maxRecDepth 100000 in
theorem c_X0_bestShares_c (l : Launch) (D : va_G) (tc : Nat → ClassId) (sz : Nat) (ad : Nat → Nat) (ct : Nat → Option va_E) {N no fx : Nat} {co bg : Int32}    {br : Nat → Int32} {se : Bool}  (h4 : ct 4 = some (.inr (0, [.ref (ad 5), .ref (ad 6), .ref (ad 7), .ref (ad 8), .int (nI no), .int co, .int bg, .int (kb (se = true))]))) (h7 : ct 7 = some (eI tc 6 br)) (hse : se = true) (hf6 : fx < 6) : Met l yX0_bestShares wsX0_bestShares ({ frames := 4, cells := 0, slots := 0, locals := 106 }) (va_Pc [.ref (ad 4), .int (nI fx), .int (nI N)] (kw_B D tc sz ad ct)) (kw_Q D ad (kw_A ad ct sz) (some (.int (br fx))) (kw_up ct 4 (.inr (0, [.ref (ad 5), .ref (ad 6), .ref (ad 7), .ref (ad 8), .int (nI no), .int co, .int bg, .int (kb (se = true))]))) 0) 0 0 (kw_A ad ct sz) := by
  refine Met.ofW (cc := cX0_bestShares) (maxL := 3) (ret := (some .int)) (by decide) rfl ?_
  intro pg en s m args below meth cod s₁ B hml hv
  obtain ⟨rfl, hsz, hP0, hK⟩ := hv
  have hx := B.exec
  have hb := B.bytes
  have hr := B.returns
  have hts := atoms_spec (ws := wsX0_bestShares) B.pre
  have hown : s.vm.findClass RX0 = some m.cls := findClass_of_methodNamed B.named
  have hlocks := B.notSynchronized
  subst hsz
  have hw := kw_H.start hP0
  generalize hAe : kw_A ad ct s.heap.size = A at hw ⊢
  have hA : ∀ q, s.heap.size ≤ q → A q := fun q h => by rw [← hAe]; exact Or.inr h
  have hinX0 : ∀ w ∈ wsX00, w ∈ wsX0_bestShares := by decide +kernel
  have hl := lv_entry ([.ref (ad 4), .int (nI fx), .int (nI N)]) (n := 3) (Nat.le_of_ble_eq_true rfl)
  rw [lg_entry_eq]
  generalize (lg_sl ([.ref (ad 4), .int (nI fx), .int (nI N)]) ++ List.replicate (3 - (lg_sl ([.ref (ad 4), .int (nI fx), .int (nI N)])).length) Slot.unset).toArray = ls at hl ⊢
  have hl : lv_has ls 3 [(0, .ref (ad 4)), (1, .int (nI fx)), (2, .int (nI N))] := hl
  have S0 : CallFix pg m cod cX0_bestShares 3 s _ wsX0_bestShares RX0 := ⟨hx, hb, hml, hown, hts⟩
  have hfr : ∀ j, j ≠ 4 → ct j = ct j := fun _ _ => rfl
  refine lv_aload_n hx hb dX0_bestShares_0 rfl (lv_at hl 0 rfl) ?_
  refine lv_iload_n hx hb dX0_bestShares_1 rfl (lv_at hl 2 rfl) ?_
  refine kc_vu (As := [.int (nI N)]) (rest := []) S0 (c_X0_search_c l D tc s.heap.size ad ct (N := N) (no := no) h4 hse) (cwV 1 hts gX0_bestShares_X0_search rfl rfl rfl (by decide +kernel) ⟨Nat.le_of_ble_eq_true rfl, Nat.le_of_ble_eq_true rfl⟩) hK hw hA h4 rfl rfl hl.1 rfl (Nat.le_of_ble_eq_true rfl) dX0_bestShares_2 ⟨Nat.le_of_ble_eq_true rfl, (Nat.le_of_ble_eq_true rfl)⟩ (fun H locs hw => ?_)
  obtain ⟨ct_1, ect_1⟩ : ∃ z, z = kw_up ct 4 (.inr (0, [.ref (ad 5), .ref (ad 6), .ref (ad 7), .ref (ad 8), .int (nI no), .int co, .int bg, .int (kb (se = true))])) := ⟨_, rfl⟩
  rw [← ect_1] at hw
  have h_2 : ct_1 7 = some (eI tc 6 br) := by rw [ect_1, kw_up_n (by omega)]; exact h7
  have h_3 : ct_1 4 = some (.inr (0, [.ref (ad 5), .ref (ad 6), .ref (ad 7), .ref (ad 8), .int (nI no), .int co, .int bg, .int (kb (se = true))])) := by rw [ect_1]; exact kw_up_s
  have hfr_4 : ∀ j, j ≠ 4 → ct_1 j = ct j := fun j a0 => by rw [ect_1]; exact (kw_up_n a0).trans (hfr j a0)
  refine lv_iload_n hx hb dX0_bestShares_5 rfl (lv_at hl 1 rfl) ?_
  refine lv_if_lt (tgt := 24) hx hb dX0_bestShares_6 (by decide) (fun c_5 => ?_) (fun c_5 => ?_)
  · exact absurd c_5 (nI_pos (by omega))
  · refine lv_iload_n hx hb dX0_bestShares_9 rfl (lv_at hl 1 rfl) ?_
    refine lv_bipush (v := 6) hx hb dX0_bestShares_10 (by decide) ?_
    refine kn_ge fx 6 rfl rfl (by omega) (by omega) (tgt := 24) hx hb dX0_bestShares_12 (by decide) (fun c_6 => ?_) (fun c_6 => ?_)
    · exfalso; omega
    · refine lv_aload_n hx hb dX0_bestShares_15 rfl (lv_at hl 0 rfl) ?_
      refine kg_get (v := .ref (ad 7)) (C := RX0) (T := TX0) (N := 8) hx hb hts hinX0 hown hK hw h_3 rfl 2 (by decide) (hts (.fieldLink RX0 21 "BetMaker$Board" "bestRow" "[I") (by decide +kernel)) (fun _ h9 => h9) rfl dX0_bestShares_16 ?_
      refine lv_iload_n hx hb dX0_bestShares_19 rfl (lv_at hl 1 rfl) ?_
      refine kg_iald hx hb hK hw h_2 fx rfl (by omega) (by omega) dX0_bestShares_20 ?_
      refine lv_goto (tgt := 25) hx hb dX0_bestShares_21 (by decide) ?_
      have hq_7 := h_3
      have hend := kw_eq1 hq_7 hfr_4
      rw [hend] at hw
      exact W.iret hx hb hr (fun t ht _ => ⟨rfl, by rw [ht]; exact hw.1, hw.2.2.1, hw.2.1.F ht, by rw [ht]; exact hw.2.2.2⟩) hw.2.1.2.2 dX0_bestShares_25
set_option maxHeartbeats 4000000 in
set_option maxRecDepth 100000 in
theorem c_X10_sure (l : Launch) (D : va_G) (tc : Nat → ClassId) (sz : Nat) (ad : Nat → Nat) (ct : Nat → Option va_E) {N nt no : Nat} {b cm lf co bg : Int32} {ss g : Int64}  {qo : Nat → Option Nat} {rw br cv : Nat → Int32} {se : Bool} {st oc : Nat → Int32} {mm : Nat → Nat} (h0 : ct 0 = some (.inr (10, [.ref (ad 1), .ref (ad 3), .int (nI nt), .ref (ad 4), .ref (ad 9), .ref (ad 11), .ref (ad 12), .ref (ad 13), .int lf]))) (h1 : ct 1 = some (.inr (3, [.ref (ad 2), .int (nI N), .int b, .long ss, .long g, .int cm]))) (h4 : ct 4 = some (.inr (0, [.ref (ad 5), .ref (ad 6), .ref (ad 7), .ref (ad 8), .int (nI no), .int co, .int bg, .int (kb (se = true))]))) (h5 : ct 5 = some (eQ tc 3 6 qo)) (h6 : ct 6 = some (eI tc 6 rw)) (h7 : ct 7 = some (eI tc 6 br)) (h8 : ct 8 = some (eI tc 8 cv)) (hno : no ≤ 6) (hN : N ≤ 8) (hN2 : 2 ≤ N) (hfam : ∀ yy, yy < no → qo yy = some (ad (60 + yy)) ∧ ct (60 + yy) = some (.inr (4, [.int (st yy), .int (oc yy), .int (nI (mm yy))]))) (hm3 : ∀ y9, y9 < no → mm y9 ≤ 3) (hse : ¬ (se = true)) : Met l yX10_sure wsX10_sure ({ frames := 5, cells := 0, slots := 0, locals := 131 }) (va_Pc [.ref (ad 0)] (kw_B D tc sz ad ct)) (kw_Q D ad (kw_A ad ct sz) (some (.int ((kFo mm (kG st oc no N) no 4095 (fun _ => 0) 0 (fun _ => 0)).2.1))) (kw_up (kw_up (kw_up (kw_up ct 4 (.inr (0, [.ref (ad 5), .ref (ad 6), .ref (ad 7), .ref (ad 8), .int (nI no), .int (kco oc (kFo mm (kG st oc no N) no 4095 (fun _ => 0) 0 (fun _ => 0)).1 no), .int ((kFo mm (kG st oc no N) no 4095 (fun _ => 0) 0 (fun _ => 0)).2.1), .int (kb (true = true))]))) 6 (eI tc 6 (kCp rw (fun f => nI ((kFo mm (kG st oc no N) no 4095 (fun _ => 0) 0 (fun _ => 0)).1 f)) 6))) 7 (eI tc 6 (kCp br (fun f => nI ((kFo mm (kG st oc no N) no 4095 (fun _ => 0) 0 (fun _ => 0)).2.2 f)) 6))) 8 (eI tc 8 (kCp cv (kcv st (kFo mm (kG st oc no N) no 4095 (fun _ => 0) 0 (fun _ => 0)).1 no) 8))) 0) 0 0 (kw_A ad ct sz) := by
  refine Met.ofW (cc := cX10_sure) (maxL := 1) (ret := (some .int)) (by decide) rfl ?_
  intro pg en s m args below meth cod s₁ B hml hv
  obtain ⟨rfl, hsz, hP0, hK⟩ := hv
  have hx := B.exec
  have hb := B.bytes
  have hr := B.returns
  have hts := atoms_spec (ws := wsX10_sure) B.pre
  have hown : s.vm.findClass RX10 = some m.cls := findClass_of_methodNamed B.named
  have hlocks := B.notSynchronized
  subst hsz
  have hw := kw_H.start hP0
  generalize hAe : kw_A ad ct s.heap.size = A at hw ⊢
  have hA : ∀ q, s.heap.size ≤ q → A q := fun q h => by rw [← hAe]; exact Or.inr h
  have hinX10 : ∀ w ∈ wsX100, w ∈ wsX10_sure := by decide +kernel
  have hl := lv_entry ([.ref (ad 0)]) (n := 1) (Nat.le_of_ble_eq_true rfl)
  rw [lg_entry_eq]
  generalize (lg_sl ([.ref (ad 0)]) ++ List.replicate (1 - (lg_sl ([.ref (ad 0)])).length) Slot.unset).toArray = ls at hl ⊢
  have hl : lv_has ls 1 [(0, .ref (ad 0))] := hl
  have S0 : CallFix pg m cod cX10_sure 1 s _ wsX10_sure RX10 := ⟨hx, hb, hml, hown, hts⟩
  have hfr : ∀ j, j ≠ 4 → j ≠ 6 → j ≠ 7 → j ≠ 8 → ct j = ct j := fun _ _ _ _ _ => rfl
  refine lv_aload_n hx hb dX10_sure_0 rfl (lv_at hl 0 rfl) ?_
  refine kg_get (v := .ref (ad 4)) (C := RX10) (T := TX10) (N := 9) hx hb hts hinX10 hown hK hw h0 rfl 3 (by decide) (hts (.fieldLink RX10 27 "BetMaker" "board" "LBetMaker$Board;") (by decide +kernel)) (fun _ h9 => h9) rfl dX10_sure_1 ?_
  refine lv_aload_n hx hb dX10_sure_4 rfl (lv_at hl 0 rfl) ?_
  refine kg_get (v := .ref (ad 1)) (C := RX10) (T := TX10) (N := 9) hx hb hts hinX10 hown hK hw h0 rfl 0 (by decide) (hts (.fieldLink RX10 12 "BetMaker" "maker" "LBetMaker$Maker;") (by decide +kernel)) (fun _ h9 => h9) rfl dX10_sure_5 ?_
  refine kc_v (As := []) (rest := [.ref (ad 4)]) S0 (c_X3_cases l D tc s.heap.size ad ct (N := N) h1) (cwV 0 hts gX10_sure_X3_cases rfl rfl rfl (by decide +kernel) ⟨Nat.le_of_ble_eq_true rfl, Nat.le_of_ble_eq_true rfl⟩) hK hw h1 rfl rfl hl.1 rfl (Nat.le_of_ble_eq_true rfl) dX10_sure_8 ⟨Nat.le_of_ble_eq_true rfl, (Nat.le_of_ble_eq_true rfl)⟩ ?_
  refine kc_vu (As := [.int (nI N)]) (rest := []) S0 (c_X0_bestGain l D tc s.heap.size ad ct (N := N) (no := no) h4 h5 h6 h7 h8 (by omega) (by omega) (by omega) hfam hm3 hse) (cwV 1 hts gX10_sure_X0_bestGain rfl rfl rfl (by decide +kernel) ⟨Nat.le_of_ble_eq_true rfl, Nat.le_of_ble_eq_true rfl⟩) hK hw hA h4 rfl rfl hl.1 rfl (Nat.le_of_ble_eq_true rfl) dX10_sure_11 ⟨Nat.le_of_ble_eq_true rfl, (Nat.le_of_ble_eq_true rfl)⟩ (fun H locs hw => ?_)
  obtain ⟨ct_1, ect_1⟩ : ∃ z, z = kw_up (kw_up (kw_up (kw_up ct 4 (.inr (0, [.ref (ad 5), .ref (ad 6), .ref (ad 7), .ref (ad 8), .int (nI no), .int (kco oc (kFo mm (kG st oc no N) no 4095 (fun _ => 0) 0 (fun _ => 0)).1 no), .int ((kFo mm (kG st oc no N) no 4095 (fun _ => 0) 0 (fun _ => 0)).2.1), .int (kb (true = true))]))) 6 (eI tc 6 (kCp rw (fun f => nI ((kFo mm (kG st oc no N) no 4095 (fun _ => 0) 0 (fun _ => 0)).1 f)) 6))) 7 (eI tc 6 (kCp br (fun f => nI ((kFo mm (kG st oc no N) no 4095 (fun _ => 0) 0 (fun _ => 0)).2.2 f)) 6))) 8 (eI tc 8 (kCp cv (kcv st (kFo mm (kG st oc no N) no 4095 (fun _ => 0) 0 (fun _ => 0)).1 no) 8)) := ⟨_, rfl⟩
  rw [← ect_1] at hw
  have h_2 : ct_1 0 = some (.inr (10, [.ref (ad 1), .ref (ad 3), .int (nI nt), .ref (ad 4), .ref (ad 9), .ref (ad 11), .ref (ad 12), .ref (ad 13), .int lf])) := by rw [ect_1, kw_up_n (by omega), kw_up_n (by omega), kw_up_n (by omega), kw_up_n (by omega)]; exact h0
  have h_3 : ct_1 1 = some (.inr (3, [.ref (ad 2), .int (nI N), .int b, .long ss, .long g, .int cm])) := by rw [ect_1, kw_up_n (by omega), kw_up_n (by omega), kw_up_n (by omega), kw_up_n (by omega)]; exact h1
  have h_4 : ct_1 5 = some (eQ tc 3 6 qo) := by rw [ect_1, kw_up_n (by omega), kw_up_n (by omega), kw_up_n (by omega), kw_up_n (by omega)]; exact h5
  have h_5 : ct_1 4 = some (.inr (0, [.ref (ad 5), .ref (ad 6), .ref (ad 7), .ref (ad 8), .int (nI no), .int (kco oc (kFo mm (kG st oc no N) no 4095 (fun _ => 0) 0 (fun _ => 0)).1 no), .int ((kFo mm (kG st oc no N) no 4095 (fun _ => 0) 0 (fun _ => 0)).2.1), .int (kb (true = true))])) := by rw [ect_1, kw_up_n (by omega), kw_up_n (by omega), kw_up_n (by omega)]; exact kw_up_s
  have h_6 : ct_1 6 = some (eI tc 6 (kCp rw (fun f => nI ((kFo mm (kG st oc no N) no 4095 (fun _ => 0) 0 (fun _ => 0)).1 f)) 6)) := by rw [ect_1, kw_up_n (by omega), kw_up_n (by omega)]; exact kw_up_s
  have h_7 : ct_1 7 = some (eI tc 6 (kCp br (fun f => nI ((kFo mm (kG st oc no N) no 4095 (fun _ => 0) 0 (fun _ => 0)).2.2 f)) 6)) := by rw [ect_1, kw_up_n (by omega)]; exact kw_up_s
  have h_8 : ct_1 8 = some (eI tc 8 (kCp cv (kcv st (kFo mm (kG st oc no N) no 4095 (fun _ => 0) 0 (fun _ => 0)).1 no) 8)) := by rw [ect_1]; exact kw_up_s
  have hfr_9 : ∀ j, j ≠ 4 → j ≠ 6 → j ≠ 7 → j ≠ 8 → ct_1 j = ct j := fun j a0 a1 a2 a3 => by rw [ect_1]; exact (kw_up_n a3).trans ((kw_up_n a2).trans ((kw_up_n a1).trans ((kw_up_n a0).trans (hfr j a0 a1 a2 a3))))
  have hq_10 := h_5
  have hq_11 := h_6
  have hq_12 := h_7
  have hq_13 := h_8
  have hend := kw_eq4 hq_10 hq_11 hq_12 hq_13 hfr_9
  rw [hend] at hw
  exact W.iret hx hb hr (fun t ht _ => ⟨rfl, by rw [ht]; exact hw.1, hw.2.2.1, hw.2.1.F ht, by rw [ht]; exact hw.2.2.2⟩) hw.2.1.2.2 dX10_sure_14
set_option maxHeartbeats 4000000 in
set_option maxRecDepth 100000 in
theorem c_X10_sure_c (l : Launch) (D : va_G) (tc : Nat → ClassId) (sz : Nat) (ad : Nat → Nat) (ct : Nat → Option va_E) {N nt no : Nat} {b cm lf co bg : Int32} {ss g : Int64}    {se : Bool}  (h0 : ct 0 = some (.inr (10, [.ref (ad 1), .ref (ad 3), .int (nI nt), .ref (ad 4), .ref (ad 9), .ref (ad 11), .ref (ad 12), .ref (ad 13), .int lf]))) (h1 : ct 1 = some (.inr (3, [.ref (ad 2), .int (nI N), .int b, .long ss, .long g, .int cm]))) (h4 : ct 4 = some (.inr (0, [.ref (ad 5), .ref (ad 6), .ref (ad 7), .ref (ad 8), .int (nI no), .int co, .int bg, .int (kb (se = true))]))) (hse : se = true) : Met l yX10_sure wsX10_sure ({ frames := 5, cells := 0, slots := 0, locals := 131 }) (va_Pc [.ref (ad 0)] (kw_B D tc sz ad ct)) (kw_Q D ad (kw_A ad ct sz) (some (.int bg)) (kw_up ct 4 (.inr (0, [.ref (ad 5), .ref (ad 6), .ref (ad 7), .ref (ad 8), .int (nI no), .int co, .int bg, .int (kb (se = true))]))) 0) 0 0 (kw_A ad ct sz) := by
  refine Met.ofW (cc := cX10_sure) (maxL := 1) (ret := (some .int)) (by decide) rfl ?_
  intro pg en s m args below meth cod s₁ B hml hv
  obtain ⟨rfl, hsz, hP0, hK⟩ := hv
  have hx := B.exec
  have hb := B.bytes
  have hr := B.returns
  have hts := atoms_spec (ws := wsX10_sure) B.pre
  have hown : s.vm.findClass RX10 = some m.cls := findClass_of_methodNamed B.named
  have hlocks := B.notSynchronized
  subst hsz
  have hw := kw_H.start hP0
  generalize hAe : kw_A ad ct s.heap.size = A at hw ⊢
  have hA : ∀ q, s.heap.size ≤ q → A q := fun q h => by rw [← hAe]; exact Or.inr h
  have hinX10 : ∀ w ∈ wsX100, w ∈ wsX10_sure := by decide +kernel
  have hl := lv_entry ([.ref (ad 0)]) (n := 1) (Nat.le_of_ble_eq_true rfl)
  rw [lg_entry_eq]
  generalize (lg_sl ([.ref (ad 0)]) ++ List.replicate (1 - (lg_sl ([.ref (ad 0)])).length) Slot.unset).toArray = ls at hl ⊢
  have hl : lv_has ls 1 [(0, .ref (ad 0))] := hl
  have S0 : CallFix pg m cod cX10_sure 1 s _ wsX10_sure RX10 := ⟨hx, hb, hml, hown, hts⟩
  have hfr : ∀ j, j ≠ 4 → ct j = ct j := fun _ _ => rfl
  refine lv_aload_n hx hb dX10_sure_0 rfl (lv_at hl 0 rfl) ?_
  refine kg_get (v := .ref (ad 4)) (C := RX10) (T := TX10) (N := 9) hx hb hts hinX10 hown hK hw h0 rfl 3 (by decide) (hts (.fieldLink RX10 27 "BetMaker" "board" "LBetMaker$Board;") (by decide +kernel)) (fun _ h9 => h9) rfl dX10_sure_1 ?_
  refine lv_aload_n hx hb dX10_sure_4 rfl (lv_at hl 0 rfl) ?_
  refine kg_get (v := .ref (ad 1)) (C := RX10) (T := TX10) (N := 9) hx hb hts hinX10 hown hK hw h0 rfl 0 (by decide) (hts (.fieldLink RX10 12 "BetMaker" "maker" "LBetMaker$Maker;") (by decide +kernel)) (fun _ h9 => h9) rfl dX10_sure_5 ?_
  refine kc_v (As := []) (rest := [.ref (ad 4)]) S0 (c_X3_cases l D tc s.heap.size ad ct (N := N) h1) (cwV 0 hts gX10_sure_X3_cases rfl rfl rfl (by decide +kernel) ⟨Nat.le_of_ble_eq_true rfl, Nat.le_of_ble_eq_true rfl⟩) hK hw h1 rfl rfl hl.1 rfl (Nat.le_of_ble_eq_true rfl) dX10_sure_8 ⟨Nat.le_of_ble_eq_true rfl, (Nat.le_of_ble_eq_true rfl)⟩ ?_
  refine kc_vu (As := [.int (nI N)]) (rest := []) S0 (c_X0_bestGain_c l D tc s.heap.size ad ct (N := N) (no := no) h4 hse) (cwV 1 hts gX10_sure_X0_bestGain rfl rfl rfl (by decide +kernel) ⟨Nat.le_of_ble_eq_true rfl, Nat.le_of_ble_eq_true rfl⟩) hK hw hA h4 rfl rfl hl.1 rfl (Nat.le_of_ble_eq_true rfl) dX10_sure_11 ⟨Nat.le_of_ble_eq_true rfl, (Nat.le_of_ble_eq_true rfl)⟩ (fun H locs hw => ?_)
  obtain ⟨ct_1, ect_1⟩ : ∃ z, z = kw_up ct 4 (.inr (0, [.ref (ad 5), .ref (ad 6), .ref (ad 7), .ref (ad 8), .int (nI no), .int co, .int bg, .int (kb (se = true))])) := ⟨_, rfl⟩
  rw [← ect_1] at hw
  have h_2 : ct_1 0 = some (.inr (10, [.ref (ad 1), .ref (ad 3), .int (nI nt), .ref (ad 4), .ref (ad 9), .ref (ad 11), .ref (ad 12), .ref (ad 13), .int lf])) := by rw [ect_1, kw_up_n (by omega)]; exact h0
  have h_3 : ct_1 1 = some (.inr (3, [.ref (ad 2), .int (nI N), .int b, .long ss, .long g, .int cm])) := by rw [ect_1, kw_up_n (by omega)]; exact h1
  have h_4 : ct_1 4 = some (.inr (0, [.ref (ad 5), .ref (ad 6), .ref (ad 7), .ref (ad 8), .int (nI no), .int co, .int bg, .int (kb (se = true))])) := by rw [ect_1]; exact kw_up_s
  have hfr_5 : ∀ j, j ≠ 4 → ct_1 j = ct j := fun j a0 => by rw [ect_1]; exact (kw_up_n a0).trans (hfr j a0)
  have hq_6 := h_4
  have hend := kw_eq1 hq_6 hfr_5
  rw [hend] at hw
  exact W.iret hx hb hr (fun t ht _ => ⟨rfl, by rw [ht]; exact hw.1, hw.2.2.1, hw.2.1.F ht, by rw [ht]; exact hw.2.2.2⟩) hw.2.1.2.2 dX10_sure_14
set_option maxHeartbeats 4000000 in
set_option maxRecDepth 100000 in
theorem c_X10_bundle_u (l : Launch) (D : va_G) (tc : Nat → ClassId) (sz : Nat) (ad : Nat → Nat) (ct : Nat → Option va_E) {nt no : Nat} {lf co bg : Int32}     {se : Bool} {f1 : Int32} (h0 : ct 0 = some (.inr (10, [.ref (ad 1), .ref (ad 3), .int (nI nt), .ref (ad 4), .ref (ad 9), .ref (ad 11), .ref (ad 12), .ref (ad 13), .int lf]))) (h4 : ct 4 = some (.inr (0, [.ref (ad 5), .ref (ad 6), .ref (ad 7), .ref (ad 8), .int (nI no), .int co, .int bg, .int (kb (se = true))]))) (hf : ¬ (0 ≤ f1 ∧ f1 < nI no)) : Met l yX10_bundle wsX10_bundle ({ frames := 5, cells := 0, slots := 0, locals := 132 }) (va_Pc [.ref (ad 0), .int f1] (kw_B D tc sz ad ct)) (k2_QcV (.int (-1))) 0 0 (fun _ => False) := by
  refine Met.ofW (cc := cX10_bundle) (maxL := 2) (ret := (some .int)) (by decide) rfl ?_
  intro pg en s m args below meth cod s₁ B hml hv
  obtain ⟨rfl, hsz, hP0, hK⟩ := hv
  have hx := B.exec
  have hb := B.bytes
  have hr := B.returns
  have hts := atoms_spec (ws := wsX10_bundle) B.pre
  have hown : s.vm.findClass RX10 = some m.cls := findClass_of_methodNamed B.named
  have hlocks := B.notSynchronized
  subst hsz
  have hw := kw_H.start hP0
  generalize kw_A ad ct s.heap.size = A at hw
  have hinX10 : ∀ w ∈ wsX100, w ∈ wsX10_bundle := by decide +kernel
  have hl := lv_entry ([.ref (ad 0), .int f1]) (n := 2) (Nat.le_of_ble_eq_true rfl)
  rw [lg_entry_eq]
  generalize (lg_sl ([.ref (ad 0), .int f1]) ++ List.replicate (2 - (lg_sl ([.ref (ad 0), .int f1])).length) Slot.unset).toArray = ls at hl ⊢
  have hl : lv_has ls 2 [(0, .ref (ad 0)), (1, .int f1)] := hl
  have S0 : CallFix pg m cod cX10_bundle 2 s _ wsX10_bundle RX10 := ⟨hx, hb, hml, hown, hts⟩
  refine lv_aload_n hx hb dX10_bundle_0 rfl (lv_at hl 0 rfl) ?_
  refine kg_get (v := .ref (ad 4)) (C := RX10) (T := TX10) (N := 9) hx hb hts hinX10 hown hK hw h0 rfl 3 (by decide) (hts (.fieldLink RX10 27 "BetMaker" "board" "LBetMaker$Board;") (by decide +kernel)) (fun _ h9 => h9) rfl dX10_bundle_1 ?_
  refine lv_iload_n hx hb dX10_bundle_4 rfl (lv_at hl 1 rfl) ?_
  refine kc_v (As := [.int f1]) (rest := []) S0 (c_X0_find_n l D tc s.heap.size ad ct (no := no) h4 hf) (cwV 1 hts gX10_bundle_X0_find rfl rfl rfl (by decide +kernel) ⟨Nat.le_of_ble_eq_true rfl, Nat.le_of_ble_eq_true rfl⟩) hK hw h4 rfl rfl hl.1 rfl (Nat.le_of_ble_eq_true rfl) dX10_bundle_5 ⟨Nat.le_of_ble_eq_true rfl, (Nat.le_of_ble_eq_true rfl)⟩ ?_
  refine lv_ifnonnullN hx hb dX10_bundle_8 ?_
  refine lv_iconst (v := (-1)) hx hb dX10_bundle_11 (by decide) ?_
  refine lv_goto (tgt := 30) hx hb dX10_bundle_12 (by decide) ?_
  exact W.iret hx hb hr (fun t ht _ => ⟨rfl, ht⟩) (fun _ h => absurd h List.not_mem_nil) dX10_bundle_30
set_option maxHeartbeats 4000000 in
set_option maxRecDepth 100000 in
theorem c_X10_bundle (l : Launch) (D : va_G) (tc : Nat → ClassId) (sz : Nat) (ad : Nat → Nat) (ct : Nat → Option va_E) {N nt no fx : Nat} {b cm lf co bg : Int32} {ss g : Int64}  {qo : Nat → Option Nat} {rw br cv : Nat → Int32} {se : Bool} {st oc : Nat → Int32} {mm : Nat → Nat} (h0 : ct 0 = some (.inr (10, [.ref (ad 1), .ref (ad 3), .int (nI nt), .ref (ad 4), .ref (ad 9), .ref (ad 11), .ref (ad 12), .ref (ad 13), .int lf]))) (h1 : ct 1 = some (.inr (3, [.ref (ad 2), .int (nI N), .int b, .long ss, .long g, .int cm]))) (h4 : ct 4 = some (.inr (0, [.ref (ad 5), .ref (ad 6), .ref (ad 7), .ref (ad 8), .int (nI no), .int co, .int bg, .int (kb (se = true))]))) (h5 : ct 5 = some (eQ tc 3 6 qo)) (h6 : ct 6 = some (eI tc 6 rw)) (h7 : ct 7 = some (eI tc 6 br)) (h8 : ct 8 = some (eI tc 8 cv)) (hf : fx < no) (hno : no ≤ 6) (hN : N ≤ 8) (hN2 : 2 ≤ N) (hfam : ∀ yy, yy < no → qo yy = some (ad (60 + yy)) ∧ ct (60 + yy) = some (.inr (4, [.int (st yy), .int (oc yy), .int (nI (mm yy))]))) (hm3 : ∀ y9, y9 < no → mm y9 ≤ 3) (hse : ¬ (se = true)) (hq : qo fx = some (ad (60 + fx))) : Met l yX10_bundle wsX10_bundle ({ frames := 5, cells := 0, slots := 0, locals := 132 }) (va_Pc [.ref (ad 0), .int (nI fx)] (kw_B D tc sz ad ct)) (kw_Q D ad (kw_A ad ct sz) (some (.int (nI ((kFo mm (kG st oc no N) no 4095 (fun _ => 0) 0 (fun _ => 0)).2.2 fx)))) (kw_up (kw_up (kw_up (kw_up ct 4 (.inr (0, [.ref (ad 5), .ref (ad 6), .ref (ad 7), .ref (ad 8), .int (nI no), .int (kco oc (kFo mm (kG st oc no N) no 4095 (fun _ => 0) 0 (fun _ => 0)).1 no), .int ((kFo mm (kG st oc no N) no 4095 (fun _ => 0) 0 (fun _ => 0)).2.1), .int (kb (true = true))]))) 6 (eI tc 6 (kCp rw (fun f => nI ((kFo mm (kG st oc no N) no 4095 (fun _ => 0) 0 (fun _ => 0)).1 f)) 6))) 7 (eI tc 6 (kCp br (fun f => nI ((kFo mm (kG st oc no N) no 4095 (fun _ => 0) 0 (fun _ => 0)).2.2 f)) 6))) 8 (eI tc 8 (kCp cv (kcv st (kFo mm (kG st oc no N) no 4095 (fun _ => 0) 0 (fun _ => 0)).1 no) 8))) 0) 0 0 (kw_A ad ct sz) := by
  refine Met.ofW (cc := cX10_bundle) (maxL := 2) (ret := (some .int)) (by decide) rfl ?_
  intro pg en s m args below meth cod s₁ B hml hv
  obtain ⟨rfl, hsz, hP0, hK⟩ := hv
  have hx := B.exec
  have hb := B.bytes
  have hr := B.returns
  have hts := atoms_spec (ws := wsX10_bundle) B.pre
  have hown : s.vm.findClass RX10 = some m.cls := findClass_of_methodNamed B.named
  have hlocks := B.notSynchronized
  subst hsz
  have hw := kw_H.start hP0
  generalize hAe : kw_A ad ct s.heap.size = A at hw ⊢
  have hA : ∀ q, s.heap.size ≤ q → A q := fun q h => by rw [← hAe]; exact Or.inr h
  have hinX10 : ∀ w ∈ wsX100, w ∈ wsX10_bundle := by decide +kernel
  have hl := lv_entry ([.ref (ad 0), .int (nI fx)]) (n := 2) (Nat.le_of_ble_eq_true rfl)
  rw [lg_entry_eq]
  generalize (lg_sl ([.ref (ad 0), .int (nI fx)]) ++ List.replicate (2 - (lg_sl ([.ref (ad 0), .int (nI fx)])).length) Slot.unset).toArray = ls at hl ⊢
  have hl : lv_has ls 2 [(0, .ref (ad 0)), (1, .int (nI fx))] := hl
  have S0 : CallFix pg m cod cX10_bundle 2 s _ wsX10_bundle RX10 := ⟨hx, hb, hml, hown, hts⟩
  have hfr : ∀ j, j ≠ 4 → j ≠ 6 → j ≠ 7 → j ≠ 8 → ct j = ct j := fun _ _ _ _ _ => rfl
  refine lv_aload_n hx hb dX10_bundle_0 rfl (lv_at hl 0 rfl) ?_
  refine kg_get (v := .ref (ad 4)) (C := RX10) (T := TX10) (N := 9) hx hb hts hinX10 hown hK hw h0 rfl 3 (by decide) (hts (.fieldLink RX10 27 "BetMaker" "board" "LBetMaker$Board;") (by decide +kernel)) (fun _ h9 => h9) rfl dX10_bundle_1 ?_
  refine lv_iload_n hx hb dX10_bundle_4 rfl (lv_at hl 1 rfl) ?_
  refine kc_v (As := [.int (nI fx)]) (rest := []) S0 (c_X0_find l D tc s.heap.size ad ct (fx := fx) (no := no) h4 h5 (by omega) (by omega) hq) (cwV 1 hts gX10_bundle_X0_find rfl rfl rfl (by decide +kernel) ⟨Nat.le_of_ble_eq_true rfl, Nat.le_of_ble_eq_true rfl⟩) hK hw h4 rfl rfl hl.1 rfl (Nat.le_of_ble_eq_true rfl) dX10_bundle_5 ⟨Nat.le_of_ble_eq_true rfl, (Nat.le_of_ble_eq_true rfl)⟩ ?_
  refine lv_ifnonnull (tgt := 15) hx hb dX10_bundle_8 (by decide) ?_
  refine lv_aload_n hx hb dX10_bundle_15 rfl (lv_at hl 0 rfl) ?_
  refine kg_get (v := .ref (ad 4)) (C := RX10) (T := TX10) (N := 9) hx hb hts hinX10 hown hK hw h0 rfl 3 (by decide) (hts (.fieldLink RX10 27 "BetMaker" "board" "LBetMaker$Board;") (by decide +kernel)) (fun _ h9 => h9) rfl dX10_bundle_16 ?_
  refine lv_iload_n hx hb dX10_bundle_19 rfl (lv_at hl 1 rfl) ?_
  refine lv_aload_n hx hb dX10_bundle_20 rfl (lv_at hl 0 rfl) ?_
  refine kg_get (v := .ref (ad 1)) (C := RX10) (T := TX10) (N := 9) hx hb hts hinX10 hown hK hw h0 rfl 0 (by decide) (hts (.fieldLink RX10 12 "BetMaker" "maker" "LBetMaker$Maker;") (by decide +kernel)) (fun _ h9 => h9) rfl dX10_bundle_21 ?_
  refine kc_v (As := []) (rest := [.int (nI fx), .ref (ad 4)]) S0 (c_X3_cases l D tc s.heap.size ad ct (N := N) h1) (cwV 0 hts gX10_bundle_X3_cases rfl rfl rfl (by decide +kernel) ⟨Nat.le_of_ble_eq_true rfl, Nat.le_of_ble_eq_true rfl⟩) hK hw h1 rfl rfl hl.1 rfl (Nat.le_of_ble_eq_true rfl) dX10_bundle_24 ⟨Nat.le_of_ble_eq_true rfl, (Nat.le_of_ble_eq_true rfl)⟩ ?_
  refine kc_vu (As := [.int (nI fx), .int (nI N)]) (rest := []) S0 (c_X0_bestShares l D tc s.heap.size ad ct (fx := fx) (N := N) (no := no) h4 h5 h6 h7 h8 (by omega) (by omega) (by omega) hfam hm3 hse (by omega)) (cwV 2 hts gX10_bundle_X0_bestShares rfl rfl rfl (by decide +kernel) ⟨Nat.le_of_ble_eq_true rfl, Nat.le_of_ble_eq_true rfl⟩) hK hw hA h4 rfl rfl hl.1 rfl (Nat.le_of_ble_eq_true rfl) dX10_bundle_27 ⟨Nat.le_of_ble_eq_true rfl, (Nat.le_of_ble_eq_true rfl)⟩ (fun H locs hw => ?_)
  obtain ⟨ct_1, ect_1⟩ : ∃ z, z = kw_up (kw_up (kw_up (kw_up ct 4 (.inr (0, [.ref (ad 5), .ref (ad 6), .ref (ad 7), .ref (ad 8), .int (nI no), .int (kco oc (kFo mm (kG st oc no N) no 4095 (fun _ => 0) 0 (fun _ => 0)).1 no), .int ((kFo mm (kG st oc no N) no 4095 (fun _ => 0) 0 (fun _ => 0)).2.1), .int (kb (true = true))]))) 6 (eI tc 6 (kCp rw (fun f => nI ((kFo mm (kG st oc no N) no 4095 (fun _ => 0) 0 (fun _ => 0)).1 f)) 6))) 7 (eI tc 6 (kCp br (fun f => nI ((kFo mm (kG st oc no N) no 4095 (fun _ => 0) 0 (fun _ => 0)).2.2 f)) 6))) 8 (eI tc 8 (kCp cv (kcv st (kFo mm (kG st oc no N) no 4095 (fun _ => 0) 0 (fun _ => 0)).1 no) 8)) := ⟨_, rfl⟩
  rw [← ect_1] at hw
  have h_2 : ct_1 0 = some (.inr (10, [.ref (ad 1), .ref (ad 3), .int (nI nt), .ref (ad 4), .ref (ad 9), .ref (ad 11), .ref (ad 12), .ref (ad 13), .int lf])) := by rw [ect_1, kw_up_n (by omega), kw_up_n (by omega), kw_up_n (by omega), kw_up_n (by omega)]; exact h0
  have h_3 : ct_1 1 = some (.inr (3, [.ref (ad 2), .int (nI N), .int b, .long ss, .long g, .int cm])) := by rw [ect_1, kw_up_n (by omega), kw_up_n (by omega), kw_up_n (by omega), kw_up_n (by omega)]; exact h1
  have h_4 : ct_1 5 = some (eQ tc 3 6 qo) := by rw [ect_1, kw_up_n (by omega), kw_up_n (by omega), kw_up_n (by omega), kw_up_n (by omega)]; exact h5
  have h_5 : ct_1 4 = some (.inr (0, [.ref (ad 5), .ref (ad 6), .ref (ad 7), .ref (ad 8), .int (nI no), .int (kco oc (kFo mm (kG st oc no N) no 4095 (fun _ => 0) 0 (fun _ => 0)).1 no), .int ((kFo mm (kG st oc no N) no 4095 (fun _ => 0) 0 (fun _ => 0)).2.1), .int (kb (true = true))])) := by rw [ect_1, kw_up_n (by omega), kw_up_n (by omega), kw_up_n (by omega)]; exact kw_up_s
  have h_6 : ct_1 6 = some (eI tc 6 (kCp rw (fun f => nI ((kFo mm (kG st oc no N) no 4095 (fun _ => 0) 0 (fun _ => 0)).1 f)) 6)) := by rw [ect_1, kw_up_n (by omega), kw_up_n (by omega)]; exact kw_up_s
  have h_7 : ct_1 7 = some (eI tc 6 (kCp br (fun f => nI ((kFo mm (kG st oc no N) no 4095 (fun _ => 0) 0 (fun _ => 0)).2.2 f)) 6)) := by rw [ect_1, kw_up_n (by omega)]; exact kw_up_s
  have h_8 : ct_1 8 = some (eI tc 8 (kCp cv (kcv st (kFo mm (kG st oc no N) no 4095 (fun _ => 0) 0 (fun _ => 0)).1 no) 8)) := by rw [ect_1]; exact kw_up_s
  have hfr_9 : ∀ j, j ≠ 4 → j ≠ 6 → j ≠ 7 → j ≠ 8 → ct_1 j = ct j := fun j a0 a1 a2 a3 => by rw [ect_1]; exact (kw_up_n a3).trans ((kw_up_n a2).trans ((kw_up_n a1).trans ((kw_up_n a0).trans (hfr j a0 a1 a2 a3))))
  have hq_10 := h_5
  have hq_11 := h_6
  have hq_12 := h_7
  have hq_13 := h_8
  have hend := kw_eq4 hq_10 hq_11 hq_12 hq_13 hfr_9
  rw [hend] at hw
  exact W.iret hx hb hr (fun t ht _ => ⟨rfl, by rw [ht]; exact hw.1, hw.2.2.1, hw.2.1.F ht, by rw [ht]; exact hw.2.2.2⟩) hw.2.1.2.2 dX10_bundle_30
set_option maxHeartbeats 4000000 in
set_option maxRecDepth 100000 in
theorem c_X10_bundle_c (l : Launch) (D : va_G) (tc : Nat → ClassId) (sz : Nat) (ad : Nat → Nat) (ct : Nat → Option va_E) {N nt no fx : Nat} {b cm lf co bg : Int32} {ss g : Int64}  {qo : Nat → Option Nat} {br : Nat → Int32} {se : Bool}  (h0 : ct 0 = some (.inr (10, [.ref (ad 1), .ref (ad 3), .int (nI nt), .ref (ad 4), .ref (ad 9), .ref (ad 11), .ref (ad 12), .ref (ad 13), .int lf]))) (h1 : ct 1 = some (.inr (3, [.ref (ad 2), .int (nI N), .int b, .long ss, .long g, .int cm]))) (h4 : ct 4 = some (.inr (0, [.ref (ad 5), .ref (ad 6), .ref (ad 7), .ref (ad 8), .int (nI no), .int co, .int bg, .int (kb (se = true))]))) (h5 : ct 5 = some (eQ tc 3 6 qo)) (h7 : ct 7 = some (eI tc 6 br)) (hf : fx < no) (hno : no ≤ 6) (hse : se = true) (hq : qo fx = some (ad (60 + fx))) : Met l yX10_bundle wsX10_bundle ({ frames := 5, cells := 0, slots := 0, locals := 132 }) (va_Pc [.ref (ad 0), .int (nI fx)] (kw_B D tc sz ad ct)) (kw_Q D ad (kw_A ad ct sz) (some (.int (br fx))) (kw_up ct 4 (.inr (0, [.ref (ad 5), .ref (ad 6), .ref (ad 7), .ref (ad 8), .int (nI no), .int co, .int bg, .int (kb (se = true))]))) 0) 0 0 (kw_A ad ct sz) := by
  refine Met.ofW (cc := cX10_bundle) (maxL := 2) (ret := (some .int)) (by decide) rfl ?_
  intro pg en s m args below meth cod s₁ B hml hv
  obtain ⟨rfl, hsz, hP0, hK⟩ := hv
  have hx := B.exec
  have hb := B.bytes
  have hr := B.returns
  have hts := atoms_spec (ws := wsX10_bundle) B.pre
  have hown : s.vm.findClass RX10 = some m.cls := findClass_of_methodNamed B.named
  have hlocks := B.notSynchronized
  subst hsz
  have hw := kw_H.start hP0
  generalize hAe : kw_A ad ct s.heap.size = A at hw ⊢
  have hA : ∀ q, s.heap.size ≤ q → A q := fun q h => by rw [← hAe]; exact Or.inr h
  have hinX10 : ∀ w ∈ wsX100, w ∈ wsX10_bundle := by decide +kernel
  have hl := lv_entry ([.ref (ad 0), .int (nI fx)]) (n := 2) (Nat.le_of_ble_eq_true rfl)
  rw [lg_entry_eq]
  generalize (lg_sl ([.ref (ad 0), .int (nI fx)]) ++ List.replicate (2 - (lg_sl ([.ref (ad 0), .int (nI fx)])).length) Slot.unset).toArray = ls at hl ⊢
  have hl : lv_has ls 2 [(0, .ref (ad 0)), (1, .int (nI fx))] := hl
  have S0 : CallFix pg m cod cX10_bundle 2 s _ wsX10_bundle RX10 := ⟨hx, hb, hml, hown, hts⟩
  have hfr : ∀ j, j ≠ 4 → ct j = ct j := fun _ _ => rfl
  refine lv_aload_n hx hb dX10_bundle_0 rfl (lv_at hl 0 rfl) ?_
  refine kg_get (v := .ref (ad 4)) (C := RX10) (T := TX10) (N := 9) hx hb hts hinX10 hown hK hw h0 rfl 3 (by decide) (hts (.fieldLink RX10 27 "BetMaker" "board" "LBetMaker$Board;") (by decide +kernel)) (fun _ h9 => h9) rfl dX10_bundle_1 ?_
  refine lv_iload_n hx hb dX10_bundle_4 rfl (lv_at hl 1 rfl) ?_
  refine kc_v (As := [.int (nI fx)]) (rest := []) S0 (c_X0_find l D tc s.heap.size ad ct (fx := fx) (no := no) h4 h5 (by omega) (by omega) hq) (cwV 1 hts gX10_bundle_X0_find rfl rfl rfl (by decide +kernel) ⟨Nat.le_of_ble_eq_true rfl, Nat.le_of_ble_eq_true rfl⟩) hK hw h4 rfl rfl hl.1 rfl (Nat.le_of_ble_eq_true rfl) dX10_bundle_5 ⟨Nat.le_of_ble_eq_true rfl, (Nat.le_of_ble_eq_true rfl)⟩ ?_
  refine lv_ifnonnull (tgt := 15) hx hb dX10_bundle_8 (by decide) ?_
  refine lv_aload_n hx hb dX10_bundle_15 rfl (lv_at hl 0 rfl) ?_
  refine kg_get (v := .ref (ad 4)) (C := RX10) (T := TX10) (N := 9) hx hb hts hinX10 hown hK hw h0 rfl 3 (by decide) (hts (.fieldLink RX10 27 "BetMaker" "board" "LBetMaker$Board;") (by decide +kernel)) (fun _ h9 => h9) rfl dX10_bundle_16 ?_
  refine lv_iload_n hx hb dX10_bundle_19 rfl (lv_at hl 1 rfl) ?_
  refine lv_aload_n hx hb dX10_bundle_20 rfl (lv_at hl 0 rfl) ?_
  refine kg_get (v := .ref (ad 1)) (C := RX10) (T := TX10) (N := 9) hx hb hts hinX10 hown hK hw h0 rfl 0 (by decide) (hts (.fieldLink RX10 12 "BetMaker" "maker" "LBetMaker$Maker;") (by decide +kernel)) (fun _ h9 => h9) rfl dX10_bundle_21 ?_
  refine kc_v (As := []) (rest := [.int (nI fx), .ref (ad 4)]) S0 (c_X3_cases l D tc s.heap.size ad ct (N := N) h1) (cwV 0 hts gX10_bundle_X3_cases rfl rfl rfl (by decide +kernel) ⟨Nat.le_of_ble_eq_true rfl, Nat.le_of_ble_eq_true rfl⟩) hK hw h1 rfl rfl hl.1 rfl (Nat.le_of_ble_eq_true rfl) dX10_bundle_24 ⟨Nat.le_of_ble_eq_true rfl, (Nat.le_of_ble_eq_true rfl)⟩ ?_
  refine kc_vu (As := [.int (nI fx), .int (nI N)]) (rest := []) S0 (c_X0_bestShares_c l D tc s.heap.size ad ct (fx := fx) (N := N) (no := no) h4 h7 hse (by omega)) (cwV 2 hts gX10_bundle_X0_bestShares rfl rfl rfl (by decide +kernel) ⟨Nat.le_of_ble_eq_true rfl, Nat.le_of_ble_eq_true rfl⟩) hK hw hA h4 rfl rfl hl.1 rfl (Nat.le_of_ble_eq_true rfl) dX10_bundle_27 ⟨Nat.le_of_ble_eq_true rfl, (Nat.le_of_ble_eq_true rfl)⟩ (fun H locs hw => ?_)
  obtain ⟨ct_1, ect_1⟩ : ∃ z, z = kw_up ct 4 (.inr (0, [.ref (ad 5), .ref (ad 6), .ref (ad 7), .ref (ad 8), .int (nI no), .int co, .int bg, .int (kb (se = true))])) := ⟨_, rfl⟩
  rw [← ect_1] at hw
  have h_2 : ct_1 0 = some (.inr (10, [.ref (ad 1), .ref (ad 3), .int (nI nt), .ref (ad 4), .ref (ad 9), .ref (ad 11), .ref (ad 12), .ref (ad 13), .int lf])) := by rw [ect_1, kw_up_n (by omega)]; exact h0
  have h_3 : ct_1 1 = some (.inr (3, [.ref (ad 2), .int (nI N), .int b, .long ss, .long g, .int cm])) := by rw [ect_1, kw_up_n (by omega)]; exact h1
  have h_4 : ct_1 5 = some (eQ tc 3 6 qo) := by rw [ect_1, kw_up_n (by omega)]; exact h5
  have h_5 : ct_1 7 = some (eI tc 6 br) := by rw [ect_1, kw_up_n (by omega)]; exact h7
  have h_6 : ct_1 4 = some (.inr (0, [.ref (ad 5), .ref (ad 6), .ref (ad 7), .ref (ad 8), .int (nI no), .int co, .int bg, .int (kb (se = true))])) := by rw [ect_1]; exact kw_up_s
  have hfr_7 : ∀ j, j ≠ 4 → ct_1 j = ct j := fun j a0 => by rw [ect_1]; exact (kw_up_n a0).trans (hfr j a0)
  have hq_8 := h_6
  have hend := kw_eq1 hq_8 hfr_7
  rw [hend] at hw
  exact W.iret hx hb hr (fun t ht _ => ⟨rfl, by rw [ht]; exact hw.1, hw.2.2.1, hw.2.1.F ht, by rw [ht]; exact hw.2.2.2⟩) hw.2.1.2.2 dX10_bundle_30
set_option maxHeartbeats 4000000 in
set_option maxRecDepth 100000 in
theorem c_X11_sureNow (l : Launch) (D : va_G) (tc : Nat → ClassId) (sz : Nat) (ad : Nat → Nat) (ct : Nat → Option va_E) {N nt no nf : Nat} {ft tr b cm da bs : Int32} {g : Int64}         {os : Nat → Int32} {oc : Nat → Int32}  {nw : Nat → Int32}     (h0 : ct 200 = some (.inr (11, [.int ft, .int tr, .int (nI N), .int b, .ref (ad 201), .long g, .int cm, .int da, .int (nI nt), .ref (ad 202), .ref (ad 203), .ref (ad 204), .ref (ad 205), .ref (ad 206), .ref (ad 207), .ref (ad 208), .ref (ad 209), .int (nI no), .ref (ad 210), .ref (ad 211), .ref (ad 212), .ref (ad 213), .ref (ad 214), .int bs, .int (nI nf), .ref (ad 215), .ref (ad 216)]))) (h210 : ct 210 = some (eI tc 6 os)) (h211 : ct 211 = some (eI tc 6 oc)) (h213 : ct 213 = some (eI tc 6 nw)) (hN : N ≤ 8) (hno : no ≤ 6) : Met l yX11_sureNow wsX11_sureNow ({ frames := 1, cells := 0, slots := 0, locals := 25 }) (va_Pc [.ref (ad 200)] (kw_B D tc sz ad ct)) (k2_QcV (.int (kSn nw os oc no N))) 0 0 (fun _ => False) := by
  refine Met.ofW (cc := cX11_sureNow) (maxL := 5) (ret := (some .int)) (by decide) rfl ?_
  intro pg en s m args below meth cod s₁ B hml hv
  obtain ⟨rfl, hsz, hP0, hK⟩ := hv
  have hx := B.exec
  have hb := B.bytes
  have hr := B.returns
  have hts := atoms_spec (ws := wsX11_sureNow) B.pre
  have hown : s.vm.findClass RX11 = some m.cls := findClass_of_methodNamed B.named
  have hlocks := B.notSynchronized
  subst hsz
  have hw := kw_H.start hP0
  generalize kw_A ad ct s.heap.size = A at hw
  have hinX11 : ∀ w ∈ wsX110, w ∈ wsX11_sureNow := by decide +kernel
  have hl := lv_entry ([.ref (ad 200)]) (n := 5) (Nat.le_of_ble_eq_true rfl)
  rw [lg_entry_eq]
  generalize (lg_sl ([.ref (ad 200)]) ++ List.replicate (5 - (lg_sl ([.ref (ad 200)])).length) Slot.unset).toArray = ls at hl ⊢
  have hl : lv_has ls 5 [(0, .ref (ad 200))] := hl
  have S0 : CallFix pg m cod cX11_sureNow 5 s _ wsX11_sureNow RX11 := ⟨hx, hb, hml, hown, hts⟩
  refine lv_iconst (v := 0) hx hb dX11_sureNow_0 (by decide) ?_
  refine lv_istore_n (lv' := [(1, .int 0), (0, .ref (ad 200))]) hx hb dX11_sureNow_1 rfl hl (by decide) rfl (fun ls hl => ?_)
  refine lv_iconst (v := 0) hx hb dX11_sureNow_2 (by decide) ?_
  refine lv_istore_n (lv' := [(2, .int 0), (1, .int 0), (0, .ref (ad 200))]) hx hb dX11_sureNow_3 rfl hl (by decide) rfl (fun ls hl => ?_)
  suffices lp4 : ∀ (nfu : Nat) (i : Nat) (acc : Int32) (ls : Array Slot), N - i < nfu → i ≤ N → acc = kMi (fun c => sw (fun f => nw f * (100 * kbit (os f) c - oc f)) no) i → lv_has ls 5 [(0, .ref (ad 200)), (1, .int acc), (2, .int (nI i))] → W pg l en (headSpec wsX11_sureNow ({ frames := 1, cells := 0, slots := 0, locals := 25 })).room s m (([.ref (ad 200)] : List Value).toArray) below meth cod s.heap [] 0 0 (MQ below (k2_QcV (.int (kSn nw os oc no N))) (([.ref (ad 200)] : List Value).toArray) s 0 0 (fun _ => False)) (F0 m 4 ls []) by
    exact lp4 (N - 0 + 1) 0 0 ls (by omega) (by omega) (by rfl) (by have hl9 := lv_sub hl (l' := [(0, .ref (ad 200)), (1, .int 0), (2, .int 0)]) [2, 1, 0] rfl; exact hl9)
  intro n4
  induction n4 with
  | zero => intro i acc ls hfu; exact absurd hfu (Nat.not_lt_zero _)
  | succ n4 ih4 =>
    intro i acc ls hfu4 hi ha hl
    refine lv_iload_n hx hb dX11_sureNow_4 rfl (lv_at hl 2 rfl) ?_
    refine lv_aload_n hx hb dX11_sureNow_5 rfl (lv_at hl 0 rfl) ?_
    refine kg_get (v := .int (nI N)) (C := RX11) (T := TX11) (N := 27) hx hb hts hinX11 hown hK hw h0 rfl 2 (by decide) (hts (.fieldLink RX11 7 "BetMakerModel" "cases" "I") (by decide +kernel)) (fun _ h9 => h9) rfl dX11_sureNow_6 ?_
    refine kn_ge i N rfl rfl (by omega) (by omega) (tgt := 86) hx hb dX11_sureNow_9 (by decide) (fun c_1 => ?_) (fun c_1 => ?_)
    · refine lv_iload_n hx hb dX11_sureNow_86 rfl (lv_at hl 1 rfl) ?_
      refine W.eq (congrArg (fun z => F0 m 87 ls [.int z]) (show acc = (kSn nw os oc no N) from by rw [ha, show i = N by omega]; rfl)) ?_
      exact W.iret hx hb hr (fun t ht _ => ⟨rfl, ht⟩) (fun _ h => absurd h List.not_mem_nil) dX11_sureNow_87
    · refine lv_iconst (v := 0) hx hb dX11_sureNow_12 (by decide) ?_
      refine lv_istore_n (lv' := [(3, .int 0), (0, .ref (ad 200)), (1, .int acc), (2, .int (nI i))]) hx hb dX11_sureNow_13 rfl hl (by decide) rfl (fun ls hl => ?_)
      refine lv_iconst (v := 0) hx hb dX11_sureNow_14 (by decide) ?_
      refine lv_istore (lv' := [(4, .int 0), (3, .int 0), (0, .ref (ad 200)), (1, .int acc), (2, .int (nI i))]) hx hb dX11_sureNow_15 hl (by decide) rfl (fun ls hl => ?_)
      suffices lp17 : ∀ (nfu : Nat) (j : Nat) (a2 : Int32) (ls : Array Slot), no - j < nfu → j ≤ no → a2 = sw (fun f => nw f * (100 * kbit (os f) i - oc f)) j → lv_has ls 5 [(0, .ref (ad 200)), (1, .int acc), (2, .int (nI i)), (3, .int a2), (4, .int (nI j))] → W pg l en (headSpec wsX11_sureNow ({ frames := 1, cells := 0, slots := 0, locals := 25 })).room s m (([.ref (ad 200)] : List Value).toArray) below meth cod s.heap [] 0 0 (MQ below (k2_QcV (.int (kSn nw os oc no N))) (([.ref (ad 200)] : List Value).toArray) s 0 0 (fun _ => False)) (F0 m 17 ls []) by
        exact lp17 (no - 0 + 1) 0 0 ls (by omega) (by omega) (by rfl) (by have hl9 := lv_sub hl (l' := [(0, .ref (ad 200)), (1, .int acc), (2, .int (nI i)), (3, .int 0), (4, .int 0)]) [2, 3, 4, 1, 0] rfl; exact hl9)
      intro n17
      induction n17 with
      | zero => intro j a2 ls hfu; exact absurd hfu (Nat.not_lt_zero _)
      | succ n17 ih17 =>
        intro j a2 ls hfu17 hj hb2 hl
        refine lv_iload hx hb dX11_sureNow_17 (lv_at hl 4 rfl) ?_
        refine lv_aload_n hx hb dX11_sureNow_19 rfl (lv_at hl 0 rfl) ?_
        refine kg_get (v := .int (nI no)) (C := RX11) (T := TX11) (N := 27) hx hb hts hinX11 hown hK hw h0 rfl 17 (by decide) (hts (.fieldLink RX11 96 "BetMakerModel" "offers" "I") (by decide +kernel)) (fun _ h9 => h9) rfl dX11_sureNow_20 ?_
        refine kn_ge j no rfl rfl (by omega) (by omega) (tgt := 65) hx hb dX11_sureNow_23 (by decide) (fun c_2 => ?_) (fun c_2 => ?_)
        · refine lv_iload_n hx hb dX11_sureNow_65 rfl (lv_at hl 2 rfl) ?_
          refine lv_if_eq (tgt := 74) hx hb dX11_sureNow_66 (by decide) (fun c_3 => ?_) (fun c_3 => ?_)
          · refine lv_iload_n hx hb dX11_sureNow_74 rfl (lv_at hl 3 rfl) ?_
            refine lv_goto (tgt := 79) hx hb dX11_sureNow_75 (by decide) ?_
            refine lv_istore_n (lv' := [(1, .int a2), (0, .ref (ad 200)), (2, .int (nI i)), (3, .int a2), (4, .int (nI j))]) hx hb dX11_sureNow_79 rfl hl (by decide) rfl (fun ls hl => ?_)
            refine lv_iinc (v := (nI (i + 1))) (lv' := [(2, .int (nI (i + 1))), (1, .int a2), (0, .ref (ad 200)), (3, .int a2), (4, .int (nI j))]) hx hb dX11_sureNow_80 hl (k := 2) rfl (nI_1 i) (by decide) rfl (fun ls hl => ?_)
            refine lv_goto (tgt := 4) hx hb dX11_sureNow_83 (by decide) ?_
            exact ih4 (i + 1) a2 ls (by omega) (by omega) (by rw [hb2, show j = no by omega]; exact kMi_1 (v := fun c => sw (fun f => nw f * (100 * kbit (os f) c - oc f)) no) (by omega) c_3) (lv_sub hl [2, 1, 0] rfl)
          · refine lv_iload_n hx hb dX11_sureNow_69 rfl (lv_at hl 3 rfl) ?_
            refine lv_iload_n hx hb dX11_sureNow_70 rfl (lv_at hl 1 rfl) ?_
            refine lv_icmp_ge (tgt := 78) hx hb dX11_sureNow_71 (by decide) (fun c_4 => ?_) (fun c_4 => ?_)
            · refine lv_iload_n hx hb dX11_sureNow_78 rfl (lv_at hl 1 rfl) ?_
              refine lv_istore_n (lv' := [(1, .int acc), (0, .ref (ad 200)), (2, .int (nI i)), (3, .int a2), (4, .int (nI j))]) hx hb dX11_sureNow_79 rfl hl (by decide) rfl (fun ls hl => ?_)
              refine lv_iinc (v := (nI (i + 1))) (lv' := [(2, .int (nI (i + 1))), (1, .int acc), (0, .ref (ad 200)), (3, .int a2), (4, .int (nI j))]) hx hb dX11_sureNow_80 hl (k := 2) rfl (nI_1 i) (by decide) rfl (fun ls hl => ?_)
              refine lv_goto (tgt := 4) hx hb dX11_sureNow_83 (by decide) ?_
              exact ih4 (i + 1) acc ls (by omega) (by omega) (by rw [ha, hb2, show j = no by omega] at c_4; rw [ha]; exact kMi_3 (v := fun c => sw (fun f => nw f * (100 * kbit (os f) c - oc f)) no) (by omega) c_3 c_4) (lv_sub hl [2, 1, 0] rfl)
            · refine lv_iload_n hx hb dX11_sureNow_74 rfl (lv_at hl 3 rfl) ?_
              refine lv_goto (tgt := 79) hx hb dX11_sureNow_75 (by decide) ?_
              refine lv_istore_n (lv' := [(1, .int a2), (0, .ref (ad 200)), (2, .int (nI i)), (3, .int a2), (4, .int (nI j))]) hx hb dX11_sureNow_79 rfl hl (by decide) rfl (fun ls hl => ?_)
              refine lv_iinc (v := (nI (i + 1))) (lv' := [(2, .int (nI (i + 1))), (1, .int a2), (0, .ref (ad 200)), (3, .int a2), (4, .int (nI j))]) hx hb dX11_sureNow_80 hl (k := 2) rfl (nI_1 i) (by decide) rfl (fun ls hl => ?_)
              refine lv_goto (tgt := 4) hx hb dX11_sureNow_83 (by decide) ?_
              exact ih4 (i + 1) a2 ls (by omega) (by omega) (by rw [ha, hb2, show j = no by omega] at c_4; rw [hb2, show j = no by omega]; exact kMi_2 (v := fun c => sw (fun f => nw f * (100 * kbit (os f) c - oc f)) no) c_4) (lv_sub hl [2, 1, 0] rfl)
        · refine lv_iload_n hx hb dX11_sureNow_26 rfl (lv_at hl 3 rfl) ?_
          refine lv_aload_n hx hb dX11_sureNow_27 rfl (lv_at hl 0 rfl) ?_
          refine kg_get (v := .ref (ad 213)) (C := RX11) (T := TX11) (N := 27) hx hb hts hinX11 hown hK hw h0 rfl 21 (by decide) (hts (.fieldLink RX11 57 "BetMakerModel" "now" "[I") (by decide +kernel)) (fun _ h9 => h9) rfl dX11_sureNow_28 ?_
          refine lv_iload hx hb dX11_sureNow_31 (lv_at hl 4 rfl) ?_
          refine kg_iald hx hb hK hw h213 j rfl (by omega) (by omega) dX11_sureNow_33 ?_
          refine lv_bipush (v := 100) hx hb dX11_sureNow_34 (by decide) ?_
          refine lv_aload_n hx hb dX11_sureNow_36 rfl (lv_at hl 0 rfl) ?_
          refine kg_get (v := .ref (ad 210)) (C := RX11) (T := TX11) (N := 27) hx hb hts hinX11 hown hK hw h0 rfl 18 (by decide) (hts (.fieldLink RX11 48 "BetMakerModel" "offerSet" "[I") (by decide +kernel)) (fun _ h9 => h9) rfl dX11_sureNow_37 ?_
          refine lv_iload hx hb dX11_sureNow_40 (lv_at hl 4 rfl) ?_
          refine kg_iald hx hb hK hw h210 j rfl (by omega) (by omega) dX11_sureNow_42 ?_
          refine lv_iload_n hx hb dX11_sureNow_43 rfl (lv_at hl 2 rfl) ?_
          refine kc_s (As := [.int (os j), .int (nI i)]) (rest := [.int 100, .int (nw j), .int a2]) S0 (c_X11_in l D tc s.heap.size ad ct (c := i) ) (va_cwS 2 hts gX11_sureNow_X11_in rfl rfl rfl (by decide +kernel) ⟨Nat.le_of_ble_eq_true rfl, Nat.le_of_ble_eq_true rfl⟩) hK hw rfl hl.1 rfl (Nat.le_of_ble_eq_true rfl) dX11_sureNow_44 ⟨Nat.le_of_ble_eq_true rfl, (Nat.le_of_ble_eq_true rfl)⟩ ?_
          refine lv_imul hx hb dX11_sureNow_47 ?_
          refine lv_aload_n hx hb dX11_sureNow_48 rfl (lv_at hl 0 rfl) ?_
          refine kg_get (v := .ref (ad 211)) (C := RX11) (T := TX11) (N := 27) hx hb hts hinX11 hown hK hw h0 rfl 19 (by decide) (hts (.fieldLink RX11 51 "BetMakerModel" "offerAt" "[I") (by decide +kernel)) (fun _ h9 => h9) rfl dX11_sureNow_49 ?_
          refine lv_iload hx hb dX11_sureNow_52 (lv_at hl 4 rfl) ?_
          refine kg_iald hx hb hK hw h211 j rfl (by omega) (by omega) dX11_sureNow_54 ?_
          refine lv_isub hx hb dX11_sureNow_55 ?_
          refine lv_imul hx hb dX11_sureNow_56 ?_
          refine lv_iadd hx hb dX11_sureNow_57 ?_
          refine lv_istore_n (lv' := [(3, .int (a2 + ((nw j) * ((100 * (kbit (os j) i)) - (oc j))))), (0, .ref (ad 200)), (1, .int acc), (2, .int (nI i)), (4, .int (nI j))]) hx hb dX11_sureNow_58 rfl hl (by decide) rfl (fun ls hl => ?_)
          refine lv_iinc (v := (nI (j + 1))) (lv' := [(4, .int (nI (j + 1))), (3, .int (a2 + ((nw j) * ((100 * (kbit (os j) i)) - (oc j))))), (0, .ref (ad 200)), (1, .int acc), (2, .int (nI i))]) hx hb dX11_sureNow_59 hl (k := 4) rfl (nI_1 j) (by decide) rfl (fun ls hl => ?_)
          refine lv_goto (tgt := 17) hx hb dX11_sureNow_62 (by decide) ?_
          exact ih17 (j + 1) (a2 + ((nw j) * ((100 * (kbit (os j) i)) - (oc j)))) ls (by omega) (by omega) (by rw [hb2]; rfl) (lv_sub hl [2, 3, 4, 1, 0] rfl)
set_option maxHeartbeats 4000000 in
set_option maxRecDepth 100000 in
theorem c_X11_findBundle (l : Launch) (D : va_G) (tc : Nat → ClassId) (sz : Nat) (ad : Nat → Nat) (ct : Nat → Option va_E) {N nt no nf : Nat} {ft tr b cm da bs : Int32} {g : Int64}         {os : Nat → Int32} {oc : Nat → Int32} {om : Nat → Int32} {nw : Nat → Int32} {br : Nat → Int32}   {mm : Nat → Nat} (h0 : ct 200 = some (.inr (11, [.int ft, .int tr, .int (nI N), .int b, .ref (ad 201), .long g, .int cm, .int da, .int (nI nt), .ref (ad 202), .ref (ad 203), .ref (ad 204), .ref (ad 205), .ref (ad 206), .ref (ad 207), .ref (ad 208), .ref (ad 209), .int (nI no), .ref (ad 210), .ref (ad 211), .ref (ad 212), .ref (ad 213), .ref (ad 214), .int bs, .int (nI nf), .ref (ad 215), .ref (ad 216)]))) (h210 : ct 210 = some (eI tc 6 os)) (h211 : ct 211 = some (eI tc 6 oc)) (h212 : ct 212 = some (eI tc 6 om)) (h213 : ct 213 = some (eI tc 6 nw)) (h214 : ct 214 = some (eI tc 6 br)) (hN : N ≤ 8) (hN2 : 2 ≤ N) (hno : no ≤ 6) (hom : ∀ y9, y9 < no → om y9 = nI (mm y9)) (hm3 : ∀ y9, y9 < no → mm y9 ≤ 3) : Met l yX11_findBundle wsX11_findBundle ({ frames := 2, cells := 0, slots := 0, locals := 53 }) (va_Pc [.ref (ad 200)] (kw_B D tc sz ad ct)) (kw_Q D ad (kw_A ad ct sz) (none) (kw_up (kw_up (kw_up ct 200 (.inr (11, [.int ft, .int tr, .int (nI N), .int b, .ref (ad 201), .long g, .int cm, .int da, .int (nI nt), .ref (ad 202), .ref (ad 203), .ref (ad 204), .ref (ad 205), .ref (ad 206), .ref (ad 207), .ref (ad 208), .ref (ad 209), .int (nI no), .ref (ad 210), .ref (ad 211), .ref (ad 212), .ref (ad 213), .ref (ad 214), .int ((kFo mm (kH os oc no N) no 4096 (fun _ => 0) 0 (fun _ => 0)).2.1), .int (nI nf), .ref (ad 215), .ref (ad 216)]))) 213 (eI tc 6 (kCp nw (fun f => nI ((kFo mm (kH os oc no N) no 4096 (fun _ => 0) 0 (fun _ => 0)).1 f)) 6))) 214 (eI tc 6 (kCp br (fun f => nI ((kFo mm (kH os oc no N) no 4096 (fun _ => 0) 0 (fun _ => 0)).2.2 f)) 6))) 0) 0 0 (kw_A ad ct sz) := by
  refine Met.ofW (cc := cX11_findBundle) (maxL := 4) (ret := none) (by decide) rfl ?_
  intro pg en s m args below meth cod s₁ B hml hv
  obtain ⟨rfl, hsz, hP0, hK⟩ := hv
  have hx := B.exec
  have hb := B.bytes
  have hr := B.returns
  have hts := atoms_spec (ws := wsX11_findBundle) B.pre
  have hown : s.vm.findClass RX11 = some m.cls := findClass_of_methodNamed B.named
  have hlocks := B.notSynchronized
  subst hsz
  have hw := kw_H.start hP0
  generalize hAe : kw_A ad ct s.heap.size = A at hw ⊢
  have hA : ∀ q, s.heap.size ≤ q → A q := fun q h => by rw [← hAe]; exact Or.inr h
  have hinX11 : ∀ w ∈ wsX110, w ∈ wsX11_findBundle := by decide +kernel
  have hl := lv_entry ([.ref (ad 200)]) (n := 4) (Nat.le_of_ble_eq_true rfl)
  rw [lg_entry_eq]
  generalize (lg_sl ([.ref (ad 200)]) ++ List.replicate (4 - (lg_sl ([.ref (ad 200)])).length) Slot.unset).toArray = ls at hl ⊢
  have hl : lv_has ls 4 [(0, .ref (ad 200))] := hl
  have S0 : CallFix pg m cod cX11_findBundle 4 s _ wsX11_findBundle RX11 := ⟨hx, hb, hml, hown, hts⟩
  have hfr : ∀ j, j ≠ 200 → j ≠ 213 → j ≠ 214 → ct j = ct j := fun _ _ _ _ => rfl
  refine lv_iconst (v := 0) hx hb dX11_findBundle_0 (by decide) ?_
  refine lv_istore_n (lv' := [(1, .int 0), (0, .ref (ad 200))]) hx hb dX11_findBundle_1 rfl hl (by decide) rfl (fun ls hl => ?_)
  suffices lp2 : ∀ (nfu : Nat) (i0 : Nat) (g1 g2 : Nat → Int32) (ctL2 : Nat → Option va_E) (H : Heap) (locs : List Loc) (ls : Array Slot), 6 - i0 < nfu → i0 ≤ 6 → g1 = kFl nw 0 i0 → g2 = kFl br 0 i0 → ctL2 200 = some (.inr (11, [.int ft, .int tr, .int (nI N), .int b, .ref (ad 201), .long g, .int cm, .int da, .int (nI nt), .ref (ad 202), .ref (ad 203), .ref (ad 204), .ref (ad 205), .ref (ad 206), .ref (ad 207), .ref (ad 208), .ref (ad 209), .int (nI no), .ref (ad 210), .ref (ad 211), .ref (ad 212), .ref (ad 213), .ref (ad 214), .int bs, .int (nI nf), .ref (ad 215), .ref (ad 216)])) → ctL2 210 = some (eI tc 6 os) → ctL2 211 = some (eI tc 6 oc) → ctL2 212 = some (eI tc 6 om) → ctL2 213 = some (eI tc 6 g1) → ctL2 214 = some (eI tc 6 g2) → (∀ j, j ≠ 200 → j ≠ 213 → j ≠ 214 → ctL2 j = ct j) → kw_H D ad A s.heap ctL2 H locs s.heap.size → lv_has ls 4 [(0, .ref (ad 200)), (1, .int (nI i0))] → W pg l en (headSpec wsX11_findBundle ({ frames := 2, cells := 0, slots := 0, locals := 53 })).room s m (([.ref (ad 200)] : List Value).toArray) below meth cod H locs 0 0 (MQ below (kw_Q D ad A (none) (kw_up (kw_up (kw_up ct 200 (.inr (11, [.int ft, .int tr, .int (nI N), .int b, .ref (ad 201), .long g, .int cm, .int da, .int (nI nt), .ref (ad 202), .ref (ad 203), .ref (ad 204), .ref (ad 205), .ref (ad 206), .ref (ad 207), .ref (ad 208), .ref (ad 209), .int (nI no), .ref (ad 210), .ref (ad 211), .ref (ad 212), .ref (ad 213), .ref (ad 214), .int ((kFo mm (kH os oc no N) no 4096 (fun _ => 0) 0 (fun _ => 0)).2.1), .int (nI nf), .ref (ad 215), .ref (ad 216)]))) 213 (eI tc 6 (kCp nw (fun f => nI ((kFo mm (kH os oc no N) no 4096 (fun _ => 0) 0 (fun _ => 0)).1 f)) 6))) 214 (eI tc 6 (kCp br (fun f => nI ((kFo mm (kH os oc no N) no 4096 (fun _ => 0) 0 (fun _ => 0)).2.2 f)) 6))) 0) (([.ref (ad 200)] : List Value).toArray) s 0 0 A) (F0 m 2 ls []) by
    exact lp2 (6 - 0 + 1) 0 nw br _ _ _ ls (by omega) (by omega) (by exact kFl_0 _ _) (by exact kFl_0 _ _) h0 h210 h211 h212 h213 h214 hfr hw (by have hl9 := lv_sub hl (l' := [(0, .ref (ad 200)), (1, .int 0)]) [1, 0] rfl; exact hl9)
  intro n2
  induction n2 with
  | zero => intro i0 g1 g2 ctL2 H locs ls hfu; exact absurd hfu (Nat.not_lt_zero _)
  | succ n2 ih2 =>
    intro i0 g1 g2 ctL2 H locs ls hfu2 hi0 hg1 hg2 h_1 h_2 h_3 h_4 h_5 h_6 hfr_7 hw hl
    refine lv_iload_n hx hb dX11_findBundle_2 rfl (lv_at hl 1 rfl) ?_
    refine lv_bipush (v := 6) hx hb dX11_findBundle_3 (by decide) ?_
    refine kn_ge i0 6 rfl rfl (by omega) (by omega) (tgt := 28) hx hb dX11_findBundle_5 (by decide) (fun c_8 => ?_) (fun c_8 => ?_)
    · refine lv_aload_n hx hb dX11_findBundle_28 rfl (lv_at hl 0 rfl) ?_
      refine lv_iconst (v := 0) hx hb dX11_findBundle_29 (by decide) ?_
      refine kg_put (v := .int 0) (ty := .int) (C := RX11) (T := TX11) (N := 27) (fs' := [.int ft, .int tr, .int (nI N), .int b, .ref (ad 201), .long g, .int cm, .int da, .int (nI nt), .ref (ad 202), .ref (ad 203), .ref (ad 204), .ref (ad 205), .ref (ad 206), .ref (ad 207), .ref (ad 208), .ref (ad 209), .int (nI no), .ref (ad 210), .ref (ad 211), .ref (ad 212), .ref (ad 213), .ref (ad 214), .int 0, .int (nI nf), .ref (ad 215), .ref (ad 216)]) hx hb hts hinX11 tyX11 tyX11_ok nmX11 hown hK hw h_1 rfl 23 (by decide) (hts (.fieldLink RX11 178 "BetMakerModel" "bestSure" "I") (by decide +kernel)) (fun _ h9 => h9) rfl (by decide +kernel) rfl rfl (Nat.le_of_ble_eq_true rfl) rfl dX11_findBundle_30 (fun H locs hw => ?_)
      obtain ⟨ct_9, ect_9⟩ : ∃ z, z = kw_up ctL2 200 (.inr (11, [.int ft, .int tr, .int (nI N), .int b, .ref (ad 201), .long g, .int cm, .int da, .int (nI nt), .ref (ad 202), .ref (ad 203), .ref (ad 204), .ref (ad 205), .ref (ad 206), .ref (ad 207), .ref (ad 208), .ref (ad 209), .int (nI no), .ref (ad 210), .ref (ad 211), .ref (ad 212), .ref (ad 213), .ref (ad 214), .int 0, .int (nI nf), .ref (ad 215), .ref (ad 216)])) := ⟨_, rfl⟩
      rw [← ect_9] at hw
      have h_10 : ct_9 210 = some (eI tc 6 os) := by rw [ect_9, kw_up_n (by decide)]; exact h_2
      have h_11 : ct_9 211 = some (eI tc 6 oc) := by rw [ect_9, kw_up_n (by decide)]; exact h_3
      have h_12 : ct_9 212 = some (eI tc 6 om) := by rw [ect_9, kw_up_n (by decide)]; exact h_4
      have h_13 : ct_9 213 = some (eI tc 6 g1) := by rw [ect_9, kw_up_n (by decide)]; exact h_5
      have h_14 : ct_9 214 = some (eI tc 6 g2) := by rw [ect_9, kw_up_n (by decide)]; exact h_6
      have h_15 : ct_9 200 = some (.inr (11, [.int ft, .int tr, .int (nI N), .int b, .ref (ad 201), .long g, .int cm, .int da, .int (nI nt), .ref (ad 202), .ref (ad 203), .ref (ad 204), .ref (ad 205), .ref (ad 206), .ref (ad 207), .ref (ad 208), .ref (ad 209), .int (nI no), .ref (ad 210), .ref (ad 211), .ref (ad 212), .ref (ad 213), .ref (ad 214), .int 0, .int (nI nf), .ref (ad 215), .ref (ad 216)])) := by rw [ect_9]; exact kw_up_s
      have hfr_16 : ∀ j, j ≠ 200 → j ≠ 213 → j ≠ 214 → ct_9 j = ct j := fun j a0 a1 a2 => by rw [ect_9]; exact (kw_up_n a0).trans (hfr_7 j a0 a1 a2)
      refine lv_aload_n hx hb dX11_findBundle_33 rfl (lv_at hl 0 rfl) ?_
      refine kg_get (v := .int (nI no)) (C := RX11) (T := TX11) (N := 27) hx hb hts hinX11 hown hK hw h_15 rfl 17 (by decide) (hts (.fieldLink RX11 96 "BetMakerModel" "offers" "I") (by decide +kernel)) (fun _ h9 => h9) rfl dX11_findBundle_34 ?_
      refine lv_iconst (v := 1) hx hb dX11_findBundle_37 (by decide) ?_
      refine lv_isub hx hb dX11_findBundle_38 ?_
      refine lv_istore_n (lv' := [(1, .int ((nI no) - 1)), (0, .ref (ad 200))]) hx hb dX11_findBundle_39 rfl hl (by decide) rfl (fun ls hl => ?_)
      suffices lp40 : ∀ (nfu : Nat) (i w : Nat) (r1 : Nat → Nat) (g1 : Int32) (rb1 : Nat → Nat) (ctL40 : Nat → Option va_E) (H : Heap) (locs : List Loc) (ls : Array Slot), w < nfu → i ≤ no → (∀ f, f < no → r1 f ≤ mm f) → (∀ f, no ≤ f → r1 f = 0) → (∀ f, no ≤ f → rb1 f = 0) → (i = 0 ∨ w + kVl mm r1 no = 4096) → ((i = 0 ∧ (r1, g1, rb1) = kFo mm (kH os oc no N) no 4096 (fun _ => 0) 0 (fun _ => 0)) ∨ (0 < i ∧ kFo mm (kH os oc no N) no (4096 - kVl mm r1 no) r1 (if g1 < kH os oc no N r1 then kH os oc no N r1 else g1) (if g1 < kH os oc no N r1 then r1 else rb1) = kFo mm (kH os oc no N) no 4096 (fun _ => 0) 0 (fun _ => 0))) → ctL40 210 = some (eI tc 6 os) → ctL40 211 = some (eI tc 6 oc) → ctL40 212 = some (eI tc 6 om) → ctL40 213 = some (eI tc 6 (kCp nw (fun f => nI (r1 f)) 6)) → ctL40 214 = some (eI tc 6 (kCp br (fun f => nI (rb1 f)) 6)) → ctL40 200 = some (.inr (11, [.int ft, .int tr, .int (nI N), .int b, .ref (ad 201), .long g, .int cm, .int da, .int (nI nt), .ref (ad 202), .ref (ad 203), .ref (ad 204), .ref (ad 205), .ref (ad 206), .ref (ad 207), .ref (ad 208), .ref (ad 209), .int (nI no), .ref (ad 210), .ref (ad 211), .ref (ad 212), .ref (ad 213), .ref (ad 214), .int g1, .int (nI nf), .ref (ad 215), .ref (ad 216)])) → (∀ j, j ≠ 200 → j ≠ 213 → j ≠ 214 → ctL40 j = ct j) → kw_H D ad A s.heap ctL40 H locs s.heap.size → lv_has ls 4 [(0, .ref (ad 200)), (1, .int (nI i - 1))] → W pg l en (headSpec wsX11_findBundle ({ frames := 2, cells := 0, slots := 0, locals := 53 })).room s m (([.ref (ad 200)] : List Value).toArray) below meth cod H locs 0 0 (MQ below (kw_Q D ad A (none) (kw_up (kw_up (kw_up ct 200 (.inr (11, [.int ft, .int tr, .int (nI N), .int b, .ref (ad 201), .long g, .int cm, .int da, .int (nI nt), .ref (ad 202), .ref (ad 203), .ref (ad 204), .ref (ad 205), .ref (ad 206), .ref (ad 207), .ref (ad 208), .ref (ad 209), .int (nI no), .ref (ad 210), .ref (ad 211), .ref (ad 212), .ref (ad 213), .ref (ad 214), .int ((kFo mm (kH os oc no N) no 4096 (fun _ => 0) 0 (fun _ => 0)).2.1), .int (nI nf), .ref (ad 215), .ref (ad 216)]))) 213 (eI tc 6 (kCp nw (fun f => nI ((kFo mm (kH os oc no N) no 4096 (fun _ => 0) 0 (fun _ => 0)).1 f)) 6))) 214 (eI tc 6 (kCp br (fun f => nI ((kFo mm (kH os oc no N) no 4096 (fun _ => 0) 0 (fun _ => 0)).2.2 f)) 6))) 0) (([.ref (ad 200)] : List Value).toArray) s 0 0 A) (F0 m 40 ls []) by
        exact lp40 (4096 + 1) no 4096 (fun _ => 0) 0 (fun _ => 0) _ _ _ ls (by omega) (by omega) (by exact fun _ _ => Nat.zero_le _) (by exact fun _ _ => rfl) (by exact fun _ _ => rfl) (by exact Or.inr (by rw [kVl_0])) (by exact kFi_0 hno) h_10 h_11 h_12 (h_13.trans (congrArg some (show (eI tc 6 g1 : va_E) = eI tc 6 (kCp nw (fun f => nI ((fun _ => 0) f)) 6) from by rw [hg1, show i0 = 6 by omega]; rfl))) (h_14.trans (congrArg some (show (eI tc 6 g2 : va_E) = eI tc 6 (kCp br (fun f => nI ((fun _ => 0) f)) 6) from by rw [hg2, show i0 = 6 by omega]; rfl))) h_15 hfr_16 hw (by have hl9 := lv_sub hl (l' := [(0, .ref (ad 200)), (1, .int ((nI no) - 1))]) [1, 0] rfl; exact hl9)
      intro n40
      induction n40 with
      | zero => intro i w r1 g1 rb1 ctL40 H locs ls hfu; exact absurd hfu (Nat.not_lt_zero _)
      | succ n40 ih40 =>
        intro i w r1 g1 rb1 ctL40 H locs ls hfu40 hi hbd hz1 hz2 hwv hB h_17 h_18 h_19 h_20 h_21 h_22 hfr_23 hw hl
        refine lv_iload_n hx hb dX11_findBundle_40 rfl (lv_at hl 1 rfl) ?_
        refine lv_if_lt (tgt := 146) hx hb dX11_findBundle_41 (by decide) (fun c_24 => ?_) (fun c_24 => ?_)
        · have hq_25 : ctL40 200 = some (.inr (11, [.int ft, .int tr, .int (nI N), .int b, .ref (ad 201), .long g, .int cm, .int da, .int (nI nt), .ref (ad 202), .ref (ad 203), .ref (ad 204), .ref (ad 205), .ref (ad 206), .ref (ad 207), .ref (ad 208), .ref (ad 209), .int (nI no), .ref (ad 210), .ref (ad 211), .ref (ad 212), .ref (ad 213), .ref (ad 214), .int ((kFo mm (kH os oc no N) no 4096 (fun _ => 0) 0 (fun _ => 0)).2.1), .int (nI nf), .ref (ad 215), .ref (ad 216)])) := h_22.trans (congrArg some (show (.inr (11, [.int ft, .int tr, .int (nI N), .int b, .ref (ad 201), .long g, .int cm, .int da, .int (nI nt), .ref (ad 202), .ref (ad 203), .ref (ad 204), .ref (ad 205), .ref (ad 206), .ref (ad 207), .ref (ad 208), .ref (ad 209), .int (nI no), .ref (ad 210), .ref (ad 211), .ref (ad 212), .ref (ad 213), .ref (ad 214), .int g1, .int (nI nf), .ref (ad 215), .ref (ad 216)]) : va_E) = .inr (11, [.int ft, .int tr, .int (nI N), .int b, .ref (ad 201), .long g, .int cm, .int da, .int (nI nt), .ref (ad 202), .ref (ad 203), .ref (ad 204), .ref (ad 205), .ref (ad 206), .ref (ad 207), .ref (ad 208), .ref (ad 209), .int (nI no), .ref (ad 210), .ref (ad 211), .ref (ad 212), .ref (ad 213), .ref (ad 214), .int ((kFo mm (kH os oc no N) no 4096 (fun _ => 0) 0 (fun _ => 0)).2.1), .int (nI nf), .ref (ad 215), .ref (ad 216)]) from by rw [← (hB.resolve_right (fun q => by have := kx_neg c_24 (by omega); omega)).2]))
          have hq_26 : ctL40 213 = some (eI tc 6 (kCp nw (fun f => nI ((kFo mm (kH os oc no N) no 4096 (fun _ => 0) 0 (fun _ => 0)).1 f)) 6)) := h_20.trans (congrArg some (show (eI tc 6 (kCp nw (fun f => nI (r1 f)) 6) : va_E) = eI tc 6 (kCp nw (fun f => nI ((kFo mm (kH os oc no N) no 4096 (fun _ => 0) 0 (fun _ => 0)).1 f)) 6) from by rw [← (hB.resolve_right (fun q => by have := kx_neg c_24 (by omega); omega)).2]))
          have hq_27 : ctL40 214 = some (eI tc 6 (kCp br (fun f => nI ((kFo mm (kH os oc no N) no 4096 (fun _ => 0) 0 (fun _ => 0)).2.2 f)) 6)) := h_21.trans (congrArg some (show (eI tc 6 (kCp br (fun f => nI (rb1 f)) 6) : va_E) = eI tc 6 (kCp br (fun f => nI ((kFo mm (kH os oc no N) no 4096 (fun _ => 0) 0 (fun _ => 0)).2.2 f)) 6) from by rw [← (hB.resolve_right (fun q => by have := kx_neg c_24 (by omega); omega)).2]))
          have hend := kw_eq3 hq_25 hq_26 hq_27 hfr_23
          rw [hend] at hw
          exact W.vret hx hb hr (fun t ht _ => ⟨rfl, by rw [ht]; exact hw.1, hw.2.2.1, hw.2.1.F ht, by rw [ht]; exact hw.2.2.2⟩) hw.2.1.2.2 dX11_findBundle_146
        · have hip := kx_neg0 c_24
          have hvl := kVl_6 hno hbd hm3
          have hB1 := (hB.resolve_left (fun q => by omega)).2
          refine lv_aload_n hx hb dX11_findBundle_44 rfl (lv_at hl 0 rfl) ?_
          refine kc_v (As := []) (rest := []) S0 (c_X11_sureNow l D tc s.heap.size ad ctL40 (N := N) (nt := nt) (no := no) (nf := nf) h_22 h_17 h_18 h_20 (by omega) (by omega)) (cwV 0 hts gX11_findBundle_X11_sureNow rfl rfl rfl (by decide +kernel) ⟨Nat.le_of_ble_eq_true rfl, Nat.le_of_ble_eq_true rfl⟩) hK hw h_22 rfl rfl hl.1 rfl (Nat.le_of_ble_eq_true rfl) dX11_findBundle_45 ⟨Nat.le_of_ble_eq_true rfl, (Nat.le_of_ble_eq_true rfl)⟩ ?_
          refine W.eq (congrArg (fun z => F0 m 48 ls (.int z :: [])) (show kSn (kCp nw (fun f => nI (r1 f)) 6) os oc no N = kH os oc no N r1 from by exact kH_c hno)) ?_
          refine lv_istore_n (lv' := [(2, .int (kH os oc no N r1)), (0, .ref (ad 200)), (1, .int (nI i - 1))]) hx hb dX11_findBundle_48 rfl hl (by decide) rfl (fun ls hl => ?_)
          refine lv_iload_n hx hb dX11_findBundle_49 rfl (lv_at hl 0 rfl) ?_
          refine lv_aload_n hx hb dX11_findBundle_50 rfl (lv_at hl 1 rfl) ?_
          refine kg_get (v := .int g1) (C := RX11) (T := TX11) (N := 27) hx hb hts hinX11 hown hK hw h_22 rfl 23 (by decide) (hts (.fieldLink RX11 178 "BetMakerModel" "bestSure" "I") (by decide +kernel)) (fun _ h9 => h9) rfl dX11_findBundle_51 ?_
          refine lv_icmp_le (tgt := 90) hx hb dX11_findBundle_54 (by decide) (fun c_28 => ?_) (fun c_28 => ?_)
          · rw [if_neg (kq_4 c_28), if_neg (kq_4 c_28)] at hB1
            refine lv_aload_n hx hb dX11_findBundle_90 rfl (lv_at hl 1 rfl) ?_
            refine kg_get (v := .int (nI no)) (C := RX11) (T := TX11) (N := 27) hx hb hts hinX11 hown hK hw h_22 rfl 17 (by decide) (hts (.fieldLink RX11 96 "BetMakerModel" "offers" "I") (by decide +kernel)) (fun _ h9 => h9) rfl dX11_findBundle_91 ?_
            refine lv_iconst (v := 1) hx hb dX11_findBundle_94 (by decide) ?_
            refine lv_isub hx hb dX11_findBundle_95 ?_
            refine lv_istore_n (lv' := [(1, .int ((nI no) - 1)), (2, .int (kH os oc no N r1)), (0, .ref (ad 200))]) hx hb dX11_findBundle_96 rfl hl (by decide) rfl (fun ls hl => ?_)
            suffices lp97 : ∀ (nfu : Nat) (j : Nat) (r2 : Nat → Nat) (ctL97 : Nat → Option va_E) (H : Heap) (locs : List Loc) (ls : Array Slot), j < nfu → j ≤ no → kStp mm j r2 = kStp mm no r1 → (∀ f, f < no → r2 f ≤ mm f) → (∀ f, no ≤ f → r2 f = 0) → ctL97 210 = some (eI tc 6 os) → ctL97 211 = some (eI tc 6 oc) → ctL97 212 = some (eI tc 6 om) → ctL97 213 = some (eI tc 6 (kCp nw (fun f => nI (r2 f)) 6)) → ctL97 214 = some (eI tc 6 (kCp br (fun f => nI (rb1 f)) 6)) → ctL97 200 = some (.inr (11, [.int ft, .int tr, .int (nI N), .int b, .ref (ad 201), .long g, .int cm, .int da, .int (nI nt), .ref (ad 202), .ref (ad 203), .ref (ad 204), .ref (ad 205), .ref (ad 206), .ref (ad 207), .ref (ad 208), .ref (ad 209), .int (nI no), .ref (ad 210), .ref (ad 211), .ref (ad 212), .ref (ad 213), .ref (ad 214), .int g1, .int (nI nf), .ref (ad 215), .ref (ad 216)])) → (∀ j, j ≠ 200 → j ≠ 213 → j ≠ 214 → ctL97 j = ct j) → kw_H D ad A s.heap ctL97 H locs s.heap.size → lv_has ls 4 [(0, .ref (ad 200)), (1, .int (nI j - 1))] → W pg l en (headSpec wsX11_findBundle ({ frames := 2, cells := 0, slots := 0, locals := 53 })).room s m (([.ref (ad 200)] : List Value).toArray) below meth cod H locs 0 0 (MQ below (kw_Q D ad A (none) (kw_up (kw_up (kw_up ct 200 (.inr (11, [.int ft, .int tr, .int (nI N), .int b, .ref (ad 201), .long g, .int cm, .int da, .int (nI nt), .ref (ad 202), .ref (ad 203), .ref (ad 204), .ref (ad 205), .ref (ad 206), .ref (ad 207), .ref (ad 208), .ref (ad 209), .int (nI no), .ref (ad 210), .ref (ad 211), .ref (ad 212), .ref (ad 213), .ref (ad 214), .int ((kFo mm (kH os oc no N) no 4096 (fun _ => 0) 0 (fun _ => 0)).2.1), .int (nI nf), .ref (ad 215), .ref (ad 216)]))) 213 (eI tc 6 (kCp nw (fun f => nI ((kFo mm (kH os oc no N) no 4096 (fun _ => 0) 0 (fun _ => 0)).1 f)) 6))) 214 (eI tc 6 (kCp br (fun f => nI ((kFo mm (kH os oc no N) no 4096 (fun _ => 0) 0 (fun _ => 0)).2.2 f)) 6))) 0) (([.ref (ad 200)] : List Value).toArray) s 0 0 A) (F0 m 97 ls []) by
              exact lp97 (no + 1) no r1 _ _ _ ls (by omega) (by omega) (by rfl) (by exact hbd) (by exact hz1) h_17 h_18 h_19 h_20 h_21 h_22 hfr_23 hw (by have hl9 := lv_sub hl (l' := [(0, .ref (ad 200)), (1, .int ((nI no) - 1))]) [2, 0] rfl; exact hl9)
            intro n97
            induction n97 with
            | zero => intro j r2 ctL97 H locs ls hfu; exact absurd hfu (Nat.not_lt_zero _)
            | succ n97 ih97 =>
              intro j r2 ctL97 H locs ls hfu97 hj hS hbd2 hz3 h_29 h_30 h_31 h_32 h_33 h_34 hfr_35 hw hl
              refine lv_iload_n hx hb dX11_findBundle_97 rfl (lv_at hl 1 rfl) ?_
              refine lv_if_lt (tgt := 129) hx hb dX11_findBundle_98 (by decide) (fun c_36 => ?_) (fun c_36 => ?_)
              · have hS0 : j = 0 → kStp mm no r1 = (r2, false) := fun q => by rw [← hS, q]; rfl /- c_36 -/
                refine lv_iload_n hx hb dX11_findBundle_129 rfl (lv_at hl 1 rfl) ?_
                refine lv_if_lt (tgt := 143) hx hb dX11_findBundle_130 (by decide) (fun c_37 => ?_) (fun c_37 => ?_)
                · refine lv_goto (tgt := 40) hx hb dX11_findBundle_143 (by decide) ?_
                  exact ih40 j (w - 1) r2 g1 rb1 _ _ _ ls (by omega) (by omega) (by exact hbd2 /- c_36 -/) (by exact hz3 /- c_36 -/) (by exact hz2) (by exact Or.inl (kx_neg c_36 (by omega))) (by exact Or.inl ⟨kx_neg c_36 (by omega), by rw [← hB1, kFo_f (r := r1) (k1 := 4095 - kVl mm r1 no) (by omega) (hS0 (kx_neg c_36 (by omega)))]⟩) h_29 h_30 h_31 h_32 h_33 h_34 hfr_35 hw (lv_sub hl [0, 1] rfl)
                · exact absurd c_36 c_37
              · obtain ⟨jj, rfl⟩ : ∃ z, j = z + 1 := ⟨j - 1, by have := kx_neg0 c_36; omega⟩
                rw [kx_m1] at hl
                have hm9 := hm3 jj (by omega)
                have hb9 := hbd2 jj (by omega)
                refine lv_aload_n hx hb dX11_findBundle_101 rfl (lv_at hl 0 rfl) ?_
                refine kg_get (v := .ref (ad 213)) (C := RX11) (T := TX11) (N := 27) hx hb hts hinX11 hown hK hw h_34 rfl 21 (by decide) (hts (.fieldLink RX11 57 "BetMakerModel" "now" "[I") (by decide +kernel)) (fun _ h9 => h9) rfl dX11_findBundle_102 ?_
                refine lv_iload_n hx hb dX11_findBundle_105 rfl (lv_at hl 1 rfl) ?_
                refine kg_iald hx hb hK hw h_32 jj rfl (by omega) (by omega) dX11_findBundle_106 ?_
                rw [show (kCp nw (fun f => nI (r2 f)) 6) jj = nI (r2 jj) from (kCp_in (by omega))]
                refine lv_aload_n hx hb dX11_findBundle_107 rfl (lv_at hl 0 rfl) ?_
                refine kg_get (v := .ref (ad 212)) (C := RX11) (T := TX11) (N := 27) hx hb hts hinX11 hown hK hw h_34 rfl 20 (by decide) (hts (.fieldLink RX11 54 "BetMakerModel" "offerMost" "[I") (by decide +kernel)) (fun _ h9 => h9) rfl dX11_findBundle_108 ?_
                refine lv_iload_n hx hb dX11_findBundle_111 rfl (lv_at hl 1 rfl) ?_
                refine kg_iald hx hb hK hw h_31 jj rfl (by omega) (by omega) dX11_findBundle_112 ?_
                rw [show om jj = nI (mm jj) from (hom jj (by omega))]
                refine kn_ne (r2 jj) (mm jj) rfl rfl (by omega) (by omega) (tgt := 129) hx hb dX11_findBundle_113 (by decide) (fun c_38 => ?_) (fun c_38 => ?_)
                · have hlt : r2 jj < mm jj := by have := hbd2 jj (by omega); omega /- c_36 -/
                  refine lv_iload_n hx hb dX11_findBundle_129 rfl (lv_at hl 1 rfl) ?_
                  refine lv_if_lt (tgt := 143) hx hb dX11_findBundle_130 (by decide) (fun c_39 => ?_) (fun c_39 => ?_)
                  · exact absurd c_39 (nI_pos (by omega))
                  · refine lv_aload_n hx hb dX11_findBundle_133 rfl (lv_at hl 0 rfl) ?_
                    refine kg_get (v := .ref (ad 213)) (C := RX11) (T := TX11) (N := 27) hx hb hts hinX11 hown hK hw h_34 rfl 21 (by decide) (hts (.fieldLink RX11 57 "BetMakerModel" "now" "[I") (by decide +kernel)) (fun _ h9 => h9) rfl dX11_findBundle_134 ?_
                    refine lv_iload_n hx hb dX11_findBundle_137 rfl (lv_at hl 1 rfl) ?_
                    refine lv_dup2_11 hx hb dX11_findBundle_138 rfl rfl ?_
                    refine kg_iald hx hb hK hw h_32 jj rfl (by omega) (by omega) dX11_findBundle_139 ?_
                    refine lv_iconst (v := 1) hx hb dX11_findBundle_140 (by decide) ?_
                    refine lv_iadd hx hb dX11_findBundle_141 ?_
                    refine kg_iast hx hb hK hw h_32 jj rfl (by omega) (by omega) dX11_findBundle_142 (fun H locs hw => ?_)
                    obtain ⟨ct_40, ect_40⟩ : ∃ z, z = kw_up ctL97 213 (eI tc 6 (va_up (kCp nw (fun f => nI (r2 f)) 6) jj (((kCp nw (fun f => nI (r2 f)) 6) jj) + 1))) := ⟨_, rfl⟩
                    rw [← ect_40] at hw
                    have h_41 : ct_40 210 = some (eI tc 6 os) := by rw [ect_40, kw_up_n (by decide)]; exact h_29
                    have h_42 : ct_40 211 = some (eI tc 6 oc) := by rw [ect_40, kw_up_n (by decide)]; exact h_30
                    have h_43 : ct_40 212 = some (eI tc 6 om) := by rw [ect_40, kw_up_n (by decide)]; exact h_31
                    have h_44 : ct_40 214 = some (eI tc 6 (kCp br (fun f => nI (rb1 f)) 6)) := by rw [ect_40, kw_up_n (by decide)]; exact h_33
                    have h_45 : ct_40 200 = some (.inr (11, [.int ft, .int tr, .int (nI N), .int b, .ref (ad 201), .long g, .int cm, .int da, .int (nI nt), .ref (ad 202), .ref (ad 203), .ref (ad 204), .ref (ad 205), .ref (ad 206), .ref (ad 207), .ref (ad 208), .ref (ad 209), .int (nI no), .ref (ad 210), .ref (ad 211), .ref (ad 212), .ref (ad 213), .ref (ad 214), .int g1, .int (nI nf), .ref (ad 215), .ref (ad 216)])) := by rw [ect_40, kw_up_n (by decide)]; exact h_34
                    have h_46 : ct_40 213 = some (eI tc 6 (va_up (kCp nw (fun f => nI (r2 f)) 6) jj (((kCp nw (fun f => nI (r2 f)) 6) jj) + 1))) := by rw [ect_40]; exact kw_up_s
                    have hfr_47 : ∀ j, j ≠ 200 → j ≠ 213 → j ≠ 214 → ct_40 j = ct j := fun j a0 a1 a2 => by rw [ect_40]; exact (kw_up_n a1).trans (hfr_35 j a0 a1 a2)
                    refine lv_goto (tgt := 40) hx hb dX11_findBundle_143 (by decide) ?_
                    exact ih40 (jj + 1) (w - 1) (va_up r2 jj (r2 jj + 1)) g1 rb1 _ _ _ ls (by omega) (by omega) (by exact kup_le hbd2 (by have := hbd2 jj (by omega); omega)) (by exact kup_z hz3 (by omega)) (by exact hz2) (by exact Or.inr (by have e1 := kVl_step hbd (hS ▸ congrArg Prod.snd (kStp_t hlt)); rw [← hS, kStp_t hlt] at e1; have e2 : kVl mm (va_up r2 jj (r2 jj + 1)) no = kVl mm r1 no + 1 := e1; omega)) (by exact Or.inr ⟨by omega, by rw [← hB1, kFo_t (r := r1) (k1 := 4095 - kVl mm r1 no) (by omega) (show kStp mm no r1 = (va_up r2 jj (r2 jj + 1), true) from hS ▸ kStp_t hlt)]; have e1 := kVl_step hbd (hS ▸ congrArg Prod.snd (kStp_t hlt)); rw [← hS, kStp_t hlt] at e1; have e2 : kVl mm (va_up r2 jj (r2 jj + 1)) no = kVl mm r1 no + 1 := e1; rw [e2, show 4096 - (kVl mm r1 no + 1) = 4095 - kVl mm r1 no by omega]⟩) h_41 h_42 h_43 (h_46.trans (congrArg some (show (eI tc 6 (va_up (kCp nw (fun f => nI (r2 f)) 6) jj (((kCp nw (fun f => nI (r2 f)) 6) jj) + 1)) : va_E) = eI tc 6 (kCp nw (fun f => nI ((va_up r2 jj (r2 jj + 1)) f)) 6) from by rw [kr6 (by omega) (nI_1 _)]))) h_44 h_45 hfr_47 hw (by have hl9 := lv_sub hl (l' := [(0, .ref (ad 200)), (1, .int (nI jj))]) [0, 1] rfl; rw [kx_m1]; exact hl9)
                · refine lv_aload_n hx hb dX11_findBundle_116 rfl (lv_at hl 0 rfl) ?_
                  refine kg_get (v := .ref (ad 213)) (C := RX11) (T := TX11) (N := 27) hx hb hts hinX11 hown hK hw h_34 rfl 21 (by decide) (hts (.fieldLink RX11 57 "BetMakerModel" "now" "[I") (by decide +kernel)) (fun _ h9 => h9) rfl dX11_findBundle_117 ?_
                  refine lv_iload_n hx hb dX11_findBundle_120 rfl (lv_at hl 1 rfl) ?_
                  refine lv_iconst (v := 0) hx hb dX11_findBundle_121 (by decide) ?_
                  refine kg_iast hx hb hK hw h_32 jj rfl (by omega) (by omega) dX11_findBundle_122 (fun H locs hw => ?_)
                  obtain ⟨ct_48, ect_48⟩ : ∃ z, z = kw_up ctL97 213 (eI tc 6 (va_up (kCp nw (fun f => nI (r2 f)) 6) jj 0)) := ⟨_, rfl⟩
                  rw [← ect_48] at hw
                  have h_49 : ct_48 210 = some (eI tc 6 os) := by rw [ect_48, kw_up_n (by decide)]; exact h_29
                  have h_50 : ct_48 211 = some (eI tc 6 oc) := by rw [ect_48, kw_up_n (by decide)]; exact h_30
                  have h_51 : ct_48 212 = some (eI tc 6 om) := by rw [ect_48, kw_up_n (by decide)]; exact h_31
                  have h_52 : ct_48 214 = some (eI tc 6 (kCp br (fun f => nI (rb1 f)) 6)) := by rw [ect_48, kw_up_n (by decide)]; exact h_33
                  have h_53 : ct_48 200 = some (.inr (11, [.int ft, .int tr, .int (nI N), .int b, .ref (ad 201), .long g, .int cm, .int da, .int (nI nt), .ref (ad 202), .ref (ad 203), .ref (ad 204), .ref (ad 205), .ref (ad 206), .ref (ad 207), .ref (ad 208), .ref (ad 209), .int (nI no), .ref (ad 210), .ref (ad 211), .ref (ad 212), .ref (ad 213), .ref (ad 214), .int g1, .int (nI nf), .ref (ad 215), .ref (ad 216)])) := by rw [ect_48, kw_up_n (by decide)]; exact h_34
                  have h_54 : ct_48 213 = some (eI tc 6 (va_up (kCp nw (fun f => nI (r2 f)) 6) jj 0)) := by rw [ect_48]; exact kw_up_s
                  have hfr_55 : ∀ j, j ≠ 200 → j ≠ 213 → j ≠ 214 → ct_48 j = ct j := fun j a0 a1 a2 => by rw [ect_48]; exact (kw_up_n a1).trans (hfr_35 j a0 a1 a2)
                  refine lv_iinc (v := ((nI jj) + (-1))) (lv' := [(1, .int ((nI jj) + (-1))), (0, .ref (ad 200))]) hx hb dX11_findBundle_123 hl (k := 1) rfl rfl (by decide) rfl (fun ls hl => ?_)
                  refine lv_goto (tgt := 97) hx hb dX11_findBundle_126 (by decide) ?_
                  exact ih97 jj (va_up r2 jj 0) _ _ _ ls (by omega) (by omega) (by rw [← kStp_f (by omega)]; exact hS /- c_38 -/) (by exact kup_le hbd2 (by omega)) (by exact kup_z hz3 (by omega)) h_49 h_50 h_51 (h_54.trans (congrArg some (show (eI tc 6 (va_up (kCp nw (fun f => nI (r2 f)) 6) jj 0) : va_E) = eI tc 6 (kCp nw (fun f => nI ((va_up r2 jj 0) f)) 6) from by rw [show va_up (kCp nw (fun f => nI (r2 f)) 6) jj 0 = kCp nw (fun f => nI (va_up r2 jj 0 f)) 6 from kr6s (by omega)]))) h_52 h_53 hfr_55 hw (by have hl9 := lv_sub hl (l' := [(0, .ref (ad 200)), (1, .int ((nI jj) + (-1)))]) [1, 0] rfl; rw [← Int32.sub_eq_add_neg] at hl9; exact hl9)
          · refine lv_aload_n hx hb dX11_findBundle_57 rfl (lv_at hl 1 rfl) ?_
            refine lv_iload_n hx hb dX11_findBundle_58 rfl (lv_at hl 0 rfl) ?_
            refine kg_put (v := .int (kH os oc no N r1)) (ty := .int) (C := RX11) (T := TX11) (N := 27) (fs' := [.int ft, .int tr, .int (nI N), .int b, .ref (ad 201), .long g, .int cm, .int da, .int (nI nt), .ref (ad 202), .ref (ad 203), .ref (ad 204), .ref (ad 205), .ref (ad 206), .ref (ad 207), .ref (ad 208), .ref (ad 209), .int (nI no), .ref (ad 210), .ref (ad 211), .ref (ad 212), .ref (ad 213), .ref (ad 214), .int (kH os oc no N r1), .int (nI nf), .ref (ad 215), .ref (ad 216)]) hx hb hts hinX11 tyX11 tyX11_ok nmX11 hown hK hw h_22 rfl 23 (by decide) (hts (.fieldLink RX11 178 "BetMakerModel" "bestSure" "I") (by decide +kernel)) (fun _ h9 => h9) rfl (by decide +kernel) rfl rfl (Nat.le_of_ble_eq_true rfl) rfl dX11_findBundle_59 (fun H locs hw => ?_)
            obtain ⟨ct_56, ect_56⟩ : ∃ z, z = kw_up ctL40 200 (.inr (11, [.int ft, .int tr, .int (nI N), .int b, .ref (ad 201), .long g, .int cm, .int da, .int (nI nt), .ref (ad 202), .ref (ad 203), .ref (ad 204), .ref (ad 205), .ref (ad 206), .ref (ad 207), .ref (ad 208), .ref (ad 209), .int (nI no), .ref (ad 210), .ref (ad 211), .ref (ad 212), .ref (ad 213), .ref (ad 214), .int (kH os oc no N r1), .int (nI nf), .ref (ad 215), .ref (ad 216)])) := ⟨_, rfl⟩
            rw [← ect_56] at hw
            have h_57 : ct_56 210 = some (eI tc 6 os) := by rw [ect_56, kw_up_n (by decide)]; exact h_17
            have h_58 : ct_56 211 = some (eI tc 6 oc) := by rw [ect_56, kw_up_n (by decide)]; exact h_18
            have h_59 : ct_56 212 = some (eI tc 6 om) := by rw [ect_56, kw_up_n (by decide)]; exact h_19
            have h_60 : ct_56 213 = some (eI tc 6 (kCp nw (fun f => nI (r1 f)) 6)) := by rw [ect_56, kw_up_n (by decide)]; exact h_20
            have h_61 : ct_56 214 = some (eI tc 6 (kCp br (fun f => nI (rb1 f)) 6)) := by rw [ect_56, kw_up_n (by decide)]; exact h_21
            have h_62 : ct_56 200 = some (.inr (11, [.int ft, .int tr, .int (nI N), .int b, .ref (ad 201), .long g, .int cm, .int da, .int (nI nt), .ref (ad 202), .ref (ad 203), .ref (ad 204), .ref (ad 205), .ref (ad 206), .ref (ad 207), .ref (ad 208), .ref (ad 209), .int (nI no), .ref (ad 210), .ref (ad 211), .ref (ad 212), .ref (ad 213), .ref (ad 214), .int (kH os oc no N r1), .int (nI nf), .ref (ad 215), .ref (ad 216)])) := by rw [ect_56]; exact kw_up_s
            have hfr_63 : ∀ j, j ≠ 200 → j ≠ 213 → j ≠ 214 → ct_56 j = ct j := fun j a0 a1 a2 => by rw [ect_56]; exact (kw_up_n a0).trans (hfr_23 j a0 a1 a2)
            refine lv_iconst (v := 0) hx hb dX11_findBundle_62 (by decide) ?_
            refine lv_istore_n (lv' := [(3, .int 0), (2, .int (kH os oc no N r1)), (0, .ref (ad 200)), (1, .int (nI i - 1))]) hx hb dX11_findBundle_63 rfl hl (by decide) rfl (fun ls hl => ?_)
            suffices lp64 : ∀ (nfu : Nat) (k : Nat) (b2 : Nat → Int32) (ctL64 : Nat → Option va_E) (H : Heap) (locs : List Loc) (ls : Array Slot), no - k < nfu → k ≤ no → b2 = kCp (kCp br (fun f => nI (rb1 f)) 6) (kCp nw (fun f => nI (r1 f)) 6) k → ctL64 210 = some (eI tc 6 os) → ctL64 211 = some (eI tc 6 oc) → ctL64 212 = some (eI tc 6 om) → ctL64 213 = some (eI tc 6 (kCp nw (fun f => nI (r1 f)) 6)) → ctL64 214 = some (eI tc 6 b2) → ctL64 200 = some (.inr (11, [.int ft, .int tr, .int (nI N), .int b, .ref (ad 201), .long g, .int cm, .int da, .int (nI nt), .ref (ad 202), .ref (ad 203), .ref (ad 204), .ref (ad 205), .ref (ad 206), .ref (ad 207), .ref (ad 208), .ref (ad 209), .int (nI no), .ref (ad 210), .ref (ad 211), .ref (ad 212), .ref (ad 213), .ref (ad 214), .int (kH os oc no N r1), .int (nI nf), .ref (ad 215), .ref (ad 216)])) → (∀ j, j ≠ 200 → j ≠ 213 → j ≠ 214 → ctL64 j = ct j) → kw_H D ad A s.heap ctL64 H locs s.heap.size → lv_has ls 4 [(0, .ref (ad 200)), (1, .int (nI i - 1)), (2, .int (kH os oc no N r1)), (3, .int (nI k))] → W pg l en (headSpec wsX11_findBundle ({ frames := 2, cells := 0, slots := 0, locals := 53 })).room s m (([.ref (ad 200)] : List Value).toArray) below meth cod H locs 0 0 (MQ below (kw_Q D ad A (none) (kw_up (kw_up (kw_up ct 200 (.inr (11, [.int ft, .int tr, .int (nI N), .int b, .ref (ad 201), .long g, .int cm, .int da, .int (nI nt), .ref (ad 202), .ref (ad 203), .ref (ad 204), .ref (ad 205), .ref (ad 206), .ref (ad 207), .ref (ad 208), .ref (ad 209), .int (nI no), .ref (ad 210), .ref (ad 211), .ref (ad 212), .ref (ad 213), .ref (ad 214), .int ((kFo mm (kH os oc no N) no 4096 (fun _ => 0) 0 (fun _ => 0)).2.1), .int (nI nf), .ref (ad 215), .ref (ad 216)]))) 213 (eI tc 6 (kCp nw (fun f => nI ((kFo mm (kH os oc no N) no 4096 (fun _ => 0) 0 (fun _ => 0)).1 f)) 6))) 214 (eI tc 6 (kCp br (fun f => nI ((kFo mm (kH os oc no N) no 4096 (fun _ => 0) 0 (fun _ => 0)).2.2 f)) 6))) 0) (([.ref (ad 200)] : List Value).toArray) s 0 0 A) (F0 m 64 ls []) by
              exact lp64 (no - 0 + 1) 0 (kCp br (fun f => nI (rb1 f)) 6) _ _ _ ls (by omega) (by omega) (by exact kCp_0 _ _) h_57 h_58 h_59 h_60 h_61 h_62 hfr_63 hw (by have hl9 := lv_sub hl (l' := [(0, .ref (ad 200)), (1, .int (nI i - 1)), (2, .int (kH os oc no N r1)), (3, .int 0)]) [2, 3, 1, 0] rfl; exact hl9)
            intro n64
            induction n64 with
            | zero => intro k b2 ctL64 H locs ls hfu; exact absurd hfu (Nat.not_lt_zero _)
            | succ n64 ih64 =>
              intro k b2 ctL64 H locs ls hfu64 hk hb2 h_64 h_65 h_66 h_67 h_68 h_69 hfr_70 hw hl
              refine lv_iload_n hx hb dX11_findBundle_64 rfl (lv_at hl 3 rfl) ?_
              refine lv_aload_n hx hb dX11_findBundle_65 rfl (lv_at hl 0 rfl) ?_
              refine kg_get (v := .int (nI no)) (C := RX11) (T := TX11) (N := 27) hx hb hts hinX11 hown hK hw h_69 rfl 17 (by decide) (hts (.fieldLink RX11 96 "BetMakerModel" "offers" "I") (by decide +kernel)) (fun _ h9 => h9) rfl dX11_findBundle_66 ?_
              refine kn_ge k no rfl rfl (by omega) (by omega) (tgt := 90) hx hb dX11_findBundle_69 (by decide) (fun c_71 => ?_) (fun c_71 => ?_)
              · rw [if_pos (kq_2 c_28), if_pos (kq_2 c_28)] at hB1
                have hcp : b2 = kCp br (fun f => nI (r1 f)) 6 := by rw [hb2, show k = no by omega]; exact kcp_no hno hz1 hz2
                refine lv_aload_n hx hb dX11_findBundle_90 rfl (lv_at hl 0 rfl) ?_
                refine kg_get (v := .int (nI no)) (C := RX11) (T := TX11) (N := 27) hx hb hts hinX11 hown hK hw h_69 rfl 17 (by decide) (hts (.fieldLink RX11 96 "BetMakerModel" "offers" "I") (by decide +kernel)) (fun _ h9 => h9) rfl dX11_findBundle_91 ?_
                refine lv_iconst (v := 1) hx hb dX11_findBundle_94 (by decide) ?_
                refine lv_isub hx hb dX11_findBundle_95 ?_
                refine lv_istore_n (lv' := [(1, .int ((nI no) - 1)), (0, .ref (ad 200)), (2, .int (kH os oc no N r1)), (3, .int (nI k))]) hx hb dX11_findBundle_96 rfl hl (by decide) rfl (fun ls hl => ?_)
                suffices lp97 : ∀ (nfu : Nat) (j : Nat) (r2 : Nat → Nat) (ctL97 : Nat → Option va_E) (H : Heap) (locs : List Loc) (ls : Array Slot), j < nfu → j ≤ no → kStp mm j r2 = kStp mm no r1 → (∀ f, f < no → r2 f ≤ mm f) → (∀ f, no ≤ f → r2 f = 0) → ctL97 210 = some (eI tc 6 os) → ctL97 211 = some (eI tc 6 oc) → ctL97 212 = some (eI tc 6 om) → ctL97 213 = some (eI tc 6 (kCp nw (fun f => nI (r2 f)) 6)) → ctL97 214 = some (eI tc 6 b2) → ctL97 200 = some (.inr (11, [.int ft, .int tr, .int (nI N), .int b, .ref (ad 201), .long g, .int cm, .int da, .int (nI nt), .ref (ad 202), .ref (ad 203), .ref (ad 204), .ref (ad 205), .ref (ad 206), .ref (ad 207), .ref (ad 208), .ref (ad 209), .int (nI no), .ref (ad 210), .ref (ad 211), .ref (ad 212), .ref (ad 213), .ref (ad 214), .int (kH os oc no N r1), .int (nI nf), .ref (ad 215), .ref (ad 216)])) → (∀ j, j ≠ 200 → j ≠ 213 → j ≠ 214 → ctL97 j = ct j) → kw_H D ad A s.heap ctL97 H locs s.heap.size → lv_has ls 4 [(0, .ref (ad 200)), (1, .int (nI j - 1))] → W pg l en (headSpec wsX11_findBundle ({ frames := 2, cells := 0, slots := 0, locals := 53 })).room s m (([.ref (ad 200)] : List Value).toArray) below meth cod H locs 0 0 (MQ below (kw_Q D ad A (none) (kw_up (kw_up (kw_up ct 200 (.inr (11, [.int ft, .int tr, .int (nI N), .int b, .ref (ad 201), .long g, .int cm, .int da, .int (nI nt), .ref (ad 202), .ref (ad 203), .ref (ad 204), .ref (ad 205), .ref (ad 206), .ref (ad 207), .ref (ad 208), .ref (ad 209), .int (nI no), .ref (ad 210), .ref (ad 211), .ref (ad 212), .ref (ad 213), .ref (ad 214), .int ((kFo mm (kH os oc no N) no 4096 (fun _ => 0) 0 (fun _ => 0)).2.1), .int (nI nf), .ref (ad 215), .ref (ad 216)]))) 213 (eI tc 6 (kCp nw (fun f => nI ((kFo mm (kH os oc no N) no 4096 (fun _ => 0) 0 (fun _ => 0)).1 f)) 6))) 214 (eI tc 6 (kCp br (fun f => nI ((kFo mm (kH os oc no N) no 4096 (fun _ => 0) 0 (fun _ => 0)).2.2 f)) 6))) 0) (([.ref (ad 200)] : List Value).toArray) s 0 0 A) (F0 m 97 ls []) by
                  exact lp97 (no + 1) no r1 _ _ _ ls (by omega) (by omega) (by rfl) (by exact hbd) (by exact hz1) h_64 h_65 h_66 h_67 h_68 h_69 hfr_70 hw (by have hl9 := lv_sub hl (l' := [(0, .ref (ad 200)), (1, .int ((nI no) - 1))]) [1, 0] rfl; exact hl9)
                intro n97
                induction n97 with
                | zero => intro j r2 ctL97 H locs ls hfu; exact absurd hfu (Nat.not_lt_zero _)
                | succ n97 ih97 =>
                  intro j r2 ctL97 H locs ls hfu97 hj hS hbd2 hz3 h_72 h_73 h_74 h_75 h_76 h_77 hfr_78 hw hl
                  refine lv_iload_n hx hb dX11_findBundle_97 rfl (lv_at hl 1 rfl) ?_
                  refine lv_if_lt (tgt := 129) hx hb dX11_findBundle_98 (by decide) (fun c_79 => ?_) (fun c_79 => ?_)
                  · have hS0 : j = 0 → kStp mm no r1 = (r2, false) := fun q => by rw [← hS, q]; rfl /- c_79 -/
                    refine lv_iload_n hx hb dX11_findBundle_129 rfl (lv_at hl 1 rfl) ?_
                    refine lv_if_lt (tgt := 143) hx hb dX11_findBundle_130 (by decide) (fun c_80 => ?_) (fun c_80 => ?_)
                    · refine lv_goto (tgt := 40) hx hb dX11_findBundle_143 (by decide) ?_
                      exact ih40 j (w - 1) r2 (kH os oc no N r1) r1 _ _ _ ls (by omega) (by omega) (by exact hbd2 /- c_79 -/) (by exact hz3 /- c_79 -/) (by exact hz1 /- c_28 -/) (by exact Or.inl (kx_neg c_79 (by omega))) (by exact Or.inl ⟨kx_neg c_79 (by omega), by rw [← hB1, kFo_f (r := r1) (k1 := 4095 - kVl mm r1 no) (by omega) (hS0 (kx_neg c_79 (by omega)))]⟩) h_72 h_73 h_74 h_75 (h_76.trans (congrArg some (show (eI tc 6 b2 : va_E) = eI tc 6 (kCp br (fun f => nI (r1 f)) 6) from by rw [hcp]))) h_77 hfr_78 hw (lv_sub hl [0, 1] rfl)
                    · exact absurd c_79 c_80
                  · obtain ⟨jj, rfl⟩ : ∃ z, j = z + 1 := ⟨j - 1, by have := kx_neg0 c_79; omega⟩
                    rw [kx_m1] at hl
                    have hm9 := hm3 jj (by omega)
                    have hb9 := hbd2 jj (by omega)
                    refine lv_aload_n hx hb dX11_findBundle_101 rfl (lv_at hl 0 rfl) ?_
                    refine kg_get (v := .ref (ad 213)) (C := RX11) (T := TX11) (N := 27) hx hb hts hinX11 hown hK hw h_77 rfl 21 (by decide) (hts (.fieldLink RX11 57 "BetMakerModel" "now" "[I") (by decide +kernel)) (fun _ h9 => h9) rfl dX11_findBundle_102 ?_
                    refine lv_iload_n hx hb dX11_findBundle_105 rfl (lv_at hl 1 rfl) ?_
                    refine kg_iald hx hb hK hw h_75 jj rfl (by omega) (by omega) dX11_findBundle_106 ?_
                    rw [show (kCp nw (fun f => nI (r2 f)) 6) jj = nI (r2 jj) from (kCp_in (by omega))]
                    refine lv_aload_n hx hb dX11_findBundle_107 rfl (lv_at hl 0 rfl) ?_
                    refine kg_get (v := .ref (ad 212)) (C := RX11) (T := TX11) (N := 27) hx hb hts hinX11 hown hK hw h_77 rfl 20 (by decide) (hts (.fieldLink RX11 54 "BetMakerModel" "offerMost" "[I") (by decide +kernel)) (fun _ h9 => h9) rfl dX11_findBundle_108 ?_
                    refine lv_iload_n hx hb dX11_findBundle_111 rfl (lv_at hl 1 rfl) ?_
                    refine kg_iald hx hb hK hw h_74 jj rfl (by omega) (by omega) dX11_findBundle_112 ?_
                    rw [show om jj = nI (mm jj) from (hom jj (by omega))]
                    refine kn_ne (r2 jj) (mm jj) rfl rfl (by omega) (by omega) (tgt := 129) hx hb dX11_findBundle_113 (by decide) (fun c_81 => ?_) (fun c_81 => ?_)
                    · have hlt : r2 jj < mm jj := by have := hbd2 jj (by omega); omega /- c_79 -/
                      refine lv_iload_n hx hb dX11_findBundle_129 rfl (lv_at hl 1 rfl) ?_
                      refine lv_if_lt (tgt := 143) hx hb dX11_findBundle_130 (by decide) (fun c_82 => ?_) (fun c_82 => ?_)
                      · exact absurd c_82 (nI_pos (by omega))
                      · refine lv_aload_n hx hb dX11_findBundle_133 rfl (lv_at hl 0 rfl) ?_
                        refine kg_get (v := .ref (ad 213)) (C := RX11) (T := TX11) (N := 27) hx hb hts hinX11 hown hK hw h_77 rfl 21 (by decide) (hts (.fieldLink RX11 57 "BetMakerModel" "now" "[I") (by decide +kernel)) (fun _ h9 => h9) rfl dX11_findBundle_134 ?_
                        refine lv_iload_n hx hb dX11_findBundle_137 rfl (lv_at hl 1 rfl) ?_
                        refine lv_dup2_11 hx hb dX11_findBundle_138 rfl rfl ?_
                        refine kg_iald hx hb hK hw h_75 jj rfl (by omega) (by omega) dX11_findBundle_139 ?_
                        refine lv_iconst (v := 1) hx hb dX11_findBundle_140 (by decide) ?_
                        refine lv_iadd hx hb dX11_findBundle_141 ?_
                        refine kg_iast hx hb hK hw h_75 jj rfl (by omega) (by omega) dX11_findBundle_142 (fun H locs hw => ?_)
                        obtain ⟨ct_83, ect_83⟩ : ∃ z, z = kw_up ctL97 213 (eI tc 6 (va_up (kCp nw (fun f => nI (r2 f)) 6) jj (((kCp nw (fun f => nI (r2 f)) 6) jj) + 1))) := ⟨_, rfl⟩
                        rw [← ect_83] at hw
                        have h_84 : ct_83 210 = some (eI tc 6 os) := by rw [ect_83, kw_up_n (by decide)]; exact h_72
                        have h_85 : ct_83 211 = some (eI tc 6 oc) := by rw [ect_83, kw_up_n (by decide)]; exact h_73
                        have h_86 : ct_83 212 = some (eI tc 6 om) := by rw [ect_83, kw_up_n (by decide)]; exact h_74
                        have h_87 : ct_83 214 = some (eI tc 6 b2) := by rw [ect_83, kw_up_n (by decide)]; exact h_76
                        have h_88 : ct_83 200 = some (.inr (11, [.int ft, .int tr, .int (nI N), .int b, .ref (ad 201), .long g, .int cm, .int da, .int (nI nt), .ref (ad 202), .ref (ad 203), .ref (ad 204), .ref (ad 205), .ref (ad 206), .ref (ad 207), .ref (ad 208), .ref (ad 209), .int (nI no), .ref (ad 210), .ref (ad 211), .ref (ad 212), .ref (ad 213), .ref (ad 214), .int (kH os oc no N r1), .int (nI nf), .ref (ad 215), .ref (ad 216)])) := by rw [ect_83, kw_up_n (by decide)]; exact h_77
                        have h_89 : ct_83 213 = some (eI tc 6 (va_up (kCp nw (fun f => nI (r2 f)) 6) jj (((kCp nw (fun f => nI (r2 f)) 6) jj) + 1))) := by rw [ect_83]; exact kw_up_s
                        have hfr_90 : ∀ j, j ≠ 200 → j ≠ 213 → j ≠ 214 → ct_83 j = ct j := fun j a0 a1 a2 => by rw [ect_83]; exact (kw_up_n a1).trans (hfr_78 j a0 a1 a2)
                        refine lv_goto (tgt := 40) hx hb dX11_findBundle_143 (by decide) ?_
                        exact ih40 (jj + 1) (w - 1) (va_up r2 jj (r2 jj + 1)) (kH os oc no N r1) r1 _ _ _ ls (by omega) (by omega) (by exact kup_le hbd2 (by have := hbd2 jj (by omega); omega)) (by exact kup_z hz3 (by omega)) (by exact hz1 /- c_28 -/) (by exact Or.inr (by have e1 := kVl_step hbd (hS ▸ congrArg Prod.snd (kStp_t hlt)); rw [← hS, kStp_t hlt] at e1; have e2 : kVl mm (va_up r2 jj (r2 jj + 1)) no = kVl mm r1 no + 1 := e1; omega)) (by exact Or.inr ⟨by omega, by rw [← hB1, kFo_t (r := r1) (k1 := 4095 - kVl mm r1 no) (by omega) (show kStp mm no r1 = (va_up r2 jj (r2 jj + 1), true) from hS ▸ kStp_t hlt)]; have e1 := kVl_step hbd (hS ▸ congrArg Prod.snd (kStp_t hlt)); rw [← hS, kStp_t hlt] at e1; have e2 : kVl mm (va_up r2 jj (r2 jj + 1)) no = kVl mm r1 no + 1 := e1; rw [e2, show 4096 - (kVl mm r1 no + 1) = 4095 - kVl mm r1 no by omega]⟩) h_84 h_85 h_86 (h_89.trans (congrArg some (show (eI tc 6 (va_up (kCp nw (fun f => nI (r2 f)) 6) jj (((kCp nw (fun f => nI (r2 f)) 6) jj) + 1)) : va_E) = eI tc 6 (kCp nw (fun f => nI ((va_up r2 jj (r2 jj + 1)) f)) 6) from by rw [kr6 (by omega) (nI_1 _)]))) (h_87.trans (congrArg some (show (eI tc 6 b2 : va_E) = eI tc 6 (kCp br (fun f => nI (r1 f)) 6) from by rw [hcp]))) h_88 hfr_90 hw (by have hl9 := lv_sub hl (l' := [(0, .ref (ad 200)), (1, .int (nI jj))]) [0, 1] rfl; rw [kx_m1]; exact hl9)
                    · refine lv_aload_n hx hb dX11_findBundle_116 rfl (lv_at hl 0 rfl) ?_
                      refine kg_get (v := .ref (ad 213)) (C := RX11) (T := TX11) (N := 27) hx hb hts hinX11 hown hK hw h_77 rfl 21 (by decide) (hts (.fieldLink RX11 57 "BetMakerModel" "now" "[I") (by decide +kernel)) (fun _ h9 => h9) rfl dX11_findBundle_117 ?_
                      refine lv_iload_n hx hb dX11_findBundle_120 rfl (lv_at hl 1 rfl) ?_
                      refine lv_iconst (v := 0) hx hb dX11_findBundle_121 (by decide) ?_
                      refine kg_iast hx hb hK hw h_75 jj rfl (by omega) (by omega) dX11_findBundle_122 (fun H locs hw => ?_)
                      obtain ⟨ct_91, ect_91⟩ : ∃ z, z = kw_up ctL97 213 (eI tc 6 (va_up (kCp nw (fun f => nI (r2 f)) 6) jj 0)) := ⟨_, rfl⟩
                      rw [← ect_91] at hw
                      have h_92 : ct_91 210 = some (eI tc 6 os) := by rw [ect_91, kw_up_n (by decide)]; exact h_72
                      have h_93 : ct_91 211 = some (eI tc 6 oc) := by rw [ect_91, kw_up_n (by decide)]; exact h_73
                      have h_94 : ct_91 212 = some (eI tc 6 om) := by rw [ect_91, kw_up_n (by decide)]; exact h_74
                      have h_95 : ct_91 214 = some (eI tc 6 b2) := by rw [ect_91, kw_up_n (by decide)]; exact h_76
                      have h_96 : ct_91 200 = some (.inr (11, [.int ft, .int tr, .int (nI N), .int b, .ref (ad 201), .long g, .int cm, .int da, .int (nI nt), .ref (ad 202), .ref (ad 203), .ref (ad 204), .ref (ad 205), .ref (ad 206), .ref (ad 207), .ref (ad 208), .ref (ad 209), .int (nI no), .ref (ad 210), .ref (ad 211), .ref (ad 212), .ref (ad 213), .ref (ad 214), .int (kH os oc no N r1), .int (nI nf), .ref (ad 215), .ref (ad 216)])) := by rw [ect_91, kw_up_n (by decide)]; exact h_77
                      have h_97 : ct_91 213 = some (eI tc 6 (va_up (kCp nw (fun f => nI (r2 f)) 6) jj 0)) := by rw [ect_91]; exact kw_up_s
                      have hfr_98 : ∀ j, j ≠ 200 → j ≠ 213 → j ≠ 214 → ct_91 j = ct j := fun j a0 a1 a2 => by rw [ect_91]; exact (kw_up_n a1).trans (hfr_78 j a0 a1 a2)
                      refine lv_iinc (v := ((nI jj) + (-1))) (lv' := [(1, .int ((nI jj) + (-1))), (0, .ref (ad 200))]) hx hb dX11_findBundle_123 hl (k := 1) rfl rfl (by decide) rfl (fun ls hl => ?_)
                      refine lv_goto (tgt := 97) hx hb dX11_findBundle_126 (by decide) ?_
                      exact ih97 jj (va_up r2 jj 0) _ _ _ ls (by omega) (by omega) (by rw [← kStp_f (by omega)]; exact hS /- c_81 -/) (by exact kup_le hbd2 (by omega)) (by exact kup_z hz3 (by omega)) h_92 h_93 h_94 (h_97.trans (congrArg some (show (eI tc 6 (va_up (kCp nw (fun f => nI (r2 f)) 6) jj 0) : va_E) = eI tc 6 (kCp nw (fun f => nI ((va_up r2 jj 0) f)) 6) from by rw [show va_up (kCp nw (fun f => nI (r2 f)) 6) jj 0 = kCp nw (fun f => nI (va_up r2 jj 0 f)) 6 from kr6s (by omega)]))) h_95 h_96 hfr_98 hw (by have hl9 := lv_sub hl (l' := [(0, .ref (ad 200)), (1, .int ((nI jj) + (-1)))]) [1, 0] rfl; rw [← Int32.sub_eq_add_neg] at hl9; exact hl9)
              · refine lv_aload_n hx hb dX11_findBundle_72 rfl (lv_at hl 0 rfl) ?_
                refine kg_get (v := .ref (ad 214)) (C := RX11) (T := TX11) (N := 27) hx hb hts hinX11 hown hK hw h_69 rfl 22 (by decide) (hts (.fieldLink RX11 60 "BetMakerModel" "bestRow" "[I") (by decide +kernel)) (fun _ h9 => h9) rfl dX11_findBundle_73 ?_
                refine lv_iload_n hx hb dX11_findBundle_76 rfl (lv_at hl 3 rfl) ?_
                refine lv_aload_n hx hb dX11_findBundle_77 rfl (lv_at hl 0 rfl) ?_
                refine kg_get (v := .ref (ad 213)) (C := RX11) (T := TX11) (N := 27) hx hb hts hinX11 hown hK hw h_69 rfl 21 (by decide) (hts (.fieldLink RX11 57 "BetMakerModel" "now" "[I") (by decide +kernel)) (fun _ h9 => h9) rfl dX11_findBundle_78 ?_
                refine lv_iload_n hx hb dX11_findBundle_81 rfl (lv_at hl 3 rfl) ?_
                refine kg_iald hx hb hK hw h_67 k rfl (by omega) (by omega) dX11_findBundle_82 ?_
                refine kg_iast hx hb hK hw h_68 k rfl (by omega) (by omega) dX11_findBundle_83 (fun H locs hw => ?_)
                obtain ⟨ct_99, ect_99⟩ : ∃ z, z = kw_up ctL64 214 (eI tc 6 (va_up b2 k ((kCp nw (fun f => nI (r1 f)) 6) k))) := ⟨_, rfl⟩
                rw [← ect_99] at hw
                have h_100 : ct_99 210 = some (eI tc 6 os) := by rw [ect_99, kw_up_n (by decide)]; exact h_64
                have h_101 : ct_99 211 = some (eI tc 6 oc) := by rw [ect_99, kw_up_n (by decide)]; exact h_65
                have h_102 : ct_99 212 = some (eI tc 6 om) := by rw [ect_99, kw_up_n (by decide)]; exact h_66
                have h_103 : ct_99 213 = some (eI tc 6 (kCp nw (fun f => nI (r1 f)) 6)) := by rw [ect_99, kw_up_n (by decide)]; exact h_67
                have h_104 : ct_99 200 = some (.inr (11, [.int ft, .int tr, .int (nI N), .int b, .ref (ad 201), .long g, .int cm, .int da, .int (nI nt), .ref (ad 202), .ref (ad 203), .ref (ad 204), .ref (ad 205), .ref (ad 206), .ref (ad 207), .ref (ad 208), .ref (ad 209), .int (nI no), .ref (ad 210), .ref (ad 211), .ref (ad 212), .ref (ad 213), .ref (ad 214), .int (kH os oc no N r1), .int (nI nf), .ref (ad 215), .ref (ad 216)])) := by rw [ect_99, kw_up_n (by decide)]; exact h_69
                have h_105 : ct_99 214 = some (eI tc 6 (va_up b2 k ((kCp nw (fun f => nI (r1 f)) 6) k))) := by rw [ect_99]; exact kw_up_s
                have hfr_106 : ∀ j, j ≠ 200 → j ≠ 213 → j ≠ 214 → ct_99 j = ct j := fun j a0 a1 a2 => by rw [ect_99]; exact (kw_up_n a2).trans (hfr_70 j a0 a1 a2)
                refine lv_iinc (v := (nI (k + 1))) (lv' := [(3, .int (nI (k + 1))), (0, .ref (ad 200)), (1, .int (nI i - 1)), (2, .int (kH os oc no N r1))]) hx hb dX11_findBundle_84 hl (k := 3) rfl (nI_1 k) (by decide) rfl (fun ls hl => ?_)
                refine lv_goto (tgt := 64) hx hb dX11_findBundle_87 (by decide) ?_
                exact ih64 (k + 1) (va_up b2 k ((kCp nw (fun f => nI (r1 f)) 6) k)) _ _ _ ls (by omega) (by omega) (by rw [hb2]; exact kCp_s _ (kCp nw (fun f => nI (r1 f)) 6) k) h_100 h_101 h_102 h_103 h_105 h_104 hfr_106 hw (lv_sub hl [1, 2, 3, 0] rfl)
    · refine lv_aload_n hx hb dX11_findBundle_8 rfl (lv_at hl 0 rfl) ?_
      refine kg_get (v := .ref (ad 213)) (C := RX11) (T := TX11) (N := 27) hx hb hts hinX11 hown hK hw h_1 rfl 21 (by decide) (hts (.fieldLink RX11 57 "BetMakerModel" "now" "[I") (by decide +kernel)) (fun _ h9 => h9) rfl dX11_findBundle_9 ?_
      refine lv_iload_n hx hb dX11_findBundle_12 rfl (lv_at hl 1 rfl) ?_
      refine lv_iconst (v := 0) hx hb dX11_findBundle_13 (by decide) ?_
      refine kg_iast hx hb hK hw h_5 i0 rfl (by omega) (by omega) dX11_findBundle_14 (fun H locs hw => ?_)
      obtain ⟨ct_107, ect_107⟩ : ∃ z, z = kw_up ctL2 213 (eI tc 6 (va_up g1 i0 0)) := ⟨_, rfl⟩
      rw [← ect_107] at hw
      have h_108 : ct_107 200 = some (.inr (11, [.int ft, .int tr, .int (nI N), .int b, .ref (ad 201), .long g, .int cm, .int da, .int (nI nt), .ref (ad 202), .ref (ad 203), .ref (ad 204), .ref (ad 205), .ref (ad 206), .ref (ad 207), .ref (ad 208), .ref (ad 209), .int (nI no), .ref (ad 210), .ref (ad 211), .ref (ad 212), .ref (ad 213), .ref (ad 214), .int bs, .int (nI nf), .ref (ad 215), .ref (ad 216)])) := by rw [ect_107, kw_up_n (by decide)]; exact h_1
      have h_109 : ct_107 210 = some (eI tc 6 os) := by rw [ect_107, kw_up_n (by decide)]; exact h_2
      have h_110 : ct_107 211 = some (eI tc 6 oc) := by rw [ect_107, kw_up_n (by decide)]; exact h_3
      have h_111 : ct_107 212 = some (eI tc 6 om) := by rw [ect_107, kw_up_n (by decide)]; exact h_4
      have h_112 : ct_107 214 = some (eI tc 6 g2) := by rw [ect_107, kw_up_n (by decide)]; exact h_6
      have h_113 : ct_107 213 = some (eI tc 6 (va_up g1 i0 0)) := by rw [ect_107]; exact kw_up_s
      have hfr_114 : ∀ j, j ≠ 200 → j ≠ 213 → j ≠ 214 → ct_107 j = ct j := fun j a0 a1 a2 => by rw [ect_107]; exact (kw_up_n a1).trans (hfr_7 j a0 a1 a2)
      refine lv_aload_n hx hb dX11_findBundle_15 rfl (lv_at hl 0 rfl) ?_
      refine kg_get (v := .ref (ad 214)) (C := RX11) (T := TX11) (N := 27) hx hb hts hinX11 hown hK hw h_108 rfl 22 (by decide) (hts (.fieldLink RX11 60 "BetMakerModel" "bestRow" "[I") (by decide +kernel)) (fun _ h9 => h9) rfl dX11_findBundle_16 ?_
      refine lv_iload_n hx hb dX11_findBundle_19 rfl (lv_at hl 1 rfl) ?_
      refine lv_iconst (v := 0) hx hb dX11_findBundle_20 (by decide) ?_
      refine kg_iast hx hb hK hw h_112 i0 rfl (by omega) (by omega) dX11_findBundle_21 (fun H locs hw => ?_)
      obtain ⟨ct_115, ect_115⟩ : ∃ z, z = kw_up ct_107 214 (eI tc 6 (va_up g2 i0 0)) := ⟨_, rfl⟩
      rw [← ect_115] at hw
      have h_116 : ct_115 200 = some (.inr (11, [.int ft, .int tr, .int (nI N), .int b, .ref (ad 201), .long g, .int cm, .int da, .int (nI nt), .ref (ad 202), .ref (ad 203), .ref (ad 204), .ref (ad 205), .ref (ad 206), .ref (ad 207), .ref (ad 208), .ref (ad 209), .int (nI no), .ref (ad 210), .ref (ad 211), .ref (ad 212), .ref (ad 213), .ref (ad 214), .int bs, .int (nI nf), .ref (ad 215), .ref (ad 216)])) := by rw [ect_115, kw_up_n (by decide)]; exact h_108
      have h_117 : ct_115 210 = some (eI tc 6 os) := by rw [ect_115, kw_up_n (by decide)]; exact h_109
      have h_118 : ct_115 211 = some (eI tc 6 oc) := by rw [ect_115, kw_up_n (by decide)]; exact h_110
      have h_119 : ct_115 212 = some (eI tc 6 om) := by rw [ect_115, kw_up_n (by decide)]; exact h_111
      have h_120 : ct_115 213 = some (eI tc 6 (va_up g1 i0 0)) := by rw [ect_115, kw_up_n (by decide)]; exact h_113
      have h_121 : ct_115 214 = some (eI tc 6 (va_up g2 i0 0)) := by rw [ect_115]; exact kw_up_s
      have hfr_122 : ∀ j, j ≠ 200 → j ≠ 213 → j ≠ 214 → ct_115 j = ct j := fun j a0 a1 a2 => by rw [ect_115]; exact (kw_up_n a2).trans (hfr_114 j a0 a1 a2)
      refine lv_iinc (v := (nI (i0 + 1))) (lv' := [(1, .int (nI (i0 + 1))), (0, .ref (ad 200))]) hx hb dX11_findBundle_22 hl (k := 1) rfl (nI_1 i0) (by decide) rfl (fun ls hl => ?_)
      refine lv_goto (tgt := 2) hx hb dX11_findBundle_25 (by decide) ?_
      exact ih2 (i0 + 1) (va_up g1 i0 0) (va_up g2 i0 0) _ _ _ ls (by omega) (by omega) (by rw [hg1]; exact kFl_s nw 0 i0) (by rw [hg2]; exact kFl_s br 0 i0) h_116 h_117 h_118 h_119 h_120 h_121 hfr_122 hw (lv_sub hl [1, 0] rfl)
set_option maxHeartbeats 4000000 in
set_option maxRecDepth 100000 in
theorem c_X11_sure (l : Launch) (D : va_G) (tc : Nat → ClassId) (sz : Nat) (ad : Nat → Nat) (ct : Nat → Option va_E) {N nt no nf : Nat} {ft tr b cm da bs : Int32} {g : Int64}         {os : Nat → Int32} {oc : Nat → Int32} {om : Nat → Int32} {nw : Nat → Int32} {br : Nat → Int32}   {mm : Nat → Nat} (h0 : ct 200 = some (.inr (11, [.int ft, .int tr, .int (nI N), .int b, .ref (ad 201), .long g, .int cm, .int da, .int (nI nt), .ref (ad 202), .ref (ad 203), .ref (ad 204), .ref (ad 205), .ref (ad 206), .ref (ad 207), .ref (ad 208), .ref (ad 209), .int (nI no), .ref (ad 210), .ref (ad 211), .ref (ad 212), .ref (ad 213), .ref (ad 214), .int bs, .int (nI nf), .ref (ad 215), .ref (ad 216)]))) (h210 : ct 210 = some (eI tc 6 os)) (h211 : ct 211 = some (eI tc 6 oc)) (h212 : ct 212 = some (eI tc 6 om)) (h213 : ct 213 = some (eI tc 6 nw)) (h214 : ct 214 = some (eI tc 6 br)) (hN : N ≤ 8) (hN2 : 2 ≤ N) (hno : no ≤ 6) (hom : ∀ y9, y9 < no → om y9 = nI (mm y9)) (hm3 : ∀ y9, y9 < no → mm y9 ≤ 3) : Met l yX11_sure wsX11_sure ({ frames := 3, cells := 0, slots := 0, locals := 80 }) (va_Pc [.ref (ad 200)] (kw_B D tc sz ad ct)) (kw_Q D ad (kw_A ad ct sz) (some (.int ((kFo mm (kH os oc no N) no 4096 (fun _ => 0) 0 (fun _ => 0)).2.1))) (kw_up (kw_up (kw_up ct 200 (.inr (11, [.int ft, .int tr, .int (nI N), .int b, .ref (ad 201), .long g, .int cm, .int da, .int (nI nt), .ref (ad 202), .ref (ad 203), .ref (ad 204), .ref (ad 205), .ref (ad 206), .ref (ad 207), .ref (ad 208), .ref (ad 209), .int (nI no), .ref (ad 210), .ref (ad 211), .ref (ad 212), .ref (ad 213), .ref (ad 214), .int ((kFo mm (kH os oc no N) no 4096 (fun _ => 0) 0 (fun _ => 0)).2.1), .int (nI nf), .ref (ad 215), .ref (ad 216)]))) 213 (eI tc 6 (kCp nw (fun f => nI ((kFo mm (kH os oc no N) no 4096 (fun _ => 0) 0 (fun _ => 0)).1 f)) 6))) 214 (eI tc 6 (kCp br (fun f => nI ((kFo mm (kH os oc no N) no 4096 (fun _ => 0) 0 (fun _ => 0)).2.2 f)) 6))) 0) 0 0 (kw_A ad ct sz) := by
  refine Met.ofW (cc := cX11_sure) (maxL := 1) (ret := (some .int)) (by decide) rfl ?_
  intro pg en s m args below meth cod s₁ B hml hv
  obtain ⟨rfl, hsz, hP0, hK⟩ := hv
  have hx := B.exec
  have hb := B.bytes
  have hr := B.returns
  have hts := atoms_spec (ws := wsX11_sure) B.pre
  have hown : s.vm.findClass RX11 = some m.cls := findClass_of_methodNamed B.named
  have hlocks := B.notSynchronized
  subst hsz
  have hw := kw_H.start hP0
  generalize hAe : kw_A ad ct s.heap.size = A at hw ⊢
  have hA : ∀ q, s.heap.size ≤ q → A q := fun q h => by rw [← hAe]; exact Or.inr h
  have hinX11 : ∀ w ∈ wsX110, w ∈ wsX11_sure := by decide +kernel
  have hl := lv_entry ([.ref (ad 200)]) (n := 1) (Nat.le_of_ble_eq_true rfl)
  rw [lg_entry_eq]
  generalize (lg_sl ([.ref (ad 200)]) ++ List.replicate (1 - (lg_sl ([.ref (ad 200)])).length) Slot.unset).toArray = ls at hl ⊢
  have hl : lv_has ls 1 [(0, .ref (ad 200))] := hl
  have S0 : CallFix pg m cod cX11_sure 1 s _ wsX11_sure RX11 := ⟨hx, hb, hml, hown, hts⟩
  have hfr : ∀ j, j ≠ 200 → j ≠ 213 → j ≠ 214 → ct j = ct j := fun _ _ _ _ => rfl
  refine lv_aload_n hx hb dX11_sure_0 rfl (lv_at hl 0 rfl) ?_
  refine kc_vu (As := []) (rest := []) S0 (c_X11_findBundle l D tc s.heap.size ad ct (N := N) (nt := nt) (no := no) (nf := nf) h0 h210 h211 h212 h213 h214 (by omega) (by omega) (by omega) hom hm3) (cwV 0 hts gX11_sure_X11_findBundle rfl rfl rfl (by decide +kernel) ⟨Nat.le_of_ble_eq_true rfl, Nat.le_of_ble_eq_true rfl⟩) hK hw hA h0 rfl rfl hl.1 rfl (Nat.le_of_ble_eq_true rfl) dX11_sure_1 ⟨Nat.le_of_ble_eq_true rfl, (Nat.le_of_ble_eq_true rfl)⟩ (fun H locs hw => ?_)
  obtain ⟨ct_1, ect_1⟩ : ∃ z, z = kw_up (kw_up (kw_up ct 200 (.inr (11, [.int ft, .int tr, .int (nI N), .int b, .ref (ad 201), .long g, .int cm, .int da, .int (nI nt), .ref (ad 202), .ref (ad 203), .ref (ad 204), .ref (ad 205), .ref (ad 206), .ref (ad 207), .ref (ad 208), .ref (ad 209), .int (nI no), .ref (ad 210), .ref (ad 211), .ref (ad 212), .ref (ad 213), .ref (ad 214), .int ((kFo mm (kH os oc no N) no 4096 (fun _ => 0) 0 (fun _ => 0)).2.1), .int (nI nf), .ref (ad 215), .ref (ad 216)]))) 213 (eI tc 6 (kCp nw (fun f => nI ((kFo mm (kH os oc no N) no 4096 (fun _ => 0) 0 (fun _ => 0)).1 f)) 6))) 214 (eI tc 6 (kCp br (fun f => nI ((kFo mm (kH os oc no N) no 4096 (fun _ => 0) 0 (fun _ => 0)).2.2 f)) 6)) := ⟨_, rfl⟩
  rw [← ect_1] at hw
  have h_2 : ct_1 210 = some (eI tc 6 os) := by rw [ect_1, kw_up_n (by decide), kw_up_n (by decide), kw_up_n (by decide)]; exact h210
  have h_3 : ct_1 211 = some (eI tc 6 oc) := by rw [ect_1, kw_up_n (by decide), kw_up_n (by decide), kw_up_n (by decide)]; exact h211
  have h_4 : ct_1 212 = some (eI tc 6 om) := by rw [ect_1, kw_up_n (by decide), kw_up_n (by decide), kw_up_n (by decide)]; exact h212
  have h_5 : ct_1 200 = some (.inr (11, [.int ft, .int tr, .int (nI N), .int b, .ref (ad 201), .long g, .int cm, .int da, .int (nI nt), .ref (ad 202), .ref (ad 203), .ref (ad 204), .ref (ad 205), .ref (ad 206), .ref (ad 207), .ref (ad 208), .ref (ad 209), .int (nI no), .ref (ad 210), .ref (ad 211), .ref (ad 212), .ref (ad 213), .ref (ad 214), .int ((kFo mm (kH os oc no N) no 4096 (fun _ => 0) 0 (fun _ => 0)).2.1), .int (nI nf), .ref (ad 215), .ref (ad 216)])) := by rw [ect_1, kw_up_n (by decide), kw_up_n (by decide)]; exact kw_up_s
  have h_6 : ct_1 213 = some (eI tc 6 (kCp nw (fun f => nI ((kFo mm (kH os oc no N) no 4096 (fun _ => 0) 0 (fun _ => 0)).1 f)) 6)) := by rw [ect_1, kw_up_n (by decide)]; exact kw_up_s
  have h_7 : ct_1 214 = some (eI tc 6 (kCp br (fun f => nI ((kFo mm (kH os oc no N) no 4096 (fun _ => 0) 0 (fun _ => 0)).2.2 f)) 6)) := by rw [ect_1]; exact kw_up_s
  have hfr_8 : ∀ j, j ≠ 200 → j ≠ 213 → j ≠ 214 → ct_1 j = ct j := fun j a0 a1 a2 => by rw [ect_1]; exact (kw_up_n a2).trans ((kw_up_n a1).trans ((kw_up_n a0).trans (hfr j a0 a1 a2)))
  refine lv_aload_n hx hb dX11_sure_4 rfl (lv_at hl 0 rfl) ?_
  refine kg_get (v := .int ((kFo mm (kH os oc no N) no 4096 (fun _ => 0) 0 (fun _ => 0)).2.1)) (C := RX11) (T := TX11) (N := 27) hx hb hts hinX11 hown hK hw h_5 rfl 23 (by decide) (hts (.fieldLink RX11 178 "BetMakerModel" "bestSure" "I") (by decide +kernel)) (fun _ h9 => h9) rfl dX11_sure_5 ?_
  have hq_9 := h_5
  have hq_10 := h_6
  have hq_11 := h_7
  have hend := kw_eq3 hq_9 hq_10 hq_11 hfr_8
  rw [hend] at hw
  exact W.iret hx hb hr (fun t ht _ => ⟨rfl, by rw [ht]; exact hw.1, hw.2.2.1, hw.2.1.F ht, by rw [ht]; exact hw.2.2.2⟩) hw.2.1.2.2 dX11_sure_8
set_option maxHeartbeats 4000000 in
set_option maxRecDepth 100000 in
theorem c_X11_bundle_u (l : Launch) (D : va_G) (tc : Nat → ClassId) (sz : Nat) (ad : Nat → Nat) (ct : Nat → Option va_E) {N nt no nf : Nat} {ft tr b cm da bs : Int32} {g : Int64}                {f1 : Int32} (h0 : ct 200 = some (.inr (11, [.int ft, .int tr, .int (nI N), .int b, .ref (ad 201), .long g, .int cm, .int da, .int (nI nt), .ref (ad 202), .ref (ad 203), .ref (ad 204), .ref (ad 205), .ref (ad 206), .ref (ad 207), .ref (ad 208), .ref (ad 209), .int (nI no), .ref (ad 210), .ref (ad 211), .ref (ad 212), .ref (ad 213), .ref (ad 214), .int bs, .int (nI nf), .ref (ad 215), .ref (ad 216)]))) (hf : ¬ (0 ≤ f1 ∧ f1 < nI no)) : Met l yX11_bundle wsX11_bundle ({ frames := 3, cells := 0, slots := 0, locals := 80 }) (va_Pc [.ref (ad 200), .int f1] (kw_B D tc sz ad ct)) (k2_QcV (.int (-1))) 0 0 (fun _ => False) := by
  refine Met.ofW (cc := cX11_bundle) (maxL := 2) (ret := (some .int)) (by decide) rfl ?_
  intro pg en s m args below meth cod s₁ B hml hv
  obtain ⟨rfl, hsz, hP0, hK⟩ := hv
  have hx := B.exec
  have hb := B.bytes
  have hr := B.returns
  have hts := atoms_spec (ws := wsX11_bundle) B.pre
  have hown : s.vm.findClass RX11 = some m.cls := findClass_of_methodNamed B.named
  have hlocks := B.notSynchronized
  subst hsz
  have hw := kw_H.start hP0
  generalize kw_A ad ct s.heap.size = A at hw
  have hinX11 : ∀ w ∈ wsX110, w ∈ wsX11_bundle := by decide +kernel
  have hl := lv_entry ([.ref (ad 200), .int f1]) (n := 2) (Nat.le_of_ble_eq_true rfl)
  rw [lg_entry_eq]
  generalize (lg_sl ([.ref (ad 200), .int f1]) ++ List.replicate (2 - (lg_sl ([.ref (ad 200), .int f1])).length) Slot.unset).toArray = ls at hl ⊢
  have hl : lv_has ls 2 [(0, .ref (ad 200)), (1, .int f1)] := hl
  have S0 : CallFix pg m cod cX11_bundle 2 s _ wsX11_bundle RX11 := ⟨hx, hb, hml, hown, hts⟩
  refine lv_aload_n hx hb dX11_bundle_0 rfl (lv_at hl 0 rfl) ?_
  refine lv_iload_n hx hb dX11_bundle_1 rfl (lv_at hl 1 rfl) ?_
  refine kc_v (As := [.int f1]) (rest := []) S0 (c_X11_isOffer l D tc s.heap.size ad ct (N := N) (nt := nt) (no := no) (nf := nf) h0) (cwV 1 hts gX11_bundle_X11_isOffer rfl rfl rfl (by decide +kernel) ⟨Nat.le_of_ble_eq_true rfl, Nat.le_of_ble_eq_true rfl⟩) hK hw h0 rfl rfl hl.1 rfl (Nat.le_of_ble_eq_true rfl) dX11_bundle_2 ⟨Nat.le_of_ble_eq_true rfl, (Nat.le_of_ble_eq_true rfl)⟩ ?_
  refine kb_ifne (tgt := 10) hx hb dX11_bundle_5 (by decide) (fun c_1 => ?_) (fun c_1 => ?_)
  · exact absurd c_1 hf
  · refine lv_iconst (v := (-1)) hx hb dX11_bundle_8 (by decide) ?_
    exact W.iret hx hb hr (fun t ht _ => ⟨rfl, ht⟩) (fun _ h => absurd h List.not_mem_nil) dX11_bundle_9
set_option maxHeartbeats 4000000 in
set_option maxRecDepth 100000 in
theorem c_X11_bundle (l : Launch) (D : va_G) (tc : Nat → ClassId) (sz : Nat) (ad : Nat → Nat) (ct : Nat → Option va_E) {N nt no nf : Nat} {ft tr b cm da bs : Int32} {g : Int64}         {os : Nat → Int32} {oc : Nat → Int32} {om : Nat → Int32} {nw : Nat → Int32} {br : Nat → Int32}   {mm : Nat → Nat} {fx : Nat} (h0 : ct 200 = some (.inr (11, [.int ft, .int tr, .int (nI N), .int b, .ref (ad 201), .long g, .int cm, .int da, .int (nI nt), .ref (ad 202), .ref (ad 203), .ref (ad 204), .ref (ad 205), .ref (ad 206), .ref (ad 207), .ref (ad 208), .ref (ad 209), .int (nI no), .ref (ad 210), .ref (ad 211), .ref (ad 212), .ref (ad 213), .ref (ad 214), .int bs, .int (nI nf), .ref (ad 215), .ref (ad 216)]))) (h210 : ct 210 = some (eI tc 6 os)) (h211 : ct 211 = some (eI tc 6 oc)) (h212 : ct 212 = some (eI tc 6 om)) (h213 : ct 213 = some (eI tc 6 nw)) (h214 : ct 214 = some (eI tc 6 br)) (hf : fx < no) (hN : N ≤ 8) (hN2 : 2 ≤ N) (hno : no ≤ 6) (hom : ∀ y9, y9 < no → om y9 = nI (mm y9)) (hm3 : ∀ y9, y9 < no → mm y9 ≤ 3) : Met l yX11_bundle wsX11_bundle ({ frames := 3, cells := 0, slots := 0, locals := 80 }) (va_Pc [.ref (ad 200), .int (nI fx)] (kw_B D tc sz ad ct)) (kw_Q D ad (kw_A ad ct sz) (some (.int (nI ((kFo mm (kH os oc no N) no 4096 (fun _ => 0) 0 (fun _ => 0)).2.2 fx)))) (kw_up (kw_up (kw_up ct 200 (.inr (11, [.int ft, .int tr, .int (nI N), .int b, .ref (ad 201), .long g, .int cm, .int da, .int (nI nt), .ref (ad 202), .ref (ad 203), .ref (ad 204), .ref (ad 205), .ref (ad 206), .ref (ad 207), .ref (ad 208), .ref (ad 209), .int (nI no), .ref (ad 210), .ref (ad 211), .ref (ad 212), .ref (ad 213), .ref (ad 214), .int ((kFo mm (kH os oc no N) no 4096 (fun _ => 0) 0 (fun _ => 0)).2.1), .int (nI nf), .ref (ad 215), .ref (ad 216)]))) 213 (eI tc 6 (kCp nw (fun f => nI ((kFo mm (kH os oc no N) no 4096 (fun _ => 0) 0 (fun _ => 0)).1 f)) 6))) 214 (eI tc 6 (kCp br (fun f => nI ((kFo mm (kH os oc no N) no 4096 (fun _ => 0) 0 (fun _ => 0)).2.2 f)) 6))) 0) 0 0 (kw_A ad ct sz) := by
  refine Met.ofW (cc := cX11_bundle) (maxL := 2) (ret := (some .int)) (by decide) rfl ?_
  intro pg en s m args below meth cod s₁ B hml hv
  obtain ⟨rfl, hsz, hP0, hK⟩ := hv
  have hx := B.exec
  have hb := B.bytes
  have hr := B.returns
  have hts := atoms_spec (ws := wsX11_bundle) B.pre
  have hown : s.vm.findClass RX11 = some m.cls := findClass_of_methodNamed B.named
  have hlocks := B.notSynchronized
  subst hsz
  have hw := kw_H.start hP0
  generalize hAe : kw_A ad ct s.heap.size = A at hw ⊢
  have hA : ∀ q, s.heap.size ≤ q → A q := fun q h => by rw [← hAe]; exact Or.inr h
  have hinX11 : ∀ w ∈ wsX110, w ∈ wsX11_bundle := by decide +kernel
  have hl := lv_entry ([.ref (ad 200), .int (nI fx)]) (n := 2) (Nat.le_of_ble_eq_true rfl)
  rw [lg_entry_eq]
  generalize (lg_sl ([.ref (ad 200), .int (nI fx)]) ++ List.replicate (2 - (lg_sl ([.ref (ad 200), .int (nI fx)])).length) Slot.unset).toArray = ls at hl ⊢
  have hl : lv_has ls 2 [(0, .ref (ad 200)), (1, .int (nI fx))] := hl
  have S0 : CallFix pg m cod cX11_bundle 2 s _ wsX11_bundle RX11 := ⟨hx, hb, hml, hown, hts⟩
  have hfr : ∀ j, j ≠ 200 → j ≠ 213 → j ≠ 214 → ct j = ct j := fun _ _ _ _ => rfl
  have kF : 0 ≤ nI fx ∧ nI fx < nI no := ⟨nI_pos' (by omega), nI_lt hf (by omega)⟩
  refine lv_aload_n hx hb dX11_bundle_0 rfl (lv_at hl 0 rfl) ?_
  refine lv_iload_n hx hb dX11_bundle_1 rfl (lv_at hl 1 rfl) ?_
  refine kc_v (As := [.int (nI fx)]) (rest := []) S0 (c_X11_isOffer l D tc s.heap.size ad ct (N := N) (nt := nt) (no := no) (nf := nf) h0) (cwV 1 hts gX11_bundle_X11_isOffer rfl rfl rfl (by decide +kernel) ⟨Nat.le_of_ble_eq_true rfl, Nat.le_of_ble_eq_true rfl⟩) hK hw h0 rfl rfl hl.1 rfl (Nat.le_of_ble_eq_true rfl) dX11_bundle_2 ⟨Nat.le_of_ble_eq_true rfl, (Nat.le_of_ble_eq_true rfl)⟩ ?_
  refine kb_ifne (tgt := 10) hx hb dX11_bundle_5 (by decide) (fun c_1 => ?_) (fun c_1 => ?_)
  · refine lv_aload_n hx hb dX11_bundle_10 rfl (lv_at hl 0 rfl) ?_
    refine kc_vu (As := []) (rest := []) S0 (c_X11_findBundle l D tc s.heap.size ad ct (N := N) (nt := nt) (no := no) (nf := nf) h0 h210 h211 h212 h213 h214 (by omega) (by omega) (by omega) hom hm3) (cwV 0 hts gX11_bundle_X11_findBundle rfl rfl rfl (by decide +kernel) ⟨Nat.le_of_ble_eq_true rfl, Nat.le_of_ble_eq_true rfl⟩) hK hw hA h0 rfl rfl hl.1 rfl (Nat.le_of_ble_eq_true rfl) dX11_bundle_11 ⟨Nat.le_of_ble_eq_true rfl, (Nat.le_of_ble_eq_true rfl)⟩ (fun H locs hw => ?_)
    obtain ⟨ct_2, ect_2⟩ : ∃ z, z = kw_up (kw_up (kw_up ct 200 (.inr (11, [.int ft, .int tr, .int (nI N), .int b, .ref (ad 201), .long g, .int cm, .int da, .int (nI nt), .ref (ad 202), .ref (ad 203), .ref (ad 204), .ref (ad 205), .ref (ad 206), .ref (ad 207), .ref (ad 208), .ref (ad 209), .int (nI no), .ref (ad 210), .ref (ad 211), .ref (ad 212), .ref (ad 213), .ref (ad 214), .int ((kFo mm (kH os oc no N) no 4096 (fun _ => 0) 0 (fun _ => 0)).2.1), .int (nI nf), .ref (ad 215), .ref (ad 216)]))) 213 (eI tc 6 (kCp nw (fun f => nI ((kFo mm (kH os oc no N) no 4096 (fun _ => 0) 0 (fun _ => 0)).1 f)) 6))) 214 (eI tc 6 (kCp br (fun f => nI ((kFo mm (kH os oc no N) no 4096 (fun _ => 0) 0 (fun _ => 0)).2.2 f)) 6)) := ⟨_, rfl⟩
    rw [← ect_2] at hw
    have h_3 : ct_2 210 = some (eI tc 6 os) := by rw [ect_2, kw_up_n (by decide), kw_up_n (by decide), kw_up_n (by decide)]; exact h210
    have h_4 : ct_2 211 = some (eI tc 6 oc) := by rw [ect_2, kw_up_n (by decide), kw_up_n (by decide), kw_up_n (by decide)]; exact h211
    have h_5 : ct_2 212 = some (eI tc 6 om) := by rw [ect_2, kw_up_n (by decide), kw_up_n (by decide), kw_up_n (by decide)]; exact h212
    have h_6 : ct_2 200 = some (.inr (11, [.int ft, .int tr, .int (nI N), .int b, .ref (ad 201), .long g, .int cm, .int da, .int (nI nt), .ref (ad 202), .ref (ad 203), .ref (ad 204), .ref (ad 205), .ref (ad 206), .ref (ad 207), .ref (ad 208), .ref (ad 209), .int (nI no), .ref (ad 210), .ref (ad 211), .ref (ad 212), .ref (ad 213), .ref (ad 214), .int ((kFo mm (kH os oc no N) no 4096 (fun _ => 0) 0 (fun _ => 0)).2.1), .int (nI nf), .ref (ad 215), .ref (ad 216)])) := by rw [ect_2, kw_up_n (by decide), kw_up_n (by decide)]; exact kw_up_s
    have h_7 : ct_2 213 = some (eI tc 6 (kCp nw (fun f => nI ((kFo mm (kH os oc no N) no 4096 (fun _ => 0) 0 (fun _ => 0)).1 f)) 6)) := by rw [ect_2, kw_up_n (by decide)]; exact kw_up_s
    have h_8 : ct_2 214 = some (eI tc 6 (kCp br (fun f => nI ((kFo mm (kH os oc no N) no 4096 (fun _ => 0) 0 (fun _ => 0)).2.2 f)) 6)) := by rw [ect_2]; exact kw_up_s
    have hfr_9 : ∀ j, j ≠ 200 → j ≠ 213 → j ≠ 214 → ct_2 j = ct j := fun j a0 a1 a2 => by rw [ect_2]; exact (kw_up_n a2).trans ((kw_up_n a1).trans ((kw_up_n a0).trans (hfr j a0 a1 a2)))
    refine lv_aload_n hx hb dX11_bundle_14 rfl (lv_at hl 0 rfl) ?_
    refine kg_get (v := .ref (ad 214)) (C := RX11) (T := TX11) (N := 27) hx hb hts hinX11 hown hK hw h_6 rfl 22 (by decide) (hts (.fieldLink RX11 60 "BetMakerModel" "bestRow" "[I") (by decide +kernel)) (fun _ h9 => h9) rfl dX11_bundle_15 ?_
    refine lv_iload_n hx hb dX11_bundle_18 rfl (lv_at hl 1 rfl) ?_
    refine kg_iald hx hb hK hw h_8 fx rfl (by omega) (by omega) dX11_bundle_19 ?_
    refine W.eq (congrArg (fun z => F0 m 20 ls [.int z]) (show ((kCp br (fun f => nI ((kFo mm (kH os oc no N) no 4096 (fun _ => 0) 0 (fun _ => 0)).2.2 f)) 6) fx) = (nI ((kFo mm (kH os oc no N) no 4096 (fun _ => 0) 0 (fun _ => 0)).2.2 fx)) from by exact kCp_in (by omega))) ?_
    have hq_10 := h_6
    have hq_11 := h_7
    have hq_12 := h_8
    have hend := kw_eq3 hq_10 hq_11 hq_12 hfr_9
    rw [hend] at hw
    exact W.iret hx hb hr (fun t ht _ => ⟨rfl, by rw [ht]; exact hw.1, hw.2.2.1, hw.2.1.F ht, by rw [ht]; exact hw.2.2.2⟩) hw.2.1.2.2 dX11_bundle_20
  · exact absurd kF c_1
