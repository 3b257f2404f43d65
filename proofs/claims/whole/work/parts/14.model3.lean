theorem sw_cong {f g : Nat → Int32} : ∀ {n : Nat}, (∀ c, c < n → f c = g c) → sw f n = sw g n
  | 0, _ => rfl
  | n + 1, h => by rw [sw, sw, sw_cong (fun c hc => h c (by omega)), h n (by omega)]
theorem su_cong {f g : Nat → Int64} : ∀ {n : Nat}, (∀ c, c < n → f c = g c) → su f n = su g n
  | 0, _ => rfl
  | n + 1, h => by rw [su, su, su_cong (fun c hc => h c (by omega)), h n (by omega)]
theorem kBl_in {α : Type} (f : Nat → α) (a n : Nat) (v : Nat → α) {c : Nat} (h : c < n) : kBl f a n v (a + c) = v c := by rw [kBl, if_pos (by omega), Nat.add_sub_cancel_left]
def kWi (w : Nat → Int32) (c : Nat) : Bool := decide (0 ≤ (w c).toInt64 ∧ (w c).toInt64 ≤ 100)
theorem kpd {a d1 u d : Nat} (hg : Nat.gcd a d1 = Nat.gcd u d) (h0 : lN d1 = 0) (hb : d1 < 2 ^ 63) (ha : a < 2 ^ 63) (hd : 0 < d) : a = Nat.gcd u d ∧ ¬ lN a = 0 := by
  have e : d1 = 0 := (pk_lEQ hb (by omega)).mp h0
  subst e
  rw [Nat.gcd_zero_right] at hg
  refine ⟨hg, fun q => ?_⟩
  have e2 : a = 0 := (pk_lEQ ha (by omega)).mp q
  have := Nat.gcd_pos_of_pos_right u hd
  omega
theorem kpd_s {a d1 u d : Nat} (hg : Nat.gcd a d1 = Nat.gcd u d) : Nat.gcd d1 (a % d1) = Nat.gcd u d := by
  rw [← hg, Nat.gcd_comm a d1, Nat.gcd_rec d1 a, Nat.gcd_comm]
theorem kpd_p {d1 : Nat} (h : ¬ lN d1 = 0) : 0 < d1 := Nat.pos_of_ne_zero (fun q => h (by rw [q]; rfl))
def kPw (v : Int64) : Nat → Int64
  | 0 => 1
  | n + 1 => kPw v n * v
def kcn (p : Nat → Bool) : Nat → Nat
  | 0 => 0
  | n + 1 => kcn p n + (if p n = true then 1 else 0)
theorem kcn_le (p : Nat → Bool) : ∀ n, kcn p n ≤ n
  | 0 => Nat.le_refl 0
  | n + 1 => by rw [kcn]; have := kcn_le p n; split <;> omega
theorem kcn_t {p : Nat → Bool} {n : Nat} (h : p n = true) : kcn p n + 1 = kcn p (n + 1) := by rw [kcn, if_pos h]
theorem kcn_f {p : Nat → Bool} {n : Nat} (h : ¬ p n = true) : kcn p n = kcn p (n + 1) := by rw [kcn, if_neg h, Nat.add_zero]
def kGv (N : Nat) (tl : Nat → Int32) (c : Nat) (t : Int64) (f : Nat) : Bool := decide (10 * (tl (8 * f + c)).toInt64 = t * su (fun k => (tl (8 * f + k)).toInt64) N)
def kGc (N : Nat) (tl ca : Nat → Int32) (c : Nat) (t : Int64) (f : Nat) : Bool := kGv N tl c t f && decide (ca f = nI c)
theorem kGc_1 {N : Nat} {tl ca : Nat → Int32} {c : Nat} {t : Int64} {f : Nat} (h : 10 * (tl (8 * f + c)).toInt64 = t * su (fun k => (tl (8 * f + k)).toInt64) N) (h2 : ca f = nI c) : kGc N tl ca c t f = true := by rw [kGc, kGv, decide_eq_true h, decide_eq_true h2]; rfl
theorem kGc_2 {N : Nat} {tl ca : Nat → Int32} {c : Nat} {t : Int64} {f : Nat} (h2 : ¬ ca f = nI c) : ¬ kGc N tl ca c t f = true := by rw [kGc, decide_eq_false h2, Bool.and_false]; decide
theorem kGc_3 {N : Nat} {tl ca : Nat → Int32} {c : Nat} {t : Int64} {f : Nat} (h : ¬ 10 * (tl (8 * f + c)).toInt64 = t * su (fun k => (tl (8 * f + k)).toInt64) N) : ¬ kGc N tl ca c t f = true := by rw [kGc, kGv, decide_eq_false h, Bool.false_and]; decide
def kWs (n : Nat) : Nat → Int64
  | 0 => 1
  | j + 1 => kWs n j * (nI n - nI j).toInt64 / (nI j + 1).toInt64
def kHs (t : Int64) (h n : Nat) : Nat → Int64
  | 0 => 0
  | j + 1 => kHs t h n j + (if j < h then 0 else kWs n j * kPw t j * kPw (10 - t) (n - j))
theorem kj_ne (j : Nat) (h : j < 2 ^ 30) : ¬ (nI j + 1).toInt64 = 0 := by
  rw [nI_1, nI_l (by omega)]
  exact fun q => absurd ((lN_eq (a := j + 1) (b := 0) (by omega) (by omega)).mp q) (by omega)
def kBx (j : Nat) : Int32 := if j % 2 = 0 then nI (j / 2 + 1) else -(nI (j / 2 + 1))
def kBs (v : Int32 → Int64) (ok : Int32 → Bool) : Nat → Int32 × Int64
  | 0 => (0, 0)
  | j + 1 => if (kBs v ok j).2 < v (kBx j) ∧ ok (kBx j) = true then (kBx j, v (kBx j)) else kBs v ok j
theorem kBs_t {v : Int32 → Int64} {ok : Int32 → Bool} {j : Nat} {x : Int32} (hx : kBx j = x) (h1 : (kBs v ok j).2 < v x) (h2 : ok x = true) : kBs v ok (j + 1) = (x, v x) := by subst hx; rw [kBs, if_pos ⟨h1, h2⟩]
theorem kBs_f {v : Int32 → Int64} {ok : Int32 → Bool} {j : Nat} {x : Int32} (hx : kBx j = x) (h1 : ¬ ((kBs v ok j).2 < v x ∧ ok x = true)) : kBs v ok (j + 1) = kBs v ok j := by subst hx; rw [kBs, if_neg h1]
theorem kBx_0 {k w : Nat} (hk : 1 ≤ k) (hw : w < 2 ^ 31) (h : nI w = 0) : kBx (2 * (k - 1) + w) = nI k := by
  have e : w = 0 := (nI_eq hw (by omega)).mp h
  subst e
  rw [kBx, if_pos (by omega)]; exact congrArg nI (by omega)
theorem kBx_1 {k w : Nat} (hk : 1 ≤ k) (hw : w < 2) (h : ¬ nI w = 0) : kBx (2 * (k - 1) + w) = -(nI k) := by
  have e : w = 1 := by
    rcases Nat.lt_or_ge w 1 with q | q
    · exact absurd (by rw [show w = 0 by omega]; rfl) h
    · omega
  subst e
  rw [kBx, if_neg (by omega)]; exact congrArg (fun z => -(nI z)) (by omega)
set_option maxHeartbeats 4000000 in
set_option maxRecDepth 100000 in
theorem c_X11_against_o (l : Launch) (D : va_G) (tc : Nat → ClassId) (sz : Nat) (ad : Nat → Nat) (ct : Nat → Option va_E) {N nt no nf : Nat} {ft tr b cm da bs : Int32} {g : Int64}                 {k : Nat} {lane i : Int32} (h0 : ct 200 = some (.inr (11, [.int ft, .int tr, .int (nI N), .int b, .ref (ad 201), .long g, .int cm, .int da, .int (nI nt), .ref (ad 202), .ref (ad 203), .ref (ad 204), .ref (ad 205), .ref (ad 206), .ref (ad 207), .ref (ad 208), .ref (ad 209), .int (nI no), .ref (ad 210), .ref (ad 211), .ref (ad 212), .ref (ad 213), .ref (ad 214), .int bs, .int (nI nf), .ref (ad 215), .ref (ad 216)]))) (hL : ¬ (0 ≤ lane.toInt64 ∧ lane.toInt64 ≤ 2)) : Met l yX11_against wsX11_against ({ frames := 1, cells := 0, slots := 0, locals := 29 }) (va_Pc [.ref (ad 200), .int (nI k), .int lane, .int i] (kw_B D tc sz ad ct)) (k2_QcV (.int (-2))) 0 0 (fun _ => False) := by
  refine Met.ofW (cc := cX11_against) (maxL := 7) (ret := (some .int)) (by decide) rfl ?_
  intro pg en s m args below meth cod s₁ B hml hv
  obtain ⟨rfl, hsz, hP0, hK⟩ := hv
  have hx := B.exec
  have hb := B.bytes
  have hr := B.returns
  have hts := atoms_spec (ws := wsX11_against) B.pre
  have hown : s.vm.findClass RX11 = some m.cls := findClass_of_methodNamed B.named
  have hlocks := B.notSynchronized
  subst hsz
  have hw := kw_H.start hP0
  generalize kw_A ad ct s.heap.size = A at hw
  have hinX11 : ∀ w ∈ wsX110, w ∈ wsX11_against := by decide +kernel
  have hl := lv_entry ([.ref (ad 200), .int (nI k), .int lane, .int i]) (n := 7) (Nat.le_of_ble_eq_true rfl)
  rw [lg_entry_eq]
  generalize (lg_sl ([.ref (ad 200), .int (nI k), .int lane, .int i]) ++ List.replicate (7 - (lg_sl ([.ref (ad 200), .int (nI k), .int lane, .int i])).length) Slot.unset).toArray = ls at hl ⊢
  have hl : lv_has ls 7 [(0, .ref (ad 200)), (1, .int (nI k)), (2, .int lane), (3, .int i)] := hl
  have S0 : CallFix pg m cod cX11_against 7 s _ wsX11_against RX11 := ⟨hx, hb, hml, hown, hts⟩
  refine lv_iload_n hx hb dX11_against_0 rfl (lv_at hl 2 rfl) ?_
  refine lv_i2l (v := lane.toInt64) hx hb dX11_against_1 rfl ?_
  refine lv_lconst (v := 0) hx hb dX11_against_2 (by decide) ?_
  refine lv_ldc2 (v := 2) hx hb hown (hts (.constantLong RX11 76 (2)) (by decide +kernel)) dX11_against_3 ?_
  refine kc_s (As := [.long lane.toInt64, .long 0, .long 2]) (rest := []) S0 (c_X11_within l D tc s.heap.size ad ct ) (va_cwS 3 hts gX11_against_X11_within rfl rfl rfl (by decide +kernel) ⟨Nat.le_of_ble_eq_true rfl, Nat.le_of_ble_eq_true rfl⟩) hK hw rfl hl.1 rfl (Nat.le_of_ble_eq_true rfl) dX11_against_6 ⟨Nat.le_of_ble_eq_true rfl, (Nat.le_of_ble_eq_true rfl)⟩ ?_
  refine kb_ifne (tgt := 15) hx hb dX11_against_9 (by decide) (fun c_1 => ?_) (fun c_1 => ?_)
  · exact absurd c_1 hL
  · refine lv_bipush (v := (-2)) hx hb dX11_against_12 (by decide) ?_
    exact W.iret hx hb hr (fun t ht _ => ⟨rfl, ht⟩) (fun _ h => absurd h List.not_mem_nil) dX11_against_14
set_option maxHeartbeats 4000000 in
set_option maxRecDepth 100000 in
theorem c_X11_against_c (l : Launch) (D : va_G) (tc : Nat → ClassId) (sz : Nat) (ad : Nat → Nat) (ct : Nat → Option va_E) {N nt no nf : Nat} {ft tr b cm da bs : Int32} {g : Int64}       {la : Nat → Int32}          {k : Nat} {lane i : Int32} (h0 : ct 200 = some (.inr (11, [.int ft, .int tr, .int (nI N), .int b, .ref (ad 201), .long g, .int cm, .int da, .int (nI nt), .ref (ad 202), .ref (ad 203), .ref (ad 204), .ref (ad 205), .ref (ad 206), .ref (ad 207), .ref (ad 208), .ref (ad 209), .int (nI no), .ref (ad 210), .ref (ad 211), .ref (ad 212), .ref (ad 213), .ref (ad 214), .int bs, .int (nI nf), .ref (ad 215), .ref (ad 216)]))) (h207 : ct 207 = some (eI tc 4 la)) (hk4 : k < 4) (hL : 0 ≤ lane.toInt64 ∧ lane.toInt64 ≤ 2) (ha1 : ¬ (la k = (-9))) (ha2 : ¬ (la k = lane)) : Met l yX11_against wsX11_against ({ frames := 1, cells := 0, slots := 0, locals := 29 }) (va_Pc [.ref (ad 200), .int (nI k), .int lane, .int i] (kw_B D tc sz ad ct)) (kw_Q D ad (kw_A ad ct sz) (some (.int ((-10) - 2))) (kw_up ct 200 (.inr (11, [.int 2, .int tr, .int (nI N), .int b, .ref (ad 201), .long g, .int cm, .int da, .int (nI nt), .ref (ad 202), .ref (ad 203), .ref (ad 204), .ref (ad 205), .ref (ad 206), .ref (ad 207), .ref (ad 208), .ref (ad 209), .int (nI no), .ref (ad 210), .ref (ad 211), .ref (ad 212), .ref (ad 213), .ref (ad 214), .int bs, .int (nI nf), .ref (ad 215), .ref (ad 216)]))) 0) 0 0 (kw_A ad ct sz) := by
  refine Met.ofW (cc := cX11_against) (maxL := 7) (ret := (some .int)) (by decide) rfl ?_
  intro pg en s m args below meth cod s₁ B hml hv
  obtain ⟨rfl, hsz, hP0, hK⟩ := hv
  have hx := B.exec
  have hb := B.bytes
  have hr := B.returns
  have hts := atoms_spec (ws := wsX11_against) B.pre
  have hown : s.vm.findClass RX11 = some m.cls := findClass_of_methodNamed B.named
  have hlocks := B.notSynchronized
  subst hsz
  have hw := kw_H.start hP0
  generalize hAe : kw_A ad ct s.heap.size = A at hw ⊢
  have hA : ∀ q, s.heap.size ≤ q → A q := fun q h => by rw [← hAe]; exact Or.inr h
  have hinX11 : ∀ w ∈ wsX110, w ∈ wsX11_against := by decide +kernel
  have hl := lv_entry ([.ref (ad 200), .int (nI k), .int lane, .int i]) (n := 7) (Nat.le_of_ble_eq_true rfl)
  rw [lg_entry_eq]
  generalize (lg_sl ([.ref (ad 200), .int (nI k), .int lane, .int i]) ++ List.replicate (7 - (lg_sl ([.ref (ad 200), .int (nI k), .int lane, .int i])).length) Slot.unset).toArray = ls at hl ⊢
  have hl : lv_has ls 7 [(0, .ref (ad 200)), (1, .int (nI k)), (2, .int lane), (3, .int i)] := hl
  have S0 : CallFix pg m cod cX11_against 7 s _ wsX11_against RX11 := ⟨hx, hb, hml, hown, hts⟩
  have hfr : ∀ j, j ≠ 200 → ct j = ct j := fun _ _ => rfl
  refine lv_iload_n hx hb dX11_against_0 rfl (lv_at hl 2 rfl) ?_
  refine lv_i2l (v := lane.toInt64) hx hb dX11_against_1 rfl ?_
  refine lv_lconst (v := 0) hx hb dX11_against_2 (by decide) ?_
  refine lv_ldc2 (v := 2) hx hb hown (hts (.constantLong RX11 76 (2)) (by decide +kernel)) dX11_against_3 ?_
  refine kc_s (As := [.long lane.toInt64, .long 0, .long 2]) (rest := []) S0 (c_X11_within l D tc s.heap.size ad ct ) (va_cwS 3 hts gX11_against_X11_within rfl rfl rfl (by decide +kernel) ⟨Nat.le_of_ble_eq_true rfl, Nat.le_of_ble_eq_true rfl⟩) hK hw rfl hl.1 rfl (Nat.le_of_ble_eq_true rfl) dX11_against_6 ⟨Nat.le_of_ble_eq_true rfl, (Nat.le_of_ble_eq_true rfl)⟩ ?_
  refine kb_ifne (tgt := 15) hx hb dX11_against_9 (by decide) (fun c_1 => ?_) (fun c_1 => ?_)
  · refine lv_aload_n hx hb dX11_against_15 rfl (lv_at hl 0 rfl) ?_
    refine kg_get (v := .ref (ad 207)) (C := RX11) (T := TX11) (N := 27) hx hb hts hinX11 hown hK hw h0 rfl 14 (by decide) (hts (.fieldLink RX11 39 "BetMakerModel" "lanes" "[I") (by decide +kernel)) (fun _ h9 => h9) rfl dX11_against_16 ?_
    refine lv_iload_n hx hb dX11_against_19 rfl (lv_at hl 1 rfl) ?_
    refine kg_iald hx hb hK hw h207 k rfl (by omega) (by omega) dX11_against_20 ?_
    refine lv_bipush (v := (-9)) hx hb dX11_against_21 (by decide) ?_
    refine lv_icmp_eq (tgt := 42) hx hb dX11_against_23 (by decide) (fun c_2 => ?_) (fun c_2 => ?_)
    · exact absurd c_2 ha1
    · refine lv_aload_n hx hb dX11_against_26 rfl (lv_at hl 0 rfl) ?_
      refine kg_get (v := .ref (ad 207)) (C := RX11) (T := TX11) (N := 27) hx hb hts hinX11 hown hK hw h0 rfl 14 (by decide) (hts (.fieldLink RX11 39 "BetMakerModel" "lanes" "[I") (by decide +kernel)) (fun _ h9 => h9) rfl dX11_against_27 ?_
      refine lv_iload_n hx hb dX11_against_30 rfl (lv_at hl 1 rfl) ?_
      refine kg_iald hx hb hK hw h207 k rfl (by omega) (by omega) dX11_against_31 ?_
      refine lv_iload_n hx hb dX11_against_32 rfl (lv_at hl 2 rfl) ?_
      refine lv_icmp_eq (tgt := 42) hx hb dX11_against_33 (by decide) (fun c_3 => ?_) (fun c_3 => ?_)
      · exact absurd c_3 ha2
      · refine lv_aload_n hx hb dX11_against_36 rfl (lv_at hl 0 rfl) ?_
        refine lv_iconst (v := 2) hx hb dX11_against_37 (by decide) ?_
        refine kc_vu (As := [.int 2]) (rest := []) S0 (c_X11_fails l D tc s.heap.size ad ct (N := N) (nt := nt) (no := no) (nf := nf) h0) (cwV 1 hts gX11_against_X11_fails rfl rfl rfl (by decide +kernel) ⟨Nat.le_of_ble_eq_true rfl, Nat.le_of_ble_eq_true rfl⟩) hK hw hA h0 rfl rfl hl.1 rfl (Nat.le_of_ble_eq_true rfl) dX11_against_38 ⟨Nat.le_of_ble_eq_true rfl, (Nat.le_of_ble_eq_true rfl)⟩ (fun H locs hw => ?_)
        obtain ⟨ct_4, ect_4⟩ : ∃ z, z = kw_up ct 200 (.inr (11, [.int 2, .int tr, .int (nI N), .int b, .ref (ad 201), .long g, .int cm, .int da, .int (nI nt), .ref (ad 202), .ref (ad 203), .ref (ad 204), .ref (ad 205), .ref (ad 206), .ref (ad 207), .ref (ad 208), .ref (ad 209), .int (nI no), .ref (ad 210), .ref (ad 211), .ref (ad 212), .ref (ad 213), .ref (ad 214), .int bs, .int (nI nf), .ref (ad 215), .ref (ad 216)])) := ⟨_, rfl⟩
        rw [← ect_4] at hw
        have h_5 : ct_4 207 = some (eI tc 4 la) := by rw [ect_4, kw_up_n (by decide)]; exact h207
        have h_6 : ct_4 200 = some (.inr (11, [.int 2, .int tr, .int (nI N), .int b, .ref (ad 201), .long g, .int cm, .int da, .int (nI nt), .ref (ad 202), .ref (ad 203), .ref (ad 204), .ref (ad 205), .ref (ad 206), .ref (ad 207), .ref (ad 208), .ref (ad 209), .int (nI no), .ref (ad 210), .ref (ad 211), .ref (ad 212), .ref (ad 213), .ref (ad 214), .int bs, .int (nI nf), .ref (ad 215), .ref (ad 216)])) := by rw [ect_4]; exact kw_up_s
        have hfr_7 : ∀ j, j ≠ 200 → ct_4 j = ct j := fun j a0 => by rw [ect_4]; exact (kw_up_n a0).trans (hfr j a0)
        have hq_8 := h_6
        have hend := kw_eq1 hq_8 hfr_7
        rw [hend] at hw
        exact W.iret hx hb hr (fun t ht _ => ⟨rfl, by rw [ht]; exact hw.1, hw.2.2.1, hw.2.1.F ht, by rw [ht]; exact hw.2.2.2⟩) hw.2.1.2.2 dX11_against_41
  · exact absurd hL c_1
set_option maxHeartbeats 4000000 in
set_option maxRecDepth 100000 in
theorem c_X11_against_n (l : Launch) (D : va_G) (tc : Nat → ClassId) (sz : Nat) (ad : Nat → Nat) (ct : Nat → Option va_E) {N nt no nf : Nat} {ft tr b cm da bs : Int32} {g : Int64}       {la : Nat → Int32}          {k : Nat} {lane i : Int32} (h0 : ct 200 = some (.inr (11, [.int ft, .int tr, .int (nI N), .int b, .ref (ad 201), .long g, .int cm, .int da, .int (nI nt), .ref (ad 202), .ref (ad 203), .ref (ad 204), .ref (ad 205), .ref (ad 206), .ref (ad 207), .ref (ad 208), .ref (ad 209), .int (nI no), .ref (ad 210), .ref (ad 211), .ref (ad 212), .ref (ad 213), .ref (ad 214), .int bs, .int (nI nf), .ref (ad 215), .ref (ad 216)]))) (h207 : ct 207 = some (eI tc 4 la)) (hk4 : k < 4) (hL : 0 ≤ lane.toInt64 ∧ lane.toInt64 ≤ 2) (ha1 : la k = (-9)) : Met l yX11_against wsX11_against ({ frames := 1, cells := 0, slots := 0, locals := 29 }) (va_Pc [.ref (ad 200), .int (nI k), .int lane, .int i] (kw_B D tc sz ad ct)) (kw_Q D ad (kw_A ad ct sz) (some (.int ((-10) - 1))) (kw_up ct 200 (.inr (11, [.int 1, .int tr, .int (nI N), .int b, .ref (ad 201), .long g, .int cm, .int da, .int (nI nt), .ref (ad 202), .ref (ad 203), .ref (ad 204), .ref (ad 205), .ref (ad 206), .ref (ad 207), .ref (ad 208), .ref (ad 209), .int (nI no), .ref (ad 210), .ref (ad 211), .ref (ad 212), .ref (ad 213), .ref (ad 214), .int bs, .int (nI nf), .ref (ad 215), .ref (ad 216)]))) 0) 0 0 (kw_A ad ct sz) := by
  refine Met.ofW (cc := cX11_against) (maxL := 7) (ret := (some .int)) (by decide) rfl ?_
  intro pg en s m args below meth cod s₁ B hml hv
  obtain ⟨rfl, hsz, hP0, hK⟩ := hv
  have hx := B.exec
  have hb := B.bytes
  have hr := B.returns
  have hts := atoms_spec (ws := wsX11_against) B.pre
  have hown : s.vm.findClass RX11 = some m.cls := findClass_of_methodNamed B.named
  have hlocks := B.notSynchronized
  subst hsz
  have hw := kw_H.start hP0
  generalize hAe : kw_A ad ct s.heap.size = A at hw ⊢
  have hA : ∀ q, s.heap.size ≤ q → A q := fun q h => by rw [← hAe]; exact Or.inr h
  have hinX11 : ∀ w ∈ wsX110, w ∈ wsX11_against := by decide +kernel
  have hl := lv_entry ([.ref (ad 200), .int (nI k), .int lane, .int i]) (n := 7) (Nat.le_of_ble_eq_true rfl)
  rw [lg_entry_eq]
  generalize (lg_sl ([.ref (ad 200), .int (nI k), .int lane, .int i]) ++ List.replicate (7 - (lg_sl ([.ref (ad 200), .int (nI k), .int lane, .int i])).length) Slot.unset).toArray = ls at hl ⊢
  have hl : lv_has ls 7 [(0, .ref (ad 200)), (1, .int (nI k)), (2, .int lane), (3, .int i)] := hl
  have S0 : CallFix pg m cod cX11_against 7 s _ wsX11_against RX11 := ⟨hx, hb, hml, hown, hts⟩
  have hfr : ∀ j, j ≠ 200 → ct j = ct j := fun _ _ => rfl
  refine lv_iload_n hx hb dX11_against_0 rfl (lv_at hl 2 rfl) ?_
  refine lv_i2l (v := lane.toInt64) hx hb dX11_against_1 rfl ?_
  refine lv_lconst (v := 0) hx hb dX11_against_2 (by decide) ?_
  refine lv_ldc2 (v := 2) hx hb hown (hts (.constantLong RX11 76 (2)) (by decide +kernel)) dX11_against_3 ?_
  refine kc_s (As := [.long lane.toInt64, .long 0, .long 2]) (rest := []) S0 (c_X11_within l D tc s.heap.size ad ct ) (va_cwS 3 hts gX11_against_X11_within rfl rfl rfl (by decide +kernel) ⟨Nat.le_of_ble_eq_true rfl, Nat.le_of_ble_eq_true rfl⟩) hK hw rfl hl.1 rfl (Nat.le_of_ble_eq_true rfl) dX11_against_6 ⟨Nat.le_of_ble_eq_true rfl, (Nat.le_of_ble_eq_true rfl)⟩ ?_
  refine kb_ifne (tgt := 15) hx hb dX11_against_9 (by decide) (fun c_1 => ?_) (fun c_1 => ?_)
  · refine lv_aload_n hx hb dX11_against_15 rfl (lv_at hl 0 rfl) ?_
    refine kg_get (v := .ref (ad 207)) (C := RX11) (T := TX11) (N := 27) hx hb hts hinX11 hown hK hw h0 rfl 14 (by decide) (hts (.fieldLink RX11 39 "BetMakerModel" "lanes" "[I") (by decide +kernel)) (fun _ h9 => h9) rfl dX11_against_16 ?_
    refine lv_iload_n hx hb dX11_against_19 rfl (lv_at hl 1 rfl) ?_
    refine kg_iald hx hb hK hw h207 k rfl (by omega) (by omega) dX11_against_20 ?_
    refine lv_bipush (v := (-9)) hx hb dX11_against_21 (by decide) ?_
    refine lv_icmp_eq (tgt := 42) hx hb dX11_against_23 (by decide) (fun c_2 => ?_) (fun c_2 => ?_)
    · refine lv_aload_n hx hb dX11_against_42 rfl (lv_at hl 0 rfl) ?_
      refine kg_get (v := .ref (ad 207)) (C := RX11) (T := TX11) (N := 27) hx hb hts hinX11 hown hK hw h0 rfl 14 (by decide) (hts (.fieldLink RX11 39 "BetMakerModel" "lanes" "[I") (by decide +kernel)) (fun _ h9 => h9) rfl dX11_against_43 ?_
      refine lv_iload_n hx hb dX11_against_46 rfl (lv_at hl 1 rfl) ?_
      refine kg_iald hx hb hK hw h207 k rfl (by omega) (by omega) dX11_against_47 ?_
      refine lv_bipush (v := (-9)) hx hb dX11_against_48 (by decide) ?_
      refine lv_icmp_ne (tgt := 59) hx hb dX11_against_50 (by decide) (fun c_3 => ?_) (fun c_3 => ?_)
      · exact absurd ha1 c_3
      · refine lv_aload_n hx hb dX11_against_53 rfl (lv_at hl 0 rfl) ?_
        refine lv_iconst (v := 1) hx hb dX11_against_54 (by decide) ?_
        refine kc_vu (As := [.int 1]) (rest := []) S0 (c_X11_fails l D tc s.heap.size ad ct (N := N) (nt := nt) (no := no) (nf := nf) h0) (cwV 1 hts gX11_against_X11_fails rfl rfl rfl (by decide +kernel) ⟨Nat.le_of_ble_eq_true rfl, Nat.le_of_ble_eq_true rfl⟩) hK hw hA h0 rfl rfl hl.1 rfl (Nat.le_of_ble_eq_true rfl) dX11_against_55 ⟨Nat.le_of_ble_eq_true rfl, (Nat.le_of_ble_eq_true rfl)⟩ (fun H locs hw => ?_)
        obtain ⟨ct_4, ect_4⟩ : ∃ z, z = kw_up ct 200 (.inr (11, [.int 1, .int tr, .int (nI N), .int b, .ref (ad 201), .long g, .int cm, .int da, .int (nI nt), .ref (ad 202), .ref (ad 203), .ref (ad 204), .ref (ad 205), .ref (ad 206), .ref (ad 207), .ref (ad 208), .ref (ad 209), .int (nI no), .ref (ad 210), .ref (ad 211), .ref (ad 212), .ref (ad 213), .ref (ad 214), .int bs, .int (nI nf), .ref (ad 215), .ref (ad 216)])) := ⟨_, rfl⟩
        rw [← ect_4] at hw
        have h_5 : ct_4 207 = some (eI tc 4 la) := by rw [ect_4, kw_up_n (by decide)]; exact h207
        have h_6 : ct_4 200 = some (.inr (11, [.int 1, .int tr, .int (nI N), .int b, .ref (ad 201), .long g, .int cm, .int da, .int (nI nt), .ref (ad 202), .ref (ad 203), .ref (ad 204), .ref (ad 205), .ref (ad 206), .ref (ad 207), .ref (ad 208), .ref (ad 209), .int (nI no), .ref (ad 210), .ref (ad 211), .ref (ad 212), .ref (ad 213), .ref (ad 214), .int bs, .int (nI nf), .ref (ad 215), .ref (ad 216)])) := by rw [ect_4]; exact kw_up_s
        have hfr_7 : ∀ j, j ≠ 200 → ct_4 j = ct j := fun j a0 => by rw [ect_4]; exact (kw_up_n a0).trans (hfr j a0)
        have hq_8 := h_6
        have hend := kw_eq1 hq_8 hfr_7
        rw [hend] at hw
        exact W.iret hx hb hr (fun t ht _ => ⟨rfl, by rw [ht]; exact hw.1, hw.2.2.1, hw.2.1.F ht, by rw [ht]; exact hw.2.2.2⟩) hw.2.1.2.2 dX11_against_58
    · exact absurd ha1 c_2
  · exact absurd hL c_1
set_option maxHeartbeats 4000000 in
set_option maxRecDepth 100000 in
theorem c_X11_against_x (l : Launch) (D : va_G) (tc : Nat → ClassId) (sz : Nat) (ad : Nat → Nat) (ct : Nat → Option va_E) {N nt no nf : Nat} {ft tr b cm da bs : Int32} {g : Int64}       {la : Nat → Int32} {sl : Nat → Int32}         {k : Nat} {lane i : Int32} (h0 : ct 200 = some (.inr (11, [.int ft, .int tr, .int (nI N), .int b, .ref (ad 201), .long g, .int cm, .int da, .int (nI nt), .ref (ad 202), .ref (ad 203), .ref (ad 204), .ref (ad 205), .ref (ad 206), .ref (ad 207), .ref (ad 208), .ref (ad 209), .int (nI no), .ref (ad 210), .ref (ad 211), .ref (ad 212), .ref (ad 213), .ref (ad 214), .int bs, .int (nI nf), .ref (ad 215), .ref (ad 216)]))) (h207 : ct 207 = some (eI tc 4 la)) (h208 : ct 208 = some (eI tc 4 sl)) (hk4 : k < 4) (hL : 0 ≤ lane.toInt64 ∧ lane.toInt64 ≤ 2) (ha1 : ¬ (la k = (-9))) (ha2 : la k = lane) (hxx : i < 0 ∨ ¬ i ≤ sl k - nI N) : Met l yX11_against wsX11_against ({ frames := 1, cells := 0, slots := 0, locals := 29 }) (va_Pc [.ref (ad 200), .int (nI k), .int lane, .int i] (kw_B D tc sz ad ct)) (kw_Q D ad (kw_A ad ct sz) (some (.int ((-10) - 3))) (kw_up ct 200 (.inr (11, [.int 3, .int tr, .int (nI N), .int b, .ref (ad 201), .long g, .int cm, .int da, .int (nI nt), .ref (ad 202), .ref (ad 203), .ref (ad 204), .ref (ad 205), .ref (ad 206), .ref (ad 207), .ref (ad 208), .ref (ad 209), .int (nI no), .ref (ad 210), .ref (ad 211), .ref (ad 212), .ref (ad 213), .ref (ad 214), .int bs, .int (nI nf), .ref (ad 215), .ref (ad 216)]))) 0) 0 0 (kw_A ad ct sz) := by
  refine Met.ofW (cc := cX11_against) (maxL := 7) (ret := (some .int)) (by decide) rfl ?_
  intro pg en s m args below meth cod s₁ B hml hv
  obtain ⟨rfl, hsz, hP0, hK⟩ := hv
  have hx := B.exec
  have hb := B.bytes
  have hr := B.returns
  have hts := atoms_spec (ws := wsX11_against) B.pre
  have hown : s.vm.findClass RX11 = some m.cls := findClass_of_methodNamed B.named
  have hlocks := B.notSynchronized
  subst hsz
  have hw := kw_H.start hP0
  generalize hAe : kw_A ad ct s.heap.size = A at hw ⊢
  have hA : ∀ q, s.heap.size ≤ q → A q := fun q h => by rw [← hAe]; exact Or.inr h
  have hinX11 : ∀ w ∈ wsX110, w ∈ wsX11_against := by decide +kernel
  have hl := lv_entry ([.ref (ad 200), .int (nI k), .int lane, .int i]) (n := 7) (Nat.le_of_ble_eq_true rfl)
  rw [lg_entry_eq]
  generalize (lg_sl ([.ref (ad 200), .int (nI k), .int lane, .int i]) ++ List.replicate (7 - (lg_sl ([.ref (ad 200), .int (nI k), .int lane, .int i])).length) Slot.unset).toArray = ls at hl ⊢
  have hl : lv_has ls 7 [(0, .ref (ad 200)), (1, .int (nI k)), (2, .int lane), (3, .int i)] := hl
  have S0 : CallFix pg m cod cX11_against 7 s _ wsX11_against RX11 := ⟨hx, hb, hml, hown, hts⟩
  have hfr : ∀ j, j ≠ 200 → ct j = ct j := fun _ _ => rfl
  refine lv_iload_n hx hb dX11_against_0 rfl (lv_at hl 2 rfl) ?_
  refine lv_i2l (v := lane.toInt64) hx hb dX11_against_1 rfl ?_
  refine lv_lconst (v := 0) hx hb dX11_against_2 (by decide) ?_
  refine lv_ldc2 (v := 2) hx hb hown (hts (.constantLong RX11 76 (2)) (by decide +kernel)) dX11_against_3 ?_
  refine kc_s (As := [.long lane.toInt64, .long 0, .long 2]) (rest := []) S0 (c_X11_within l D tc s.heap.size ad ct ) (va_cwS 3 hts gX11_against_X11_within rfl rfl rfl (by decide +kernel) ⟨Nat.le_of_ble_eq_true rfl, Nat.le_of_ble_eq_true rfl⟩) hK hw rfl hl.1 rfl (Nat.le_of_ble_eq_true rfl) dX11_against_6 ⟨Nat.le_of_ble_eq_true rfl, (Nat.le_of_ble_eq_true rfl)⟩ ?_
  refine kb_ifne (tgt := 15) hx hb dX11_against_9 (by decide) (fun c_1 => ?_) (fun c_1 => ?_)
  · refine lv_aload_n hx hb dX11_against_15 rfl (lv_at hl 0 rfl) ?_
    refine kg_get (v := .ref (ad 207)) (C := RX11) (T := TX11) (N := 27) hx hb hts hinX11 hown hK hw h0 rfl 14 (by decide) (hts (.fieldLink RX11 39 "BetMakerModel" "lanes" "[I") (by decide +kernel)) (fun _ h9 => h9) rfl dX11_against_16 ?_
    refine lv_iload_n hx hb dX11_against_19 rfl (lv_at hl 1 rfl) ?_
    refine kg_iald hx hb hK hw h207 k rfl (by omega) (by omega) dX11_against_20 ?_
    refine lv_bipush (v := (-9)) hx hb dX11_against_21 (by decide) ?_
    refine lv_icmp_eq (tgt := 42) hx hb dX11_against_23 (by decide) (fun c_2 => ?_) (fun c_2 => ?_)
    · exact absurd c_2 ha1
    · refine lv_aload_n hx hb dX11_against_26 rfl (lv_at hl 0 rfl) ?_
      refine kg_get (v := .ref (ad 207)) (C := RX11) (T := TX11) (N := 27) hx hb hts hinX11 hown hK hw h0 rfl 14 (by decide) (hts (.fieldLink RX11 39 "BetMakerModel" "lanes" "[I") (by decide +kernel)) (fun _ h9 => h9) rfl dX11_against_27 ?_
      refine lv_iload_n hx hb dX11_against_30 rfl (lv_at hl 1 rfl) ?_
      refine kg_iald hx hb hK hw h207 k rfl (by omega) (by omega) dX11_against_31 ?_
      refine lv_iload_n hx hb dX11_against_32 rfl (lv_at hl 2 rfl) ?_
      refine lv_icmp_eq (tgt := 42) hx hb dX11_against_33 (by decide) (fun c_3 => ?_) (fun c_3 => ?_)
      · refine lv_aload_n hx hb dX11_against_42 rfl (lv_at hl 0 rfl) ?_
        refine kg_get (v := .ref (ad 207)) (C := RX11) (T := TX11) (N := 27) hx hb hts hinX11 hown hK hw h0 rfl 14 (by decide) (hts (.fieldLink RX11 39 "BetMakerModel" "lanes" "[I") (by decide +kernel)) (fun _ h9 => h9) rfl dX11_against_43 ?_
        refine lv_iload_n hx hb dX11_against_46 rfl (lv_at hl 1 rfl) ?_
        refine kg_iald hx hb hK hw h207 k rfl (by omega) (by omega) dX11_against_47 ?_
        refine lv_bipush (v := (-9)) hx hb dX11_against_48 (by decide) ?_
        refine lv_icmp_ne (tgt := 59) hx hb dX11_against_50 (by decide) (fun c_4 => ?_) (fun c_4 => ?_)
        · refine lv_iload_n hx hb dX11_against_59 rfl (lv_at hl 3 rfl) ?_
          refine lv_if_lt (tgt := 78) hx hb dX11_against_60 (by decide) (fun c_5 => ?_) (fun c_5 => ?_)
          · refine lv_aload_n hx hb dX11_against_78 rfl (lv_at hl 0 rfl) ?_
            refine lv_iconst (v := 3) hx hb dX11_against_79 (by decide) ?_
            refine kc_vu (As := [.int 3]) (rest := []) S0 (c_X11_fails l D tc s.heap.size ad ct (N := N) (nt := nt) (no := no) (nf := nf) h0) (cwV 1 hts gX11_against_X11_fails rfl rfl rfl (by decide +kernel) ⟨Nat.le_of_ble_eq_true rfl, Nat.le_of_ble_eq_true rfl⟩) hK hw hA h0 rfl rfl hl.1 rfl (Nat.le_of_ble_eq_true rfl) dX11_against_80 ⟨Nat.le_of_ble_eq_true rfl, (Nat.le_of_ble_eq_true rfl)⟩ (fun H locs hw => ?_)
            obtain ⟨ct_6, ect_6⟩ : ∃ z, z = kw_up ct 200 (.inr (11, [.int 3, .int tr, .int (nI N), .int b, .ref (ad 201), .long g, .int cm, .int da, .int (nI nt), .ref (ad 202), .ref (ad 203), .ref (ad 204), .ref (ad 205), .ref (ad 206), .ref (ad 207), .ref (ad 208), .ref (ad 209), .int (nI no), .ref (ad 210), .ref (ad 211), .ref (ad 212), .ref (ad 213), .ref (ad 214), .int bs, .int (nI nf), .ref (ad 215), .ref (ad 216)])) := ⟨_, rfl⟩
            rw [← ect_6] at hw
            have h_7 : ct_6 207 = some (eI tc 4 la) := by rw [ect_6, kw_up_n (by decide)]; exact h207
            have h_8 : ct_6 208 = some (eI tc 4 sl) := by rw [ect_6, kw_up_n (by decide)]; exact h208
            have h_9 : ct_6 200 = some (.inr (11, [.int 3, .int tr, .int (nI N), .int b, .ref (ad 201), .long g, .int cm, .int da, .int (nI nt), .ref (ad 202), .ref (ad 203), .ref (ad 204), .ref (ad 205), .ref (ad 206), .ref (ad 207), .ref (ad 208), .ref (ad 209), .int (nI no), .ref (ad 210), .ref (ad 211), .ref (ad 212), .ref (ad 213), .ref (ad 214), .int bs, .int (nI nf), .ref (ad 215), .ref (ad 216)])) := by rw [ect_6]; exact kw_up_s
            have hfr_10 : ∀ j, j ≠ 200 → ct_6 j = ct j := fun j a0 => by rw [ect_6]; exact (kw_up_n a0).trans (hfr j a0)
            have hq_11 := h_9
            have hend := kw_eq1 hq_11 hfr_10
            rw [hend] at hw
            exact W.iret hx hb hr (fun t ht _ => ⟨rfl, by rw [ht]; exact hw.1, hw.2.2.1, hw.2.1.F ht, by rw [ht]; exact hw.2.2.2⟩) hw.2.1.2.2 dX11_against_83
          · refine lv_iload_n hx hb dX11_against_63 rfl (lv_at hl 3 rfl) ?_
            refine lv_aload_n hx hb dX11_against_64 rfl (lv_at hl 0 rfl) ?_
            refine kg_get (v := .ref (ad 208)) (C := RX11) (T := TX11) (N := 27) hx hb hts hinX11 hown hK hw h0 rfl 15 (by decide) (hts (.fieldLink RX11 42 "BetMakerModel" "sheetLong" "[I") (by decide +kernel)) (fun _ h9 => h9) rfl dX11_against_65 ?_
            refine lv_iload_n hx hb dX11_against_68 rfl (lv_at hl 1 rfl) ?_
            refine kg_iald hx hb hK hw h208 k rfl (by omega) (by omega) dX11_against_69 ?_
            refine lv_aload_n hx hb dX11_against_70 rfl (lv_at hl 0 rfl) ?_
            refine kg_get (v := .int (nI N)) (C := RX11) (T := TX11) (N := 27) hx hb hts hinX11 hown hK hw h0 rfl 2 (by decide) (hts (.fieldLink RX11 7 "BetMakerModel" "cases" "I") (by decide +kernel)) (fun _ h9 => h9) rfl dX11_against_71 ?_
            refine lv_isub hx hb dX11_against_74 ?_
            refine lv_icmp_le (tgt := 84) hx hb dX11_against_75 (by decide) (fun c_12 => ?_) (fun c_12 => ?_)
            · exact absurd c_12 (hxx.resolve_left c_5)
            · refine lv_aload_n hx hb dX11_against_78 rfl (lv_at hl 0 rfl) ?_
              refine lv_iconst (v := 3) hx hb dX11_against_79 (by decide) ?_
              refine kc_vu (As := [.int 3]) (rest := []) S0 (c_X11_fails l D tc s.heap.size ad ct (N := N) (nt := nt) (no := no) (nf := nf) h0) (cwV 1 hts gX11_against_X11_fails rfl rfl rfl (by decide +kernel) ⟨Nat.le_of_ble_eq_true rfl, Nat.le_of_ble_eq_true rfl⟩) hK hw hA h0 rfl rfl hl.1 rfl (Nat.le_of_ble_eq_true rfl) dX11_against_80 ⟨Nat.le_of_ble_eq_true rfl, (Nat.le_of_ble_eq_true rfl)⟩ (fun H locs hw => ?_)
              obtain ⟨ct_13, ect_13⟩ : ∃ z, z = kw_up ct 200 (.inr (11, [.int 3, .int tr, .int (nI N), .int b, .ref (ad 201), .long g, .int cm, .int da, .int (nI nt), .ref (ad 202), .ref (ad 203), .ref (ad 204), .ref (ad 205), .ref (ad 206), .ref (ad 207), .ref (ad 208), .ref (ad 209), .int (nI no), .ref (ad 210), .ref (ad 211), .ref (ad 212), .ref (ad 213), .ref (ad 214), .int bs, .int (nI nf), .ref (ad 215), .ref (ad 216)])) := ⟨_, rfl⟩
              rw [← ect_13] at hw
              have h_14 : ct_13 207 = some (eI tc 4 la) := by rw [ect_13, kw_up_n (by decide)]; exact h207
              have h_15 : ct_13 208 = some (eI tc 4 sl) := by rw [ect_13, kw_up_n (by decide)]; exact h208
              have h_16 : ct_13 200 = some (.inr (11, [.int 3, .int tr, .int (nI N), .int b, .ref (ad 201), .long g, .int cm, .int da, .int (nI nt), .ref (ad 202), .ref (ad 203), .ref (ad 204), .ref (ad 205), .ref (ad 206), .ref (ad 207), .ref (ad 208), .ref (ad 209), .int (nI no), .ref (ad 210), .ref (ad 211), .ref (ad 212), .ref (ad 213), .ref (ad 214), .int bs, .int (nI nf), .ref (ad 215), .ref (ad 216)])) := by rw [ect_13]; exact kw_up_s
              have hfr_17 : ∀ j, j ≠ 200 → ct_13 j = ct j := fun j a0 => by rw [ect_13]; exact (kw_up_n a0).trans (hfr j a0)
              have hq_18 := h_16
              have hend := kw_eq1 hq_18 hfr_17
              rw [hend] at hw
              exact W.iret hx hb hr (fun t ht _ => ⟨rfl, by rw [ht]; exact hw.1, hw.2.2.1, hw.2.1.F ht, by rw [ht]; exact hw.2.2.2⟩) hw.2.1.2.2 dX11_against_83
        · exact absurd c_4 ha1
      · exact absurd ha2 c_3
  · exact absurd hL c_1
set_option maxHeartbeats 4000000 in
set_option maxRecDepth 100000 in
theorem c_X11_against_v (l : Launch) (D : va_G) (tc : Nat → ClassId) (sz : Nat) (ad : Nat → Nat) (ct : Nat → Option va_E) {N nt no nf : Nat} {ft tr b cm da bs : Int32} {g : Int64}       {la : Nat → Int32} {sl : Nat → Int32} {ce : Nat → Int32}        {k i n : Nat} {lane : Int32} (h0 : ct 200 = some (.inr (11, [.int ft, .int tr, .int (nI N), .int b, .ref (ad 201), .long g, .int cm, .int da, .int (nI nt), .ref (ad 202), .ref (ad 203), .ref (ad 204), .ref (ad 205), .ref (ad 206), .ref (ad 207), .ref (ad 208), .ref (ad 209), .int (nI no), .ref (ad 210), .ref (ad 211), .ref (ad 212), .ref (ad 213), .ref (ad 214), .int bs, .int (nI nf), .ref (ad 215), .ref (ad 216)]))) (h207 : ct 207 = some (eI tc 4 la)) (h208 : ct 208 = some (eI tc 4 sl)) (h209 : ct 209 = some (eI tc 96 ce)) (hk4 : k < 4) (hL : 0 ≤ lane.toInt64 ∧ lane.toInt64 ≤ 2) (ha1 : ¬ (la k = (-9))) (ha2 : la k = lane) (hiN : i + N ≤ n) (hn24 : n ≤ 24) (hsl : sl k = nI n) (hN : N ≤ 8) (hbad : ¬ (kall (kWi (fun c => ce (24 * k + i + c))) N = true ∧ ¬ sw (fun c => ce (24 * k + i + c)) N = 0)) : Met l yX11_against wsX11_against ({ frames := 1, cells := 0, slots := 0, locals := 29 }) (va_Pc [.ref (ad 200), .int (nI k), .int lane, .int (nI i)] (kw_B D tc sz ad ct)) (k2_QcV (.int (-2))) 0 0 (fun _ => False) := by
  refine Met.ofW (cc := cX11_against) (maxL := 7) (ret := (some .int)) (by decide) rfl ?_
  intro pg en s m args below meth cod s₁ B hml hv
  obtain ⟨rfl, hsz, hP0, hK⟩ := hv
  have hx := B.exec
  have hb := B.bytes
  have hr := B.returns
  have hts := atoms_spec (ws := wsX11_against) B.pre
  have hown : s.vm.findClass RX11 = some m.cls := findClass_of_methodNamed B.named
  have hlocks := B.notSynchronized
  subst hsz
  have hw := kw_H.start hP0
  generalize kw_A ad ct s.heap.size = A at hw
  have hinX11 : ∀ w ∈ wsX110, w ∈ wsX11_against := by decide +kernel
  have hl := lv_entry ([.ref (ad 200), .int (nI k), .int lane, .int (nI i)]) (n := 7) (Nat.le_of_ble_eq_true rfl)
  rw [lg_entry_eq]
  generalize (lg_sl ([.ref (ad 200), .int (nI k), .int lane, .int (nI i)]) ++ List.replicate (7 - (lg_sl ([.ref (ad 200), .int (nI k), .int lane, .int (nI i)])).length) Slot.unset).toArray = ls at hl ⊢
  have hl : lv_has ls 7 [(0, .ref (ad 200)), (1, .int (nI k)), (2, .int lane), (3, .int (nI i))] := hl
  have S0 : CallFix pg m cod cX11_against 7 s _ wsX11_against RX11 := ⟨hx, hb, hml, hown, hts⟩
  have kI : nI i ≤ sl k - nI N := by rw [hsl, pk_sub (by omega)]; exact nI_le (by omega) (by omega)
  refine lv_iload_n hx hb dX11_against_0 rfl (lv_at hl 2 rfl) ?_
  refine lv_i2l (v := lane.toInt64) hx hb dX11_against_1 rfl ?_
  refine lv_lconst (v := 0) hx hb dX11_against_2 (by decide) ?_
  refine lv_ldc2 (v := 2) hx hb hown (hts (.constantLong RX11 76 (2)) (by decide +kernel)) dX11_against_3 ?_
  refine kc_s (As := [.long lane.toInt64, .long 0, .long 2]) (rest := []) S0 (c_X11_within l D tc s.heap.size ad ct ) (va_cwS 3 hts gX11_against_X11_within rfl rfl rfl (by decide +kernel) ⟨Nat.le_of_ble_eq_true rfl, Nat.le_of_ble_eq_true rfl⟩) hK hw rfl hl.1 rfl (Nat.le_of_ble_eq_true rfl) dX11_against_6 ⟨Nat.le_of_ble_eq_true rfl, (Nat.le_of_ble_eq_true rfl)⟩ ?_
  refine kb_ifne (tgt := 15) hx hb dX11_against_9 (by decide) (fun c_1 => ?_) (fun c_1 => ?_)
  · refine lv_aload_n hx hb dX11_against_15 rfl (lv_at hl 0 rfl) ?_
    refine kg_get (v := .ref (ad 207)) (C := RX11) (T := TX11) (N := 27) hx hb hts hinX11 hown hK hw h0 rfl 14 (by decide) (hts (.fieldLink RX11 39 "BetMakerModel" "lanes" "[I") (by decide +kernel)) (fun _ h9 => h9) rfl dX11_against_16 ?_
    refine lv_iload_n hx hb dX11_against_19 rfl (lv_at hl 1 rfl) ?_
    refine kg_iald hx hb hK hw h207 k rfl (by omega) (by omega) dX11_against_20 ?_
    refine lv_bipush (v := (-9)) hx hb dX11_against_21 (by decide) ?_
    refine lv_icmp_eq (tgt := 42) hx hb dX11_against_23 (by decide) (fun c_2 => ?_) (fun c_2 => ?_)
    · exact absurd c_2 ha1
    · refine lv_aload_n hx hb dX11_against_26 rfl (lv_at hl 0 rfl) ?_
      refine kg_get (v := .ref (ad 207)) (C := RX11) (T := TX11) (N := 27) hx hb hts hinX11 hown hK hw h0 rfl 14 (by decide) (hts (.fieldLink RX11 39 "BetMakerModel" "lanes" "[I") (by decide +kernel)) (fun _ h9 => h9) rfl dX11_against_27 ?_
      refine lv_iload_n hx hb dX11_against_30 rfl (lv_at hl 1 rfl) ?_
      refine kg_iald hx hb hK hw h207 k rfl (by omega) (by omega) dX11_against_31 ?_
      refine lv_iload_n hx hb dX11_against_32 rfl (lv_at hl 2 rfl) ?_
      refine lv_icmp_eq (tgt := 42) hx hb dX11_against_33 (by decide) (fun c_3 => ?_) (fun c_3 => ?_)
      · refine lv_aload_n hx hb dX11_against_42 rfl (lv_at hl 0 rfl) ?_
        refine kg_get (v := .ref (ad 207)) (C := RX11) (T := TX11) (N := 27) hx hb hts hinX11 hown hK hw h0 rfl 14 (by decide) (hts (.fieldLink RX11 39 "BetMakerModel" "lanes" "[I") (by decide +kernel)) (fun _ h9 => h9) rfl dX11_against_43 ?_
        refine lv_iload_n hx hb dX11_against_46 rfl (lv_at hl 1 rfl) ?_
        refine kg_iald hx hb hK hw h207 k rfl (by omega) (by omega) dX11_against_47 ?_
        refine lv_bipush (v := (-9)) hx hb dX11_against_48 (by decide) ?_
        refine lv_icmp_ne (tgt := 59) hx hb dX11_against_50 (by decide) (fun c_4 => ?_) (fun c_4 => ?_)
        · refine lv_iload_n hx hb dX11_against_59 rfl (lv_at hl 3 rfl) ?_
          refine lv_if_lt (tgt := 78) hx hb dX11_against_60 (by decide) (fun c_5 => ?_) (fun c_5 => ?_)
          · exact absurd c_5 (nI_pos (by omega))
          · refine lv_iload_n hx hb dX11_against_63 rfl (lv_at hl 3 rfl) ?_
            refine lv_aload_n hx hb dX11_against_64 rfl (lv_at hl 0 rfl) ?_
            refine kg_get (v := .ref (ad 208)) (C := RX11) (T := TX11) (N := 27) hx hb hts hinX11 hown hK hw h0 rfl 15 (by decide) (hts (.fieldLink RX11 42 "BetMakerModel" "sheetLong" "[I") (by decide +kernel)) (fun _ h9 => h9) rfl dX11_against_65 ?_
            refine lv_iload_n hx hb dX11_against_68 rfl (lv_at hl 1 rfl) ?_
            refine kg_iald hx hb hK hw h208 k rfl (by omega) (by omega) dX11_against_69 ?_
            refine lv_aload_n hx hb dX11_against_70 rfl (lv_at hl 0 rfl) ?_
            refine kg_get (v := .int (nI N)) (C := RX11) (T := TX11) (N := 27) hx hb hts hinX11 hown hK hw h0 rfl 2 (by decide) (hts (.fieldLink RX11 7 "BetMakerModel" "cases" "I") (by decide +kernel)) (fun _ h9 => h9) rfl dX11_against_71 ?_
            refine lv_isub hx hb dX11_against_74 ?_
            refine lv_icmp_le (tgt := 84) hx hb dX11_against_75 (by decide) (fun c_6 => ?_) (fun c_6 => ?_)
            · refine lv_iconst (v := 0) hx hb dX11_against_84 (by decide) ?_
              refine lv_istore (lv' := [(4, .int 0), (0, .ref (ad 200)), (1, .int (nI k)), (2, .int lane), (3, .int (nI i))]) hx hb dX11_against_85 hl (by decide) rfl (fun ls hl => ?_)
              refine lv_iconst (v := 0) hx hb dX11_against_87 (by decide) ?_
              refine lv_istore (lv' := [(5, .int 0), (4, .int 0), (0, .ref (ad 200)), (1, .int (nI k)), (2, .int lane), (3, .int (nI i))]) hx hb dX11_against_88 hl (by decide) rfl (fun ls hl => ?_)
              suffices lp90 : ∀ (nfu : Nat) (j : Nat) (acc : Int32) (ls : Array Slot), N - j < nfu → j ≤ N → acc = sw (fun c => ce (24 * k + i + c)) j → kall (kWi (fun c => ce (24 * k + i + c))) j = true → lv_has ls 7 [(0, .ref (ad 200)), (1, .int (nI k)), (2, .int lane), (3, .int (nI i)), (4, .int acc), (5, .int (nI j))] → W pg l en (headSpec wsX11_against ({ frames := 1, cells := 0, slots := 0, locals := 29 })).room s m (([.ref (ad 200), .int (nI k), .int lane, .int (nI i)] : List Value).toArray) below meth cod s.heap [] 0 0 (MQ below (k2_QcV (.int (-2))) (([.ref (ad 200), .int (nI k), .int lane, .int (nI i)] : List Value).toArray) s 0 0 (fun _ => False)) (F0 m 90 ls []) by
                exact lp90 (N - 0 + 1) 0 0 ls (by omega) (by omega) (by rfl) (by rfl) (by have hl9 := lv_sub hl (l' := [(0, .ref (ad 200)), (1, .int (nI k)), (2, .int lane), (3, .int (nI i)), (4, .int 0), (5, .int 0)]) [2, 3, 4, 5, 1, 0] rfl; exact hl9)
              intro n90
              induction n90 with
              | zero => intro j acc ls hfu; exact absurd hfu (Nat.not_lt_zero _)
              | succ n90 ih90 =>
                intro j acc ls hfu90 hj ha hall hl
                refine lv_iload hx hb dX11_against_90 (lv_at hl 5 rfl) ?_
                refine lv_aload_n hx hb dX11_against_92 rfl (lv_at hl 0 rfl) ?_
                refine kg_get (v := .int (nI N)) (C := RX11) (T := TX11) (N := 27) hx hb hts hinX11 hown hK hw h0 rfl 2 (by decide) (hts (.fieldLink RX11 7 "BetMakerModel" "cases" "I") (by decide +kernel)) (fun _ h9 => h9) rfl dX11_against_93 ?_
                refine kn_ge j N rfl rfl (by omega) (by omega) (tgt := 144) hx hb dX11_against_96 (by decide) (fun c_7 => ?_) (fun c_7 => ?_)
                · refine lv_iload hx hb dX11_against_144 (lv_at hl 4 rfl) ?_
                  refine lv_if_ne (tgt := 154) hx hb dX11_against_146 (by decide) (fun c_8 => ?_) (fun c_8 => ?_)
                  · exact absurd ⟨by rw [← hall, show j = N by omega], by rw [← show acc = sw (fun c => ce (24 * k + i + c)) N by rw [ha, show j = N by omega]]; exact c_8⟩ hbad
                  · refine lv_bipush (v := (-2)) hx hb dX11_against_149 (by decide) ?_
                    refine lv_goto (tgt := 155) hx hb dX11_against_151 (by decide) ?_
                    exact W.iret hx hb hr (fun t ht _ => ⟨rfl, ht⟩) (fun _ h => absurd h List.not_mem_nil) dX11_against_155
                · refine lv_aload_n hx hb dX11_against_99 rfl (lv_at hl 0 rfl) ?_
                  refine kg_get (v := .ref (ad 209)) (C := RX11) (T := TX11) (N := 27) hx hb hts hinX11 hown hK hw h0 rfl 16 (by decide) (hts (.fieldLink RX11 45 "BetMakerModel" "cells" "[I") (by decide +kernel)) (fun _ h9 => h9) rfl dX11_against_100 ?_
                  refine lv_bipush (v := 24) hx hb dX11_against_103 (by decide) ?_
                  refine lv_iload_n hx hb dX11_against_105 rfl (lv_at hl 1 rfl) ?_
                  refine lv_imul hx hb dX11_against_106 ?_
                  refine lv_iload_n hx hb dX11_against_107 rfl (lv_at hl 3 rfl) ?_
                  refine lv_iadd hx hb dX11_against_108 ?_
                  refine lv_iload hx hb dX11_against_109 (lv_at hl 5 rfl) ?_
                  refine lv_iadd hx hb dX11_against_111 ?_
                  refine kg_iald hx hb hK hw h209 (((24 * k) + i) + j) (by simp only [kn_lit, nI_add, pk_mul, nI_1]) (by omega) (by omega) dX11_against_112 ?_
                  refine lv_istore (lv' := [(6, .int (ce (((24 * k) + i) + j))), (0, .ref (ad 200)), (1, .int (nI k)), (2, .int lane), (3, .int (nI i)), (4, .int acc), (5, .int (nI j))]) hx hb dX11_against_113 hl (by decide) rfl (fun ls hl => ?_)
                  refine lv_iload hx hb dX11_against_115 (lv_at hl 0 rfl) ?_
                  refine lv_i2l (v := (ce (((24 * k) + i) + j)).toInt64) hx hb dX11_against_117 rfl ?_
                  refine lv_lconst (v := 0) hx hb dX11_against_118 (by decide) ?_
                  refine lv_ldc2 (v := 100) hx hb hown (hts (.constantLong RX11 160 (100)) (by decide +kernel)) dX11_against_119 ?_
                  refine kc_s (As := [.long ((ce (((24 * k) + i) + j)).toInt64), .long 0, .long 100]) (rest := []) S0 (c_X11_within l D tc s.heap.size ad ct ) (va_cwS 3 hts gX11_against_X11_within rfl rfl rfl (by decide +kernel) ⟨Nat.le_of_ble_eq_true rfl, Nat.le_of_ble_eq_true rfl⟩) hK hw rfl hl.1 rfl (Nat.le_of_ble_eq_true rfl) dX11_against_122 ⟨Nat.le_of_ble_eq_true rfl, (Nat.le_of_ble_eq_true rfl)⟩ ?_
                  refine kb_ifne (tgt := 131) hx hb dX11_against_125 (by decide) (fun c_9 => ?_) (fun c_9 => ?_)
                  · refine lv_iload hx hb dX11_against_131 (lv_at hl 5 rfl) ?_
                    refine lv_iload hx hb dX11_against_133 (lv_at hl 0 rfl) ?_
                    refine lv_iadd hx hb dX11_against_135 ?_
                    refine lv_istore (lv' := [(4, .int (acc + (ce (((24 * k) + i) + j)))), (6, .int (ce (((24 * k) + i) + j))), (0, .ref (ad 200)), (1, .int (nI k)), (2, .int lane), (3, .int (nI i)), (5, .int (nI j))]) hx hb dX11_against_136 hl (by decide) rfl (fun ls hl => ?_)
                    refine lv_iinc (v := (nI (j + 1))) (lv' := [(5, .int (nI (j + 1))), (4, .int (acc + (ce (((24 * k) + i) + j)))), (6, .int (ce (((24 * k) + i) + j))), (0, .ref (ad 200)), (1, .int (nI k)), (2, .int lane), (3, .int (nI i))]) hx hb dX11_against_138 hl (k := 6) rfl (nI_1 j) (by decide) rfl (fun ls hl => ?_)
                    refine lv_goto (tgt := 90) hx hb dX11_against_141 (by decide) ?_
                    exact ih90 (j + 1) (acc + (ce (((24 * k) + i) + j))) ls (by omega) (by omega) (by rw [ha]; rfl) (by exact kall_s hall (decide_eq_true c_9)) (lv_sub hl [3, 4, 5, 6, 1, 0] rfl)
                  · refine lv_bipush (v := (-2)) hx hb dX11_against_128 (by decide) ?_
                    exact W.iret hx hb hr (fun t ht _ => ⟨rfl, ht⟩) (fun _ h => absurd h List.not_mem_nil) dX11_against_130
            · exact absurd kI c_6
        · exact absurd c_4 ha1
      · exact absurd ha2 c_3
  · exact absurd hL c_1
set_option maxHeartbeats 4000000 in
set_option maxRecDepth 100000 in
theorem c_X11_against (l : Launch) (D : va_G) (tc : Nat → ClassId) (sz : Nat) (ad : Nat → Nat) (ct : Nat → Option va_E) {N nt no nf : Nat} {ft tr b cm da bs : Int32} {g : Int64}       {la : Nat → Int32} {sl : Nat → Int32} {ce : Nat → Int32}        {k i n : Nat} {lane : Int32} (h0 : ct 200 = some (.inr (11, [.int ft, .int tr, .int (nI N), .int b, .ref (ad 201), .long g, .int cm, .int da, .int (nI nt), .ref (ad 202), .ref (ad 203), .ref (ad 204), .ref (ad 205), .ref (ad 206), .ref (ad 207), .ref (ad 208), .ref (ad 209), .int (nI no), .ref (ad 210), .ref (ad 211), .ref (ad 212), .ref (ad 213), .ref (ad 214), .int bs, .int (nI nf), .ref (ad 215), .ref (ad 216)]))) (h207 : ct 207 = some (eI tc 4 la)) (h208 : ct 208 = some (eI tc 4 sl)) (h209 : ct 209 = some (eI tc 96 ce)) (hk4 : k < 4) (hL : 0 ≤ lane.toInt64 ∧ lane.toInt64 ≤ 2) (ha1 : ¬ (la k = (-9))) (ha2 : la k = lane) (hiN : i + N ≤ n) (hn24 : n ≤ 24) (hsl : sl k = nI n) (hN : N ≤ 8) (hok : kall (kWi (fun c => ce (24 * k + i + c))) N = true) (hnz : ¬ sw (fun c => ce (24 * k + i + c)) N = 0) : Met l yX11_against wsX11_against ({ frames := 1, cells := 0, slots := 0, locals := 29 }) (va_Pc [.ref (ad 200), .int (nI k), .int lane, .int (nI i)] (kw_B D tc sz ad ct)) (k2_QcV (.int 0)) 0 0 (fun _ => False) := by
  refine Met.ofW (cc := cX11_against) (maxL := 7) (ret := (some .int)) (by decide) rfl ?_
  intro pg en s m args below meth cod s₁ B hml hv
  obtain ⟨rfl, hsz, hP0, hK⟩ := hv
  have hx := B.exec
  have hb := B.bytes
  have hr := B.returns
  have hts := atoms_spec (ws := wsX11_against) B.pre
  have hown : s.vm.findClass RX11 = some m.cls := findClass_of_methodNamed B.named
  have hlocks := B.notSynchronized
  subst hsz
  have hw := kw_H.start hP0
  generalize kw_A ad ct s.heap.size = A at hw
  have hinX11 : ∀ w ∈ wsX110, w ∈ wsX11_against := by decide +kernel
  have hl := lv_entry ([.ref (ad 200), .int (nI k), .int lane, .int (nI i)]) (n := 7) (Nat.le_of_ble_eq_true rfl)
  rw [lg_entry_eq]
  generalize (lg_sl ([.ref (ad 200), .int (nI k), .int lane, .int (nI i)]) ++ List.replicate (7 - (lg_sl ([.ref (ad 200), .int (nI k), .int lane, .int (nI i)])).length) Slot.unset).toArray = ls at hl ⊢
  have hl : lv_has ls 7 [(0, .ref (ad 200)), (1, .int (nI k)), (2, .int lane), (3, .int (nI i))] := hl
  have S0 : CallFix pg m cod cX11_against 7 s _ wsX11_against RX11 := ⟨hx, hb, hml, hown, hts⟩
  have kI : nI i ≤ sl k - nI N := by rw [hsl, pk_sub (by omega)]; exact nI_le (by omega) (by omega)
  refine lv_iload_n hx hb dX11_against_0 rfl (lv_at hl 2 rfl) ?_
  refine lv_i2l (v := lane.toInt64) hx hb dX11_against_1 rfl ?_
  refine lv_lconst (v := 0) hx hb dX11_against_2 (by decide) ?_
  refine lv_ldc2 (v := 2) hx hb hown (hts (.constantLong RX11 76 (2)) (by decide +kernel)) dX11_against_3 ?_
  refine kc_s (As := [.long lane.toInt64, .long 0, .long 2]) (rest := []) S0 (c_X11_within l D tc s.heap.size ad ct ) (va_cwS 3 hts gX11_against_X11_within rfl rfl rfl (by decide +kernel) ⟨Nat.le_of_ble_eq_true rfl, Nat.le_of_ble_eq_true rfl⟩) hK hw rfl hl.1 rfl (Nat.le_of_ble_eq_true rfl) dX11_against_6 ⟨Nat.le_of_ble_eq_true rfl, (Nat.le_of_ble_eq_true rfl)⟩ ?_
  refine kb_ifne (tgt := 15) hx hb dX11_against_9 (by decide) (fun c_1 => ?_) (fun c_1 => ?_)
  · refine lv_aload_n hx hb dX11_against_15 rfl (lv_at hl 0 rfl) ?_
    refine kg_get (v := .ref (ad 207)) (C := RX11) (T := TX11) (N := 27) hx hb hts hinX11 hown hK hw h0 rfl 14 (by decide) (hts (.fieldLink RX11 39 "BetMakerModel" "lanes" "[I") (by decide +kernel)) (fun _ h9 => h9) rfl dX11_against_16 ?_
    refine lv_iload_n hx hb dX11_against_19 rfl (lv_at hl 1 rfl) ?_
    refine kg_iald hx hb hK hw h207 k rfl (by omega) (by omega) dX11_against_20 ?_
    refine lv_bipush (v := (-9)) hx hb dX11_against_21 (by decide) ?_
    refine lv_icmp_eq (tgt := 42) hx hb dX11_against_23 (by decide) (fun c_2 => ?_) (fun c_2 => ?_)
    · exact absurd c_2 ha1
    · refine lv_aload_n hx hb dX11_against_26 rfl (lv_at hl 0 rfl) ?_
      refine kg_get (v := .ref (ad 207)) (C := RX11) (T := TX11) (N := 27) hx hb hts hinX11 hown hK hw h0 rfl 14 (by decide) (hts (.fieldLink RX11 39 "BetMakerModel" "lanes" "[I") (by decide +kernel)) (fun _ h9 => h9) rfl dX11_against_27 ?_
      refine lv_iload_n hx hb dX11_against_30 rfl (lv_at hl 1 rfl) ?_
      refine kg_iald hx hb hK hw h207 k rfl (by omega) (by omega) dX11_against_31 ?_
      refine lv_iload_n hx hb dX11_against_32 rfl (lv_at hl 2 rfl) ?_
      refine lv_icmp_eq (tgt := 42) hx hb dX11_against_33 (by decide) (fun c_3 => ?_) (fun c_3 => ?_)
      · refine lv_aload_n hx hb dX11_against_42 rfl (lv_at hl 0 rfl) ?_
        refine kg_get (v := .ref (ad 207)) (C := RX11) (T := TX11) (N := 27) hx hb hts hinX11 hown hK hw h0 rfl 14 (by decide) (hts (.fieldLink RX11 39 "BetMakerModel" "lanes" "[I") (by decide +kernel)) (fun _ h9 => h9) rfl dX11_against_43 ?_
        refine lv_iload_n hx hb dX11_against_46 rfl (lv_at hl 1 rfl) ?_
        refine kg_iald hx hb hK hw h207 k rfl (by omega) (by omega) dX11_against_47 ?_
        refine lv_bipush (v := (-9)) hx hb dX11_against_48 (by decide) ?_
        refine lv_icmp_ne (tgt := 59) hx hb dX11_against_50 (by decide) (fun c_4 => ?_) (fun c_4 => ?_)
        · refine lv_iload_n hx hb dX11_against_59 rfl (lv_at hl 3 rfl) ?_
          refine lv_if_lt (tgt := 78) hx hb dX11_against_60 (by decide) (fun c_5 => ?_) (fun c_5 => ?_)
          · exact absurd c_5 (nI_pos (by omega))
          · refine lv_iload_n hx hb dX11_against_63 rfl (lv_at hl 3 rfl) ?_
            refine lv_aload_n hx hb dX11_against_64 rfl (lv_at hl 0 rfl) ?_
            refine kg_get (v := .ref (ad 208)) (C := RX11) (T := TX11) (N := 27) hx hb hts hinX11 hown hK hw h0 rfl 15 (by decide) (hts (.fieldLink RX11 42 "BetMakerModel" "sheetLong" "[I") (by decide +kernel)) (fun _ h9 => h9) rfl dX11_against_65 ?_
            refine lv_iload_n hx hb dX11_against_68 rfl (lv_at hl 1 rfl) ?_
            refine kg_iald hx hb hK hw h208 k rfl (by omega) (by omega) dX11_against_69 ?_
            refine lv_aload_n hx hb dX11_against_70 rfl (lv_at hl 0 rfl) ?_
            refine kg_get (v := .int (nI N)) (C := RX11) (T := TX11) (N := 27) hx hb hts hinX11 hown hK hw h0 rfl 2 (by decide) (hts (.fieldLink RX11 7 "BetMakerModel" "cases" "I") (by decide +kernel)) (fun _ h9 => h9) rfl dX11_against_71 ?_
            refine lv_isub hx hb dX11_against_74 ?_
            refine lv_icmp_le (tgt := 84) hx hb dX11_against_75 (by decide) (fun c_6 => ?_) (fun c_6 => ?_)
            · refine lv_iconst (v := 0) hx hb dX11_against_84 (by decide) ?_
              refine lv_istore (lv' := [(4, .int 0), (0, .ref (ad 200)), (1, .int (nI k)), (2, .int lane), (3, .int (nI i))]) hx hb dX11_against_85 hl (by decide) rfl (fun ls hl => ?_)
              refine lv_iconst (v := 0) hx hb dX11_against_87 (by decide) ?_
              refine lv_istore (lv' := [(5, .int 0), (4, .int 0), (0, .ref (ad 200)), (1, .int (nI k)), (2, .int lane), (3, .int (nI i))]) hx hb dX11_against_88 hl (by decide) rfl (fun ls hl => ?_)
              suffices lp90 : ∀ (nfu : Nat) (j : Nat) (acc : Int32) (ls : Array Slot), N - j < nfu → j ≤ N → acc = sw (fun c => ce (24 * k + i + c)) j → kall (kWi (fun c => ce (24 * k + i + c))) j = true → lv_has ls 7 [(0, .ref (ad 200)), (1, .int (nI k)), (2, .int lane), (3, .int (nI i)), (4, .int acc), (5, .int (nI j))] → W pg l en (headSpec wsX11_against ({ frames := 1, cells := 0, slots := 0, locals := 29 })).room s m (([.ref (ad 200), .int (nI k), .int lane, .int (nI i)] : List Value).toArray) below meth cod s.heap [] 0 0 (MQ below (k2_QcV (.int 0)) (([.ref (ad 200), .int (nI k), .int lane, .int (nI i)] : List Value).toArray) s 0 0 (fun _ => False)) (F0 m 90 ls []) by
                exact lp90 (N - 0 + 1) 0 0 ls (by omega) (by omega) (by rfl) (by rfl) (by have hl9 := lv_sub hl (l' := [(0, .ref (ad 200)), (1, .int (nI k)), (2, .int lane), (3, .int (nI i)), (4, .int 0), (5, .int 0)]) [2, 3, 4, 5, 1, 0] rfl; exact hl9)
              intro n90
              induction n90 with
              | zero => intro j acc ls hfu; exact absurd hfu (Nat.not_lt_zero _)
              | succ n90 ih90 =>
                intro j acc ls hfu90 hj ha hall hl
                refine lv_iload hx hb dX11_against_90 (lv_at hl 5 rfl) ?_
                refine lv_aload_n hx hb dX11_against_92 rfl (lv_at hl 0 rfl) ?_
                refine kg_get (v := .int (nI N)) (C := RX11) (T := TX11) (N := 27) hx hb hts hinX11 hown hK hw h0 rfl 2 (by decide) (hts (.fieldLink RX11 7 "BetMakerModel" "cases" "I") (by decide +kernel)) (fun _ h9 => h9) rfl dX11_against_93 ?_
                refine kn_ge j N rfl rfl (by omega) (by omega) (tgt := 144) hx hb dX11_against_96 (by decide) (fun c_7 => ?_) (fun c_7 => ?_)
                · refine lv_iload hx hb dX11_against_144 (lv_at hl 4 rfl) ?_
                  refine lv_if_ne (tgt := 154) hx hb dX11_against_146 (by decide) (fun c_8 => ?_) (fun c_8 => ?_)
                  · refine lv_iconst (v := 0) hx hb dX11_against_154 (by decide) ?_
                    exact W.iret hx hb hr (fun t ht _ => ⟨rfl, ht⟩) (fun _ h => absurd h List.not_mem_nil) dX11_against_155
                  · exact absurd (by rw [← c_8, ha, show j = N by omega]) hnz
                · refine lv_aload_n hx hb dX11_against_99 rfl (lv_at hl 0 rfl) ?_
                  refine kg_get (v := .ref (ad 209)) (C := RX11) (T := TX11) (N := 27) hx hb hts hinX11 hown hK hw h0 rfl 16 (by decide) (hts (.fieldLink RX11 45 "BetMakerModel" "cells" "[I") (by decide +kernel)) (fun _ h9 => h9) rfl dX11_against_100 ?_
                  refine lv_bipush (v := 24) hx hb dX11_against_103 (by decide) ?_
                  refine lv_iload_n hx hb dX11_against_105 rfl (lv_at hl 1 rfl) ?_
                  refine lv_imul hx hb dX11_against_106 ?_
                  refine lv_iload_n hx hb dX11_against_107 rfl (lv_at hl 3 rfl) ?_
                  refine lv_iadd hx hb dX11_against_108 ?_
                  refine lv_iload hx hb dX11_against_109 (lv_at hl 5 rfl) ?_
                  refine lv_iadd hx hb dX11_against_111 ?_
                  refine kg_iald hx hb hK hw h209 (((24 * k) + i) + j) (by simp only [kn_lit, nI_add, pk_mul, nI_1]) (by omega) (by omega) dX11_against_112 ?_
                  refine lv_istore (lv' := [(6, .int (ce (((24 * k) + i) + j))), (0, .ref (ad 200)), (1, .int (nI k)), (2, .int lane), (3, .int (nI i)), (4, .int acc), (5, .int (nI j))]) hx hb dX11_against_113 hl (by decide) rfl (fun ls hl => ?_)
                  refine lv_iload hx hb dX11_against_115 (lv_at hl 0 rfl) ?_
                  refine lv_i2l (v := (ce (((24 * k) + i) + j)).toInt64) hx hb dX11_against_117 rfl ?_
                  refine lv_lconst (v := 0) hx hb dX11_against_118 (by decide) ?_
                  refine lv_ldc2 (v := 100) hx hb hown (hts (.constantLong RX11 160 (100)) (by decide +kernel)) dX11_against_119 ?_
                  refine kc_s (As := [.long ((ce (((24 * k) + i) + j)).toInt64), .long 0, .long 100]) (rest := []) S0 (c_X11_within l D tc s.heap.size ad ct ) (va_cwS 3 hts gX11_against_X11_within rfl rfl rfl (by decide +kernel) ⟨Nat.le_of_ble_eq_true rfl, Nat.le_of_ble_eq_true rfl⟩) hK hw rfl hl.1 rfl (Nat.le_of_ble_eq_true rfl) dX11_against_122 ⟨Nat.le_of_ble_eq_true rfl, (Nat.le_of_ble_eq_true rfl)⟩ ?_
                  refine kb_ifne (tgt := 131) hx hb dX11_against_125 (by decide) (fun c_9 => ?_) (fun c_9 => ?_)
                  · refine lv_iload hx hb dX11_against_131 (lv_at hl 5 rfl) ?_
                    refine lv_iload hx hb dX11_against_133 (lv_at hl 0 rfl) ?_
                    refine lv_iadd hx hb dX11_against_135 ?_
                    refine lv_istore (lv' := [(4, .int (acc + (ce (((24 * k) + i) + j)))), (6, .int (ce (((24 * k) + i) + j))), (0, .ref (ad 200)), (1, .int (nI k)), (2, .int lane), (3, .int (nI i)), (5, .int (nI j))]) hx hb dX11_against_136 hl (by decide) rfl (fun ls hl => ?_)
                    refine lv_iinc (v := (nI (j + 1))) (lv' := [(5, .int (nI (j + 1))), (4, .int (acc + (ce (((24 * k) + i) + j)))), (6, .int (ce (((24 * k) + i) + j))), (0, .ref (ad 200)), (1, .int (nI k)), (2, .int lane), (3, .int (nI i))]) hx hb dX11_against_138 hl (k := 6) rfl (nI_1 j) (by decide) rfl (fun ls hl => ?_)
                    refine lv_goto (tgt := 90) hx hb dX11_against_141 (by decide) ?_
                    exact ih90 (j + 1) (acc + (ce (((24 * k) + i) + j))) ls (by omega) (by omega) (by rw [ha]; rfl) (by exact kall_s hall (decide_eq_true c_9)) (lv_sub hl [3, 4, 5, 6, 1, 0] rfl)
                  · exact absurd (of_decide_eq_true ((kall_iff.mp hok) j (by omega))) c_9
            · exact absurd kI c_6
        · exact absurd c_4 ha1
      · exact absurd ha2 c_3
  · exact absurd hL c_1
set_option maxHeartbeats 4000000 in
set_option maxRecDepth 100000 in
theorem c_X11_beliefs_u (l : Launch) (D : va_G) (tc : Nat → ClassId) (sz : Nat) (ad : Nat → Nat) (ct : Nat → Option va_E) {N nt no nf : Nat} {ft tr b cm da bs : Int32} {g : Int64}                 {t k lane i : Int32} (h0 : ct 200 = some (.inr (11, [.int ft, .int tr, .int (nI N), .int b, .ref (ad 201), .long g, .int cm, .int da, .int (nI nt), .ref (ad 202), .ref (ad 203), .ref (ad 204), .ref (ad 205), .ref (ad 206), .ref (ad 207), .ref (ad 208), .ref (ad 209), .int (nI no), .ref (ad 210), .ref (ad 211), .ref (ad 212), .ref (ad 213), .ref (ad 214), .int bs, .int (nI nf), .ref (ad 215), .ref (ad 216)]))) (hbad : ¬ ((0 ≤ t ∧ t < nI nt) ∧ 0 ≤ k.toInt64 ∧ k.toInt64 ≤ 3)) : Met l yX11_beliefs wsX11_beliefs ({ frames := 2, cells := 0, slots := 0, locals := 59 }) (va_Pc [.ref (ad 200), .int t, .int k, .int lane, .int i] (kw_B D tc sz ad ct)) (kw_Q D ad (kw_A ad ct sz) (some (.int (-1))) (kw_up ct 200 (.inr (11, [.int 0, .int tr, .int (nI N), .int b, .ref (ad 201), .long g, .int cm, .int da, .int (nI nt), .ref (ad 202), .ref (ad 203), .ref (ad 204), .ref (ad 205), .ref (ad 206), .ref (ad 207), .ref (ad 208), .ref (ad 209), .int (nI no), .ref (ad 210), .ref (ad 211), .ref (ad 212), .ref (ad 213), .ref (ad 214), .int bs, .int (nI nf), .ref (ad 215), .ref (ad 216)]))) 0) 0 0 (kw_A ad ct sz) := by
  refine Met.ofW (cc := cX11_beliefs) (maxL := 7) (ret := (some .int)) (by decide) rfl ?_
  intro pg en s m args below meth cod s₁ B hml hv
  obtain ⟨rfl, hsz, hP0, hK⟩ := hv
  have hx := B.exec
  have hb := B.bytes
  have hr := B.returns
  have hts := atoms_spec (ws := wsX11_beliefs) B.pre
  have hown : s.vm.findClass RX11 = some m.cls := findClass_of_methodNamed B.named
  have hlocks := B.notSynchronized
  subst hsz
  have hw := kw_H.start hP0
  generalize hAe : kw_A ad ct s.heap.size = A at hw ⊢
  have hA : ∀ q, s.heap.size ≤ q → A q := fun q h => by rw [← hAe]; exact Or.inr h
  have hinX11 : ∀ w ∈ wsX110, w ∈ wsX11_beliefs := by decide +kernel
  have hl := lv_entry ([.ref (ad 200), .int t, .int k, .int lane, .int i]) (n := 7) (Nat.le_of_ble_eq_true rfl)
  rw [lg_entry_eq]
  generalize (lg_sl ([.ref (ad 200), .int t, .int k, .int lane, .int i]) ++ List.replicate (7 - (lg_sl ([.ref (ad 200), .int t, .int k, .int lane, .int i])).length) Slot.unset).toArray = ls at hl ⊢
  have hl : lv_has ls 7 [(0, .ref (ad 200)), (1, .int t), (2, .int k), (3, .int lane), (4, .int i)] := hl
  have S0 : CallFix pg m cod cX11_beliefs 7 s _ wsX11_beliefs RX11 := ⟨hx, hb, hml, hown, hts⟩
  have hfr : ∀ j, j ≠ 200 → ct j = ct j := fun _ _ => rfl
  refine lv_aload_n hx hb dX11_beliefs_0 rfl (lv_at hl 0 rfl) ?_
  refine lv_iconst (v := 0) hx hb dX11_beliefs_1 (by decide) ?_
  refine kg_put (v := .int 0) (ty := .int) (C := RX11) (T := TX11) (N := 27) (fs' := [.int 0, .int tr, .int (nI N), .int b, .ref (ad 201), .long g, .int cm, .int da, .int (nI nt), .ref (ad 202), .ref (ad 203), .ref (ad 204), .ref (ad 205), .ref (ad 206), .ref (ad 207), .ref (ad 208), .ref (ad 209), .int (nI no), .ref (ad 210), .ref (ad 211), .ref (ad 212), .ref (ad 213), .ref (ad 214), .int bs, .int (nI nf), .ref (ad 215), .ref (ad 216)]) hx hb hts hinX11 tyX11 tyX11_ok nmX11 hown hK hw h0 rfl 0 (by decide) (hts (.fieldLink RX11 69 "BetMakerModel" "fault" "I") (by decide +kernel)) (fun _ h9 => h9) rfl (by decide +kernel) rfl rfl (Nat.le_of_ble_eq_true rfl) rfl dX11_beliefs_2 (fun H locs hw => ?_)
  obtain ⟨ct_1, ect_1⟩ : ∃ z, z = kw_up ct 200 (.inr (11, [.int 0, .int tr, .int (nI N), .int b, .ref (ad 201), .long g, .int cm, .int da, .int (nI nt), .ref (ad 202), .ref (ad 203), .ref (ad 204), .ref (ad 205), .ref (ad 206), .ref (ad 207), .ref (ad 208), .ref (ad 209), .int (nI no), .ref (ad 210), .ref (ad 211), .ref (ad 212), .ref (ad 213), .ref (ad 214), .int bs, .int (nI nf), .ref (ad 215), .ref (ad 216)])) := ⟨_, rfl⟩
  rw [← ect_1] at hw
  have h_2 : ct_1 200 = some (.inr (11, [.int 0, .int tr, .int (nI N), .int b, .ref (ad 201), .long g, .int cm, .int da, .int (nI nt), .ref (ad 202), .ref (ad 203), .ref (ad 204), .ref (ad 205), .ref (ad 206), .ref (ad 207), .ref (ad 208), .ref (ad 209), .int (nI no), .ref (ad 210), .ref (ad 211), .ref (ad 212), .ref (ad 213), .ref (ad 214), .int bs, .int (nI nf), .ref (ad 215), .ref (ad 216)])) := by rw [ect_1]; exact kw_up_s
  have hfr_3 : ∀ j, j ≠ 200 → ct_1 j = ct j := fun j a0 => by rw [ect_1]; exact (kw_up_n a0).trans (hfr j a0)
  refine lv_aload_n hx hb dX11_beliefs_5 rfl (lv_at hl 0 rfl) ?_
  refine lv_iload_n hx hb dX11_beliefs_6 rfl (lv_at hl 1 rfl) ?_
  refine kc_v (As := [.int t]) (rest := []) S0 (c_X11_isTrader l D tc s.heap.size ad ct_1 (N := N) (nt := nt) (no := no) (nf := nf) h_2) (cwV 1 hts gX11_beliefs_X11_isTrader rfl rfl rfl (by decide +kernel) ⟨Nat.le_of_ble_eq_true rfl, Nat.le_of_ble_eq_true rfl⟩) hK hw h_2 rfl rfl hl.1 rfl (Nat.le_of_ble_eq_true rfl) dX11_beliefs_7 ⟨Nat.le_of_ble_eq_true rfl, (Nat.le_of_ble_eq_true rfl)⟩ ?_
  refine kb_ifeq (tgt := 25) hx hb dX11_beliefs_10 (by decide) (fun c_4 => ?_) (fun c_4 => ?_)
  · refine lv_iconst (v := (-1)) hx hb dX11_beliefs_25 (by decide) ?_
    have hq_5 := h_2
    have hend := kw_eq1 hq_5 hfr_3
    rw [hend] at hw
    exact W.iret hx hb hr (fun t ht _ => ⟨rfl, by rw [ht]; exact hw.1, hw.2.2.1, hw.2.1.F ht, by rw [ht]; exact hw.2.2.2⟩) hw.2.1.2.2 dX11_beliefs_26
  · refine lv_iload_n hx hb dX11_beliefs_13 rfl (lv_at hl 2 rfl) ?_
    refine lv_i2l (v := k.toInt64) hx hb dX11_beliefs_14 rfl ?_
    refine lv_lconst (v := 0) hx hb dX11_beliefs_15 (by decide) ?_
    refine lv_ldc2 (v := 3) hx hb hown (hts (.constantLong RX11 165 (3)) (by decide +kernel)) dX11_beliefs_16 ?_
    refine kc_s (As := [.long k.toInt64, .long 0, .long 3]) (rest := []) S0 (c_X11_within l D tc s.heap.size ad ct_1 ) (va_cwS 3 hts gX11_beliefs_X11_within rfl rfl rfl (by decide +kernel) ⟨Nat.le_of_ble_eq_true rfl, Nat.le_of_ble_eq_true rfl⟩) hK hw rfl hl.1 rfl (Nat.le_of_ble_eq_true rfl) dX11_beliefs_19 ⟨Nat.le_of_ble_eq_true rfl, (Nat.le_of_ble_eq_true rfl)⟩ ?_
    refine kb_ifne (tgt := 27) hx hb dX11_beliefs_22 (by decide) (fun c_6 => ?_) (fun c_6 => ?_)
    · exact absurd ⟨c_4, c_6⟩ hbad
    · refine lv_iconst (v := (-1)) hx hb dX11_beliefs_25 (by decide) ?_
      have hq_7 := h_2
      have hend := kw_eq1 hq_7 hfr_3
      rw [hend] at hw
      exact W.iret hx hb hr (fun t ht _ => ⟨rfl, by rw [ht]; exact hw.1, hw.2.2.1, hw.2.1.F ht, by rw [ht]; exact hw.2.2.2⟩) hw.2.1.2.2 dX11_beliefs_26
set_option maxHeartbeats 4000000 in
set_option maxRecDepth 100000 in
theorem c_X11_beliefs_o (l : Launch) (D : va_G) (tc : Nat → ClassId) (sz : Nat) (ad : Nat → Nat) (ct : Nat → Option va_E) {N nt no nf : Nat} {ft tr b cm da bs : Int32} {g : Int64}                 {t k : Nat} {lane i : Int32} (h0 : ct 200 = some (.inr (11, [.int ft, .int tr, .int (nI N), .int b, .ref (ad 201), .long g, .int cm, .int da, .int (nI nt), .ref (ad 202), .ref (ad 203), .ref (ad 204), .ref (ad 205), .ref (ad 206), .ref (ad 207), .ref (ad 208), .ref (ad 209), .int (nI no), .ref (ad 210), .ref (ad 211), .ref (ad 212), .ref (ad 213), .ref (ad 214), .int bs, .int (nI nf), .ref (ad 215), .ref (ad 216)]))) (ht : t < nt) (hnt : nt ≤ 6) (hk4 : k < 4) (hL : ¬ (0 ≤ lane.toInt64 ∧ lane.toInt64 ≤ 2)) : Met l yX11_beliefs wsX11_beliefs ({ frames := 2, cells := 0, slots := 0, locals := 59 }) (va_Pc [.ref (ad 200), .int (nI t), .int (nI k), .int lane, .int i] (kw_B D tc sz ad ct)) (kw_Q D ad (kw_A ad ct sz) (some (.int (-2))) (kw_up ct 200 (.inr (11, [.int 0, .int tr, .int (nI N), .int b, .ref (ad 201), .long g, .int cm, .int da, .int (nI nt), .ref (ad 202), .ref (ad 203), .ref (ad 204), .ref (ad 205), .ref (ad 206), .ref (ad 207), .ref (ad 208), .ref (ad 209), .int (nI no), .ref (ad 210), .ref (ad 211), .ref (ad 212), .ref (ad 213), .ref (ad 214), .int bs, .int (nI nf), .ref (ad 215), .ref (ad 216)]))) 0) 0 0 (kw_A ad ct sz) := by
  refine Met.ofW (cc := cX11_beliefs) (maxL := 7) (ret := (some .int)) (by decide) rfl ?_
  intro pg en s m args below meth cod s₁ B hml hv
  obtain ⟨rfl, hsz, hP0, hK⟩ := hv
  have hx := B.exec
  have hb := B.bytes
  have hr := B.returns
  have hts := atoms_spec (ws := wsX11_beliefs) B.pre
  have hown : s.vm.findClass RX11 = some m.cls := findClass_of_methodNamed B.named
  have hlocks := B.notSynchronized
  subst hsz
  have hw := kw_H.start hP0
  generalize hAe : kw_A ad ct s.heap.size = A at hw ⊢
  have hA : ∀ q, s.heap.size ≤ q → A q := fun q h => by rw [← hAe]; exact Or.inr h
  have hinX11 : ∀ w ∈ wsX110, w ∈ wsX11_beliefs := by decide +kernel
  have hl := lv_entry ([.ref (ad 200), .int (nI t), .int (nI k), .int lane, .int i]) (n := 7) (Nat.le_of_ble_eq_true rfl)
  rw [lg_entry_eq]
  generalize (lg_sl ([.ref (ad 200), .int (nI t), .int (nI k), .int lane, .int i]) ++ List.replicate (7 - (lg_sl ([.ref (ad 200), .int (nI t), .int (nI k), .int lane, .int i])).length) Slot.unset).toArray = ls at hl ⊢
  have hl : lv_has ls 7 [(0, .ref (ad 200)), (1, .int (nI t)), (2, .int (nI k)), (3, .int lane), (4, .int i)] := hl
  have S0 : CallFix pg m cod cX11_beliefs 7 s _ wsX11_beliefs RX11 := ⟨hx, hb, hml, hown, hts⟩
  have hfr : ∀ j, j ≠ 200 → ct j = ct j := fun _ _ => rfl
  have kT : 0 ≤ nI t ∧ nI t < nI nt := ⟨nI_pos' (by omega), nI_lt ht (by omega)⟩
  have kK : 0 ≤ (nI k).toInt64 ∧ (nI k).toInt64 ≤ 3 := kwl k 3 (by omega) (by omega)
  refine lv_aload_n hx hb dX11_beliefs_0 rfl (lv_at hl 0 rfl) ?_
  refine lv_iconst (v := 0) hx hb dX11_beliefs_1 (by decide) ?_
  refine kg_put (v := .int 0) (ty := .int) (C := RX11) (T := TX11) (N := 27) (fs' := [.int 0, .int tr, .int (nI N), .int b, .ref (ad 201), .long g, .int cm, .int da, .int (nI nt), .ref (ad 202), .ref (ad 203), .ref (ad 204), .ref (ad 205), .ref (ad 206), .ref (ad 207), .ref (ad 208), .ref (ad 209), .int (nI no), .ref (ad 210), .ref (ad 211), .ref (ad 212), .ref (ad 213), .ref (ad 214), .int bs, .int (nI nf), .ref (ad 215), .ref (ad 216)]) hx hb hts hinX11 tyX11 tyX11_ok nmX11 hown hK hw h0 rfl 0 (by decide) (hts (.fieldLink RX11 69 "BetMakerModel" "fault" "I") (by decide +kernel)) (fun _ h9 => h9) rfl (by decide +kernel) rfl rfl (Nat.le_of_ble_eq_true rfl) rfl dX11_beliefs_2 (fun H locs hw => ?_)
  obtain ⟨ct_1, ect_1⟩ : ∃ z, z = kw_up ct 200 (.inr (11, [.int 0, .int tr, .int (nI N), .int b, .ref (ad 201), .long g, .int cm, .int da, .int (nI nt), .ref (ad 202), .ref (ad 203), .ref (ad 204), .ref (ad 205), .ref (ad 206), .ref (ad 207), .ref (ad 208), .ref (ad 209), .int (nI no), .ref (ad 210), .ref (ad 211), .ref (ad 212), .ref (ad 213), .ref (ad 214), .int bs, .int (nI nf), .ref (ad 215), .ref (ad 216)])) := ⟨_, rfl⟩
  rw [← ect_1] at hw
  have h_2 : ct_1 200 = some (.inr (11, [.int 0, .int tr, .int (nI N), .int b, .ref (ad 201), .long g, .int cm, .int da, .int (nI nt), .ref (ad 202), .ref (ad 203), .ref (ad 204), .ref (ad 205), .ref (ad 206), .ref (ad 207), .ref (ad 208), .ref (ad 209), .int (nI no), .ref (ad 210), .ref (ad 211), .ref (ad 212), .ref (ad 213), .ref (ad 214), .int bs, .int (nI nf), .ref (ad 215), .ref (ad 216)])) := by rw [ect_1]; exact kw_up_s
  have hfr_3 : ∀ j, j ≠ 200 → ct_1 j = ct j := fun j a0 => by rw [ect_1]; exact (kw_up_n a0).trans (hfr j a0)
  refine lv_aload_n hx hb dX11_beliefs_5 rfl (lv_at hl 0 rfl) ?_
  refine lv_iload_n hx hb dX11_beliefs_6 rfl (lv_at hl 1 rfl) ?_
  refine kc_v (As := [.int (nI t)]) (rest := []) S0 (c_X11_isTrader l D tc s.heap.size ad ct_1 (N := N) (nt := nt) (no := no) (nf := nf) h_2) (cwV 1 hts gX11_beliefs_X11_isTrader rfl rfl rfl (by decide +kernel) ⟨Nat.le_of_ble_eq_true rfl, Nat.le_of_ble_eq_true rfl⟩) hK hw h_2 rfl rfl hl.1 rfl (Nat.le_of_ble_eq_true rfl) dX11_beliefs_7 ⟨Nat.le_of_ble_eq_true rfl, (Nat.le_of_ble_eq_true rfl)⟩ ?_
  refine kb_ifeq (tgt := 25) hx hb dX11_beliefs_10 (by decide) (fun c_4 => ?_) (fun c_4 => ?_)
  · exact absurd kT c_4
  · refine lv_iload_n hx hb dX11_beliefs_13 rfl (lv_at hl 2 rfl) ?_
    refine lv_i2l (v := (nI k).toInt64) hx hb dX11_beliefs_14 rfl ?_
    refine lv_lconst (v := 0) hx hb dX11_beliefs_15 (by decide) ?_
    refine lv_ldc2 (v := 3) hx hb hown (hts (.constantLong RX11 165 (3)) (by decide +kernel)) dX11_beliefs_16 ?_
    refine kc_s (As := [.long ((nI k).toInt64), .long 0, .long 3]) (rest := []) S0 (c_X11_within l D tc s.heap.size ad ct_1 ) (va_cwS 3 hts gX11_beliefs_X11_within rfl rfl rfl (by decide +kernel) ⟨Nat.le_of_ble_eq_true rfl, Nat.le_of_ble_eq_true rfl⟩) hK hw rfl hl.1 rfl (Nat.le_of_ble_eq_true rfl) dX11_beliefs_19 ⟨Nat.le_of_ble_eq_true rfl, (Nat.le_of_ble_eq_true rfl)⟩ ?_
    refine kb_ifne (tgt := 27) hx hb dX11_beliefs_22 (by decide) (fun c_5 => ?_) (fun c_5 => ?_)
    · refine lv_aload_n hx hb dX11_beliefs_27 rfl (lv_at hl 0 rfl) ?_
      refine lv_iload_n hx hb dX11_beliefs_28 rfl (lv_at hl 2 rfl) ?_
      refine lv_iload_n hx hb dX11_beliefs_29 rfl (lv_at hl 3 rfl) ?_
      refine lv_iload hx hb dX11_beliefs_30 (lv_at hl 4 rfl) ?_
      refine kc_v (As := [.int (nI k), .int lane, .int i]) (rest := []) S0 (c_X11_against_o l D tc s.heap.size ad ct_1 (k := k) (N := N) (nt := nt) (no := no) (nf := nf) h_2 hL) (cwV 3 hts gX11_beliefs_X11_against rfl rfl rfl (by decide +kernel) ⟨Nat.le_of_ble_eq_true rfl, Nat.le_of_ble_eq_true rfl⟩) hK hw h_2 rfl rfl hl.1 rfl (Nat.le_of_ble_eq_true rfl) dX11_beliefs_32 ⟨Nat.le_of_ble_eq_true rfl, (Nat.le_of_ble_eq_true rfl)⟩ ?_
      refine lv_istore (lv' := [(5, .int (-2)), (0, .ref (ad 200)), (1, .int (nI t)), (2, .int (nI k)), (3, .int lane), (4, .int i)]) hx hb dX11_beliefs_35 hl (by decide) rfl (fun ls hl => ?_)
      refine lv_iload hx hb dX11_beliefs_37 (lv_at hl 0 rfl) ?_
      refine lv_if_eq (tgt := 45) hx hb dX11_beliefs_39 (by decide) (fun c_6 => ?_) (fun c_6 => ?_)
      · exact absurd c_6 (by decide)
      · refine lv_iload hx hb dX11_beliefs_42 (lv_at hl 0 rfl) ?_
        have hq_7 := h_2
        have hend := kw_eq1 hq_7 hfr_3
        rw [hend] at hw
        exact W.iret hx hb hr (fun t ht _ => ⟨rfl, by rw [ht]; exact hw.1, hw.2.2.1, hw.2.1.F ht, by rw [ht]; exact hw.2.2.2⟩) hw.2.1.2.2 dX11_beliefs_44
    · exact absurd kK c_5
set_option maxHeartbeats 4000000 in
set_option maxRecDepth 100000 in
theorem c_X11_beliefs_c (l : Launch) (D : va_G) (tc : Nat → ClassId) (sz : Nat) (ad : Nat → Nat) (ct : Nat → Option va_E) {N nt no nf : Nat} {ft tr b cm da bs : Int32} {g : Int64}       {la : Nat → Int32}          {t k : Nat} {lane i : Int32} (h0 : ct 200 = some (.inr (11, [.int ft, .int tr, .int (nI N), .int b, .ref (ad 201), .long g, .int cm, .int da, .int (nI nt), .ref (ad 202), .ref (ad 203), .ref (ad 204), .ref (ad 205), .ref (ad 206), .ref (ad 207), .ref (ad 208), .ref (ad 209), .int (nI no), .ref (ad 210), .ref (ad 211), .ref (ad 212), .ref (ad 213), .ref (ad 214), .int bs, .int (nI nf), .ref (ad 215), .ref (ad 216)]))) (h207 : ct 207 = some (eI tc 4 la)) (ht : t < nt) (hnt : nt ≤ 6) (hk4 : k < 4) (hL : 0 ≤ lane.toInt64 ∧ lane.toInt64 ≤ 2) (ha1 : ¬ (la k = (-9))) (ha2 : ¬ (la k = lane)) : Met l yX11_beliefs wsX11_beliefs ({ frames := 2, cells := 0, slots := 0, locals := 59 }) (va_Pc [.ref (ad 200), .int (nI t), .int (nI k), .int lane, .int i] (kw_B D tc sz ad ct)) (kw_Q D ad (kw_A ad ct sz) (some (.int ((-10) - 2))) (kw_up ct 200 (.inr (11, [.int 2, .int tr, .int (nI N), .int b, .ref (ad 201), .long g, .int cm, .int da, .int (nI nt), .ref (ad 202), .ref (ad 203), .ref (ad 204), .ref (ad 205), .ref (ad 206), .ref (ad 207), .ref (ad 208), .ref (ad 209), .int (nI no), .ref (ad 210), .ref (ad 211), .ref (ad 212), .ref (ad 213), .ref (ad 214), .int bs, .int (nI nf), .ref (ad 215), .ref (ad 216)]))) 0) 0 0 (kw_A ad ct sz) := by
  refine Met.ofW (cc := cX11_beliefs) (maxL := 7) (ret := (some .int)) (by decide) rfl ?_
  intro pg en s m args below meth cod s₁ B hml hv
  obtain ⟨rfl, hsz, hP0, hK⟩ := hv
  have hx := B.exec
  have hb := B.bytes
  have hr := B.returns
  have hts := atoms_spec (ws := wsX11_beliefs) B.pre
  have hown : s.vm.findClass RX11 = some m.cls := findClass_of_methodNamed B.named
  have hlocks := B.notSynchronized
  subst hsz
  have hw := kw_H.start hP0
  generalize hAe : kw_A ad ct s.heap.size = A at hw ⊢
  have hA : ∀ q, s.heap.size ≤ q → A q := fun q h => by rw [← hAe]; exact Or.inr h
  have hinX11 : ∀ w ∈ wsX110, w ∈ wsX11_beliefs := by decide +kernel
  have hl := lv_entry ([.ref (ad 200), .int (nI t), .int (nI k), .int lane, .int i]) (n := 7) (Nat.le_of_ble_eq_true rfl)
  rw [lg_entry_eq]
  generalize (lg_sl ([.ref (ad 200), .int (nI t), .int (nI k), .int lane, .int i]) ++ List.replicate (7 - (lg_sl ([.ref (ad 200), .int (nI t), .int (nI k), .int lane, .int i])).length) Slot.unset).toArray = ls at hl ⊢
  have hl : lv_has ls 7 [(0, .ref (ad 200)), (1, .int (nI t)), (2, .int (nI k)), (3, .int lane), (4, .int i)] := hl
  have S0 : CallFix pg m cod cX11_beliefs 7 s _ wsX11_beliefs RX11 := ⟨hx, hb, hml, hown, hts⟩
  have hfr : ∀ j, j ≠ 200 → ct j = ct j := fun _ _ => rfl
  have kT : 0 ≤ nI t ∧ nI t < nI nt := ⟨nI_pos' (by omega), nI_lt ht (by omega)⟩
  have kK : 0 ≤ (nI k).toInt64 ∧ (nI k).toInt64 ≤ 3 := kwl k 3 (by omega) (by omega)
  refine lv_aload_n hx hb dX11_beliefs_0 rfl (lv_at hl 0 rfl) ?_
  refine lv_iconst (v := 0) hx hb dX11_beliefs_1 (by decide) ?_
  refine kg_put (v := .int 0) (ty := .int) (C := RX11) (T := TX11) (N := 27) (fs' := [.int 0, .int tr, .int (nI N), .int b, .ref (ad 201), .long g, .int cm, .int da, .int (nI nt), .ref (ad 202), .ref (ad 203), .ref (ad 204), .ref (ad 205), .ref (ad 206), .ref (ad 207), .ref (ad 208), .ref (ad 209), .int (nI no), .ref (ad 210), .ref (ad 211), .ref (ad 212), .ref (ad 213), .ref (ad 214), .int bs, .int (nI nf), .ref (ad 215), .ref (ad 216)]) hx hb hts hinX11 tyX11 tyX11_ok nmX11 hown hK hw h0 rfl 0 (by decide) (hts (.fieldLink RX11 69 "BetMakerModel" "fault" "I") (by decide +kernel)) (fun _ h9 => h9) rfl (by decide +kernel) rfl rfl (Nat.le_of_ble_eq_true rfl) rfl dX11_beliefs_2 (fun H locs hw => ?_)
  obtain ⟨ct_1, ect_1⟩ : ∃ z, z = kw_up ct 200 (.inr (11, [.int 0, .int tr, .int (nI N), .int b, .ref (ad 201), .long g, .int cm, .int da, .int (nI nt), .ref (ad 202), .ref (ad 203), .ref (ad 204), .ref (ad 205), .ref (ad 206), .ref (ad 207), .ref (ad 208), .ref (ad 209), .int (nI no), .ref (ad 210), .ref (ad 211), .ref (ad 212), .ref (ad 213), .ref (ad 214), .int bs, .int (nI nf), .ref (ad 215), .ref (ad 216)])) := ⟨_, rfl⟩
  rw [← ect_1] at hw
  have h_2 : ct_1 207 = some (eI tc 4 la) := by rw [ect_1, kw_up_n (by decide)]; exact h207
  have h_3 : ct_1 200 = some (.inr (11, [.int 0, .int tr, .int (nI N), .int b, .ref (ad 201), .long g, .int cm, .int da, .int (nI nt), .ref (ad 202), .ref (ad 203), .ref (ad 204), .ref (ad 205), .ref (ad 206), .ref (ad 207), .ref (ad 208), .ref (ad 209), .int (nI no), .ref (ad 210), .ref (ad 211), .ref (ad 212), .ref (ad 213), .ref (ad 214), .int bs, .int (nI nf), .ref (ad 215), .ref (ad 216)])) := by rw [ect_1]; exact kw_up_s
  have hfr_4 : ∀ j, j ≠ 200 → ct_1 j = ct j := fun j a0 => by rw [ect_1]; exact (kw_up_n a0).trans (hfr j a0)
  refine lv_aload_n hx hb dX11_beliefs_5 rfl (lv_at hl 0 rfl) ?_
  refine lv_iload_n hx hb dX11_beliefs_6 rfl (lv_at hl 1 rfl) ?_
  refine kc_v (As := [.int (nI t)]) (rest := []) S0 (c_X11_isTrader l D tc s.heap.size ad ct_1 (N := N) (nt := nt) (no := no) (nf := nf) h_3) (cwV 1 hts gX11_beliefs_X11_isTrader rfl rfl rfl (by decide +kernel) ⟨Nat.le_of_ble_eq_true rfl, Nat.le_of_ble_eq_true rfl⟩) hK hw h_3 rfl rfl hl.1 rfl (Nat.le_of_ble_eq_true rfl) dX11_beliefs_7 ⟨Nat.le_of_ble_eq_true rfl, (Nat.le_of_ble_eq_true rfl)⟩ ?_
  refine kb_ifeq (tgt := 25) hx hb dX11_beliefs_10 (by decide) (fun c_5 => ?_) (fun c_5 => ?_)
  · exact absurd kT c_5
  · refine lv_iload_n hx hb dX11_beliefs_13 rfl (lv_at hl 2 rfl) ?_
    refine lv_i2l (v := (nI k).toInt64) hx hb dX11_beliefs_14 rfl ?_
    refine lv_lconst (v := 0) hx hb dX11_beliefs_15 (by decide) ?_
    refine lv_ldc2 (v := 3) hx hb hown (hts (.constantLong RX11 165 (3)) (by decide +kernel)) dX11_beliefs_16 ?_
    refine kc_s (As := [.long ((nI k).toInt64), .long 0, .long 3]) (rest := []) S0 (c_X11_within l D tc s.heap.size ad ct_1 ) (va_cwS 3 hts gX11_beliefs_X11_within rfl rfl rfl (by decide +kernel) ⟨Nat.le_of_ble_eq_true rfl, Nat.le_of_ble_eq_true rfl⟩) hK hw rfl hl.1 rfl (Nat.le_of_ble_eq_true rfl) dX11_beliefs_19 ⟨Nat.le_of_ble_eq_true rfl, (Nat.le_of_ble_eq_true rfl)⟩ ?_
    refine kb_ifne (tgt := 27) hx hb dX11_beliefs_22 (by decide) (fun c_6 => ?_) (fun c_6 => ?_)
    · refine lv_aload_n hx hb dX11_beliefs_27 rfl (lv_at hl 0 rfl) ?_
      refine lv_iload_n hx hb dX11_beliefs_28 rfl (lv_at hl 2 rfl) ?_
      refine lv_iload_n hx hb dX11_beliefs_29 rfl (lv_at hl 3 rfl) ?_
      refine lv_iload hx hb dX11_beliefs_30 (lv_at hl 4 rfl) ?_
      refine kc_vu (As := [.int (nI k), .int lane, .int i]) (rest := []) S0 (c_X11_against_c l D tc s.heap.size ad ct_1 (k := k) (N := N) (nt := nt) (no := no) (nf := nf) h_3 h_2 hk4 hL ha1 ha2) (cwV 3 hts gX11_beliefs_X11_against rfl rfl rfl (by decide +kernel) ⟨Nat.le_of_ble_eq_true rfl, Nat.le_of_ble_eq_true rfl⟩) hK hw hA h_3 rfl rfl hl.1 rfl (Nat.le_of_ble_eq_true rfl) dX11_beliefs_32 ⟨Nat.le_of_ble_eq_true rfl, (Nat.le_of_ble_eq_true rfl)⟩ (fun H locs hw => ?_)
      obtain ⟨ct_7, ect_7⟩ : ∃ z, z = kw_up ct_1 200 (.inr (11, [.int 2, .int tr, .int (nI N), .int b, .ref (ad 201), .long g, .int cm, .int da, .int (nI nt), .ref (ad 202), .ref (ad 203), .ref (ad 204), .ref (ad 205), .ref (ad 206), .ref (ad 207), .ref (ad 208), .ref (ad 209), .int (nI no), .ref (ad 210), .ref (ad 211), .ref (ad 212), .ref (ad 213), .ref (ad 214), .int bs, .int (nI nf), .ref (ad 215), .ref (ad 216)])) := ⟨_, rfl⟩
      rw [← ect_7] at hw
      have h_8 : ct_7 207 = some (eI tc 4 la) := by rw [ect_7, kw_up_n (by decide)]; exact h_2
      have h_9 : ct_7 200 = some (.inr (11, [.int 2, .int tr, .int (nI N), .int b, .ref (ad 201), .long g, .int cm, .int da, .int (nI nt), .ref (ad 202), .ref (ad 203), .ref (ad 204), .ref (ad 205), .ref (ad 206), .ref (ad 207), .ref (ad 208), .ref (ad 209), .int (nI no), .ref (ad 210), .ref (ad 211), .ref (ad 212), .ref (ad 213), .ref (ad 214), .int bs, .int (nI nf), .ref (ad 215), .ref (ad 216)])) := by rw [ect_7]; exact kw_up_s
      have hfr_10 : ∀ j, j ≠ 200 → ct_7 j = ct j := fun j a0 => by rw [ect_7]; exact (kw_up_n a0).trans (hfr_4 j a0)
      refine lv_istore (lv' := [(5, .int ((-10) - 2)), (0, .ref (ad 200)), (1, .int (nI t)), (2, .int (nI k)), (3, .int lane), (4, .int i)]) hx hb dX11_beliefs_35 hl (by decide) rfl (fun ls hl => ?_)
      refine lv_iload hx hb dX11_beliefs_37 (lv_at hl 0 rfl) ?_
      refine lv_if_eq (tgt := 45) hx hb dX11_beliefs_39 (by decide) (fun c_11 => ?_) (fun c_11 => ?_)
      · exact absurd c_11 (by decide)
      · refine lv_iload hx hb dX11_beliefs_42 (lv_at hl 0 rfl) ?_
        have hq_12 := h_9
        have hend := kw_eq1 hq_12 hfr_10
        rw [hend] at hw
        exact W.iret hx hb hr (fun t ht _ => ⟨rfl, by rw [ht]; exact hw.1, hw.2.2.1, hw.2.1.F ht, by rw [ht]; exact hw.2.2.2⟩) hw.2.1.2.2 dX11_beliefs_44
    · exact absurd kK c_6
set_option maxHeartbeats 4000000 in
set_option maxRecDepth 100000 in
theorem c_X11_beliefs_n (l : Launch) (D : va_G) (tc : Nat → ClassId) (sz : Nat) (ad : Nat → Nat) (ct : Nat → Option va_E) {N nt no nf : Nat} {ft tr b cm da bs : Int32} {g : Int64}       {la : Nat → Int32}          {t k : Nat} {lane i : Int32} (h0 : ct 200 = some (.inr (11, [.int ft, .int tr, .int (nI N), .int b, .ref (ad 201), .long g, .int cm, .int da, .int (nI nt), .ref (ad 202), .ref (ad 203), .ref (ad 204), .ref (ad 205), .ref (ad 206), .ref (ad 207), .ref (ad 208), .ref (ad 209), .int (nI no), .ref (ad 210), .ref (ad 211), .ref (ad 212), .ref (ad 213), .ref (ad 214), .int bs, .int (nI nf), .ref (ad 215), .ref (ad 216)]))) (h207 : ct 207 = some (eI tc 4 la)) (ht : t < nt) (hnt : nt ≤ 6) (hk4 : k < 4) (hL : 0 ≤ lane.toInt64 ∧ lane.toInt64 ≤ 2) (ha1 : la k = (-9)) : Met l yX11_beliefs wsX11_beliefs ({ frames := 2, cells := 0, slots := 0, locals := 59 }) (va_Pc [.ref (ad 200), .int (nI t), .int (nI k), .int lane, .int i] (kw_B D tc sz ad ct)) (kw_Q D ad (kw_A ad ct sz) (some (.int ((-10) - 1))) (kw_up ct 200 (.inr (11, [.int 1, .int tr, .int (nI N), .int b, .ref (ad 201), .long g, .int cm, .int da, .int (nI nt), .ref (ad 202), .ref (ad 203), .ref (ad 204), .ref (ad 205), .ref (ad 206), .ref (ad 207), .ref (ad 208), .ref (ad 209), .int (nI no), .ref (ad 210), .ref (ad 211), .ref (ad 212), .ref (ad 213), .ref (ad 214), .int bs, .int (nI nf), .ref (ad 215), .ref (ad 216)]))) 0) 0 0 (kw_A ad ct sz) := by
  refine Met.ofW (cc := cX11_beliefs) (maxL := 7) (ret := (some .int)) (by decide) rfl ?_
  intro pg en s m args below meth cod s₁ B hml hv
  obtain ⟨rfl, hsz, hP0, hK⟩ := hv
  have hx := B.exec
  have hb := B.bytes
  have hr := B.returns
  have hts := atoms_spec (ws := wsX11_beliefs) B.pre
  have hown : s.vm.findClass RX11 = some m.cls := findClass_of_methodNamed B.named
  have hlocks := B.notSynchronized
  subst hsz
  have hw := kw_H.start hP0
  generalize hAe : kw_A ad ct s.heap.size = A at hw ⊢
  have hA : ∀ q, s.heap.size ≤ q → A q := fun q h => by rw [← hAe]; exact Or.inr h
  have hinX11 : ∀ w ∈ wsX110, w ∈ wsX11_beliefs := by decide +kernel
  have hl := lv_entry ([.ref (ad 200), .int (nI t), .int (nI k), .int lane, .int i]) (n := 7) (Nat.le_of_ble_eq_true rfl)
  rw [lg_entry_eq]
  generalize (lg_sl ([.ref (ad 200), .int (nI t), .int (nI k), .int lane, .int i]) ++ List.replicate (7 - (lg_sl ([.ref (ad 200), .int (nI t), .int (nI k), .int lane, .int i])).length) Slot.unset).toArray = ls at hl ⊢
  have hl : lv_has ls 7 [(0, .ref (ad 200)), (1, .int (nI t)), (2, .int (nI k)), (3, .int lane), (4, .int i)] := hl
  have S0 : CallFix pg m cod cX11_beliefs 7 s _ wsX11_beliefs RX11 := ⟨hx, hb, hml, hown, hts⟩
  have hfr : ∀ j, j ≠ 200 → ct j = ct j := fun _ _ => rfl
  have kT : 0 ≤ nI t ∧ nI t < nI nt := ⟨nI_pos' (by omega), nI_lt ht (by omega)⟩
  have kK : 0 ≤ (nI k).toInt64 ∧ (nI k).toInt64 ≤ 3 := kwl k 3 (by omega) (by omega)
  refine lv_aload_n hx hb dX11_beliefs_0 rfl (lv_at hl 0 rfl) ?_
  refine lv_iconst (v := 0) hx hb dX11_beliefs_1 (by decide) ?_
  refine kg_put (v := .int 0) (ty := .int) (C := RX11) (T := TX11) (N := 27) (fs' := [.int 0, .int tr, .int (nI N), .int b, .ref (ad 201), .long g, .int cm, .int da, .int (nI nt), .ref (ad 202), .ref (ad 203), .ref (ad 204), .ref (ad 205), .ref (ad 206), .ref (ad 207), .ref (ad 208), .ref (ad 209), .int (nI no), .ref (ad 210), .ref (ad 211), .ref (ad 212), .ref (ad 213), .ref (ad 214), .int bs, .int (nI nf), .ref (ad 215), .ref (ad 216)]) hx hb hts hinX11 tyX11 tyX11_ok nmX11 hown hK hw h0 rfl 0 (by decide) (hts (.fieldLink RX11 69 "BetMakerModel" "fault" "I") (by decide +kernel)) (fun _ h9 => h9) rfl (by decide +kernel) rfl rfl (Nat.le_of_ble_eq_true rfl) rfl dX11_beliefs_2 (fun H locs hw => ?_)
  obtain ⟨ct_1, ect_1⟩ : ∃ z, z = kw_up ct 200 (.inr (11, [.int 0, .int tr, .int (nI N), .int b, .ref (ad 201), .long g, .int cm, .int da, .int (nI nt), .ref (ad 202), .ref (ad 203), .ref (ad 204), .ref (ad 205), .ref (ad 206), .ref (ad 207), .ref (ad 208), .ref (ad 209), .int (nI no), .ref (ad 210), .ref (ad 211), .ref (ad 212), .ref (ad 213), .ref (ad 214), .int bs, .int (nI nf), .ref (ad 215), .ref (ad 216)])) := ⟨_, rfl⟩
  rw [← ect_1] at hw
  have h_2 : ct_1 207 = some (eI tc 4 la) := by rw [ect_1, kw_up_n (by decide)]; exact h207
  have h_3 : ct_1 200 = some (.inr (11, [.int 0, .int tr, .int (nI N), .int b, .ref (ad 201), .long g, .int cm, .int da, .int (nI nt), .ref (ad 202), .ref (ad 203), .ref (ad 204), .ref (ad 205), .ref (ad 206), .ref (ad 207), .ref (ad 208), .ref (ad 209), .int (nI no), .ref (ad 210), .ref (ad 211), .ref (ad 212), .ref (ad 213), .ref (ad 214), .int bs, .int (nI nf), .ref (ad 215), .ref (ad 216)])) := by rw [ect_1]; exact kw_up_s
  have hfr_4 : ∀ j, j ≠ 200 → ct_1 j = ct j := fun j a0 => by rw [ect_1]; exact (kw_up_n a0).trans (hfr j a0)
  refine lv_aload_n hx hb dX11_beliefs_5 rfl (lv_at hl 0 rfl) ?_
  refine lv_iload_n hx hb dX11_beliefs_6 rfl (lv_at hl 1 rfl) ?_
  refine kc_v (As := [.int (nI t)]) (rest := []) S0 (c_X11_isTrader l D tc s.heap.size ad ct_1 (N := N) (nt := nt) (no := no) (nf := nf) h_3) (cwV 1 hts gX11_beliefs_X11_isTrader rfl rfl rfl (by decide +kernel) ⟨Nat.le_of_ble_eq_true rfl, Nat.le_of_ble_eq_true rfl⟩) hK hw h_3 rfl rfl hl.1 rfl (Nat.le_of_ble_eq_true rfl) dX11_beliefs_7 ⟨Nat.le_of_ble_eq_true rfl, (Nat.le_of_ble_eq_true rfl)⟩ ?_
  refine kb_ifeq (tgt := 25) hx hb dX11_beliefs_10 (by decide) (fun c_5 => ?_) (fun c_5 => ?_)
  · exact absurd kT c_5
  · refine lv_iload_n hx hb dX11_beliefs_13 rfl (lv_at hl 2 rfl) ?_
    refine lv_i2l (v := (nI k).toInt64) hx hb dX11_beliefs_14 rfl ?_
    refine lv_lconst (v := 0) hx hb dX11_beliefs_15 (by decide) ?_
    refine lv_ldc2 (v := 3) hx hb hown (hts (.constantLong RX11 165 (3)) (by decide +kernel)) dX11_beliefs_16 ?_
    refine kc_s (As := [.long ((nI k).toInt64), .long 0, .long 3]) (rest := []) S0 (c_X11_within l D tc s.heap.size ad ct_1 ) (va_cwS 3 hts gX11_beliefs_X11_within rfl rfl rfl (by decide +kernel) ⟨Nat.le_of_ble_eq_true rfl, Nat.le_of_ble_eq_true rfl⟩) hK hw rfl hl.1 rfl (Nat.le_of_ble_eq_true rfl) dX11_beliefs_19 ⟨Nat.le_of_ble_eq_true rfl, (Nat.le_of_ble_eq_true rfl)⟩ ?_
    refine kb_ifne (tgt := 27) hx hb dX11_beliefs_22 (by decide) (fun c_6 => ?_) (fun c_6 => ?_)
    · refine lv_aload_n hx hb dX11_beliefs_27 rfl (lv_at hl 0 rfl) ?_
      refine lv_iload_n hx hb dX11_beliefs_28 rfl (lv_at hl 2 rfl) ?_
      refine lv_iload_n hx hb dX11_beliefs_29 rfl (lv_at hl 3 rfl) ?_
      refine lv_iload hx hb dX11_beliefs_30 (lv_at hl 4 rfl) ?_
      refine kc_vu (As := [.int (nI k), .int lane, .int i]) (rest := []) S0 (c_X11_against_n l D tc s.heap.size ad ct_1 (k := k) (N := N) (nt := nt) (no := no) (nf := nf) h_3 h_2 hk4 hL ha1) (cwV 3 hts gX11_beliefs_X11_against rfl rfl rfl (by decide +kernel) ⟨Nat.le_of_ble_eq_true rfl, Nat.le_of_ble_eq_true rfl⟩) hK hw hA h_3 rfl rfl hl.1 rfl (Nat.le_of_ble_eq_true rfl) dX11_beliefs_32 ⟨Nat.le_of_ble_eq_true rfl, (Nat.le_of_ble_eq_true rfl)⟩ (fun H locs hw => ?_)
      obtain ⟨ct_7, ect_7⟩ : ∃ z, z = kw_up ct_1 200 (.inr (11, [.int 1, .int tr, .int (nI N), .int b, .ref (ad 201), .long g, .int cm, .int da, .int (nI nt), .ref (ad 202), .ref (ad 203), .ref (ad 204), .ref (ad 205), .ref (ad 206), .ref (ad 207), .ref (ad 208), .ref (ad 209), .int (nI no), .ref (ad 210), .ref (ad 211), .ref (ad 212), .ref (ad 213), .ref (ad 214), .int bs, .int (nI nf), .ref (ad 215), .ref (ad 216)])) := ⟨_, rfl⟩
      rw [← ect_7] at hw
      have h_8 : ct_7 207 = some (eI tc 4 la) := by rw [ect_7, kw_up_n (by decide)]; exact h_2
      have h_9 : ct_7 200 = some (.inr (11, [.int 1, .int tr, .int (nI N), .int b, .ref (ad 201), .long g, .int cm, .int da, .int (nI nt), .ref (ad 202), .ref (ad 203), .ref (ad 204), .ref (ad 205), .ref (ad 206), .ref (ad 207), .ref (ad 208), .ref (ad 209), .int (nI no), .ref (ad 210), .ref (ad 211), .ref (ad 212), .ref (ad 213), .ref (ad 214), .int bs, .int (nI nf), .ref (ad 215), .ref (ad 216)])) := by rw [ect_7]; exact kw_up_s
      have hfr_10 : ∀ j, j ≠ 200 → ct_7 j = ct j := fun j a0 => by rw [ect_7]; exact (kw_up_n a0).trans (hfr_4 j a0)
      refine lv_istore (lv' := [(5, .int ((-10) - 1)), (0, .ref (ad 200)), (1, .int (nI t)), (2, .int (nI k)), (3, .int lane), (4, .int i)]) hx hb dX11_beliefs_35 hl (by decide) rfl (fun ls hl => ?_)
      refine lv_iload hx hb dX11_beliefs_37 (lv_at hl 0 rfl) ?_
      refine lv_if_eq (tgt := 45) hx hb dX11_beliefs_39 (by decide) (fun c_11 => ?_) (fun c_11 => ?_)
      · exact absurd c_11 (by decide)
      · refine lv_iload hx hb dX11_beliefs_42 (lv_at hl 0 rfl) ?_
        have hq_12 := h_9
        have hend := kw_eq1 hq_12 hfr_10
        rw [hend] at hw
        exact W.iret hx hb hr (fun t ht _ => ⟨rfl, by rw [ht]; exact hw.1, hw.2.2.1, hw.2.1.F ht, by rw [ht]; exact hw.2.2.2⟩) hw.2.1.2.2 dX11_beliefs_44
    · exact absurd kK c_6
set_option maxHeartbeats 4000000 in
set_option maxRecDepth 100000 in
theorem c_X11_beliefs_x (l : Launch) (D : va_G) (tc : Nat → ClassId) (sz : Nat) (ad : Nat → Nat) (ct : Nat → Option va_E) {N nt no nf : Nat} {ft tr b cm da bs : Int32} {g : Int64}       {la : Nat → Int32} {sl : Nat → Int32}         {t k : Nat} {lane i : Int32} (h0 : ct 200 = some (.inr (11, [.int ft, .int tr, .int (nI N), .int b, .ref (ad 201), .long g, .int cm, .int da, .int (nI nt), .ref (ad 202), .ref (ad 203), .ref (ad 204), .ref (ad 205), .ref (ad 206), .ref (ad 207), .ref (ad 208), .ref (ad 209), .int (nI no), .ref (ad 210), .ref (ad 211), .ref (ad 212), .ref (ad 213), .ref (ad 214), .int bs, .int (nI nf), .ref (ad 215), .ref (ad 216)]))) (h207 : ct 207 = some (eI tc 4 la)) (h208 : ct 208 = some (eI tc 4 sl)) (ht : t < nt) (hnt : nt ≤ 6) (hk4 : k < 4) (hL : 0 ≤ lane.toInt64 ∧ lane.toInt64 ≤ 2) (ha1 : ¬ (la k = (-9))) (ha2 : la k = lane) (hxx : i < 0 ∨ ¬ i ≤ sl k - nI N) : Met l yX11_beliefs wsX11_beliefs ({ frames := 2, cells := 0, slots := 0, locals := 59 }) (va_Pc [.ref (ad 200), .int (nI t), .int (nI k), .int lane, .int i] (kw_B D tc sz ad ct)) (kw_Q D ad (kw_A ad ct sz) (some (.int ((-10) - 3))) (kw_up ct 200 (.inr (11, [.int 3, .int tr, .int (nI N), .int b, .ref (ad 201), .long g, .int cm, .int da, .int (nI nt), .ref (ad 202), .ref (ad 203), .ref (ad 204), .ref (ad 205), .ref (ad 206), .ref (ad 207), .ref (ad 208), .ref (ad 209), .int (nI no), .ref (ad 210), .ref (ad 211), .ref (ad 212), .ref (ad 213), .ref (ad 214), .int bs, .int (nI nf), .ref (ad 215), .ref (ad 216)]))) 0) 0 0 (kw_A ad ct sz) := by
  refine Met.ofW (cc := cX11_beliefs) (maxL := 7) (ret := (some .int)) (by decide) rfl ?_
  intro pg en s m args below meth cod s₁ B hml hv
  obtain ⟨rfl, hsz, hP0, hK⟩ := hv
  have hx := B.exec
  have hb := B.bytes
  have hr := B.returns
  have hts := atoms_spec (ws := wsX11_beliefs) B.pre
  have hown : s.vm.findClass RX11 = some m.cls := findClass_of_methodNamed B.named
  have hlocks := B.notSynchronized
  subst hsz
  have hw := kw_H.start hP0
  generalize hAe : kw_A ad ct s.heap.size = A at hw ⊢
  have hA : ∀ q, s.heap.size ≤ q → A q := fun q h => by rw [← hAe]; exact Or.inr h
  have hinX11 : ∀ w ∈ wsX110, w ∈ wsX11_beliefs := by decide +kernel
  have hl := lv_entry ([.ref (ad 200), .int (nI t), .int (nI k), .int lane, .int i]) (n := 7) (Nat.le_of_ble_eq_true rfl)
  rw [lg_entry_eq]
  generalize (lg_sl ([.ref (ad 200), .int (nI t), .int (nI k), .int lane, .int i]) ++ List.replicate (7 - (lg_sl ([.ref (ad 200), .int (nI t), .int (nI k), .int lane, .int i])).length) Slot.unset).toArray = ls at hl ⊢
  have hl : lv_has ls 7 [(0, .ref (ad 200)), (1, .int (nI t)), (2, .int (nI k)), (3, .int lane), (4, .int i)] := hl
  have S0 : CallFix pg m cod cX11_beliefs 7 s _ wsX11_beliefs RX11 := ⟨hx, hb, hml, hown, hts⟩
  have hfr : ∀ j, j ≠ 200 → ct j = ct j := fun _ _ => rfl
  have kT : 0 ≤ nI t ∧ nI t < nI nt := ⟨nI_pos' (by omega), nI_lt ht (by omega)⟩
  have kK : 0 ≤ (nI k).toInt64 ∧ (nI k).toInt64 ≤ 3 := kwl k 3 (by omega) (by omega)
  refine lv_aload_n hx hb dX11_beliefs_0 rfl (lv_at hl 0 rfl) ?_
  refine lv_iconst (v := 0) hx hb dX11_beliefs_1 (by decide) ?_
  refine kg_put (v := .int 0) (ty := .int) (C := RX11) (T := TX11) (N := 27) (fs' := [.int 0, .int tr, .int (nI N), .int b, .ref (ad 201), .long g, .int cm, .int da, .int (nI nt), .ref (ad 202), .ref (ad 203), .ref (ad 204), .ref (ad 205), .ref (ad 206), .ref (ad 207), .ref (ad 208), .ref (ad 209), .int (nI no), .ref (ad 210), .ref (ad 211), .ref (ad 212), .ref (ad 213), .ref (ad 214), .int bs, .int (nI nf), .ref (ad 215), .ref (ad 216)]) hx hb hts hinX11 tyX11 tyX11_ok nmX11 hown hK hw h0 rfl 0 (by decide) (hts (.fieldLink RX11 69 "BetMakerModel" "fault" "I") (by decide +kernel)) (fun _ h9 => h9) rfl (by decide +kernel) rfl rfl (Nat.le_of_ble_eq_true rfl) rfl dX11_beliefs_2 (fun H locs hw => ?_)
  obtain ⟨ct_1, ect_1⟩ : ∃ z, z = kw_up ct 200 (.inr (11, [.int 0, .int tr, .int (nI N), .int b, .ref (ad 201), .long g, .int cm, .int da, .int (nI nt), .ref (ad 202), .ref (ad 203), .ref (ad 204), .ref (ad 205), .ref (ad 206), .ref (ad 207), .ref (ad 208), .ref (ad 209), .int (nI no), .ref (ad 210), .ref (ad 211), .ref (ad 212), .ref (ad 213), .ref (ad 214), .int bs, .int (nI nf), .ref (ad 215), .ref (ad 216)])) := ⟨_, rfl⟩
  rw [← ect_1] at hw
  have h_2 : ct_1 207 = some (eI tc 4 la) := by rw [ect_1, kw_up_n (by decide)]; exact h207
  have h_3 : ct_1 208 = some (eI tc 4 sl) := by rw [ect_1, kw_up_n (by decide)]; exact h208
  have h_4 : ct_1 200 = some (.inr (11, [.int 0, .int tr, .int (nI N), .int b, .ref (ad 201), .long g, .int cm, .int da, .int (nI nt), .ref (ad 202), .ref (ad 203), .ref (ad 204), .ref (ad 205), .ref (ad 206), .ref (ad 207), .ref (ad 208), .ref (ad 209), .int (nI no), .ref (ad 210), .ref (ad 211), .ref (ad 212), .ref (ad 213), .ref (ad 214), .int bs, .int (nI nf), .ref (ad 215), .ref (ad 216)])) := by rw [ect_1]; exact kw_up_s
  have hfr_5 : ∀ j, j ≠ 200 → ct_1 j = ct j := fun j a0 => by rw [ect_1]; exact (kw_up_n a0).trans (hfr j a0)
  refine lv_aload_n hx hb dX11_beliefs_5 rfl (lv_at hl 0 rfl) ?_
  refine lv_iload_n hx hb dX11_beliefs_6 rfl (lv_at hl 1 rfl) ?_
  refine kc_v (As := [.int (nI t)]) (rest := []) S0 (c_X11_isTrader l D tc s.heap.size ad ct_1 (N := N) (nt := nt) (no := no) (nf := nf) h_4) (cwV 1 hts gX11_beliefs_X11_isTrader rfl rfl rfl (by decide +kernel) ⟨Nat.le_of_ble_eq_true rfl, Nat.le_of_ble_eq_true rfl⟩) hK hw h_4 rfl rfl hl.1 rfl (Nat.le_of_ble_eq_true rfl) dX11_beliefs_7 ⟨Nat.le_of_ble_eq_true rfl, (Nat.le_of_ble_eq_true rfl)⟩ ?_
  refine kb_ifeq (tgt := 25) hx hb dX11_beliefs_10 (by decide) (fun c_6 => ?_) (fun c_6 => ?_)
  · exact absurd kT c_6
  · refine lv_iload_n hx hb dX11_beliefs_13 rfl (lv_at hl 2 rfl) ?_
    refine lv_i2l (v := (nI k).toInt64) hx hb dX11_beliefs_14 rfl ?_
    refine lv_lconst (v := 0) hx hb dX11_beliefs_15 (by decide) ?_
    refine lv_ldc2 (v := 3) hx hb hown (hts (.constantLong RX11 165 (3)) (by decide +kernel)) dX11_beliefs_16 ?_
    refine kc_s (As := [.long ((nI k).toInt64), .long 0, .long 3]) (rest := []) S0 (c_X11_within l D tc s.heap.size ad ct_1 ) (va_cwS 3 hts gX11_beliefs_X11_within rfl rfl rfl (by decide +kernel) ⟨Nat.le_of_ble_eq_true rfl, Nat.le_of_ble_eq_true rfl⟩) hK hw rfl hl.1 rfl (Nat.le_of_ble_eq_true rfl) dX11_beliefs_19 ⟨Nat.le_of_ble_eq_true rfl, (Nat.le_of_ble_eq_true rfl)⟩ ?_
    refine kb_ifne (tgt := 27) hx hb dX11_beliefs_22 (by decide) (fun c_7 => ?_) (fun c_7 => ?_)
    · refine lv_aload_n hx hb dX11_beliefs_27 rfl (lv_at hl 0 rfl) ?_
      refine lv_iload_n hx hb dX11_beliefs_28 rfl (lv_at hl 2 rfl) ?_
      refine lv_iload_n hx hb dX11_beliefs_29 rfl (lv_at hl 3 rfl) ?_
      refine lv_iload hx hb dX11_beliefs_30 (lv_at hl 4 rfl) ?_
      refine kc_vu (As := [.int (nI k), .int lane, .int i]) (rest := []) S0 (c_X11_against_x l D tc s.heap.size ad ct_1 (k := k) (N := N) (nt := nt) (no := no) (nf := nf) h_4 h_2 h_3 hk4 hL ha1 ha2 hxx) (cwV 3 hts gX11_beliefs_X11_against rfl rfl rfl (by decide +kernel) ⟨Nat.le_of_ble_eq_true rfl, Nat.le_of_ble_eq_true rfl⟩) hK hw hA h_4 rfl rfl hl.1 rfl (Nat.le_of_ble_eq_true rfl) dX11_beliefs_32 ⟨Nat.le_of_ble_eq_true rfl, (Nat.le_of_ble_eq_true rfl)⟩ (fun H locs hw => ?_)
      obtain ⟨ct_8, ect_8⟩ : ∃ z, z = kw_up ct_1 200 (.inr (11, [.int 3, .int tr, .int (nI N), .int b, .ref (ad 201), .long g, .int cm, .int da, .int (nI nt), .ref (ad 202), .ref (ad 203), .ref (ad 204), .ref (ad 205), .ref (ad 206), .ref (ad 207), .ref (ad 208), .ref (ad 209), .int (nI no), .ref (ad 210), .ref (ad 211), .ref (ad 212), .ref (ad 213), .ref (ad 214), .int bs, .int (nI nf), .ref (ad 215), .ref (ad 216)])) := ⟨_, rfl⟩
      rw [← ect_8] at hw
      have h_9 : ct_8 207 = some (eI tc 4 la) := by rw [ect_8, kw_up_n (by decide)]; exact h_2
      have h_10 : ct_8 208 = some (eI tc 4 sl) := by rw [ect_8, kw_up_n (by decide)]; exact h_3
      have h_11 : ct_8 200 = some (.inr (11, [.int 3, .int tr, .int (nI N), .int b, .ref (ad 201), .long g, .int cm, .int da, .int (nI nt), .ref (ad 202), .ref (ad 203), .ref (ad 204), .ref (ad 205), .ref (ad 206), .ref (ad 207), .ref (ad 208), .ref (ad 209), .int (nI no), .ref (ad 210), .ref (ad 211), .ref (ad 212), .ref (ad 213), .ref (ad 214), .int bs, .int (nI nf), .ref (ad 215), .ref (ad 216)])) := by rw [ect_8]; exact kw_up_s
      have hfr_12 : ∀ j, j ≠ 200 → ct_8 j = ct j := fun j a0 => by rw [ect_8]; exact (kw_up_n a0).trans (hfr_5 j a0)
      refine lv_istore (lv' := [(5, .int ((-10) - 3)), (0, .ref (ad 200)), (1, .int (nI t)), (2, .int (nI k)), (3, .int lane), (4, .int i)]) hx hb dX11_beliefs_35 hl (by decide) rfl (fun ls hl => ?_)
      refine lv_iload hx hb dX11_beliefs_37 (lv_at hl 0 rfl) ?_
      refine lv_if_eq (tgt := 45) hx hb dX11_beliefs_39 (by decide) (fun c_13 => ?_) (fun c_13 => ?_)
      · exact absurd c_13 (by decide)
      · refine lv_iload hx hb dX11_beliefs_42 (lv_at hl 0 rfl) ?_
        have hq_14 := h_11
        have hend := kw_eq1 hq_14 hfr_12
        rw [hend] at hw
        exact W.iret hx hb hr (fun t ht _ => ⟨rfl, by rw [ht]; exact hw.1, hw.2.2.1, hw.2.1.F ht, by rw [ht]; exact hw.2.2.2⟩) hw.2.1.2.2 dX11_beliefs_44
    · exact absurd kK c_7
set_option maxHeartbeats 4000000 in
set_option maxRecDepth 100000 in
theorem c_X11_beliefs_v (l : Launch) (D : va_G) (tc : Nat → ClassId) (sz : Nat) (ad : Nat → Nat) (ct : Nat → Option va_E) {N nt no nf : Nat} {ft tr b cm da bs : Int32} {g : Int64}       {la : Nat → Int32} {sl : Nat → Int32} {ce : Nat → Int32}        {t k i n : Nat} {lane : Int32} (h0 : ct 200 = some (.inr (11, [.int ft, .int tr, .int (nI N), .int b, .ref (ad 201), .long g, .int cm, .int da, .int (nI nt), .ref (ad 202), .ref (ad 203), .ref (ad 204), .ref (ad 205), .ref (ad 206), .ref (ad 207), .ref (ad 208), .ref (ad 209), .int (nI no), .ref (ad 210), .ref (ad 211), .ref (ad 212), .ref (ad 213), .ref (ad 214), .int bs, .int (nI nf), .ref (ad 215), .ref (ad 216)]))) (h207 : ct 207 = some (eI tc 4 la)) (h208 : ct 208 = some (eI tc 4 sl)) (h209 : ct 209 = some (eI tc 96 ce)) (ht : t < nt) (hnt : nt ≤ 6) (hk4 : k < 4) (hL : 0 ≤ lane.toInt64 ∧ lane.toInt64 ≤ 2) (ha1 : ¬ (la k = (-9))) (ha2 : la k = lane) (hiN : i + N ≤ n) (hn24 : n ≤ 24) (hsl : sl k = nI n) (hN : N ≤ 8) (hbad : ¬ (kall (kWi (fun c => ce (24 * k + i + c))) N = true ∧ ¬ sw (fun c => ce (24 * k + i + c)) N = 0)) : Met l yX11_beliefs wsX11_beliefs ({ frames := 2, cells := 0, slots := 0, locals := 59 }) (va_Pc [.ref (ad 200), .int (nI t), .int (nI k), .int lane, .int (nI i)] (kw_B D tc sz ad ct)) (kw_Q D ad (kw_A ad ct sz) (some (.int (-2))) (kw_up ct 200 (.inr (11, [.int 0, .int tr, .int (nI N), .int b, .ref (ad 201), .long g, .int cm, .int da, .int (nI nt), .ref (ad 202), .ref (ad 203), .ref (ad 204), .ref (ad 205), .ref (ad 206), .ref (ad 207), .ref (ad 208), .ref (ad 209), .int (nI no), .ref (ad 210), .ref (ad 211), .ref (ad 212), .ref (ad 213), .ref (ad 214), .int bs, .int (nI nf), .ref (ad 215), .ref (ad 216)]))) 0) 0 0 (kw_A ad ct sz) := by
  refine Met.ofW (cc := cX11_beliefs) (maxL := 7) (ret := (some .int)) (by decide) rfl ?_
  intro pg en s m args below meth cod s₁ B hml hv
  obtain ⟨rfl, hsz, hP0, hK⟩ := hv
  have hx := B.exec
  have hb := B.bytes
  have hr := B.returns
  have hts := atoms_spec (ws := wsX11_beliefs) B.pre
  have hown : s.vm.findClass RX11 = some m.cls := findClass_of_methodNamed B.named
  have hlocks := B.notSynchronized
  subst hsz
  have hw := kw_H.start hP0
  generalize hAe : kw_A ad ct s.heap.size = A at hw ⊢
  have hA : ∀ q, s.heap.size ≤ q → A q := fun q h => by rw [← hAe]; exact Or.inr h
  have hinX11 : ∀ w ∈ wsX110, w ∈ wsX11_beliefs := by decide +kernel
  have hl := lv_entry ([.ref (ad 200), .int (nI t), .int (nI k), .int lane, .int (nI i)]) (n := 7) (Nat.le_of_ble_eq_true rfl)
  rw [lg_entry_eq]
  generalize (lg_sl ([.ref (ad 200), .int (nI t), .int (nI k), .int lane, .int (nI i)]) ++ List.replicate (7 - (lg_sl ([.ref (ad 200), .int (nI t), .int (nI k), .int lane, .int (nI i)])).length) Slot.unset).toArray = ls at hl ⊢
  have hl : lv_has ls 7 [(0, .ref (ad 200)), (1, .int (nI t)), (2, .int (nI k)), (3, .int lane), (4, .int (nI i))] := hl
  have S0 : CallFix pg m cod cX11_beliefs 7 s _ wsX11_beliefs RX11 := ⟨hx, hb, hml, hown, hts⟩
  have hfr : ∀ j, j ≠ 200 → ct j = ct j := fun _ _ => rfl
  have kT : 0 ≤ nI t ∧ nI t < nI nt := ⟨nI_pos' (by omega), nI_lt ht (by omega)⟩
  have kK : 0 ≤ (nI k).toInt64 ∧ (nI k).toInt64 ≤ 3 := kwl k 3 (by omega) (by omega)
  refine lv_aload_n hx hb dX11_beliefs_0 rfl (lv_at hl 0 rfl) ?_
  refine lv_iconst (v := 0) hx hb dX11_beliefs_1 (by decide) ?_
  refine kg_put (v := .int 0) (ty := .int) (C := RX11) (T := TX11) (N := 27) (fs' := [.int 0, .int tr, .int (nI N), .int b, .ref (ad 201), .long g, .int cm, .int da, .int (nI nt), .ref (ad 202), .ref (ad 203), .ref (ad 204), .ref (ad 205), .ref (ad 206), .ref (ad 207), .ref (ad 208), .ref (ad 209), .int (nI no), .ref (ad 210), .ref (ad 211), .ref (ad 212), .ref (ad 213), .ref (ad 214), .int bs, .int (nI nf), .ref (ad 215), .ref (ad 216)]) hx hb hts hinX11 tyX11 tyX11_ok nmX11 hown hK hw h0 rfl 0 (by decide) (hts (.fieldLink RX11 69 "BetMakerModel" "fault" "I") (by decide +kernel)) (fun _ h9 => h9) rfl (by decide +kernel) rfl rfl (Nat.le_of_ble_eq_true rfl) rfl dX11_beliefs_2 (fun H locs hw => ?_)
  obtain ⟨ct_1, ect_1⟩ : ∃ z, z = kw_up ct 200 (.inr (11, [.int 0, .int tr, .int (nI N), .int b, .ref (ad 201), .long g, .int cm, .int da, .int (nI nt), .ref (ad 202), .ref (ad 203), .ref (ad 204), .ref (ad 205), .ref (ad 206), .ref (ad 207), .ref (ad 208), .ref (ad 209), .int (nI no), .ref (ad 210), .ref (ad 211), .ref (ad 212), .ref (ad 213), .ref (ad 214), .int bs, .int (nI nf), .ref (ad 215), .ref (ad 216)])) := ⟨_, rfl⟩
  rw [← ect_1] at hw
  have h_2 : ct_1 207 = some (eI tc 4 la) := by rw [ect_1, kw_up_n (by decide)]; exact h207
  have h_3 : ct_1 208 = some (eI tc 4 sl) := by rw [ect_1, kw_up_n (by decide)]; exact h208
  have h_4 : ct_1 209 = some (eI tc 96 ce) := by rw [ect_1, kw_up_n (by decide)]; exact h209
  have h_5 : ct_1 200 = some (.inr (11, [.int 0, .int tr, .int (nI N), .int b, .ref (ad 201), .long g, .int cm, .int da, .int (nI nt), .ref (ad 202), .ref (ad 203), .ref (ad 204), .ref (ad 205), .ref (ad 206), .ref (ad 207), .ref (ad 208), .ref (ad 209), .int (nI no), .ref (ad 210), .ref (ad 211), .ref (ad 212), .ref (ad 213), .ref (ad 214), .int bs, .int (nI nf), .ref (ad 215), .ref (ad 216)])) := by rw [ect_1]; exact kw_up_s
  have hfr_6 : ∀ j, j ≠ 200 → ct_1 j = ct j := fun j a0 => by rw [ect_1]; exact (kw_up_n a0).trans (hfr j a0)
  refine lv_aload_n hx hb dX11_beliefs_5 rfl (lv_at hl 0 rfl) ?_
  refine lv_iload_n hx hb dX11_beliefs_6 rfl (lv_at hl 1 rfl) ?_
  refine kc_v (As := [.int (nI t)]) (rest := []) S0 (c_X11_isTrader l D tc s.heap.size ad ct_1 (N := N) (nt := nt) (no := no) (nf := nf) h_5) (cwV 1 hts gX11_beliefs_X11_isTrader rfl rfl rfl (by decide +kernel) ⟨Nat.le_of_ble_eq_true rfl, Nat.le_of_ble_eq_true rfl⟩) hK hw h_5 rfl rfl hl.1 rfl (Nat.le_of_ble_eq_true rfl) dX11_beliefs_7 ⟨Nat.le_of_ble_eq_true rfl, (Nat.le_of_ble_eq_true rfl)⟩ ?_
  refine kb_ifeq (tgt := 25) hx hb dX11_beliefs_10 (by decide) (fun c_7 => ?_) (fun c_7 => ?_)
  · exact absurd kT c_7
  · refine lv_iload_n hx hb dX11_beliefs_13 rfl (lv_at hl 2 rfl) ?_
    refine lv_i2l (v := (nI k).toInt64) hx hb dX11_beliefs_14 rfl ?_
    refine lv_lconst (v := 0) hx hb dX11_beliefs_15 (by decide) ?_
    refine lv_ldc2 (v := 3) hx hb hown (hts (.constantLong RX11 165 (3)) (by decide +kernel)) dX11_beliefs_16 ?_
    refine kc_s (As := [.long ((nI k).toInt64), .long 0, .long 3]) (rest := []) S0 (c_X11_within l D tc s.heap.size ad ct_1 ) (va_cwS 3 hts gX11_beliefs_X11_within rfl rfl rfl (by decide +kernel) ⟨Nat.le_of_ble_eq_true rfl, Nat.le_of_ble_eq_true rfl⟩) hK hw rfl hl.1 rfl (Nat.le_of_ble_eq_true rfl) dX11_beliefs_19 ⟨Nat.le_of_ble_eq_true rfl, (Nat.le_of_ble_eq_true rfl)⟩ ?_
    refine kb_ifne (tgt := 27) hx hb dX11_beliefs_22 (by decide) (fun c_8 => ?_) (fun c_8 => ?_)
    · refine lv_aload_n hx hb dX11_beliefs_27 rfl (lv_at hl 0 rfl) ?_
      refine lv_iload_n hx hb dX11_beliefs_28 rfl (lv_at hl 2 rfl) ?_
      refine lv_iload_n hx hb dX11_beliefs_29 rfl (lv_at hl 3 rfl) ?_
      refine lv_iload hx hb dX11_beliefs_30 (lv_at hl 4 rfl) ?_
      refine kc_v (As := [.int (nI k), .int lane, .int (nI i)]) (rest := []) S0 (c_X11_against_v l D tc s.heap.size ad ct_1 (k := k) (i := i) (N := N) (nt := nt) (no := no) (nf := nf) h_5 h_2 h_3 h_4 hk4 hL ha1 ha2 hiN hn24 hsl hN hbad) (cwV 3 hts gX11_beliefs_X11_against rfl rfl rfl (by decide +kernel) ⟨Nat.le_of_ble_eq_true rfl, Nat.le_of_ble_eq_true rfl⟩) hK hw h_5 rfl rfl hl.1 rfl (Nat.le_of_ble_eq_true rfl) dX11_beliefs_32 ⟨Nat.le_of_ble_eq_true rfl, (Nat.le_of_ble_eq_true rfl)⟩ ?_
      refine lv_istore (lv' := [(5, .int (-2)), (0, .ref (ad 200)), (1, .int (nI t)), (2, .int (nI k)), (3, .int lane), (4, .int (nI i))]) hx hb dX11_beliefs_35 hl (by decide) rfl (fun ls hl => ?_)
      refine lv_iload hx hb dX11_beliefs_37 (lv_at hl 0 rfl) ?_
      refine lv_if_eq (tgt := 45) hx hb dX11_beliefs_39 (by decide) (fun c_9 => ?_) (fun c_9 => ?_)
      · exact absurd c_9 (by decide)
      · refine lv_iload hx hb dX11_beliefs_42 (lv_at hl 0 rfl) ?_
        have hq_10 := h_5
        have hend := kw_eq1 hq_10 hfr_6
        rw [hend] at hw
        exact W.iret hx hb hr (fun t ht _ => ⟨rfl, by rw [ht]; exact hw.1, hw.2.2.1, hw.2.1.F ht, by rw [ht]; exact hw.2.2.2⟩) hw.2.1.2.2 dX11_beliefs_44
    · exact absurd kK c_8
set_option maxHeartbeats 4000000 in
set_option maxRecDepth 100000 in
theorem c_X11_beliefs (l : Launch) (D : va_G) (tc : Nat → ClassId) (sz : Nat) (ad : Nat → Nat) (ct : Nat → Option va_E) {N nt no nf : Nat} {ft tr b cm da bs : Int32} {g : Int64}      {we : Nat → Int32} {la : Nat → Int32} {sl : Nat → Int32} {ce : Nat → Int32}        {t k i n : Nat} {lane : Int32} (h0 : ct 200 = some (.inr (11, [.int ft, .int tr, .int (nI N), .int b, .ref (ad 201), .long g, .int cm, .int da, .int (nI nt), .ref (ad 202), .ref (ad 203), .ref (ad 204), .ref (ad 205), .ref (ad 206), .ref (ad 207), .ref (ad 208), .ref (ad 209), .int (nI no), .ref (ad 210), .ref (ad 211), .ref (ad 212), .ref (ad 213), .ref (ad 214), .int bs, .int (nI nf), .ref (ad 215), .ref (ad 216)]))) (h206 : ct 206 = some (eI tc 48 we)) (h207 : ct 207 = some (eI tc 4 la)) (h208 : ct 208 = some (eI tc 4 sl)) (h209 : ct 209 = some (eI tc 96 ce)) (ht : t < nt) (hnt : nt ≤ 6) (hk4 : k < 4) (hL : 0 ≤ lane.toInt64 ∧ lane.toInt64 ≤ 2) (ha1 : ¬ (la k = (-9))) (ha2 : la k = lane) (hiN : i + N ≤ n) (hn24 : n ≤ 24) (hsl : sl k = nI n) (hN : N ≤ 8) (hok : kall (kWi (fun c => ce (24 * k + i + c))) N = true) (hnz : ¬ sw (fun c => ce (24 * k + i + c)) N = 0) : Met l yX11_beliefs wsX11_beliefs ({ frames := 2, cells := 0, slots := 0, locals := 59 }) (va_Pc [.ref (ad 200), .int (nI t), .int (nI k), .int lane, .int (nI i)] (kw_B D tc sz ad ct)) (kw_Q D ad (kw_A ad ct sz) (some (.int (sw (fun c => ce (24 * k + i + c)) N))) (kw_up (kw_up ct 200 (.inr (11, [.int 0, .int tr, .int (nI N), .int b, .ref (ad 201), .long g, .int cm, .int da, .int (nI nt), .ref (ad 202), .ref (ad 203), .ref (ad 204), .ref (ad 205), .ref (ad 206), .ref (ad 207), .ref (ad 208), .ref (ad 209), .int (nI no), .ref (ad 210), .ref (ad 211), .ref (ad 212), .ref (ad 213), .ref (ad 214), .int bs, .int (nI nf), .ref (ad 215), .ref (ad 216)]))) 206 (eI tc 48 (kBl we (8 * t) N (fun c => ce (24 * k + i + c))))) 0) 0 0 (kw_A ad ct sz) := by
  refine Met.ofW (cc := cX11_beliefs) (maxL := 7) (ret := (some .int)) (by decide) rfl ?_
  intro pg en s m args below meth cod s₁ B hml hv
  obtain ⟨rfl, hsz, hP0, hK⟩ := hv
  have hx := B.exec
  have hb := B.bytes
  have hr := B.returns
  have hts := atoms_spec (ws := wsX11_beliefs) B.pre
  have hown : s.vm.findClass RX11 = some m.cls := findClass_of_methodNamed B.named
  have hlocks := B.notSynchronized
  subst hsz
  have hw := kw_H.start hP0
  generalize hAe : kw_A ad ct s.heap.size = A at hw ⊢
  have hA : ∀ q, s.heap.size ≤ q → A q := fun q h => by rw [← hAe]; exact Or.inr h
  have hinX11 : ∀ w ∈ wsX110, w ∈ wsX11_beliefs := by decide +kernel
  have hl := lv_entry ([.ref (ad 200), .int (nI t), .int (nI k), .int lane, .int (nI i)]) (n := 7) (Nat.le_of_ble_eq_true rfl)
  rw [lg_entry_eq]
  generalize (lg_sl ([.ref (ad 200), .int (nI t), .int (nI k), .int lane, .int (nI i)]) ++ List.replicate (7 - (lg_sl ([.ref (ad 200), .int (nI t), .int (nI k), .int lane, .int (nI i)])).length) Slot.unset).toArray = ls at hl ⊢
  have hl : lv_has ls 7 [(0, .ref (ad 200)), (1, .int (nI t)), (2, .int (nI k)), (3, .int lane), (4, .int (nI i))] := hl
  have S0 : CallFix pg m cod cX11_beliefs 7 s _ wsX11_beliefs RX11 := ⟨hx, hb, hml, hown, hts⟩
  have hfr : ∀ j, j ≠ 200 → j ≠ 206 → ct j = ct j := fun _ _ _ => rfl
  have kT : 0 ≤ nI t ∧ nI t < nI nt := ⟨nI_pos' (by omega), nI_lt ht (by omega)⟩
  have kK : 0 ≤ (nI k).toInt64 ∧ (nI k).toInt64 ≤ 3 := kwl k 3 (by omega) (by omega)
  refine lv_aload_n hx hb dX11_beliefs_0 rfl (lv_at hl 0 rfl) ?_
  refine lv_iconst (v := 0) hx hb dX11_beliefs_1 (by decide) ?_
  refine kg_put (v := .int 0) (ty := .int) (C := RX11) (T := TX11) (N := 27) (fs' := [.int 0, .int tr, .int (nI N), .int b, .ref (ad 201), .long g, .int cm, .int da, .int (nI nt), .ref (ad 202), .ref (ad 203), .ref (ad 204), .ref (ad 205), .ref (ad 206), .ref (ad 207), .ref (ad 208), .ref (ad 209), .int (nI no), .ref (ad 210), .ref (ad 211), .ref (ad 212), .ref (ad 213), .ref (ad 214), .int bs, .int (nI nf), .ref (ad 215), .ref (ad 216)]) hx hb hts hinX11 tyX11 tyX11_ok nmX11 hown hK hw h0 rfl 0 (by decide) (hts (.fieldLink RX11 69 "BetMakerModel" "fault" "I") (by decide +kernel)) (fun _ h9 => h9) rfl (by decide +kernel) rfl rfl (Nat.le_of_ble_eq_true rfl) rfl dX11_beliefs_2 (fun H locs hw => ?_)
  obtain ⟨ct_1, ect_1⟩ : ∃ z, z = kw_up ct 200 (.inr (11, [.int 0, .int tr, .int (nI N), .int b, .ref (ad 201), .long g, .int cm, .int da, .int (nI nt), .ref (ad 202), .ref (ad 203), .ref (ad 204), .ref (ad 205), .ref (ad 206), .ref (ad 207), .ref (ad 208), .ref (ad 209), .int (nI no), .ref (ad 210), .ref (ad 211), .ref (ad 212), .ref (ad 213), .ref (ad 214), .int bs, .int (nI nf), .ref (ad 215), .ref (ad 216)])) := ⟨_, rfl⟩
  rw [← ect_1] at hw
  have h_2 : ct_1 206 = some (eI tc 48 we) := by rw [ect_1, kw_up_n (by decide)]; exact h206
  have h_3 : ct_1 207 = some (eI tc 4 la) := by rw [ect_1, kw_up_n (by decide)]; exact h207
  have h_4 : ct_1 208 = some (eI tc 4 sl) := by rw [ect_1, kw_up_n (by decide)]; exact h208
  have h_5 : ct_1 209 = some (eI tc 96 ce) := by rw [ect_1, kw_up_n (by decide)]; exact h209
  have h_6 : ct_1 200 = some (.inr (11, [.int 0, .int tr, .int (nI N), .int b, .ref (ad 201), .long g, .int cm, .int da, .int (nI nt), .ref (ad 202), .ref (ad 203), .ref (ad 204), .ref (ad 205), .ref (ad 206), .ref (ad 207), .ref (ad 208), .ref (ad 209), .int (nI no), .ref (ad 210), .ref (ad 211), .ref (ad 212), .ref (ad 213), .ref (ad 214), .int bs, .int (nI nf), .ref (ad 215), .ref (ad 216)])) := by rw [ect_1]; exact kw_up_s
  have hfr_7 : ∀ j, j ≠ 200 → j ≠ 206 → ct_1 j = ct j := fun j a0 a1 => by rw [ect_1]; exact (kw_up_n a0).trans (hfr j a0 a1)
  refine lv_aload_n hx hb dX11_beliefs_5 rfl (lv_at hl 0 rfl) ?_
  refine lv_iload_n hx hb dX11_beliefs_6 rfl (lv_at hl 1 rfl) ?_
  refine kc_v (As := [.int (nI t)]) (rest := []) S0 (c_X11_isTrader l D tc s.heap.size ad ct_1 (N := N) (nt := nt) (no := no) (nf := nf) h_6) (cwV 1 hts gX11_beliefs_X11_isTrader rfl rfl rfl (by decide +kernel) ⟨Nat.le_of_ble_eq_true rfl, Nat.le_of_ble_eq_true rfl⟩) hK hw h_6 rfl rfl hl.1 rfl (Nat.le_of_ble_eq_true rfl) dX11_beliefs_7 ⟨Nat.le_of_ble_eq_true rfl, (Nat.le_of_ble_eq_true rfl)⟩ ?_
  refine kb_ifeq (tgt := 25) hx hb dX11_beliefs_10 (by decide) (fun c_8 => ?_) (fun c_8 => ?_)
  · exact absurd kT c_8
  · refine lv_iload_n hx hb dX11_beliefs_13 rfl (lv_at hl 2 rfl) ?_
    refine lv_i2l (v := (nI k).toInt64) hx hb dX11_beliefs_14 rfl ?_
    refine lv_lconst (v := 0) hx hb dX11_beliefs_15 (by decide) ?_
    refine lv_ldc2 (v := 3) hx hb hown (hts (.constantLong RX11 165 (3)) (by decide +kernel)) dX11_beliefs_16 ?_
    refine kc_s (As := [.long ((nI k).toInt64), .long 0, .long 3]) (rest := []) S0 (c_X11_within l D tc s.heap.size ad ct_1 ) (va_cwS 3 hts gX11_beliefs_X11_within rfl rfl rfl (by decide +kernel) ⟨Nat.le_of_ble_eq_true rfl, Nat.le_of_ble_eq_true rfl⟩) hK hw rfl hl.1 rfl (Nat.le_of_ble_eq_true rfl) dX11_beliefs_19 ⟨Nat.le_of_ble_eq_true rfl, (Nat.le_of_ble_eq_true rfl)⟩ ?_
    refine kb_ifne (tgt := 27) hx hb dX11_beliefs_22 (by decide) (fun c_9 => ?_) (fun c_9 => ?_)
    · refine lv_aload_n hx hb dX11_beliefs_27 rfl (lv_at hl 0 rfl) ?_
      refine lv_iload_n hx hb dX11_beliefs_28 rfl (lv_at hl 2 rfl) ?_
      refine lv_iload_n hx hb dX11_beliefs_29 rfl (lv_at hl 3 rfl) ?_
      refine lv_iload hx hb dX11_beliefs_30 (lv_at hl 4 rfl) ?_
      refine kc_v (As := [.int (nI k), .int lane, .int (nI i)]) (rest := []) S0 (c_X11_against l D tc s.heap.size ad ct_1 (k := k) (i := i) (N := N) (nt := nt) (no := no) (nf := nf) h_6 h_3 h_4 h_5 hk4 hL ha1 ha2 hiN hn24 hsl hN hok hnz) (cwV 3 hts gX11_beliefs_X11_against rfl rfl rfl (by decide +kernel) ⟨Nat.le_of_ble_eq_true rfl, Nat.le_of_ble_eq_true rfl⟩) hK hw h_6 rfl rfl hl.1 rfl (Nat.le_of_ble_eq_true rfl) dX11_beliefs_32 ⟨Nat.le_of_ble_eq_true rfl, (Nat.le_of_ble_eq_true rfl)⟩ ?_
      refine lv_istore (lv' := [(5, .int 0), (0, .ref (ad 200)), (1, .int (nI t)), (2, .int (nI k)), (3, .int lane), (4, .int (nI i))]) hx hb dX11_beliefs_35 hl (by decide) rfl (fun ls hl => ?_)
      refine lv_iload hx hb dX11_beliefs_37 (lv_at hl 0 rfl) ?_
      refine lv_if_eq (tgt := 45) hx hb dX11_beliefs_39 (by decide) (fun c_10 => ?_) (fun c_10 => ?_)
      · refine lv_iconst (v := 0) hx hb dX11_beliefs_45 (by decide) ?_
        refine lv_istore (lv' := [(6, .int 0), (5, .int 0), (0, .ref (ad 200)), (1, .int (nI t)), (2, .int (nI k)), (3, .int lane), (4, .int (nI i))]) hx hb dX11_beliefs_46 hl (by decide) rfl (fun ls hl => ?_)
        suffices lp48 : ∀ (nfu : Nat) (j : Nat) (g1 : Nat → Int32) (ctL48 : Nat → Option va_E) (H : Heap) (locs : List Loc) (ls : Array Slot), N - j < nfu → j ≤ N → g1 = kBl we (8 * t) j (fun c => ce (24 * k + i + c)) → ctL48 206 = some (eI tc 48 g1) → ctL48 207 = some (eI tc 4 la) → ctL48 208 = some (eI tc 4 sl) → ctL48 209 = some (eI tc 96 ce) → ctL48 200 = some (.inr (11, [.int 0, .int tr, .int (nI N), .int b, .ref (ad 201), .long g, .int cm, .int da, .int (nI nt), .ref (ad 202), .ref (ad 203), .ref (ad 204), .ref (ad 205), .ref (ad 206), .ref (ad 207), .ref (ad 208), .ref (ad 209), .int (nI no), .ref (ad 210), .ref (ad 211), .ref (ad 212), .ref (ad 213), .ref (ad 214), .int bs, .int (nI nf), .ref (ad 215), .ref (ad 216)])) → (∀ j, j ≠ 200 → j ≠ 206 → ctL48 j = ct j) → kw_H D ad A s.heap ctL48 H locs s.heap.size → lv_has ls 7 [(0, .ref (ad 200)), (1, .int (nI t)), (2, .int (nI k)), (3, .int lane), (4, .int (nI i)), (6, .int (nI j))] → W pg l en (headSpec wsX11_beliefs ({ frames := 2, cells := 0, slots := 0, locals := 59 })).room s m (([.ref (ad 200), .int (nI t), .int (nI k), .int lane, .int (nI i)] : List Value).toArray) below meth cod H locs 0 0 (MQ below (kw_Q D ad A (some (.int (sw (fun c => ce (24 * k + i + c)) N))) (kw_up (kw_up ct 200 (.inr (11, [.int 0, .int tr, .int (nI N), .int b, .ref (ad 201), .long g, .int cm, .int da, .int (nI nt), .ref (ad 202), .ref (ad 203), .ref (ad 204), .ref (ad 205), .ref (ad 206), .ref (ad 207), .ref (ad 208), .ref (ad 209), .int (nI no), .ref (ad 210), .ref (ad 211), .ref (ad 212), .ref (ad 213), .ref (ad 214), .int bs, .int (nI nf), .ref (ad 215), .ref (ad 216)]))) 206 (eI tc 48 (kBl we (8 * t) N (fun c => ce (24 * k + i + c))))) 0) (([.ref (ad 200), .int (nI t), .int (nI k), .int lane, .int (nI i)] : List Value).toArray) s 0 0 A) (F0 m 48 ls []) by
          exact lp48 (N - 0 + 1) 0 we _ _ _ ls (by omega) (by omega) (by exact kBl_0 _ _ _) h_2 h_3 h_4 h_5 h_6 hfr_7 hw (by have hl9 := lv_sub hl (l' := [(0, .ref (ad 200)), (1, .int (nI t)), (2, .int (nI k)), (3, .int lane), (4, .int (nI i)), (6, .int 0)]) [2, 3, 4, 5, 6, 0] rfl; exact hl9)
        intro n48
        induction n48 with
        | zero => intro j g1 ctL48 H locs ls hfu; exact absurd hfu (Nat.not_lt_zero _)
        | succ n48 ih48 =>
          intro j g1 ctL48 H locs ls hfu48 hj hg h_11 h_12 h_13 h_14 h_15 hfr_16 hw hl
          refine lv_iload hx hb dX11_beliefs_48 (lv_at hl 5 rfl) ?_
          refine lv_aload_n hx hb dX11_beliefs_50 rfl (lv_at hl 0 rfl) ?_
          refine kg_get (v := .int (nI N)) (C := RX11) (T := TX11) (N := 27) hx hb hts hinX11 hown hK hw h_15 rfl 2 (by decide) (hts (.fieldLink RX11 7 "BetMakerModel" "cases" "I") (by decide +kernel)) (fun _ h9 => h9) rfl dX11_beliefs_51 ?_
          refine kn_ge j N rfl rfl (by omega) (by omega) (tgt := 90) hx hb dX11_beliefs_54 (by decide) (fun c_17 => ?_) (fun c_17 => ?_)
          · refine lv_aload_n hx hb dX11_beliefs_90 rfl (lv_at hl 0 rfl) ?_
            refine lv_iload_n hx hb dX11_beliefs_91 rfl (lv_at hl 1 rfl) ?_
            refine kc_v (As := [.int (nI t)]) (rest := []) S0 (c_X11_believed l D tc s.heap.size ad ctL48 (t := t) (N := N) (nt := nt) (no := no) (nf := nf) h_15 h_11 (by omega) hN) (cwV 1 hts gX11_beliefs_X11_believed rfl rfl rfl (by decide +kernel) ⟨Nat.le_of_ble_eq_true rfl, Nat.le_of_ble_eq_true rfl⟩) hK hw h_15 rfl rfl hl.1 rfl (Nat.le_of_ble_eq_true rfl) dX11_beliefs_92 ⟨Nat.le_of_ble_eq_true rfl, (Nat.le_of_ble_eq_true rfl)⟩ ?_
            refine W.eq (congrArg (fun z => F0 m 95 ls [.int z]) (show (sw (fun c => g1 (8 * t + c)) N) = (sw (fun c => ce (24 * k + i + c)) N) from by rw [hg, show j = N by omega]; exact sw_cong (fun c hc => kBl_in we (8 * t) N (fun c => ce (24 * k + i + c)) hc))) ?_
            have hq_18 := h_15
            have hq_19 : ctL48 206 = some (eI tc 48 (kBl we (8 * t) N (fun c => ce (24 * k + i + c)))) := h_11.trans (congrArg some (show (eI tc 48 g1 : va_E) = eI tc 48 (kBl we (8 * t) N (fun c => ce (24 * k + i + c))) from by rw [hg, show j = N by omega]))
            have hend := kw_eq2 hq_18 hq_19 hfr_16
            rw [hend] at hw
            exact W.iret hx hb hr (fun t ht _ => ⟨rfl, by rw [ht]; exact hw.1, hw.2.2.1, hw.2.1.F ht, by rw [ht]; exact hw.2.2.2⟩) hw.2.1.2.2 dX11_beliefs_95
          · refine lv_aload_n hx hb dX11_beliefs_57 rfl (lv_at hl 0 rfl) ?_
            refine kg_get (v := .ref (ad 206)) (C := RX11) (T := TX11) (N := 27) hx hb hts hinX11 hown hK hw h_15 rfl 13 (by decide) (hts (.fieldLink RX11 36 "BetMakerModel" "weight" "[I") (by decide +kernel)) (fun _ h9 => h9) rfl dX11_beliefs_58 ?_
            refine lv_bipush (v := 8) hx hb dX11_beliefs_61 (by decide) ?_
            refine lv_iload_n hx hb dX11_beliefs_63 rfl (lv_at hl 1 rfl) ?_
            refine lv_imul hx hb dX11_beliefs_64 ?_
            refine lv_iload hx hb dX11_beliefs_65 (lv_at hl 5 rfl) ?_
            refine lv_iadd hx hb dX11_beliefs_67 ?_
            refine lv_aload_n hx hb dX11_beliefs_68 rfl (lv_at hl 0 rfl) ?_
            refine kg_get (v := .ref (ad 209)) (C := RX11) (T := TX11) (N := 27) hx hb hts hinX11 hown hK hw h_15 rfl 16 (by decide) (hts (.fieldLink RX11 45 "BetMakerModel" "cells" "[I") (by decide +kernel)) (fun _ h9 => h9) rfl dX11_beliefs_69 ?_
            refine lv_bipush (v := 24) hx hb dX11_beliefs_72 (by decide) ?_
            refine lv_iload_n hx hb dX11_beliefs_74 rfl (lv_at hl 2 rfl) ?_
            refine lv_imul hx hb dX11_beliefs_75 ?_
            refine lv_iload hx hb dX11_beliefs_76 (lv_at hl 4 rfl) ?_
            refine lv_iadd hx hb dX11_beliefs_78 ?_
            refine lv_iload hx hb dX11_beliefs_79 (lv_at hl 5 rfl) ?_
            refine lv_iadd hx hb dX11_beliefs_81 ?_
            refine kg_iald hx hb hK hw h_14 (((24 * k) + i) + j) (by simp only [kn_lit, nI_add, pk_mul, nI_1]) (by omega) (by omega) dX11_beliefs_82 ?_
            refine kg_iast hx hb hK hw h_11 ((8 * t) + j) (by simp only [kn_lit, nI_add, pk_mul, nI_1]) (by omega) (by omega) dX11_beliefs_83 (fun H locs hw => ?_)
            obtain ⟨ct_20, ect_20⟩ : ∃ z, z = kw_up ctL48 206 (eI tc 48 (va_up g1 ((8 * t) + j) (ce (((24 * k) + i) + j)))) := ⟨_, rfl⟩
            rw [← ect_20] at hw
            have h_21 : ct_20 207 = some (eI tc 4 la) := by rw [ect_20, kw_up_n (by decide)]; exact h_12
            have h_22 : ct_20 208 = some (eI tc 4 sl) := by rw [ect_20, kw_up_n (by decide)]; exact h_13
            have h_23 : ct_20 209 = some (eI tc 96 ce) := by rw [ect_20, kw_up_n (by decide)]; exact h_14
            have h_24 : ct_20 200 = some (.inr (11, [.int 0, .int tr, .int (nI N), .int b, .ref (ad 201), .long g, .int cm, .int da, .int (nI nt), .ref (ad 202), .ref (ad 203), .ref (ad 204), .ref (ad 205), .ref (ad 206), .ref (ad 207), .ref (ad 208), .ref (ad 209), .int (nI no), .ref (ad 210), .ref (ad 211), .ref (ad 212), .ref (ad 213), .ref (ad 214), .int bs, .int (nI nf), .ref (ad 215), .ref (ad 216)])) := by rw [ect_20, kw_up_n (by decide)]; exact h_15
            have h_25 : ct_20 206 = some (eI tc 48 (va_up g1 ((8 * t) + j) (ce (((24 * k) + i) + j)))) := by rw [ect_20]; exact kw_up_s
            have hfr_26 : ∀ j, j ≠ 200 → j ≠ 206 → ct_20 j = ct j := fun j a0 a1 => by rw [ect_20]; exact (kw_up_n a1).trans (hfr_16 j a0 a1)
            refine lv_iinc (v := (nI (j + 1))) (lv' := [(6, .int (nI (j + 1))), (0, .ref (ad 200)), (1, .int (nI t)), (2, .int (nI k)), (3, .int lane), (4, .int (nI i))]) hx hb dX11_beliefs_84 hl (k := 5) rfl (nI_1 j) (by decide) rfl (fun ls hl => ?_)
            refine lv_goto (tgt := 48) hx hb dX11_beliefs_87 (by decide) ?_
            exact ih48 (j + 1) (va_up g1 ((8 * t) + j) (ce (((24 * k) + i) + j))) _ _ _ ls (by omega) (by omega) (by rw [hg]; exact kBl_s we (8 * t) j (fun c => ce (24 * k + i + c))) h_25 h_21 h_22 h_23 h_24 hfr_26 hw (lv_sub hl [1, 2, 3, 4, 5, 0] rfl)
      · exact absurd c_10 (by decide)
    · exact absurd kK c_9
set_option maxHeartbeats 4000000 in
set_option maxRecDepth 100000 in
theorem c_X11_offer_o (l : Launch) (D : va_G) (tc : Nat → ClassId) (sz : Nat) (ad : Nat → Nat) (ct : Nat → Option va_E) {N nt no nf : Nat} {ft tr b cm da bs : Int32} {g : Int64}                 {set at1 m1 : Int32} (h0 : ct 200 = some (.inr (11, [.int ft, .int tr, .int (nI N), .int b, .ref (ad 201), .long g, .int cm, .int da, .int (nI nt), .ref (ad 202), .ref (ad 203), .ref (ad 204), .ref (ad 205), .ref (ad 206), .ref (ad 207), .ref (ad 208), .ref (ad 209), .int (nI no), .ref (ad 210), .ref (ad 211), .ref (ad 212), .ref (ad 213), .ref (ad 214), .int bs, .int (nI nf), .ref (ad 215), .ref (ad 216)]))) (hbad : ¬ ((1 ≤ set.toInt64 ∧ set.toInt64 ≤ 1 <<< ((nI N).toInt64 &&& 63) - 2) ∧ (1 ≤ at1.toInt64 ∧ at1.toInt64 ≤ 99) ∧ 1 ≤ m1.toInt64 ∧ m1.toInt64 ≤ 3)) : Met l yX11_offer wsX11_offer ({ frames := 2, cells := 0, slots := 0, locals := 54 }) (va_Pc [.ref (ad 200), .int set, .int at1, .int m1] (kw_B D tc sz ad ct)) (k2_QcV (.int (-2))) 0 0 (fun _ => False) := by
  refine Met.ofW (cc := cX11_offer) (maxL := 4) (ret := (some .int)) (by decide) rfl ?_
  intro pg en s m args below meth cod s₁ B hml hv
  obtain ⟨rfl, hsz, hP0, hK⟩ := hv
  have hx := B.exec
  have hb := B.bytes
  have hr := B.returns
  have hts := atoms_spec (ws := wsX11_offer) B.pre
  have hown : s.vm.findClass RX11 = some m.cls := findClass_of_methodNamed B.named
  have hlocks := B.notSynchronized
  subst hsz
  have hw := kw_H.start hP0
  generalize kw_A ad ct s.heap.size = A at hw
  have hinX11 : ∀ w ∈ wsX110, w ∈ wsX11_offer := by decide +kernel
  have hl := lv_entry ([.ref (ad 200), .int set, .int at1, .int m1]) (n := 4) (Nat.le_of_ble_eq_true rfl)
  rw [lg_entry_eq]
  generalize (lg_sl ([.ref (ad 200), .int set, .int at1, .int m1]) ++ List.replicate (4 - (lg_sl ([.ref (ad 200), .int set, .int at1, .int m1])).length) Slot.unset).toArray = ls at hl ⊢
  have hl : lv_has ls 4 [(0, .ref (ad 200)), (1, .int set), (2, .int at1), (3, .int m1)] := hl
  have S0 : CallFix pg m cod cX11_offer 4 s _ wsX11_offer RX11 := ⟨hx, hb, hml, hown, hts⟩
  refine lv_aload_n hx hb dX11_offer_0 rfl (lv_at hl 0 rfl) ?_
  refine lv_iload_n hx hb dX11_offer_1 rfl (lv_at hl 1 rfl) ?_
  refine kc_v (As := [.int set]) (rest := []) S0 (c_X11_isSet l D tc s.heap.size ad ct (N := N) (nt := nt) (no := no) (nf := nf) h0) (cwV 1 hts gX11_offer_X11_isSet rfl rfl rfl (by decide +kernel) ⟨Nat.le_of_ble_eq_true rfl, Nat.le_of_ble_eq_true rfl⟩) hK hw h0 rfl rfl hl.1 rfl (Nat.le_of_ble_eq_true rfl) dX11_offer_2 ⟨Nat.le_of_ble_eq_true rfl, (Nat.le_of_ble_eq_true rfl)⟩ ?_
  refine kb_ifeq (tgt := 32) hx hb dX11_offer_5 (by decide) (fun c_1 => ?_) (fun c_1 => ?_)
  · refine lv_bipush (v := (-2)) hx hb dX11_offer_32 (by decide) ?_
    exact W.iret hx hb hr (fun t ht _ => ⟨rfl, ht⟩) (fun _ h => absurd h List.not_mem_nil) dX11_offer_34
  · refine lv_iload_n hx hb dX11_offer_8 rfl (lv_at hl 2 rfl) ?_
    refine lv_i2l (v := at1.toInt64) hx hb dX11_offer_9 rfl ?_
    refine lv_lconst (v := 1) hx hb dX11_offer_10 (by decide) ?_
    refine lv_ldc2 (v := 99) hx hb hown (hts (.constantLong RX11 173 (99)) (by decide +kernel)) dX11_offer_11 ?_
    refine kc_s (As := [.long at1.toInt64, .long 1, .long 99]) (rest := []) S0 (c_X11_within l D tc s.heap.size ad ct ) (va_cwS 3 hts gX11_offer_X11_within rfl rfl rfl (by decide +kernel) ⟨Nat.le_of_ble_eq_true rfl, Nat.le_of_ble_eq_true rfl⟩) hK hw rfl hl.1 rfl (Nat.le_of_ble_eq_true rfl) dX11_offer_14 ⟨Nat.le_of_ble_eq_true rfl, (Nat.le_of_ble_eq_true rfl)⟩ ?_
    refine kb_ifeq (tgt := 32) hx hb dX11_offer_17 (by decide) (fun c_2 => ?_) (fun c_2 => ?_)
    · refine lv_bipush (v := (-2)) hx hb dX11_offer_32 (by decide) ?_
      exact W.iret hx hb hr (fun t ht _ => ⟨rfl, ht⟩) (fun _ h => absurd h List.not_mem_nil) dX11_offer_34
    · refine lv_iload_n hx hb dX11_offer_20 rfl (lv_at hl 3 rfl) ?_
      refine lv_i2l (v := m1.toInt64) hx hb dX11_offer_21 rfl ?_
      refine lv_lconst (v := 1) hx hb dX11_offer_22 (by decide) ?_
      refine lv_ldc2 (v := 3) hx hb hown (hts (.constantLong RX11 165 (3)) (by decide +kernel)) dX11_offer_23 ?_
      refine kc_s (As := [.long m1.toInt64, .long 1, .long 3]) (rest := []) S0 (c_X11_within l D tc s.heap.size ad ct ) (va_cwS 3 hts gX11_offer_X11_within rfl rfl rfl (by decide +kernel) ⟨Nat.le_of_ble_eq_true rfl, Nat.le_of_ble_eq_true rfl⟩) hK hw rfl hl.1 rfl (Nat.le_of_ble_eq_true rfl) dX11_offer_26 ⟨Nat.le_of_ble_eq_true rfl, (Nat.le_of_ble_eq_true rfl)⟩ ?_
      refine kb_ifne (tgt := 35) hx hb dX11_offer_29 (by decide) (fun c_3 => ?_) (fun c_3 => ?_)
      · exact absurd ⟨c_1, c_2, c_3⟩ hbad
      · refine lv_bipush (v := (-2)) hx hb dX11_offer_32 (by decide) ?_
        exact W.iret hx hb hr (fun t ht _ => ⟨rfl, ht⟩) (fun _ h => absurd h List.not_mem_nil) dX11_offer_34
set_option maxHeartbeats 4000000 in
set_option maxRecDepth 100000 in
theorem c_X11_offer_f (l : Launch) (D : va_G) (tc : Nat → ClassId) (sz : Nat) (ad : Nat → Nat) (ct : Nat → Option va_E) {N nt no nf : Nat} {ft tr b cm da bs : Int32} {g : Int64}                 {set at1 m1 : Int32} (h0 : ct 200 = some (.inr (11, [.int ft, .int tr, .int (nI N), .int b, .ref (ad 201), .long g, .int cm, .int da, .int (nI nt), .ref (ad 202), .ref (ad 203), .ref (ad 204), .ref (ad 205), .ref (ad 206), .ref (ad 207), .ref (ad 208), .ref (ad 209), .int (nI no), .ref (ad 210), .ref (ad 211), .ref (ad 212), .ref (ad 213), .ref (ad 214), .int bs, .int (nI nf), .ref (ad 215), .ref (ad 216)]))) (hs : 1 ≤ set.toInt64 ∧ set.toInt64 ≤ 1 <<< ((nI N).toInt64 &&& 63) - 2) (hp : 1 ≤ at1.toInt64 ∧ at1.toInt64 ≤ 99) (hq : 1 ≤ m1.toInt64 ∧ m1.toInt64 ≤ 3) (hfull : no = 6) : Met l yX11_offer wsX11_offer ({ frames := 2, cells := 0, slots := 0, locals := 54 }) (va_Pc [.ref (ad 200), .int set, .int at1, .int m1] (kw_B D tc sz ad ct)) (k2_QcV (.int (-4))) 0 0 (fun _ => False) := by
  refine Met.ofW (cc := cX11_offer) (maxL := 4) (ret := (some .int)) (by decide) rfl ?_
  intro pg en s m args below meth cod s₁ B hml hv
  obtain ⟨rfl, hsz, hP0, hK⟩ := hv
  have hx := B.exec
  have hb := B.bytes
  have hr := B.returns
  have hts := atoms_spec (ws := wsX11_offer) B.pre
  have hown : s.vm.findClass RX11 = some m.cls := findClass_of_methodNamed B.named
  have hlocks := B.notSynchronized
  subst hsz
  have hw := kw_H.start hP0
  generalize kw_A ad ct s.heap.size = A at hw
  have hinX11 : ∀ w ∈ wsX110, w ∈ wsX11_offer := by decide +kernel
  have hl := lv_entry ([.ref (ad 200), .int set, .int at1, .int m1]) (n := 4) (Nat.le_of_ble_eq_true rfl)
  rw [lg_entry_eq]
  generalize (lg_sl ([.ref (ad 200), .int set, .int at1, .int m1]) ++ List.replicate (4 - (lg_sl ([.ref (ad 200), .int set, .int at1, .int m1])).length) Slot.unset).toArray = ls at hl ⊢
  have hl : lv_has ls 4 [(0, .ref (ad 200)), (1, .int set), (2, .int at1), (3, .int m1)] := hl
  have S0 : CallFix pg m cod cX11_offer 4 s _ wsX11_offer RX11 := ⟨hx, hb, hml, hown, hts⟩
  refine lv_aload_n hx hb dX11_offer_0 rfl (lv_at hl 0 rfl) ?_
  refine lv_iload_n hx hb dX11_offer_1 rfl (lv_at hl 1 rfl) ?_
  refine kc_v (As := [.int set]) (rest := []) S0 (c_X11_isSet l D tc s.heap.size ad ct (N := N) (nt := nt) (no := no) (nf := nf) h0) (cwV 1 hts gX11_offer_X11_isSet rfl rfl rfl (by decide +kernel) ⟨Nat.le_of_ble_eq_true rfl, Nat.le_of_ble_eq_true rfl⟩) hK hw h0 rfl rfl hl.1 rfl (Nat.le_of_ble_eq_true rfl) dX11_offer_2 ⟨Nat.le_of_ble_eq_true rfl, (Nat.le_of_ble_eq_true rfl)⟩ ?_
  refine kb_ifeq (tgt := 32) hx hb dX11_offer_5 (by decide) (fun c_1 => ?_) (fun c_1 => ?_)
  · exact absurd hs c_1
  · refine lv_iload_n hx hb dX11_offer_8 rfl (lv_at hl 2 rfl) ?_
    refine lv_i2l (v := at1.toInt64) hx hb dX11_offer_9 rfl ?_
    refine lv_lconst (v := 1) hx hb dX11_offer_10 (by decide) ?_
    refine lv_ldc2 (v := 99) hx hb hown (hts (.constantLong RX11 173 (99)) (by decide +kernel)) dX11_offer_11 ?_
    refine kc_s (As := [.long at1.toInt64, .long 1, .long 99]) (rest := []) S0 (c_X11_within l D tc s.heap.size ad ct ) (va_cwS 3 hts gX11_offer_X11_within rfl rfl rfl (by decide +kernel) ⟨Nat.le_of_ble_eq_true rfl, Nat.le_of_ble_eq_true rfl⟩) hK hw rfl hl.1 rfl (Nat.le_of_ble_eq_true rfl) dX11_offer_14 ⟨Nat.le_of_ble_eq_true rfl, (Nat.le_of_ble_eq_true rfl)⟩ ?_
    refine kb_ifeq (tgt := 32) hx hb dX11_offer_17 (by decide) (fun c_2 => ?_) (fun c_2 => ?_)
    · exact absurd hp c_2
    · refine lv_iload_n hx hb dX11_offer_20 rfl (lv_at hl 3 rfl) ?_
      refine lv_i2l (v := m1.toInt64) hx hb dX11_offer_21 rfl ?_
      refine lv_lconst (v := 1) hx hb dX11_offer_22 (by decide) ?_
      refine lv_ldc2 (v := 3) hx hb hown (hts (.constantLong RX11 165 (3)) (by decide +kernel)) dX11_offer_23 ?_
      refine kc_s (As := [.long m1.toInt64, .long 1, .long 3]) (rest := []) S0 (c_X11_within l D tc s.heap.size ad ct ) (va_cwS 3 hts gX11_offer_X11_within rfl rfl rfl (by decide +kernel) ⟨Nat.le_of_ble_eq_true rfl, Nat.le_of_ble_eq_true rfl⟩) hK hw rfl hl.1 rfl (Nat.le_of_ble_eq_true rfl) dX11_offer_26 ⟨Nat.le_of_ble_eq_true rfl, (Nat.le_of_ble_eq_true rfl)⟩ ?_
      refine kb_ifne (tgt := 35) hx hb dX11_offer_29 (by decide) (fun c_3 => ?_) (fun c_3 => ?_)
      · refine lv_aload_n hx hb dX11_offer_35 rfl (lv_at hl 0 rfl) ?_
        refine kg_get (v := .int (nI no)) (C := RX11) (T := TX11) (N := 27) hx hb hts hinX11 hown hK hw h0 rfl 17 (by decide) (hts (.fieldLink RX11 96 "BetMakerModel" "offers" "I") (by decide +kernel)) (fun _ h9 => h9) rfl dX11_offer_36 ?_
        refine lv_bipush (v := 6) hx hb dX11_offer_39 (by decide) ?_
        refine kn_ne no 6 rfl rfl (by omega) (by omega) (tgt := 47) hx hb dX11_offer_41 (by decide) (fun c_4 => ?_) (fun c_4 => ?_)
        · exfalso; omega
        · refine lv_bipush (v := (-4)) hx hb dX11_offer_44 (by decide) ?_
          exact W.iret hx hb hr (fun t ht _ => ⟨rfl, ht⟩) (fun _ h => absurd h List.not_mem_nil) dX11_offer_46
      · exact absurd hq c_3
set_option maxHeartbeats 4000000 in
set_option maxRecDepth 100000 in
theorem c_X11_offer (l : Launch) (D : va_G) (tc : Nat → ClassId) (sz : Nat) (ad : Nat → Nat) (ct : Nat → Option va_E) {N nt no nf : Nat} {ft tr b cm da bs : Int32} {g : Int64}          {os : Nat → Int32} {oc : Nat → Int32} {om : Nat → Int32}     {set at1 m1 : Int32} (h0 : ct 200 = some (.inr (11, [.int ft, .int tr, .int (nI N), .int b, .ref (ad 201), .long g, .int cm, .int da, .int (nI nt), .ref (ad 202), .ref (ad 203), .ref (ad 204), .ref (ad 205), .ref (ad 206), .ref (ad 207), .ref (ad 208), .ref (ad 209), .int (nI no), .ref (ad 210), .ref (ad 211), .ref (ad 212), .ref (ad 213), .ref (ad 214), .int bs, .int (nI nf), .ref (ad 215), .ref (ad 216)]))) (h210 : ct 210 = some (eI tc 6 os)) (h211 : ct 211 = some (eI tc 6 oc)) (h212 : ct 212 = some (eI tc 6 om)) (hs : 1 ≤ set.toInt64 ∧ set.toInt64 ≤ 1 <<< ((nI N).toInt64 &&& 63) - 2) (hp : 1 ≤ at1.toInt64 ∧ at1.toInt64 ≤ 99) (hq : 1 ≤ m1.toInt64 ∧ m1.toInt64 ≤ 3) (hno : no < 6) : Met l yX11_offer wsX11_offer ({ frames := 2, cells := 0, slots := 0, locals := 54 }) (va_Pc [.ref (ad 200), .int set, .int at1, .int m1] (kw_B D tc sz ad ct)) (kw_Q D ad (kw_A ad ct sz) (some (.int (nI no))) (kw_up (kw_up (kw_up (kw_up ct 200 (.inr (11, [.int ft, .int tr, .int (nI N), .int b, .ref (ad 201), .long g, .int cm, .int da, .int (nI nt), .ref (ad 202), .ref (ad 203), .ref (ad 204), .ref (ad 205), .ref (ad 206), .ref (ad 207), .ref (ad 208), .ref (ad 209), .int (nI (no + 1)), .ref (ad 210), .ref (ad 211), .ref (ad 212), .ref (ad 213), .ref (ad 214), .int bs, .int (nI nf), .ref (ad 215), .ref (ad 216)]))) 210 (eI tc 6 (va_up os no set))) 211 (eI tc 6 (va_up oc no at1))) 212 (eI tc 6 (va_up om no m1))) 0) 0 0 (kw_A ad ct sz) := by
  refine Met.ofW (cc := cX11_offer) (maxL := 4) (ret := (some .int)) (by decide) rfl ?_
  intro pg en s m args below meth cod s₁ B hml hv
  obtain ⟨rfl, hsz, hP0, hK⟩ := hv
  have hx := B.exec
  have hb := B.bytes
  have hr := B.returns
  have hts := atoms_spec (ws := wsX11_offer) B.pre
  have hown : s.vm.findClass RX11 = some m.cls := findClass_of_methodNamed B.named
  have hlocks := B.notSynchronized
  subst hsz
  have hw := kw_H.start hP0
  generalize hAe : kw_A ad ct s.heap.size = A at hw ⊢
  have hA : ∀ q, s.heap.size ≤ q → A q := fun q h => by rw [← hAe]; exact Or.inr h
  have hinX11 : ∀ w ∈ wsX110, w ∈ wsX11_offer := by decide +kernel
  have hl := lv_entry ([.ref (ad 200), .int set, .int at1, .int m1]) (n := 4) (Nat.le_of_ble_eq_true rfl)
  rw [lg_entry_eq]
  generalize (lg_sl ([.ref (ad 200), .int set, .int at1, .int m1]) ++ List.replicate (4 - (lg_sl ([.ref (ad 200), .int set, .int at1, .int m1])).length) Slot.unset).toArray = ls at hl ⊢
  have hl : lv_has ls 4 [(0, .ref (ad 200)), (1, .int set), (2, .int at1), (3, .int m1)] := hl
  have S0 : CallFix pg m cod cX11_offer 4 s _ wsX11_offer RX11 := ⟨hx, hb, hml, hown, hts⟩
  have hfr : ∀ j, j ≠ 200 → j ≠ 210 → j ≠ 211 → j ≠ 212 → ct j = ct j := fun _ _ _ _ _ => rfl
  refine lv_aload_n hx hb dX11_offer_0 rfl (lv_at hl 0 rfl) ?_
  refine lv_iload_n hx hb dX11_offer_1 rfl (lv_at hl 1 rfl) ?_
  refine kc_v (As := [.int set]) (rest := []) S0 (c_X11_isSet l D tc s.heap.size ad ct (N := N) (nt := nt) (no := no) (nf := nf) h0) (cwV 1 hts gX11_offer_X11_isSet rfl rfl rfl (by decide +kernel) ⟨Nat.le_of_ble_eq_true rfl, Nat.le_of_ble_eq_true rfl⟩) hK hw h0 rfl rfl hl.1 rfl (Nat.le_of_ble_eq_true rfl) dX11_offer_2 ⟨Nat.le_of_ble_eq_true rfl, (Nat.le_of_ble_eq_true rfl)⟩ ?_
  refine kb_ifeq (tgt := 32) hx hb dX11_offer_5 (by decide) (fun c_1 => ?_) (fun c_1 => ?_)
  · exact absurd hs c_1
  · refine lv_iload_n hx hb dX11_offer_8 rfl (lv_at hl 2 rfl) ?_
    refine lv_i2l (v := at1.toInt64) hx hb dX11_offer_9 rfl ?_
    refine lv_lconst (v := 1) hx hb dX11_offer_10 (by decide) ?_
    refine lv_ldc2 (v := 99) hx hb hown (hts (.constantLong RX11 173 (99)) (by decide +kernel)) dX11_offer_11 ?_
    refine kc_s (As := [.long at1.toInt64, .long 1, .long 99]) (rest := []) S0 (c_X11_within l D tc s.heap.size ad ct ) (va_cwS 3 hts gX11_offer_X11_within rfl rfl rfl (by decide +kernel) ⟨Nat.le_of_ble_eq_true rfl, Nat.le_of_ble_eq_true rfl⟩) hK hw rfl hl.1 rfl (Nat.le_of_ble_eq_true rfl) dX11_offer_14 ⟨Nat.le_of_ble_eq_true rfl, (Nat.le_of_ble_eq_true rfl)⟩ ?_
    refine kb_ifeq (tgt := 32) hx hb dX11_offer_17 (by decide) (fun c_2 => ?_) (fun c_2 => ?_)
    · exact absurd hp c_2
    · refine lv_iload_n hx hb dX11_offer_20 rfl (lv_at hl 3 rfl) ?_
      refine lv_i2l (v := m1.toInt64) hx hb dX11_offer_21 rfl ?_
      refine lv_lconst (v := 1) hx hb dX11_offer_22 (by decide) ?_
      refine lv_ldc2 (v := 3) hx hb hown (hts (.constantLong RX11 165 (3)) (by decide +kernel)) dX11_offer_23 ?_
      refine kc_s (As := [.long m1.toInt64, .long 1, .long 3]) (rest := []) S0 (c_X11_within l D tc s.heap.size ad ct ) (va_cwS 3 hts gX11_offer_X11_within rfl rfl rfl (by decide +kernel) ⟨Nat.le_of_ble_eq_true rfl, Nat.le_of_ble_eq_true rfl⟩) hK hw rfl hl.1 rfl (Nat.le_of_ble_eq_true rfl) dX11_offer_26 ⟨Nat.le_of_ble_eq_true rfl, (Nat.le_of_ble_eq_true rfl)⟩ ?_
      refine kb_ifne (tgt := 35) hx hb dX11_offer_29 (by decide) (fun c_3 => ?_) (fun c_3 => ?_)
      · refine lv_aload_n hx hb dX11_offer_35 rfl (lv_at hl 0 rfl) ?_
        refine kg_get (v := .int (nI no)) (C := RX11) (T := TX11) (N := 27) hx hb hts hinX11 hown hK hw h0 rfl 17 (by decide) (hts (.fieldLink RX11 96 "BetMakerModel" "offers" "I") (by decide +kernel)) (fun _ h9 => h9) rfl dX11_offer_36 ?_
        refine lv_bipush (v := 6) hx hb dX11_offer_39 (by decide) ?_
        refine kn_ne no 6 rfl rfl (by omega) (by omega) (tgt := 47) hx hb dX11_offer_41 (by decide) (fun c_4 => ?_) (fun c_4 => ?_)
        · refine lv_aload_n hx hb dX11_offer_47 rfl (lv_at hl 0 rfl) ?_
          refine kg_get (v := .ref (ad 210)) (C := RX11) (T := TX11) (N := 27) hx hb hts hinX11 hown hK hw h0 rfl 18 (by decide) (hts (.fieldLink RX11 48 "BetMakerModel" "offerSet" "[I") (by decide +kernel)) (fun _ h9 => h9) rfl dX11_offer_48 ?_
          refine lv_aload_n hx hb dX11_offer_51 rfl (lv_at hl 0 rfl) ?_
          refine kg_get (v := .int (nI no)) (C := RX11) (T := TX11) (N := 27) hx hb hts hinX11 hown hK hw h0 rfl 17 (by decide) (hts (.fieldLink RX11 96 "BetMakerModel" "offers" "I") (by decide +kernel)) (fun _ h9 => h9) rfl dX11_offer_52 ?_
          refine lv_iload_n hx hb dX11_offer_55 rfl (lv_at hl 1 rfl) ?_
          refine kg_iast hx hb hK hw h210 no rfl (by omega) (by omega) dX11_offer_56 (fun H locs hw => ?_)
          obtain ⟨ct_5, ect_5⟩ : ∃ z, z = kw_up ct 210 (eI tc 6 (va_up os no set)) := ⟨_, rfl⟩
          rw [← ect_5] at hw
          have h_6 : ct_5 200 = some (.inr (11, [.int ft, .int tr, .int (nI N), .int b, .ref (ad 201), .long g, .int cm, .int da, .int (nI nt), .ref (ad 202), .ref (ad 203), .ref (ad 204), .ref (ad 205), .ref (ad 206), .ref (ad 207), .ref (ad 208), .ref (ad 209), .int (nI no), .ref (ad 210), .ref (ad 211), .ref (ad 212), .ref (ad 213), .ref (ad 214), .int bs, .int (nI nf), .ref (ad 215), .ref (ad 216)])) := by rw [ect_5, kw_up_n (by decide)]; exact h0
          have h_7 : ct_5 211 = some (eI tc 6 oc) := by rw [ect_5, kw_up_n (by decide)]; exact h211
          have h_8 : ct_5 212 = some (eI tc 6 om) := by rw [ect_5, kw_up_n (by decide)]; exact h212
          have h_9 : ct_5 210 = some (eI tc 6 (va_up os no set)) := by rw [ect_5]; exact kw_up_s
          have hfr_10 : ∀ j, j ≠ 200 → j ≠ 210 → j ≠ 211 → j ≠ 212 → ct_5 j = ct j := fun j a0 a1 a2 a3 => by rw [ect_5]; exact (kw_up_n a1).trans (hfr j a0 a1 a2 a3)
          refine lv_aload_n hx hb dX11_offer_57 rfl (lv_at hl 0 rfl) ?_
          refine kg_get (v := .ref (ad 211)) (C := RX11) (T := TX11) (N := 27) hx hb hts hinX11 hown hK hw h_6 rfl 19 (by decide) (hts (.fieldLink RX11 51 "BetMakerModel" "offerAt" "[I") (by decide +kernel)) (fun _ h9 => h9) rfl dX11_offer_58 ?_
          refine lv_aload_n hx hb dX11_offer_61 rfl (lv_at hl 0 rfl) ?_
          refine kg_get (v := .int (nI no)) (C := RX11) (T := TX11) (N := 27) hx hb hts hinX11 hown hK hw h_6 rfl 17 (by decide) (hts (.fieldLink RX11 96 "BetMakerModel" "offers" "I") (by decide +kernel)) (fun _ h9 => h9) rfl dX11_offer_62 ?_
          refine lv_iload_n hx hb dX11_offer_65 rfl (lv_at hl 2 rfl) ?_
          refine kg_iast hx hb hK hw h_7 no rfl (by omega) (by omega) dX11_offer_66 (fun H locs hw => ?_)
          obtain ⟨ct_11, ect_11⟩ : ∃ z, z = kw_up ct_5 211 (eI tc 6 (va_up oc no at1)) := ⟨_, rfl⟩
          rw [← ect_11] at hw
          have h_12 : ct_11 200 = some (.inr (11, [.int ft, .int tr, .int (nI N), .int b, .ref (ad 201), .long g, .int cm, .int da, .int (nI nt), .ref (ad 202), .ref (ad 203), .ref (ad 204), .ref (ad 205), .ref (ad 206), .ref (ad 207), .ref (ad 208), .ref (ad 209), .int (nI no), .ref (ad 210), .ref (ad 211), .ref (ad 212), .ref (ad 213), .ref (ad 214), .int bs, .int (nI nf), .ref (ad 215), .ref (ad 216)])) := by rw [ect_11, kw_up_n (by decide)]; exact h_6
          have h_13 : ct_11 212 = some (eI tc 6 om) := by rw [ect_11, kw_up_n (by decide)]; exact h_8
          have h_14 : ct_11 210 = some (eI tc 6 (va_up os no set)) := by rw [ect_11, kw_up_n (by decide)]; exact h_9
          have h_15 : ct_11 211 = some (eI tc 6 (va_up oc no at1)) := by rw [ect_11]; exact kw_up_s
          have hfr_16 : ∀ j, j ≠ 200 → j ≠ 210 → j ≠ 211 → j ≠ 212 → ct_11 j = ct j := fun j a0 a1 a2 a3 => by rw [ect_11]; exact (kw_up_n a2).trans (hfr_10 j a0 a1 a2 a3)
          refine lv_aload_n hx hb dX11_offer_67 rfl (lv_at hl 0 rfl) ?_
          refine kg_get (v := .ref (ad 212)) (C := RX11) (T := TX11) (N := 27) hx hb hts hinX11 hown hK hw h_12 rfl 20 (by decide) (hts (.fieldLink RX11 54 "BetMakerModel" "offerMost" "[I") (by decide +kernel)) (fun _ h9 => h9) rfl dX11_offer_68 ?_
          refine lv_aload_n hx hb dX11_offer_71 rfl (lv_at hl 0 rfl) ?_
          refine kg_get (v := .int (nI no)) (C := RX11) (T := TX11) (N := 27) hx hb hts hinX11 hown hK hw h_12 rfl 17 (by decide) (hts (.fieldLink RX11 96 "BetMakerModel" "offers" "I") (by decide +kernel)) (fun _ h9 => h9) rfl dX11_offer_72 ?_
          refine lv_iload_n hx hb dX11_offer_75 rfl (lv_at hl 3 rfl) ?_
          refine kg_iast hx hb hK hw h_13 no rfl (by omega) (by omega) dX11_offer_76 (fun H locs hw => ?_)
          obtain ⟨ct_17, ect_17⟩ : ∃ z, z = kw_up ct_11 212 (eI tc 6 (va_up om no m1)) := ⟨_, rfl⟩
          rw [← ect_17] at hw
          have h_18 : ct_17 200 = some (.inr (11, [.int ft, .int tr, .int (nI N), .int b, .ref (ad 201), .long g, .int cm, .int da, .int (nI nt), .ref (ad 202), .ref (ad 203), .ref (ad 204), .ref (ad 205), .ref (ad 206), .ref (ad 207), .ref (ad 208), .ref (ad 209), .int (nI no), .ref (ad 210), .ref (ad 211), .ref (ad 212), .ref (ad 213), .ref (ad 214), .int bs, .int (nI nf), .ref (ad 215), .ref (ad 216)])) := by rw [ect_17, kw_up_n (by decide)]; exact h_12
          have h_19 : ct_17 210 = some (eI tc 6 (va_up os no set)) := by rw [ect_17, kw_up_n (by decide)]; exact h_14
          have h_20 : ct_17 211 = some (eI tc 6 (va_up oc no at1)) := by rw [ect_17, kw_up_n (by decide)]; exact h_15
          have h_21 : ct_17 212 = some (eI tc 6 (va_up om no m1)) := by rw [ect_17]; exact kw_up_s
          have hfr_22 : ∀ j, j ≠ 200 → j ≠ 210 → j ≠ 211 → j ≠ 212 → ct_17 j = ct j := fun j a0 a1 a2 a3 => by rw [ect_17]; exact (kw_up_n a3).trans (hfr_16 j a0 a1 a2 a3)
          refine lv_aload_n hx hb dX11_offer_77 rfl (lv_at hl 0 rfl) ?_
          refine lv_dup hx hb dX11_offer_78 rfl ?_
          refine kg_get (v := .int (nI no)) (C := RX11) (T := TX11) (N := 27) hx hb hts hinX11 hown hK hw h_18 rfl 17 (by decide) (hts (.fieldLink RX11 96 "BetMakerModel" "offers" "I") (by decide +kernel)) (fun _ h9 => h9) rfl dX11_offer_79 ?_
          refine lv_iconst (v := 1) hx hb dX11_offer_82 (by decide) ?_
          refine lv_iadd hx hb dX11_offer_83 ?_
          refine kg_put (v := .int ((nI no) + 1)) (ty := .int) (C := RX11) (T := TX11) (N := 27) (fs' := [.int ft, .int tr, .int (nI N), .int b, .ref (ad 201), .long g, .int cm, .int da, .int (nI nt), .ref (ad 202), .ref (ad 203), .ref (ad 204), .ref (ad 205), .ref (ad 206), .ref (ad 207), .ref (ad 208), .ref (ad 209), .int ((nI no) + 1), .ref (ad 210), .ref (ad 211), .ref (ad 212), .ref (ad 213), .ref (ad 214), .int bs, .int (nI nf), .ref (ad 215), .ref (ad 216)]) hx hb hts hinX11 tyX11 tyX11_ok nmX11 hown hK hw h_18 rfl 17 (by decide) (hts (.fieldLink RX11 96 "BetMakerModel" "offers" "I") (by decide +kernel)) (fun _ h9 => h9) rfl (by decide +kernel) rfl rfl (Nat.le_of_ble_eq_true rfl) rfl dX11_offer_84 (fun H locs hw => ?_)
          obtain ⟨ct_23, ect_23⟩ : ∃ z, z = kw_up ct_17 200 (.inr (11, [.int ft, .int tr, .int (nI N), .int b, .ref (ad 201), .long g, .int cm, .int da, .int (nI nt), .ref (ad 202), .ref (ad 203), .ref (ad 204), .ref (ad 205), .ref (ad 206), .ref (ad 207), .ref (ad 208), .ref (ad 209), .int ((nI no) + 1), .ref (ad 210), .ref (ad 211), .ref (ad 212), .ref (ad 213), .ref (ad 214), .int bs, .int (nI nf), .ref (ad 215), .ref (ad 216)])) := ⟨_, rfl⟩
          rw [← ect_23] at hw
          have h_24 : ct_23 210 = some (eI tc 6 (va_up os no set)) := by rw [ect_23, kw_up_n (by decide)]; exact h_19
          have h_25 : ct_23 211 = some (eI tc 6 (va_up oc no at1)) := by rw [ect_23, kw_up_n (by decide)]; exact h_20
          have h_26 : ct_23 212 = some (eI tc 6 (va_up om no m1)) := by rw [ect_23, kw_up_n (by decide)]; exact h_21
          have h_27 : ct_23 200 = some (.inr (11, [.int ft, .int tr, .int (nI N), .int b, .ref (ad 201), .long g, .int cm, .int da, .int (nI nt), .ref (ad 202), .ref (ad 203), .ref (ad 204), .ref (ad 205), .ref (ad 206), .ref (ad 207), .ref (ad 208), .ref (ad 209), .int ((nI no) + 1), .ref (ad 210), .ref (ad 211), .ref (ad 212), .ref (ad 213), .ref (ad 214), .int bs, .int (nI nf), .ref (ad 215), .ref (ad 216)])) := by rw [ect_23]; exact kw_up_s
          have hfr_28 : ∀ j, j ≠ 200 → j ≠ 210 → j ≠ 211 → j ≠ 212 → ct_23 j = ct j := fun j a0 a1 a2 a3 => by rw [ect_23]; exact (kw_up_n a0).trans (hfr_22 j a0 a1 a2 a3)
          refine lv_aload_n hx hb dX11_offer_87 rfl (lv_at hl 0 rfl) ?_
          refine kg_get (v := .int ((nI no) + 1)) (C := RX11) (T := TX11) (N := 27) hx hb hts hinX11 hown hK hw h_27 rfl 17 (by decide) (hts (.fieldLink RX11 96 "BetMakerModel" "offers" "I") (by decide +kernel)) (fun _ h9 => h9) rfl dX11_offer_88 ?_
          refine lv_iconst (v := 1) hx hb dX11_offer_91 (by decide) ?_
          refine lv_isub hx hb dX11_offer_92 ?_
          refine W.eq (congrArg (fun z => F0 m 93 ls [.int z]) (show (((nI no) + 1) - 1) = (nI no) from by exact Int32.add_sub_cancel _ _)) ?_
          have hq_29 : ct_23 200 = some (.inr (11, [.int ft, .int tr, .int (nI N), .int b, .ref (ad 201), .long g, .int cm, .int da, .int (nI nt), .ref (ad 202), .ref (ad 203), .ref (ad 204), .ref (ad 205), .ref (ad 206), .ref (ad 207), .ref (ad 208), .ref (ad 209), .int (nI (no + 1)), .ref (ad 210), .ref (ad 211), .ref (ad 212), .ref (ad 213), .ref (ad 214), .int bs, .int (nI nf), .ref (ad 215), .ref (ad 216)])) := h_27.trans (congrArg some (show (.inr (11, [.int ft, .int tr, .int (nI N), .int b, .ref (ad 201), .long g, .int cm, .int da, .int (nI nt), .ref (ad 202), .ref (ad 203), .ref (ad 204), .ref (ad 205), .ref (ad 206), .ref (ad 207), .ref (ad 208), .ref (ad 209), .int ((nI no) + 1), .ref (ad 210), .ref (ad 211), .ref (ad 212), .ref (ad 213), .ref (ad 214), .int bs, .int (nI nf), .ref (ad 215), .ref (ad 216)]) : va_E) = .inr (11, [.int ft, .int tr, .int (nI N), .int b, .ref (ad 201), .long g, .int cm, .int da, .int (nI nt), .ref (ad 202), .ref (ad 203), .ref (ad 204), .ref (ad 205), .ref (ad 206), .ref (ad 207), .ref (ad 208), .ref (ad 209), .int (nI (no + 1)), .ref (ad 210), .ref (ad 211), .ref (ad 212), .ref (ad 213), .ref (ad 214), .int bs, .int (nI nf), .ref (ad 215), .ref (ad 216)]) from by rw [← nI_1]))
          have hq_30 := h_24
          have hq_31 := h_25
          have hq_32 := h_26
          have hend := kw_eq4 hq_29 hq_30 hq_31 hq_32 hfr_28
          rw [hend] at hw
          exact W.iret hx hb hr (fun t ht _ => ⟨rfl, by rw [ht]; exact hw.1, hw.2.2.1, hw.2.1.F ht, by rw [ht]; exact hw.2.2.2⟩) hw.2.1.2.2 dX11_offer_93
        · exfalso; omega
      · exact absurd hq c_3
set_option maxHeartbeats 4000000 in
set_option maxRecDepth 100000 in
theorem c_X11_most_u (l : Launch) (D : va_G) (tc : Nat → ClassId) (sz : Nat) (ad : Nat → Nat) (ct : Nat → Option va_E) {N nt no nf : Nat} {ft tr b cm da bs : Int32} {g : Int64}                {f m1 : Int32} (h0 : ct 200 = some (.inr (11, [.int ft, .int tr, .int (nI N), .int b, .ref (ad 201), .long g, .int cm, .int da, .int (nI nt), .ref (ad 202), .ref (ad 203), .ref (ad 204), .ref (ad 205), .ref (ad 206), .ref (ad 207), .ref (ad 208), .ref (ad 209), .int (nI no), .ref (ad 210), .ref (ad 211), .ref (ad 212), .ref (ad 213), .ref (ad 214), .int bs, .int (nI nf), .ref (ad 215), .ref (ad 216)]))) (hf : ¬ (0 ≤ f ∧ f < nI no)) : Met l yX11_most wsX11_most ({ frames := 1, cells := 0, slots := 0, locals := 29 }) (va_Pc [.ref (ad 200), .int f, .int m1] (kw_B D tc sz ad ct)) (k2_QcV (.int (-1))) 0 0 (fun _ => False) := by
  refine Met.ofW (cc := cX11_most) (maxL := 4) (ret := (some .int)) (by decide) rfl ?_
  intro pg en s m args below meth cod s₁ B hml hv
  obtain ⟨rfl, hsz, hP0, hK⟩ := hv
  have hx := B.exec
  have hb := B.bytes
  have hr := B.returns
  have hts := atoms_spec (ws := wsX11_most) B.pre
  have hown : s.vm.findClass RX11 = some m.cls := findClass_of_methodNamed B.named
  have hlocks := B.notSynchronized
  subst hsz
  have hw := kw_H.start hP0
  generalize kw_A ad ct s.heap.size = A at hw
  have hinX11 : ∀ w ∈ wsX110, w ∈ wsX11_most := by decide +kernel
  have hl := lv_entry ([.ref (ad 200), .int f, .int m1]) (n := 4) (Nat.le_of_ble_eq_true rfl)
  rw [lg_entry_eq]
  generalize (lg_sl ([.ref (ad 200), .int f, .int m1]) ++ List.replicate (4 - (lg_sl ([.ref (ad 200), .int f, .int m1])).length) Slot.unset).toArray = ls at hl ⊢
  have hl : lv_has ls 4 [(0, .ref (ad 200)), (1, .int f), (2, .int m1)] := hl
  have S0 : CallFix pg m cod cX11_most 4 s _ wsX11_most RX11 := ⟨hx, hb, hml, hown, hts⟩
  refine lv_aload_n hx hb dX11_most_0 rfl (lv_at hl 0 rfl) ?_
  refine lv_iload_n hx hb dX11_most_1 rfl (lv_at hl 1 rfl) ?_
  refine kc_v (As := [.int f]) (rest := []) S0 (c_X11_isOffer l D tc s.heap.size ad ct (N := N) (nt := nt) (no := no) (nf := nf) h0) (cwV 1 hts gX11_most_X11_isOffer rfl rfl rfl (by decide +kernel) ⟨Nat.le_of_ble_eq_true rfl, Nat.le_of_ble_eq_true rfl⟩) hK hw h0 rfl rfl hl.1 rfl (Nat.le_of_ble_eq_true rfl) dX11_most_2 ⟨Nat.le_of_ble_eq_true rfl, (Nat.le_of_ble_eq_true rfl)⟩ ?_
  refine kb_ifne (tgt := 10) hx hb dX11_most_5 (by decide) (fun c_1 => ?_) (fun c_1 => ?_)
  · exact absurd c_1 hf
  · refine lv_iconst (v := (-1)) hx hb dX11_most_8 (by decide) ?_
    exact W.iret hx hb hr (fun t ht _ => ⟨rfl, ht⟩) (fun _ h => absurd h List.not_mem_nil) dX11_most_9
set_option maxHeartbeats 4000000 in
set_option maxRecDepth 100000 in
theorem c_X11_most_o (l : Launch) (D : va_G) (tc : Nat → ClassId) (sz : Nat) (ad : Nat → Nat) (ct : Nat → Option va_E) {N nt no nf : Nat} {ft tr b cm da bs : Int32} {g : Int64}                {f m1 : Int32} (h0 : ct 200 = some (.inr (11, [.int ft, .int tr, .int (nI N), .int b, .ref (ad 201), .long g, .int cm, .int da, .int (nI nt), .ref (ad 202), .ref (ad 203), .ref (ad 204), .ref (ad 205), .ref (ad 206), .ref (ad 207), .ref (ad 208), .ref (ad 209), .int (nI no), .ref (ad 210), .ref (ad 211), .ref (ad 212), .ref (ad 213), .ref (ad 214), .int bs, .int (nI nf), .ref (ad 215), .ref (ad 216)]))) (hf : 0 ≤ f ∧ f < nI no) (hm1 : ¬ (0 ≤ m1.toInt64 ∧ m1.toInt64 ≤ 3)) : Met l yX11_most wsX11_most ({ frames := 1, cells := 0, slots := 0, locals := 29 }) (va_Pc [.ref (ad 200), .int f, .int m1] (kw_B D tc sz ad ct)) (k2_QcV (.int (-2))) 0 0 (fun _ => False) := by
  refine Met.ofW (cc := cX11_most) (maxL := 4) (ret := (some .int)) (by decide) rfl ?_
  intro pg en s m args below meth cod s₁ B hml hv
  obtain ⟨rfl, hsz, hP0, hK⟩ := hv
  have hx := B.exec
  have hb := B.bytes
  have hr := B.returns
  have hts := atoms_spec (ws := wsX11_most) B.pre
  have hown : s.vm.findClass RX11 = some m.cls := findClass_of_methodNamed B.named
  have hlocks := B.notSynchronized
  subst hsz
  have hw := kw_H.start hP0
  generalize kw_A ad ct s.heap.size = A at hw
  have hinX11 : ∀ w ∈ wsX110, w ∈ wsX11_most := by decide +kernel
  have hl := lv_entry ([.ref (ad 200), .int f, .int m1]) (n := 4) (Nat.le_of_ble_eq_true rfl)
  rw [lg_entry_eq]
  generalize (lg_sl ([.ref (ad 200), .int f, .int m1]) ++ List.replicate (4 - (lg_sl ([.ref (ad 200), .int f, .int m1])).length) Slot.unset).toArray = ls at hl ⊢
  have hl : lv_has ls 4 [(0, .ref (ad 200)), (1, .int f), (2, .int m1)] := hl
  have S0 : CallFix pg m cod cX11_most 4 s _ wsX11_most RX11 := ⟨hx, hb, hml, hown, hts⟩
  refine lv_aload_n hx hb dX11_most_0 rfl (lv_at hl 0 rfl) ?_
  refine lv_iload_n hx hb dX11_most_1 rfl (lv_at hl 1 rfl) ?_
  refine kc_v (As := [.int f]) (rest := []) S0 (c_X11_isOffer l D tc s.heap.size ad ct (N := N) (nt := nt) (no := no) (nf := nf) h0) (cwV 1 hts gX11_most_X11_isOffer rfl rfl rfl (by decide +kernel) ⟨Nat.le_of_ble_eq_true rfl, Nat.le_of_ble_eq_true rfl⟩) hK hw h0 rfl rfl hl.1 rfl (Nat.le_of_ble_eq_true rfl) dX11_most_2 ⟨Nat.le_of_ble_eq_true rfl, (Nat.le_of_ble_eq_true rfl)⟩ ?_
  refine kb_ifne (tgt := 10) hx hb dX11_most_5 (by decide) (fun c_1 => ?_) (fun c_1 => ?_)
  · refine lv_iload_n hx hb dX11_most_10 rfl (lv_at hl 2 rfl) ?_
    refine lv_i2l (v := m1.toInt64) hx hb dX11_most_11 rfl ?_
    refine lv_lconst (v := 0) hx hb dX11_most_12 (by decide) ?_
    refine lv_ldc2 (v := 3) hx hb hown (hts (.constantLong RX11 165 (3)) (by decide +kernel)) dX11_most_13 ?_
    refine kc_s (As := [.long m1.toInt64, .long 0, .long 3]) (rest := []) S0 (c_X11_within l D tc s.heap.size ad ct ) (va_cwS 3 hts gX11_most_X11_within rfl rfl rfl (by decide +kernel) ⟨Nat.le_of_ble_eq_true rfl, Nat.le_of_ble_eq_true rfl⟩) hK hw rfl hl.1 rfl (Nat.le_of_ble_eq_true rfl) dX11_most_16 ⟨Nat.le_of_ble_eq_true rfl, (Nat.le_of_ble_eq_true rfl)⟩ ?_
    refine kb_ifne (tgt := 25) hx hb dX11_most_19 (by decide) (fun c_2 => ?_) (fun c_2 => ?_)
    · exact absurd c_2 hm1
    · refine lv_bipush (v := (-2)) hx hb dX11_most_22 (by decide) ?_
      exact W.iret hx hb hr (fun t ht _ => ⟨rfl, ht⟩) (fun _ h => absurd h List.not_mem_nil) dX11_most_24
  · exact absurd hf c_1
set_option maxHeartbeats 4000000 in
set_option maxRecDepth 100000 in
theorem c_X11_most (l : Launch) (D : va_G) (tc : Nat → ClassId) (sz : Nat) (ad : Nat → Nat) (ct : Nat → Option va_E) {N nt no nf : Nat} {ft tr b cm da bs : Int32} {g : Int64}           {om : Nat → Int32}     {f : Nat} {m1 : Int32} (h0 : ct 200 = some (.inr (11, [.int ft, .int tr, .int (nI N), .int b, .ref (ad 201), .long g, .int cm, .int da, .int (nI nt), .ref (ad 202), .ref (ad 203), .ref (ad 204), .ref (ad 205), .ref (ad 206), .ref (ad 207), .ref (ad 208), .ref (ad 209), .int (nI no), .ref (ad 210), .ref (ad 211), .ref (ad 212), .ref (ad 213), .ref (ad 214), .int bs, .int (nI nf), .ref (ad 215), .ref (ad 216)]))) (h212 : ct 212 = some (eI tc 6 om)) (hf : f < no) (hno : no ≤ 6) (hm1 : 0 ≤ m1.toInt64 ∧ m1.toInt64 ≤ 3) : Met l yX11_most wsX11_most ({ frames := 1, cells := 0, slots := 0, locals := 29 }) (va_Pc [.ref (ad 200), .int (nI f), .int m1] (kw_B D tc sz ad ct)) (kw_Q D ad (kw_A ad ct sz) (some (.int (om f))) (kw_up ct 212 (eI tc 6 (va_up om f m1))) 0) 0 0 (kw_A ad ct sz) := by
  refine Met.ofW (cc := cX11_most) (maxL := 4) (ret := (some .int)) (by decide) rfl ?_
  intro pg en s m args below meth cod s₁ B hml hv
  obtain ⟨rfl, hsz, hP0, hK⟩ := hv
  have hx := B.exec
  have hb := B.bytes
  have hr := B.returns
  have hts := atoms_spec (ws := wsX11_most) B.pre
  have hown : s.vm.findClass RX11 = some m.cls := findClass_of_methodNamed B.named
  have hlocks := B.notSynchronized
  subst hsz
  have hw := kw_H.start hP0
  generalize hAe : kw_A ad ct s.heap.size = A at hw ⊢
  have hA : ∀ q, s.heap.size ≤ q → A q := fun q h => by rw [← hAe]; exact Or.inr h
  have hinX11 : ∀ w ∈ wsX110, w ∈ wsX11_most := by decide +kernel
  have hl := lv_entry ([.ref (ad 200), .int (nI f), .int m1]) (n := 4) (Nat.le_of_ble_eq_true rfl)
  rw [lg_entry_eq]
  generalize (lg_sl ([.ref (ad 200), .int (nI f), .int m1]) ++ List.replicate (4 - (lg_sl ([.ref (ad 200), .int (nI f), .int m1])).length) Slot.unset).toArray = ls at hl ⊢
  have hl : lv_has ls 4 [(0, .ref (ad 200)), (1, .int (nI f)), (2, .int m1)] := hl
  have S0 : CallFix pg m cod cX11_most 4 s _ wsX11_most RX11 := ⟨hx, hb, hml, hown, hts⟩
  have hfr : ∀ j, j ≠ 212 → ct j = ct j := fun _ _ => rfl
  have kF : 0 ≤ nI f ∧ nI f < nI no := ⟨nI_pos' (by omega), nI_lt hf (by omega)⟩
  refine lv_aload_n hx hb dX11_most_0 rfl (lv_at hl 0 rfl) ?_
  refine lv_iload_n hx hb dX11_most_1 rfl (lv_at hl 1 rfl) ?_
  refine kc_v (As := [.int (nI f)]) (rest := []) S0 (c_X11_isOffer l D tc s.heap.size ad ct (N := N) (nt := nt) (no := no) (nf := nf) h0) (cwV 1 hts gX11_most_X11_isOffer rfl rfl rfl (by decide +kernel) ⟨Nat.le_of_ble_eq_true rfl, Nat.le_of_ble_eq_true rfl⟩) hK hw h0 rfl rfl hl.1 rfl (Nat.le_of_ble_eq_true rfl) dX11_most_2 ⟨Nat.le_of_ble_eq_true rfl, (Nat.le_of_ble_eq_true rfl)⟩ ?_
  refine kb_ifne (tgt := 10) hx hb dX11_most_5 (by decide) (fun c_1 => ?_) (fun c_1 => ?_)
  · refine lv_iload_n hx hb dX11_most_10 rfl (lv_at hl 2 rfl) ?_
    refine lv_i2l (v := m1.toInt64) hx hb dX11_most_11 rfl ?_
    refine lv_lconst (v := 0) hx hb dX11_most_12 (by decide) ?_
    refine lv_ldc2 (v := 3) hx hb hown (hts (.constantLong RX11 165 (3)) (by decide +kernel)) dX11_most_13 ?_
    refine kc_s (As := [.long m1.toInt64, .long 0, .long 3]) (rest := []) S0 (c_X11_within l D tc s.heap.size ad ct ) (va_cwS 3 hts gX11_most_X11_within rfl rfl rfl (by decide +kernel) ⟨Nat.le_of_ble_eq_true rfl, Nat.le_of_ble_eq_true rfl⟩) hK hw rfl hl.1 rfl (Nat.le_of_ble_eq_true rfl) dX11_most_16 ⟨Nat.le_of_ble_eq_true rfl, (Nat.le_of_ble_eq_true rfl)⟩ ?_
    refine kb_ifne (tgt := 25) hx hb dX11_most_19 (by decide) (fun c_2 => ?_) (fun c_2 => ?_)
    · refine lv_aload_n hx hb dX11_most_25 rfl (lv_at hl 0 rfl) ?_
      refine kg_get (v := .ref (ad 212)) (C := RX11) (T := TX11) (N := 27) hx hb hts hinX11 hown hK hw h0 rfl 20 (by decide) (hts (.fieldLink RX11 54 "BetMakerModel" "offerMost" "[I") (by decide +kernel)) (fun _ h9 => h9) rfl dX11_most_26 ?_
      refine lv_iload_n hx hb dX11_most_29 rfl (lv_at hl 1 rfl) ?_
      refine kg_iald hx hb hK hw h212 f rfl (by omega) (by omega) dX11_most_30 ?_
      refine lv_istore_n (lv' := [(3, .int (om f)), (0, .ref (ad 200)), (1, .int (nI f)), (2, .int m1)]) hx hb dX11_most_31 rfl hl (by decide) rfl (fun ls hl => ?_)
      refine lv_aload_n hx hb dX11_most_32 rfl (lv_at hl 1 rfl) ?_
      refine kg_get (v := .ref (ad 212)) (C := RX11) (T := TX11) (N := 27) hx hb hts hinX11 hown hK hw h0 rfl 20 (by decide) (hts (.fieldLink RX11 54 "BetMakerModel" "offerMost" "[I") (by decide +kernel)) (fun _ h9 => h9) rfl dX11_most_33 ?_
      refine lv_iload_n hx hb dX11_most_36 rfl (lv_at hl 2 rfl) ?_
      refine lv_iload_n hx hb dX11_most_37 rfl (lv_at hl 3 rfl) ?_
      refine kg_iast hx hb hK hw h212 f rfl (by omega) (by omega) dX11_most_38 (fun H locs hw => ?_)
      obtain ⟨ct_3, ect_3⟩ : ∃ z, z = kw_up ct 212 (eI tc 6 (va_up om f m1)) := ⟨_, rfl⟩
      rw [← ect_3] at hw
      have h_4 : ct_3 200 = some (.inr (11, [.int ft, .int tr, .int (nI N), .int b, .ref (ad 201), .long g, .int cm, .int da, .int (nI nt), .ref (ad 202), .ref (ad 203), .ref (ad 204), .ref (ad 205), .ref (ad 206), .ref (ad 207), .ref (ad 208), .ref (ad 209), .int (nI no), .ref (ad 210), .ref (ad 211), .ref (ad 212), .ref (ad 213), .ref (ad 214), .int bs, .int (nI nf), .ref (ad 215), .ref (ad 216)])) := by rw [ect_3, kw_up_n (by decide)]; exact h0
      have h_5 : ct_3 212 = some (eI tc 6 (va_up om f m1)) := by rw [ect_3]; exact kw_up_s
      have hfr_6 : ∀ j, j ≠ 212 → ct_3 j = ct j := fun j a0 => by rw [ect_3]; exact (kw_up_n a0).trans (hfr j a0)
      refine lv_iload_n hx hb dX11_most_39 rfl (lv_at hl 0 rfl) ?_
      have hq_7 := h_5
      have hend := kw_eq1 hq_7 hfr_6
      rw [hend] at hw
      exact W.iret hx hb hr (fun t ht _ => ⟨rfl, by rw [ht]; exact hw.1, hw.2.2.1, hw.2.1.F ht, by rw [ht]; exact hw.2.2.2⟩) hw.2.1.2.2 dX11_most_40
    · exact absurd hm1 c_2
  · exact absurd kF c_1
set_option maxHeartbeats 4000000 in
set_option maxRecDepth 100000 in
theorem c_X11_forecast_u (l : Launch) (D : va_G) (tc : Nat → ClassId) (sz : Nat) (ad : Nat → Nat) (ct : Nat → Option va_E) {N nt no nf : Nat} {ft tr b cm da bs : Int32} {g : Int64}                 {k lane i c : Int32} (h0 : ct 200 = some (.inr (11, [.int ft, .int tr, .int (nI N), .int b, .ref (ad 201), .long g, .int cm, .int da, .int (nI nt), .ref (ad 202), .ref (ad 203), .ref (ad 204), .ref (ad 205), .ref (ad 206), .ref (ad 207), .ref (ad 208), .ref (ad 209), .int (nI no), .ref (ad 210), .ref (ad 211), .ref (ad 212), .ref (ad 213), .ref (ad 214), .int bs, .int (nI nf), .ref (ad 215), .ref (ad 216)]))) (hbad : ¬ ((0 ≤ k.toInt64 ∧ k.toInt64 ≤ 3) ∧ 0 ≤ c ∧ c < nI N)) : Met l yX11_forecast wsX11_forecast ({ frames := 2, cells := 0, slots := 0, locals := 59 }) (va_Pc [.ref (ad 200), .int k, .int lane, .int i, .int c] (kw_B D tc sz ad ct)) (kw_Q D ad (kw_A ad ct sz) (some (.int (-1))) (kw_up ct 200 (.inr (11, [.int 0, .int tr, .int (nI N), .int b, .ref (ad 201), .long g, .int cm, .int da, .int (nI nt), .ref (ad 202), .ref (ad 203), .ref (ad 204), .ref (ad 205), .ref (ad 206), .ref (ad 207), .ref (ad 208), .ref (ad 209), .int (nI no), .ref (ad 210), .ref (ad 211), .ref (ad 212), .ref (ad 213), .ref (ad 214), .int bs, .int (nI nf), .ref (ad 215), .ref (ad 216)]))) 0) 0 0 (kw_A ad ct sz) := by
  refine Met.ofW (cc := cX11_forecast) (maxL := 7) (ret := (some .int)) (by decide) rfl ?_
  intro pg en s m args below meth cod s₁ B hml hv
  obtain ⟨rfl, hsz, hP0, hK⟩ := hv
  have hx := B.exec
  have hb := B.bytes
  have hr := B.returns
  have hts := atoms_spec (ws := wsX11_forecast) B.pre
  have hown : s.vm.findClass RX11 = some m.cls := findClass_of_methodNamed B.named
  have hlocks := B.notSynchronized
  subst hsz
  have hw := kw_H.start hP0
  generalize hAe : kw_A ad ct s.heap.size = A at hw ⊢
  have hA : ∀ q, s.heap.size ≤ q → A q := fun q h => by rw [← hAe]; exact Or.inr h
  have hinX11 : ∀ w ∈ wsX110, w ∈ wsX11_forecast := by decide +kernel
  have hl := lv_entry ([.ref (ad 200), .int k, .int lane, .int i, .int c]) (n := 7) (Nat.le_of_ble_eq_true rfl)
  rw [lg_entry_eq]
  generalize (lg_sl ([.ref (ad 200), .int k, .int lane, .int i, .int c]) ++ List.replicate (7 - (lg_sl ([.ref (ad 200), .int k, .int lane, .int i, .int c])).length) Slot.unset).toArray = ls at hl ⊢
  have hl : lv_has ls 7 [(0, .ref (ad 200)), (1, .int k), (2, .int lane), (3, .int i), (4, .int c)] := hl
  have S0 : CallFix pg m cod cX11_forecast 7 s _ wsX11_forecast RX11 := ⟨hx, hb, hml, hown, hts⟩
  have hfr : ∀ j, j ≠ 200 → ct j = ct j := fun _ _ => rfl
  refine lv_aload_n hx hb dX11_forecast_0 rfl (lv_at hl 0 rfl) ?_
  refine lv_iconst (v := 0) hx hb dX11_forecast_1 (by decide) ?_
  refine kg_put (v := .int 0) (ty := .int) (C := RX11) (T := TX11) (N := 27) (fs' := [.int 0, .int tr, .int (nI N), .int b, .ref (ad 201), .long g, .int cm, .int da, .int (nI nt), .ref (ad 202), .ref (ad 203), .ref (ad 204), .ref (ad 205), .ref (ad 206), .ref (ad 207), .ref (ad 208), .ref (ad 209), .int (nI no), .ref (ad 210), .ref (ad 211), .ref (ad 212), .ref (ad 213), .ref (ad 214), .int bs, .int (nI nf), .ref (ad 215), .ref (ad 216)]) hx hb hts hinX11 tyX11 tyX11_ok nmX11 hown hK hw h0 rfl 0 (by decide) (hts (.fieldLink RX11 69 "BetMakerModel" "fault" "I") (by decide +kernel)) (fun _ h9 => h9) rfl (by decide +kernel) rfl rfl (Nat.le_of_ble_eq_true rfl) rfl dX11_forecast_2 (fun H locs hw => ?_)
  obtain ⟨ct_1, ect_1⟩ : ∃ z, z = kw_up ct 200 (.inr (11, [.int 0, .int tr, .int (nI N), .int b, .ref (ad 201), .long g, .int cm, .int da, .int (nI nt), .ref (ad 202), .ref (ad 203), .ref (ad 204), .ref (ad 205), .ref (ad 206), .ref (ad 207), .ref (ad 208), .ref (ad 209), .int (nI no), .ref (ad 210), .ref (ad 211), .ref (ad 212), .ref (ad 213), .ref (ad 214), .int bs, .int (nI nf), .ref (ad 215), .ref (ad 216)])) := ⟨_, rfl⟩
  rw [← ect_1] at hw
  have h_2 : ct_1 200 = some (.inr (11, [.int 0, .int tr, .int (nI N), .int b, .ref (ad 201), .long g, .int cm, .int da, .int (nI nt), .ref (ad 202), .ref (ad 203), .ref (ad 204), .ref (ad 205), .ref (ad 206), .ref (ad 207), .ref (ad 208), .ref (ad 209), .int (nI no), .ref (ad 210), .ref (ad 211), .ref (ad 212), .ref (ad 213), .ref (ad 214), .int bs, .int (nI nf), .ref (ad 215), .ref (ad 216)])) := by rw [ect_1]; exact kw_up_s
  have hfr_3 : ∀ j, j ≠ 200 → ct_1 j = ct j := fun j a0 => by rw [ect_1]; exact (kw_up_n a0).trans (hfr j a0)
  refine lv_iload_n hx hb dX11_forecast_5 rfl (lv_at hl 1 rfl) ?_
  refine lv_i2l (v := k.toInt64) hx hb dX11_forecast_6 rfl ?_
  refine lv_lconst (v := 0) hx hb dX11_forecast_7 (by decide) ?_
  refine lv_ldc2 (v := 3) hx hb hown (hts (.constantLong RX11 165 (3)) (by decide +kernel)) dX11_forecast_8 ?_
  refine kc_s (As := [.long k.toInt64, .long 0, .long 3]) (rest := []) S0 (c_X11_within l D tc s.heap.size ad ct_1 ) (va_cwS 3 hts gX11_forecast_X11_within rfl rfl rfl (by decide +kernel) ⟨Nat.le_of_ble_eq_true rfl, Nat.le_of_ble_eq_true rfl⟩) hK hw rfl hl.1 rfl (Nat.le_of_ble_eq_true rfl) dX11_forecast_11 ⟨Nat.le_of_ble_eq_true rfl, (Nat.le_of_ble_eq_true rfl)⟩ ?_
  refine kb_ifeq (tgt := 26) hx hb dX11_forecast_14 (by decide) (fun c_4 => ?_) (fun c_4 => ?_)
  · refine lv_iconst (v := (-1)) hx hb dX11_forecast_26 (by decide) ?_
    have hq_5 := h_2
    have hend := kw_eq1 hq_5 hfr_3
    rw [hend] at hw
    exact W.iret hx hb hr (fun t ht _ => ⟨rfl, by rw [ht]; exact hw.1, hw.2.2.1, hw.2.1.F ht, by rw [ht]; exact hw.2.2.2⟩) hw.2.1.2.2 dX11_forecast_27
  · refine lv_aload_n hx hb dX11_forecast_17 rfl (lv_at hl 0 rfl) ?_
    refine lv_iload hx hb dX11_forecast_18 (lv_at hl 4 rfl) ?_
    refine kc_v (As := [.int c]) (rest := []) S0 (c_X11_isCase l D tc s.heap.size ad ct_1 (N := N) (nt := nt) (no := no) (nf := nf) h_2) (cwV 1 hts gX11_forecast_X11_isCase rfl rfl rfl (by decide +kernel) ⟨Nat.le_of_ble_eq_true rfl, Nat.le_of_ble_eq_true rfl⟩) hK hw h_2 rfl rfl hl.1 rfl (Nat.le_of_ble_eq_true rfl) dX11_forecast_20 ⟨Nat.le_of_ble_eq_true rfl, (Nat.le_of_ble_eq_true rfl)⟩ ?_
    refine kb_ifne (tgt := 28) hx hb dX11_forecast_23 (by decide) (fun c_6 => ?_) (fun c_6 => ?_)
    · exact absurd ⟨c_4, c_6⟩ hbad
    · refine lv_iconst (v := (-1)) hx hb dX11_forecast_26 (by decide) ?_
      have hq_7 := h_2
      have hend := kw_eq1 hq_7 hfr_3
      rw [hend] at hw
      exact W.iret hx hb hr (fun t ht _ => ⟨rfl, by rw [ht]; exact hw.1, hw.2.2.1, hw.2.1.F ht, by rw [ht]; exact hw.2.2.2⟩) hw.2.1.2.2 dX11_forecast_27
set_option maxHeartbeats 4000000 in
set_option maxRecDepth 100000 in
theorem c_X11_forecast_o (l : Launch) (D : va_G) (tc : Nat → ClassId) (sz : Nat) (ad : Nat → Nat) (ct : Nat → Option va_E) {N nt no nf : Nat} {ft tr b cm da bs : Int32} {g : Int64}                 {k : Nat} {lane i c : Int32} (h0 : ct 200 = some (.inr (11, [.int ft, .int tr, .int (nI N), .int b, .ref (ad 201), .long g, .int cm, .int da, .int (nI nt), .ref (ad 202), .ref (ad 203), .ref (ad 204), .ref (ad 205), .ref (ad 206), .ref (ad 207), .ref (ad 208), .ref (ad 209), .int (nI no), .ref (ad 210), .ref (ad 211), .ref (ad 212), .ref (ad 213), .ref (ad 214), .int bs, .int (nI nf), .ref (ad 215), .ref (ad 216)]))) (hk4 : k < 4) (hcc : 0 ≤ c ∧ c < nI N) (hL : ¬ (0 ≤ lane.toInt64 ∧ lane.toInt64 ≤ 2)) : Met l yX11_forecast wsX11_forecast ({ frames := 2, cells := 0, slots := 0, locals := 59 }) (va_Pc [.ref (ad 200), .int (nI k), .int lane, .int i, .int c] (kw_B D tc sz ad ct)) (kw_Q D ad (kw_A ad ct sz) (some (.int (-2))) (kw_up ct 200 (.inr (11, [.int 0, .int tr, .int (nI N), .int b, .ref (ad 201), .long g, .int cm, .int da, .int (nI nt), .ref (ad 202), .ref (ad 203), .ref (ad 204), .ref (ad 205), .ref (ad 206), .ref (ad 207), .ref (ad 208), .ref (ad 209), .int (nI no), .ref (ad 210), .ref (ad 211), .ref (ad 212), .ref (ad 213), .ref (ad 214), .int bs, .int (nI nf), .ref (ad 215), .ref (ad 216)]))) 0) 0 0 (kw_A ad ct sz) := by
  refine Met.ofW (cc := cX11_forecast) (maxL := 7) (ret := (some .int)) (by decide) rfl ?_
  intro pg en s m args below meth cod s₁ B hml hv
  obtain ⟨rfl, hsz, hP0, hK⟩ := hv
  have hx := B.exec
  have hb := B.bytes
  have hr := B.returns
  have hts := atoms_spec (ws := wsX11_forecast) B.pre
  have hown : s.vm.findClass RX11 = some m.cls := findClass_of_methodNamed B.named
  have hlocks := B.notSynchronized
  subst hsz
  have hw := kw_H.start hP0
  generalize hAe : kw_A ad ct s.heap.size = A at hw ⊢
  have hA : ∀ q, s.heap.size ≤ q → A q := fun q h => by rw [← hAe]; exact Or.inr h
  have hinX11 : ∀ w ∈ wsX110, w ∈ wsX11_forecast := by decide +kernel
  have hl := lv_entry ([.ref (ad 200), .int (nI k), .int lane, .int i, .int c]) (n := 7) (Nat.le_of_ble_eq_true rfl)
  rw [lg_entry_eq]
  generalize (lg_sl ([.ref (ad 200), .int (nI k), .int lane, .int i, .int c]) ++ List.replicate (7 - (lg_sl ([.ref (ad 200), .int (nI k), .int lane, .int i, .int c])).length) Slot.unset).toArray = ls at hl ⊢
  have hl : lv_has ls 7 [(0, .ref (ad 200)), (1, .int (nI k)), (2, .int lane), (3, .int i), (4, .int c)] := hl
  have S0 : CallFix pg m cod cX11_forecast 7 s _ wsX11_forecast RX11 := ⟨hx, hb, hml, hown, hts⟩
  have hfr : ∀ j, j ≠ 200 → ct j = ct j := fun _ _ => rfl
  have kK : 0 ≤ (nI k).toInt64 ∧ (nI k).toInt64 ≤ 3 := kwl k 3 (by omega) (by omega)
  refine lv_aload_n hx hb dX11_forecast_0 rfl (lv_at hl 0 rfl) ?_
  refine lv_iconst (v := 0) hx hb dX11_forecast_1 (by decide) ?_
  refine kg_put (v := .int 0) (ty := .int) (C := RX11) (T := TX11) (N := 27) (fs' := [.int 0, .int tr, .int (nI N), .int b, .ref (ad 201), .long g, .int cm, .int da, .int (nI nt), .ref (ad 202), .ref (ad 203), .ref (ad 204), .ref (ad 205), .ref (ad 206), .ref (ad 207), .ref (ad 208), .ref (ad 209), .int (nI no), .ref (ad 210), .ref (ad 211), .ref (ad 212), .ref (ad 213), .ref (ad 214), .int bs, .int (nI nf), .ref (ad 215), .ref (ad 216)]) hx hb hts hinX11 tyX11 tyX11_ok nmX11 hown hK hw h0 rfl 0 (by decide) (hts (.fieldLink RX11 69 "BetMakerModel" "fault" "I") (by decide +kernel)) (fun _ h9 => h9) rfl (by decide +kernel) rfl rfl (Nat.le_of_ble_eq_true rfl) rfl dX11_forecast_2 (fun H locs hw => ?_)
  obtain ⟨ct_1, ect_1⟩ : ∃ z, z = kw_up ct 200 (.inr (11, [.int 0, .int tr, .int (nI N), .int b, .ref (ad 201), .long g, .int cm, .int da, .int (nI nt), .ref (ad 202), .ref (ad 203), .ref (ad 204), .ref (ad 205), .ref (ad 206), .ref (ad 207), .ref (ad 208), .ref (ad 209), .int (nI no), .ref (ad 210), .ref (ad 211), .ref (ad 212), .ref (ad 213), .ref (ad 214), .int bs, .int (nI nf), .ref (ad 215), .ref (ad 216)])) := ⟨_, rfl⟩
  rw [← ect_1] at hw
  have h_2 : ct_1 200 = some (.inr (11, [.int 0, .int tr, .int (nI N), .int b, .ref (ad 201), .long g, .int cm, .int da, .int (nI nt), .ref (ad 202), .ref (ad 203), .ref (ad 204), .ref (ad 205), .ref (ad 206), .ref (ad 207), .ref (ad 208), .ref (ad 209), .int (nI no), .ref (ad 210), .ref (ad 211), .ref (ad 212), .ref (ad 213), .ref (ad 214), .int bs, .int (nI nf), .ref (ad 215), .ref (ad 216)])) := by rw [ect_1]; exact kw_up_s
  have hfr_3 : ∀ j, j ≠ 200 → ct_1 j = ct j := fun j a0 => by rw [ect_1]; exact (kw_up_n a0).trans (hfr j a0)
  refine lv_iload_n hx hb dX11_forecast_5 rfl (lv_at hl 1 rfl) ?_
  refine lv_i2l (v := (nI k).toInt64) hx hb dX11_forecast_6 rfl ?_
  refine lv_lconst (v := 0) hx hb dX11_forecast_7 (by decide) ?_
  refine lv_ldc2 (v := 3) hx hb hown (hts (.constantLong RX11 165 (3)) (by decide +kernel)) dX11_forecast_8 ?_
  refine kc_s (As := [.long ((nI k).toInt64), .long 0, .long 3]) (rest := []) S0 (c_X11_within l D tc s.heap.size ad ct_1 ) (va_cwS 3 hts gX11_forecast_X11_within rfl rfl rfl (by decide +kernel) ⟨Nat.le_of_ble_eq_true rfl, Nat.le_of_ble_eq_true rfl⟩) hK hw rfl hl.1 rfl (Nat.le_of_ble_eq_true rfl) dX11_forecast_11 ⟨Nat.le_of_ble_eq_true rfl, (Nat.le_of_ble_eq_true rfl)⟩ ?_
  refine kb_ifeq (tgt := 26) hx hb dX11_forecast_14 (by decide) (fun c_4 => ?_) (fun c_4 => ?_)
  · exact absurd kK c_4
  · refine lv_aload_n hx hb dX11_forecast_17 rfl (lv_at hl 0 rfl) ?_
    refine lv_iload hx hb dX11_forecast_18 (lv_at hl 4 rfl) ?_
    refine kc_v (As := [.int c]) (rest := []) S0 (c_X11_isCase l D tc s.heap.size ad ct_1 (N := N) (nt := nt) (no := no) (nf := nf) h_2) (cwV 1 hts gX11_forecast_X11_isCase rfl rfl rfl (by decide +kernel) ⟨Nat.le_of_ble_eq_true rfl, Nat.le_of_ble_eq_true rfl⟩) hK hw h_2 rfl rfl hl.1 rfl (Nat.le_of_ble_eq_true rfl) dX11_forecast_20 ⟨Nat.le_of_ble_eq_true rfl, (Nat.le_of_ble_eq_true rfl)⟩ ?_
    refine kb_ifne (tgt := 28) hx hb dX11_forecast_23 (by decide) (fun c_5 => ?_) (fun c_5 => ?_)
    · refine lv_aload_n hx hb dX11_forecast_28 rfl (lv_at hl 0 rfl) ?_
      refine lv_iload_n hx hb dX11_forecast_29 rfl (lv_at hl 1 rfl) ?_
      refine lv_iload_n hx hb dX11_forecast_30 rfl (lv_at hl 2 rfl) ?_
      refine lv_iload_n hx hb dX11_forecast_31 rfl (lv_at hl 3 rfl) ?_
      refine kc_v (As := [.int (nI k), .int lane, .int i]) (rest := []) S0 (c_X11_against_o l D tc s.heap.size ad ct_1 (k := k) (N := N) (nt := nt) (no := no) (nf := nf) h_2 hL) (cwV 3 hts gX11_forecast_X11_against rfl rfl rfl (by decide +kernel) ⟨Nat.le_of_ble_eq_true rfl, Nat.le_of_ble_eq_true rfl⟩) hK hw h_2 rfl rfl hl.1 rfl (Nat.le_of_ble_eq_true rfl) dX11_forecast_32 ⟨Nat.le_of_ble_eq_true rfl, (Nat.le_of_ble_eq_true rfl)⟩ ?_
      refine lv_istore (lv' := [(5, .int (-2)), (0, .ref (ad 200)), (1, .int (nI k)), (2, .int lane), (3, .int i), (4, .int c)]) hx hb dX11_forecast_35 hl (by decide) rfl (fun ls hl => ?_)
      refine lv_iload hx hb dX11_forecast_37 (lv_at hl 0 rfl) ?_
      refine lv_if_eq (tgt := 45) hx hb dX11_forecast_39 (by decide) (fun c_6 => ?_) (fun c_6 => ?_)
      · exact absurd c_6 (by decide)
      · refine lv_iload hx hb dX11_forecast_42 (lv_at hl 0 rfl) ?_
        have hq_7 := h_2
        have hend := kw_eq1 hq_7 hfr_3
        rw [hend] at hw
        exact W.iret hx hb hr (fun t ht _ => ⟨rfl, by rw [ht]; exact hw.1, hw.2.2.1, hw.2.1.F ht, by rw [ht]; exact hw.2.2.2⟩) hw.2.1.2.2 dX11_forecast_44
    · exact absurd hcc c_5
set_option maxHeartbeats 4000000 in
set_option maxRecDepth 100000 in
theorem c_X11_forecast_c (l : Launch) (D : va_G) (tc : Nat → ClassId) (sz : Nat) (ad : Nat → Nat) (ct : Nat → Option va_E) {N nt no nf : Nat} {ft tr b cm da bs : Int32} {g : Int64}       {la : Nat → Int32}          {k : Nat} {lane i c : Int32} (h0 : ct 200 = some (.inr (11, [.int ft, .int tr, .int (nI N), .int b, .ref (ad 201), .long g, .int cm, .int da, .int (nI nt), .ref (ad 202), .ref (ad 203), .ref (ad 204), .ref (ad 205), .ref (ad 206), .ref (ad 207), .ref (ad 208), .ref (ad 209), .int (nI no), .ref (ad 210), .ref (ad 211), .ref (ad 212), .ref (ad 213), .ref (ad 214), .int bs, .int (nI nf), .ref (ad 215), .ref (ad 216)]))) (h207 : ct 207 = some (eI tc 4 la)) (hk4 : k < 4) (hcc : 0 ≤ c ∧ c < nI N) (hL : 0 ≤ lane.toInt64 ∧ lane.toInt64 ≤ 2) (ha1 : ¬ (la k = (-9))) (ha2 : ¬ (la k = lane)) : Met l yX11_forecast wsX11_forecast ({ frames := 2, cells := 0, slots := 0, locals := 59 }) (va_Pc [.ref (ad 200), .int (nI k), .int lane, .int i, .int c] (kw_B D tc sz ad ct)) (kw_Q D ad (kw_A ad ct sz) (some (.int ((-10) - 2))) (kw_up ct 200 (.inr (11, [.int 2, .int tr, .int (nI N), .int b, .ref (ad 201), .long g, .int cm, .int da, .int (nI nt), .ref (ad 202), .ref (ad 203), .ref (ad 204), .ref (ad 205), .ref (ad 206), .ref (ad 207), .ref (ad 208), .ref (ad 209), .int (nI no), .ref (ad 210), .ref (ad 211), .ref (ad 212), .ref (ad 213), .ref (ad 214), .int bs, .int (nI nf), .ref (ad 215), .ref (ad 216)]))) 0) 0 0 (kw_A ad ct sz) := by
  refine Met.ofW (cc := cX11_forecast) (maxL := 7) (ret := (some .int)) (by decide) rfl ?_
  intro pg en s m args below meth cod s₁ B hml hv
  obtain ⟨rfl, hsz, hP0, hK⟩ := hv
  have hx := B.exec
  have hb := B.bytes
  have hr := B.returns
  have hts := atoms_spec (ws := wsX11_forecast) B.pre
  have hown : s.vm.findClass RX11 = some m.cls := findClass_of_methodNamed B.named
  have hlocks := B.notSynchronized
  subst hsz
  have hw := kw_H.start hP0
  generalize hAe : kw_A ad ct s.heap.size = A at hw ⊢
  have hA : ∀ q, s.heap.size ≤ q → A q := fun q h => by rw [← hAe]; exact Or.inr h
  have hinX11 : ∀ w ∈ wsX110, w ∈ wsX11_forecast := by decide +kernel
  have hl := lv_entry ([.ref (ad 200), .int (nI k), .int lane, .int i, .int c]) (n := 7) (Nat.le_of_ble_eq_true rfl)
  rw [lg_entry_eq]
  generalize (lg_sl ([.ref (ad 200), .int (nI k), .int lane, .int i, .int c]) ++ List.replicate (7 - (lg_sl ([.ref (ad 200), .int (nI k), .int lane, .int i, .int c])).length) Slot.unset).toArray = ls at hl ⊢
  have hl : lv_has ls 7 [(0, .ref (ad 200)), (1, .int (nI k)), (2, .int lane), (3, .int i), (4, .int c)] := hl
  have S0 : CallFix pg m cod cX11_forecast 7 s _ wsX11_forecast RX11 := ⟨hx, hb, hml, hown, hts⟩
  have hfr : ∀ j, j ≠ 200 → ct j = ct j := fun _ _ => rfl
  have kK : 0 ≤ (nI k).toInt64 ∧ (nI k).toInt64 ≤ 3 := kwl k 3 (by omega) (by omega)
  refine lv_aload_n hx hb dX11_forecast_0 rfl (lv_at hl 0 rfl) ?_
  refine lv_iconst (v := 0) hx hb dX11_forecast_1 (by decide) ?_
  refine kg_put (v := .int 0) (ty := .int) (C := RX11) (T := TX11) (N := 27) (fs' := [.int 0, .int tr, .int (nI N), .int b, .ref (ad 201), .long g, .int cm, .int da, .int (nI nt), .ref (ad 202), .ref (ad 203), .ref (ad 204), .ref (ad 205), .ref (ad 206), .ref (ad 207), .ref (ad 208), .ref (ad 209), .int (nI no), .ref (ad 210), .ref (ad 211), .ref (ad 212), .ref (ad 213), .ref (ad 214), .int bs, .int (nI nf), .ref (ad 215), .ref (ad 216)]) hx hb hts hinX11 tyX11 tyX11_ok nmX11 hown hK hw h0 rfl 0 (by decide) (hts (.fieldLink RX11 69 "BetMakerModel" "fault" "I") (by decide +kernel)) (fun _ h9 => h9) rfl (by decide +kernel) rfl rfl (Nat.le_of_ble_eq_true rfl) rfl dX11_forecast_2 (fun H locs hw => ?_)
  obtain ⟨ct_1, ect_1⟩ : ∃ z, z = kw_up ct 200 (.inr (11, [.int 0, .int tr, .int (nI N), .int b, .ref (ad 201), .long g, .int cm, .int da, .int (nI nt), .ref (ad 202), .ref (ad 203), .ref (ad 204), .ref (ad 205), .ref (ad 206), .ref (ad 207), .ref (ad 208), .ref (ad 209), .int (nI no), .ref (ad 210), .ref (ad 211), .ref (ad 212), .ref (ad 213), .ref (ad 214), .int bs, .int (nI nf), .ref (ad 215), .ref (ad 216)])) := ⟨_, rfl⟩
  rw [← ect_1] at hw
  have h_2 : ct_1 207 = some (eI tc 4 la) := by rw [ect_1, kw_up_n (by decide)]; exact h207
  have h_3 : ct_1 200 = some (.inr (11, [.int 0, .int tr, .int (nI N), .int b, .ref (ad 201), .long g, .int cm, .int da, .int (nI nt), .ref (ad 202), .ref (ad 203), .ref (ad 204), .ref (ad 205), .ref (ad 206), .ref (ad 207), .ref (ad 208), .ref (ad 209), .int (nI no), .ref (ad 210), .ref (ad 211), .ref (ad 212), .ref (ad 213), .ref (ad 214), .int bs, .int (nI nf), .ref (ad 215), .ref (ad 216)])) := by rw [ect_1]; exact kw_up_s
  have hfr_4 : ∀ j, j ≠ 200 → ct_1 j = ct j := fun j a0 => by rw [ect_1]; exact (kw_up_n a0).trans (hfr j a0)
  refine lv_iload_n hx hb dX11_forecast_5 rfl (lv_at hl 1 rfl) ?_
  refine lv_i2l (v := (nI k).toInt64) hx hb dX11_forecast_6 rfl ?_
  refine lv_lconst (v := 0) hx hb dX11_forecast_7 (by decide) ?_
  refine lv_ldc2 (v := 3) hx hb hown (hts (.constantLong RX11 165 (3)) (by decide +kernel)) dX11_forecast_8 ?_
  refine kc_s (As := [.long ((nI k).toInt64), .long 0, .long 3]) (rest := []) S0 (c_X11_within l D tc s.heap.size ad ct_1 ) (va_cwS 3 hts gX11_forecast_X11_within rfl rfl rfl (by decide +kernel) ⟨Nat.le_of_ble_eq_true rfl, Nat.le_of_ble_eq_true rfl⟩) hK hw rfl hl.1 rfl (Nat.le_of_ble_eq_true rfl) dX11_forecast_11 ⟨Nat.le_of_ble_eq_true rfl, (Nat.le_of_ble_eq_true rfl)⟩ ?_
  refine kb_ifeq (tgt := 26) hx hb dX11_forecast_14 (by decide) (fun c_5 => ?_) (fun c_5 => ?_)
  · exact absurd kK c_5
  · refine lv_aload_n hx hb dX11_forecast_17 rfl (lv_at hl 0 rfl) ?_
    refine lv_iload hx hb dX11_forecast_18 (lv_at hl 4 rfl) ?_
    refine kc_v (As := [.int c]) (rest := []) S0 (c_X11_isCase l D tc s.heap.size ad ct_1 (N := N) (nt := nt) (no := no) (nf := nf) h_3) (cwV 1 hts gX11_forecast_X11_isCase rfl rfl rfl (by decide +kernel) ⟨Nat.le_of_ble_eq_true rfl, Nat.le_of_ble_eq_true rfl⟩) hK hw h_3 rfl rfl hl.1 rfl (Nat.le_of_ble_eq_true rfl) dX11_forecast_20 ⟨Nat.le_of_ble_eq_true rfl, (Nat.le_of_ble_eq_true rfl)⟩ ?_
    refine kb_ifne (tgt := 28) hx hb dX11_forecast_23 (by decide) (fun c_6 => ?_) (fun c_6 => ?_)
    · refine lv_aload_n hx hb dX11_forecast_28 rfl (lv_at hl 0 rfl) ?_
      refine lv_iload_n hx hb dX11_forecast_29 rfl (lv_at hl 1 rfl) ?_
      refine lv_iload_n hx hb dX11_forecast_30 rfl (lv_at hl 2 rfl) ?_
      refine lv_iload_n hx hb dX11_forecast_31 rfl (lv_at hl 3 rfl) ?_
      refine kc_vu (As := [.int (nI k), .int lane, .int i]) (rest := []) S0 (c_X11_against_c l D tc s.heap.size ad ct_1 (k := k) (N := N) (nt := nt) (no := no) (nf := nf) h_3 h_2 hk4 hL ha1 ha2) (cwV 3 hts gX11_forecast_X11_against rfl rfl rfl (by decide +kernel) ⟨Nat.le_of_ble_eq_true rfl, Nat.le_of_ble_eq_true rfl⟩) hK hw hA h_3 rfl rfl hl.1 rfl (Nat.le_of_ble_eq_true rfl) dX11_forecast_32 ⟨Nat.le_of_ble_eq_true rfl, (Nat.le_of_ble_eq_true rfl)⟩ (fun H locs hw => ?_)
      obtain ⟨ct_7, ect_7⟩ : ∃ z, z = kw_up ct_1 200 (.inr (11, [.int 2, .int tr, .int (nI N), .int b, .ref (ad 201), .long g, .int cm, .int da, .int (nI nt), .ref (ad 202), .ref (ad 203), .ref (ad 204), .ref (ad 205), .ref (ad 206), .ref (ad 207), .ref (ad 208), .ref (ad 209), .int (nI no), .ref (ad 210), .ref (ad 211), .ref (ad 212), .ref (ad 213), .ref (ad 214), .int bs, .int (nI nf), .ref (ad 215), .ref (ad 216)])) := ⟨_, rfl⟩
      rw [← ect_7] at hw
      have h_8 : ct_7 207 = some (eI tc 4 la) := by rw [ect_7, kw_up_n (by decide)]; exact h_2
      have h_9 : ct_7 200 = some (.inr (11, [.int 2, .int tr, .int (nI N), .int b, .ref (ad 201), .long g, .int cm, .int da, .int (nI nt), .ref (ad 202), .ref (ad 203), .ref (ad 204), .ref (ad 205), .ref (ad 206), .ref (ad 207), .ref (ad 208), .ref (ad 209), .int (nI no), .ref (ad 210), .ref (ad 211), .ref (ad 212), .ref (ad 213), .ref (ad 214), .int bs, .int (nI nf), .ref (ad 215), .ref (ad 216)])) := by rw [ect_7]; exact kw_up_s
      have hfr_10 : ∀ j, j ≠ 200 → ct_7 j = ct j := fun j a0 => by rw [ect_7]; exact (kw_up_n a0).trans (hfr_4 j a0)
      refine lv_istore (lv' := [(5, .int ((-10) - 2)), (0, .ref (ad 200)), (1, .int (nI k)), (2, .int lane), (3, .int i), (4, .int c)]) hx hb dX11_forecast_35 hl (by decide) rfl (fun ls hl => ?_)
      refine lv_iload hx hb dX11_forecast_37 (lv_at hl 0 rfl) ?_
      refine lv_if_eq (tgt := 45) hx hb dX11_forecast_39 (by decide) (fun c_11 => ?_) (fun c_11 => ?_)
      · exact absurd c_11 (by decide)
      · refine lv_iload hx hb dX11_forecast_42 (lv_at hl 0 rfl) ?_
        have hq_12 := h_9
        have hend := kw_eq1 hq_12 hfr_10
        rw [hend] at hw
        exact W.iret hx hb hr (fun t ht _ => ⟨rfl, by rw [ht]; exact hw.1, hw.2.2.1, hw.2.1.F ht, by rw [ht]; exact hw.2.2.2⟩) hw.2.1.2.2 dX11_forecast_44
    · exact absurd hcc c_6
set_option maxHeartbeats 4000000 in
set_option maxRecDepth 100000 in
theorem c_X11_forecast_n (l : Launch) (D : va_G) (tc : Nat → ClassId) (sz : Nat) (ad : Nat → Nat) (ct : Nat → Option va_E) {N nt no nf : Nat} {ft tr b cm da bs : Int32} {g : Int64}       {la : Nat → Int32}          {k : Nat} {lane i c : Int32} (h0 : ct 200 = some (.inr (11, [.int ft, .int tr, .int (nI N), .int b, .ref (ad 201), .long g, .int cm, .int da, .int (nI nt), .ref (ad 202), .ref (ad 203), .ref (ad 204), .ref (ad 205), .ref (ad 206), .ref (ad 207), .ref (ad 208), .ref (ad 209), .int (nI no), .ref (ad 210), .ref (ad 211), .ref (ad 212), .ref (ad 213), .ref (ad 214), .int bs, .int (nI nf), .ref (ad 215), .ref (ad 216)]))) (h207 : ct 207 = some (eI tc 4 la)) (hk4 : k < 4) (hcc : 0 ≤ c ∧ c < nI N) (hL : 0 ≤ lane.toInt64 ∧ lane.toInt64 ≤ 2) (ha1 : la k = (-9)) : Met l yX11_forecast wsX11_forecast ({ frames := 2, cells := 0, slots := 0, locals := 59 }) (va_Pc [.ref (ad 200), .int (nI k), .int lane, .int i, .int c] (kw_B D tc sz ad ct)) (kw_Q D ad (kw_A ad ct sz) (some (.int ((-10) - 1))) (kw_up ct 200 (.inr (11, [.int 1, .int tr, .int (nI N), .int b, .ref (ad 201), .long g, .int cm, .int da, .int (nI nt), .ref (ad 202), .ref (ad 203), .ref (ad 204), .ref (ad 205), .ref (ad 206), .ref (ad 207), .ref (ad 208), .ref (ad 209), .int (nI no), .ref (ad 210), .ref (ad 211), .ref (ad 212), .ref (ad 213), .ref (ad 214), .int bs, .int (nI nf), .ref (ad 215), .ref (ad 216)]))) 0) 0 0 (kw_A ad ct sz) := by
  refine Met.ofW (cc := cX11_forecast) (maxL := 7) (ret := (some .int)) (by decide) rfl ?_
  intro pg en s m args below meth cod s₁ B hml hv
  obtain ⟨rfl, hsz, hP0, hK⟩ := hv
  have hx := B.exec
  have hb := B.bytes
  have hr := B.returns
  have hts := atoms_spec (ws := wsX11_forecast) B.pre
  have hown : s.vm.findClass RX11 = some m.cls := findClass_of_methodNamed B.named
  have hlocks := B.notSynchronized
  subst hsz
  have hw := kw_H.start hP0
  generalize hAe : kw_A ad ct s.heap.size = A at hw ⊢
  have hA : ∀ q, s.heap.size ≤ q → A q := fun q h => by rw [← hAe]; exact Or.inr h
  have hinX11 : ∀ w ∈ wsX110, w ∈ wsX11_forecast := by decide +kernel
  have hl := lv_entry ([.ref (ad 200), .int (nI k), .int lane, .int i, .int c]) (n := 7) (Nat.le_of_ble_eq_true rfl)
  rw [lg_entry_eq]
  generalize (lg_sl ([.ref (ad 200), .int (nI k), .int lane, .int i, .int c]) ++ List.replicate (7 - (lg_sl ([.ref (ad 200), .int (nI k), .int lane, .int i, .int c])).length) Slot.unset).toArray = ls at hl ⊢
  have hl : lv_has ls 7 [(0, .ref (ad 200)), (1, .int (nI k)), (2, .int lane), (3, .int i), (4, .int c)] := hl
  have S0 : CallFix pg m cod cX11_forecast 7 s _ wsX11_forecast RX11 := ⟨hx, hb, hml, hown, hts⟩
  have hfr : ∀ j, j ≠ 200 → ct j = ct j := fun _ _ => rfl
  have kK : 0 ≤ (nI k).toInt64 ∧ (nI k).toInt64 ≤ 3 := kwl k 3 (by omega) (by omega)
  refine lv_aload_n hx hb dX11_forecast_0 rfl (lv_at hl 0 rfl) ?_
  refine lv_iconst (v := 0) hx hb dX11_forecast_1 (by decide) ?_
  refine kg_put (v := .int 0) (ty := .int) (C := RX11) (T := TX11) (N := 27) (fs' := [.int 0, .int tr, .int (nI N), .int b, .ref (ad 201), .long g, .int cm, .int da, .int (nI nt), .ref (ad 202), .ref (ad 203), .ref (ad 204), .ref (ad 205), .ref (ad 206), .ref (ad 207), .ref (ad 208), .ref (ad 209), .int (nI no), .ref (ad 210), .ref (ad 211), .ref (ad 212), .ref (ad 213), .ref (ad 214), .int bs, .int (nI nf), .ref (ad 215), .ref (ad 216)]) hx hb hts hinX11 tyX11 tyX11_ok nmX11 hown hK hw h0 rfl 0 (by decide) (hts (.fieldLink RX11 69 "BetMakerModel" "fault" "I") (by decide +kernel)) (fun _ h9 => h9) rfl (by decide +kernel) rfl rfl (Nat.le_of_ble_eq_true rfl) rfl dX11_forecast_2 (fun H locs hw => ?_)
  obtain ⟨ct_1, ect_1⟩ : ∃ z, z = kw_up ct 200 (.inr (11, [.int 0, .int tr, .int (nI N), .int b, .ref (ad 201), .long g, .int cm, .int da, .int (nI nt), .ref (ad 202), .ref (ad 203), .ref (ad 204), .ref (ad 205), .ref (ad 206), .ref (ad 207), .ref (ad 208), .ref (ad 209), .int (nI no), .ref (ad 210), .ref (ad 211), .ref (ad 212), .ref (ad 213), .ref (ad 214), .int bs, .int (nI nf), .ref (ad 215), .ref (ad 216)])) := ⟨_, rfl⟩
  rw [← ect_1] at hw
  have h_2 : ct_1 207 = some (eI tc 4 la) := by rw [ect_1, kw_up_n (by decide)]; exact h207
  have h_3 : ct_1 200 = some (.inr (11, [.int 0, .int tr, .int (nI N), .int b, .ref (ad 201), .long g, .int cm, .int da, .int (nI nt), .ref (ad 202), .ref (ad 203), .ref (ad 204), .ref (ad 205), .ref (ad 206), .ref (ad 207), .ref (ad 208), .ref (ad 209), .int (nI no), .ref (ad 210), .ref (ad 211), .ref (ad 212), .ref (ad 213), .ref (ad 214), .int bs, .int (nI nf), .ref (ad 215), .ref (ad 216)])) := by rw [ect_1]; exact kw_up_s
  have hfr_4 : ∀ j, j ≠ 200 → ct_1 j = ct j := fun j a0 => by rw [ect_1]; exact (kw_up_n a0).trans (hfr j a0)
  refine lv_iload_n hx hb dX11_forecast_5 rfl (lv_at hl 1 rfl) ?_
  refine lv_i2l (v := (nI k).toInt64) hx hb dX11_forecast_6 rfl ?_
  refine lv_lconst (v := 0) hx hb dX11_forecast_7 (by decide) ?_
  refine lv_ldc2 (v := 3) hx hb hown (hts (.constantLong RX11 165 (3)) (by decide +kernel)) dX11_forecast_8 ?_
  refine kc_s (As := [.long ((nI k).toInt64), .long 0, .long 3]) (rest := []) S0 (c_X11_within l D tc s.heap.size ad ct_1 ) (va_cwS 3 hts gX11_forecast_X11_within rfl rfl rfl (by decide +kernel) ⟨Nat.le_of_ble_eq_true rfl, Nat.le_of_ble_eq_true rfl⟩) hK hw rfl hl.1 rfl (Nat.le_of_ble_eq_true rfl) dX11_forecast_11 ⟨Nat.le_of_ble_eq_true rfl, (Nat.le_of_ble_eq_true rfl)⟩ ?_
  refine kb_ifeq (tgt := 26) hx hb dX11_forecast_14 (by decide) (fun c_5 => ?_) (fun c_5 => ?_)
  · exact absurd kK c_5
  · refine lv_aload_n hx hb dX11_forecast_17 rfl (lv_at hl 0 rfl) ?_
    refine lv_iload hx hb dX11_forecast_18 (lv_at hl 4 rfl) ?_
    refine kc_v (As := [.int c]) (rest := []) S0 (c_X11_isCase l D tc s.heap.size ad ct_1 (N := N) (nt := nt) (no := no) (nf := nf) h_3) (cwV 1 hts gX11_forecast_X11_isCase rfl rfl rfl (by decide +kernel) ⟨Nat.le_of_ble_eq_true rfl, Nat.le_of_ble_eq_true rfl⟩) hK hw h_3 rfl rfl hl.1 rfl (Nat.le_of_ble_eq_true rfl) dX11_forecast_20 ⟨Nat.le_of_ble_eq_true rfl, (Nat.le_of_ble_eq_true rfl)⟩ ?_
    refine kb_ifne (tgt := 28) hx hb dX11_forecast_23 (by decide) (fun c_6 => ?_) (fun c_6 => ?_)
    · refine lv_aload_n hx hb dX11_forecast_28 rfl (lv_at hl 0 rfl) ?_
      refine lv_iload_n hx hb dX11_forecast_29 rfl (lv_at hl 1 rfl) ?_
      refine lv_iload_n hx hb dX11_forecast_30 rfl (lv_at hl 2 rfl) ?_
      refine lv_iload_n hx hb dX11_forecast_31 rfl (lv_at hl 3 rfl) ?_
      refine kc_vu (As := [.int (nI k), .int lane, .int i]) (rest := []) S0 (c_X11_against_n l D tc s.heap.size ad ct_1 (k := k) (N := N) (nt := nt) (no := no) (nf := nf) h_3 h_2 hk4 hL ha1) (cwV 3 hts gX11_forecast_X11_against rfl rfl rfl (by decide +kernel) ⟨Nat.le_of_ble_eq_true rfl, Nat.le_of_ble_eq_true rfl⟩) hK hw hA h_3 rfl rfl hl.1 rfl (Nat.le_of_ble_eq_true rfl) dX11_forecast_32 ⟨Nat.le_of_ble_eq_true rfl, (Nat.le_of_ble_eq_true rfl)⟩ (fun H locs hw => ?_)
      obtain ⟨ct_7, ect_7⟩ : ∃ z, z = kw_up ct_1 200 (.inr (11, [.int 1, .int tr, .int (nI N), .int b, .ref (ad 201), .long g, .int cm, .int da, .int (nI nt), .ref (ad 202), .ref (ad 203), .ref (ad 204), .ref (ad 205), .ref (ad 206), .ref (ad 207), .ref (ad 208), .ref (ad 209), .int (nI no), .ref (ad 210), .ref (ad 211), .ref (ad 212), .ref (ad 213), .ref (ad 214), .int bs, .int (nI nf), .ref (ad 215), .ref (ad 216)])) := ⟨_, rfl⟩
      rw [← ect_7] at hw
      have h_8 : ct_7 207 = some (eI tc 4 la) := by rw [ect_7, kw_up_n (by decide)]; exact h_2
      have h_9 : ct_7 200 = some (.inr (11, [.int 1, .int tr, .int (nI N), .int b, .ref (ad 201), .long g, .int cm, .int da, .int (nI nt), .ref (ad 202), .ref (ad 203), .ref (ad 204), .ref (ad 205), .ref (ad 206), .ref (ad 207), .ref (ad 208), .ref (ad 209), .int (nI no), .ref (ad 210), .ref (ad 211), .ref (ad 212), .ref (ad 213), .ref (ad 214), .int bs, .int (nI nf), .ref (ad 215), .ref (ad 216)])) := by rw [ect_7]; exact kw_up_s
      have hfr_10 : ∀ j, j ≠ 200 → ct_7 j = ct j := fun j a0 => by rw [ect_7]; exact (kw_up_n a0).trans (hfr_4 j a0)
      refine lv_istore (lv' := [(5, .int ((-10) - 1)), (0, .ref (ad 200)), (1, .int (nI k)), (2, .int lane), (3, .int i), (4, .int c)]) hx hb dX11_forecast_35 hl (by decide) rfl (fun ls hl => ?_)
      refine lv_iload hx hb dX11_forecast_37 (lv_at hl 0 rfl) ?_
      refine lv_if_eq (tgt := 45) hx hb dX11_forecast_39 (by decide) (fun c_11 => ?_) (fun c_11 => ?_)
      · exact absurd c_11 (by decide)
      · refine lv_iload hx hb dX11_forecast_42 (lv_at hl 0 rfl) ?_
        have hq_12 := h_9
        have hend := kw_eq1 hq_12 hfr_10
        rw [hend] at hw
        exact W.iret hx hb hr (fun t ht _ => ⟨rfl, by rw [ht]; exact hw.1, hw.2.2.1, hw.2.1.F ht, by rw [ht]; exact hw.2.2.2⟩) hw.2.1.2.2 dX11_forecast_44
    · exact absurd hcc c_6
set_option maxHeartbeats 4000000 in
set_option maxRecDepth 100000 in
theorem c_X11_forecast_x (l : Launch) (D : va_G) (tc : Nat → ClassId) (sz : Nat) (ad : Nat → Nat) (ct : Nat → Option va_E) {N nt no nf : Nat} {ft tr b cm da bs : Int32} {g : Int64}       {la : Nat → Int32} {sl : Nat → Int32}         {k : Nat} {lane i c : Int32} (h0 : ct 200 = some (.inr (11, [.int ft, .int tr, .int (nI N), .int b, .ref (ad 201), .long g, .int cm, .int da, .int (nI nt), .ref (ad 202), .ref (ad 203), .ref (ad 204), .ref (ad 205), .ref (ad 206), .ref (ad 207), .ref (ad 208), .ref (ad 209), .int (nI no), .ref (ad 210), .ref (ad 211), .ref (ad 212), .ref (ad 213), .ref (ad 214), .int bs, .int (nI nf), .ref (ad 215), .ref (ad 216)]))) (h207 : ct 207 = some (eI tc 4 la)) (h208 : ct 208 = some (eI tc 4 sl)) (hk4 : k < 4) (hcc : 0 ≤ c ∧ c < nI N) (hL : 0 ≤ lane.toInt64 ∧ lane.toInt64 ≤ 2) (ha1 : ¬ (la k = (-9))) (ha2 : la k = lane) (hxx : i < 0 ∨ ¬ i ≤ sl k - nI N) : Met l yX11_forecast wsX11_forecast ({ frames := 2, cells := 0, slots := 0, locals := 59 }) (va_Pc [.ref (ad 200), .int (nI k), .int lane, .int i, .int c] (kw_B D tc sz ad ct)) (kw_Q D ad (kw_A ad ct sz) (some (.int ((-10) - 3))) (kw_up ct 200 (.inr (11, [.int 3, .int tr, .int (nI N), .int b, .ref (ad 201), .long g, .int cm, .int da, .int (nI nt), .ref (ad 202), .ref (ad 203), .ref (ad 204), .ref (ad 205), .ref (ad 206), .ref (ad 207), .ref (ad 208), .ref (ad 209), .int (nI no), .ref (ad 210), .ref (ad 211), .ref (ad 212), .ref (ad 213), .ref (ad 214), .int bs, .int (nI nf), .ref (ad 215), .ref (ad 216)]))) 0) 0 0 (kw_A ad ct sz) := by
  refine Met.ofW (cc := cX11_forecast) (maxL := 7) (ret := (some .int)) (by decide) rfl ?_
  intro pg en s m args below meth cod s₁ B hml hv
  obtain ⟨rfl, hsz, hP0, hK⟩ := hv
  have hx := B.exec
  have hb := B.bytes
  have hr := B.returns
  have hts := atoms_spec (ws := wsX11_forecast) B.pre
  have hown : s.vm.findClass RX11 = some m.cls := findClass_of_methodNamed B.named
  have hlocks := B.notSynchronized
  subst hsz
  have hw := kw_H.start hP0
  generalize hAe : kw_A ad ct s.heap.size = A at hw ⊢
  have hA : ∀ q, s.heap.size ≤ q → A q := fun q h => by rw [← hAe]; exact Or.inr h
  have hinX11 : ∀ w ∈ wsX110, w ∈ wsX11_forecast := by decide +kernel
  have hl := lv_entry ([.ref (ad 200), .int (nI k), .int lane, .int i, .int c]) (n := 7) (Nat.le_of_ble_eq_true rfl)
  rw [lg_entry_eq]
  generalize (lg_sl ([.ref (ad 200), .int (nI k), .int lane, .int i, .int c]) ++ List.replicate (7 - (lg_sl ([.ref (ad 200), .int (nI k), .int lane, .int i, .int c])).length) Slot.unset).toArray = ls at hl ⊢
  have hl : lv_has ls 7 [(0, .ref (ad 200)), (1, .int (nI k)), (2, .int lane), (3, .int i), (4, .int c)] := hl
  have S0 : CallFix pg m cod cX11_forecast 7 s _ wsX11_forecast RX11 := ⟨hx, hb, hml, hown, hts⟩
  have hfr : ∀ j, j ≠ 200 → ct j = ct j := fun _ _ => rfl
  have kK : 0 ≤ (nI k).toInt64 ∧ (nI k).toInt64 ≤ 3 := kwl k 3 (by omega) (by omega)
  refine lv_aload_n hx hb dX11_forecast_0 rfl (lv_at hl 0 rfl) ?_
  refine lv_iconst (v := 0) hx hb dX11_forecast_1 (by decide) ?_
  refine kg_put (v := .int 0) (ty := .int) (C := RX11) (T := TX11) (N := 27) (fs' := [.int 0, .int tr, .int (nI N), .int b, .ref (ad 201), .long g, .int cm, .int da, .int (nI nt), .ref (ad 202), .ref (ad 203), .ref (ad 204), .ref (ad 205), .ref (ad 206), .ref (ad 207), .ref (ad 208), .ref (ad 209), .int (nI no), .ref (ad 210), .ref (ad 211), .ref (ad 212), .ref (ad 213), .ref (ad 214), .int bs, .int (nI nf), .ref (ad 215), .ref (ad 216)]) hx hb hts hinX11 tyX11 tyX11_ok nmX11 hown hK hw h0 rfl 0 (by decide) (hts (.fieldLink RX11 69 "BetMakerModel" "fault" "I") (by decide +kernel)) (fun _ h9 => h9) rfl (by decide +kernel) rfl rfl (Nat.le_of_ble_eq_true rfl) rfl dX11_forecast_2 (fun H locs hw => ?_)
  obtain ⟨ct_1, ect_1⟩ : ∃ z, z = kw_up ct 200 (.inr (11, [.int 0, .int tr, .int (nI N), .int b, .ref (ad 201), .long g, .int cm, .int da, .int (nI nt), .ref (ad 202), .ref (ad 203), .ref (ad 204), .ref (ad 205), .ref (ad 206), .ref (ad 207), .ref (ad 208), .ref (ad 209), .int (nI no), .ref (ad 210), .ref (ad 211), .ref (ad 212), .ref (ad 213), .ref (ad 214), .int bs, .int (nI nf), .ref (ad 215), .ref (ad 216)])) := ⟨_, rfl⟩
  rw [← ect_1] at hw
  have h_2 : ct_1 207 = some (eI tc 4 la) := by rw [ect_1, kw_up_n (by decide)]; exact h207
  have h_3 : ct_1 208 = some (eI tc 4 sl) := by rw [ect_1, kw_up_n (by decide)]; exact h208
  have h_4 : ct_1 200 = some (.inr (11, [.int 0, .int tr, .int (nI N), .int b, .ref (ad 201), .long g, .int cm, .int da, .int (nI nt), .ref (ad 202), .ref (ad 203), .ref (ad 204), .ref (ad 205), .ref (ad 206), .ref (ad 207), .ref (ad 208), .ref (ad 209), .int (nI no), .ref (ad 210), .ref (ad 211), .ref (ad 212), .ref (ad 213), .ref (ad 214), .int bs, .int (nI nf), .ref (ad 215), .ref (ad 216)])) := by rw [ect_1]; exact kw_up_s
  have hfr_5 : ∀ j, j ≠ 200 → ct_1 j = ct j := fun j a0 => by rw [ect_1]; exact (kw_up_n a0).trans (hfr j a0)
  refine lv_iload_n hx hb dX11_forecast_5 rfl (lv_at hl 1 rfl) ?_
  refine lv_i2l (v := (nI k).toInt64) hx hb dX11_forecast_6 rfl ?_
  refine lv_lconst (v := 0) hx hb dX11_forecast_7 (by decide) ?_
  refine lv_ldc2 (v := 3) hx hb hown (hts (.constantLong RX11 165 (3)) (by decide +kernel)) dX11_forecast_8 ?_
  refine kc_s (As := [.long ((nI k).toInt64), .long 0, .long 3]) (rest := []) S0 (c_X11_within l D tc s.heap.size ad ct_1 ) (va_cwS 3 hts gX11_forecast_X11_within rfl rfl rfl (by decide +kernel) ⟨Nat.le_of_ble_eq_true rfl, Nat.le_of_ble_eq_true rfl⟩) hK hw rfl hl.1 rfl (Nat.le_of_ble_eq_true rfl) dX11_forecast_11 ⟨Nat.le_of_ble_eq_true rfl, (Nat.le_of_ble_eq_true rfl)⟩ ?_
  refine kb_ifeq (tgt := 26) hx hb dX11_forecast_14 (by decide) (fun c_6 => ?_) (fun c_6 => ?_)
  · exact absurd kK c_6
  · refine lv_aload_n hx hb dX11_forecast_17 rfl (lv_at hl 0 rfl) ?_
    refine lv_iload hx hb dX11_forecast_18 (lv_at hl 4 rfl) ?_
    refine kc_v (As := [.int c]) (rest := []) S0 (c_X11_isCase l D tc s.heap.size ad ct_1 (N := N) (nt := nt) (no := no) (nf := nf) h_4) (cwV 1 hts gX11_forecast_X11_isCase rfl rfl rfl (by decide +kernel) ⟨Nat.le_of_ble_eq_true rfl, Nat.le_of_ble_eq_true rfl⟩) hK hw h_4 rfl rfl hl.1 rfl (Nat.le_of_ble_eq_true rfl) dX11_forecast_20 ⟨Nat.le_of_ble_eq_true rfl, (Nat.le_of_ble_eq_true rfl)⟩ ?_
    refine kb_ifne (tgt := 28) hx hb dX11_forecast_23 (by decide) (fun c_7 => ?_) (fun c_7 => ?_)
    · refine lv_aload_n hx hb dX11_forecast_28 rfl (lv_at hl 0 rfl) ?_
      refine lv_iload_n hx hb dX11_forecast_29 rfl (lv_at hl 1 rfl) ?_
      refine lv_iload_n hx hb dX11_forecast_30 rfl (lv_at hl 2 rfl) ?_
      refine lv_iload_n hx hb dX11_forecast_31 rfl (lv_at hl 3 rfl) ?_
      refine kc_vu (As := [.int (nI k), .int lane, .int i]) (rest := []) S0 (c_X11_against_x l D tc s.heap.size ad ct_1 (k := k) (N := N) (nt := nt) (no := no) (nf := nf) h_4 h_2 h_3 hk4 hL ha1 ha2 hxx) (cwV 3 hts gX11_forecast_X11_against rfl rfl rfl (by decide +kernel) ⟨Nat.le_of_ble_eq_true rfl, Nat.le_of_ble_eq_true rfl⟩) hK hw hA h_4 rfl rfl hl.1 rfl (Nat.le_of_ble_eq_true rfl) dX11_forecast_32 ⟨Nat.le_of_ble_eq_true rfl, (Nat.le_of_ble_eq_true rfl)⟩ (fun H locs hw => ?_)
      obtain ⟨ct_8, ect_8⟩ : ∃ z, z = kw_up ct_1 200 (.inr (11, [.int 3, .int tr, .int (nI N), .int b, .ref (ad 201), .long g, .int cm, .int da, .int (nI nt), .ref (ad 202), .ref (ad 203), .ref (ad 204), .ref (ad 205), .ref (ad 206), .ref (ad 207), .ref (ad 208), .ref (ad 209), .int (nI no), .ref (ad 210), .ref (ad 211), .ref (ad 212), .ref (ad 213), .ref (ad 214), .int bs, .int (nI nf), .ref (ad 215), .ref (ad 216)])) := ⟨_, rfl⟩
      rw [← ect_8] at hw
      have h_9 : ct_8 207 = some (eI tc 4 la) := by rw [ect_8, kw_up_n (by decide)]; exact h_2
      have h_10 : ct_8 208 = some (eI tc 4 sl) := by rw [ect_8, kw_up_n (by decide)]; exact h_3
      have h_11 : ct_8 200 = some (.inr (11, [.int 3, .int tr, .int (nI N), .int b, .ref (ad 201), .long g, .int cm, .int da, .int (nI nt), .ref (ad 202), .ref (ad 203), .ref (ad 204), .ref (ad 205), .ref (ad 206), .ref (ad 207), .ref (ad 208), .ref (ad 209), .int (nI no), .ref (ad 210), .ref (ad 211), .ref (ad 212), .ref (ad 213), .ref (ad 214), .int bs, .int (nI nf), .ref (ad 215), .ref (ad 216)])) := by rw [ect_8]; exact kw_up_s
      have hfr_12 : ∀ j, j ≠ 200 → ct_8 j = ct j := fun j a0 => by rw [ect_8]; exact (kw_up_n a0).trans (hfr_5 j a0)
      refine lv_istore (lv' := [(5, .int ((-10) - 3)), (0, .ref (ad 200)), (1, .int (nI k)), (2, .int lane), (3, .int i), (4, .int c)]) hx hb dX11_forecast_35 hl (by decide) rfl (fun ls hl => ?_)
      refine lv_iload hx hb dX11_forecast_37 (lv_at hl 0 rfl) ?_
      refine lv_if_eq (tgt := 45) hx hb dX11_forecast_39 (by decide) (fun c_13 => ?_) (fun c_13 => ?_)
      · exact absurd c_13 (by decide)
      · refine lv_iload hx hb dX11_forecast_42 (lv_at hl 0 rfl) ?_
        have hq_14 := h_11
        have hend := kw_eq1 hq_14 hfr_12
        rw [hend] at hw
        exact W.iret hx hb hr (fun t ht _ => ⟨rfl, by rw [ht]; exact hw.1, hw.2.2.1, hw.2.1.F ht, by rw [ht]; exact hw.2.2.2⟩) hw.2.1.2.2 dX11_forecast_44
    · exact absurd hcc c_7
set_option maxHeartbeats 4000000 in
set_option maxRecDepth 100000 in
theorem c_X11_forecast_v (l : Launch) (D : va_G) (tc : Nat → ClassId) (sz : Nat) (ad : Nat → Nat) (ct : Nat → Option va_E) {N nt no nf : Nat} {ft tr b cm da bs : Int32} {g : Int64}       {la : Nat → Int32} {sl : Nat → Int32} {ce : Nat → Int32}        {k i n : Nat} {lane c : Int32} (h0 : ct 200 = some (.inr (11, [.int ft, .int tr, .int (nI N), .int b, .ref (ad 201), .long g, .int cm, .int da, .int (nI nt), .ref (ad 202), .ref (ad 203), .ref (ad 204), .ref (ad 205), .ref (ad 206), .ref (ad 207), .ref (ad 208), .ref (ad 209), .int (nI no), .ref (ad 210), .ref (ad 211), .ref (ad 212), .ref (ad 213), .ref (ad 214), .int bs, .int (nI nf), .ref (ad 215), .ref (ad 216)]))) (h207 : ct 207 = some (eI tc 4 la)) (h208 : ct 208 = some (eI tc 4 sl)) (h209 : ct 209 = some (eI tc 96 ce)) (hk4 : k < 4) (hcc : 0 ≤ c ∧ c < nI N) (hL : 0 ≤ lane.toInt64 ∧ lane.toInt64 ≤ 2) (ha1 : ¬ (la k = (-9))) (ha2 : la k = lane) (hiN : i + N ≤ n) (hn24 : n ≤ 24) (hsl : sl k = nI n) (hN : N ≤ 8) (hbad : ¬ (kall (kWi (fun c => ce (24 * k + i + c))) N = true ∧ ¬ sw (fun c => ce (24 * k + i + c)) N = 0)) : Met l yX11_forecast wsX11_forecast ({ frames := 2, cells := 0, slots := 0, locals := 59 }) (va_Pc [.ref (ad 200), .int (nI k), .int lane, .int (nI i), .int c] (kw_B D tc sz ad ct)) (kw_Q D ad (kw_A ad ct sz) (some (.int (-2))) (kw_up ct 200 (.inr (11, [.int 0, .int tr, .int (nI N), .int b, .ref (ad 201), .long g, .int cm, .int da, .int (nI nt), .ref (ad 202), .ref (ad 203), .ref (ad 204), .ref (ad 205), .ref (ad 206), .ref (ad 207), .ref (ad 208), .ref (ad 209), .int (nI no), .ref (ad 210), .ref (ad 211), .ref (ad 212), .ref (ad 213), .ref (ad 214), .int bs, .int (nI nf), .ref (ad 215), .ref (ad 216)]))) 0) 0 0 (kw_A ad ct sz) := by
  refine Met.ofW (cc := cX11_forecast) (maxL := 7) (ret := (some .int)) (by decide) rfl ?_
  intro pg en s m args below meth cod s₁ B hml hv
  obtain ⟨rfl, hsz, hP0, hK⟩ := hv
  have hx := B.exec
  have hb := B.bytes
  have hr := B.returns
  have hts := atoms_spec (ws := wsX11_forecast) B.pre
  have hown : s.vm.findClass RX11 = some m.cls := findClass_of_methodNamed B.named
  have hlocks := B.notSynchronized
  subst hsz
  have hw := kw_H.start hP0
  generalize hAe : kw_A ad ct s.heap.size = A at hw ⊢
  have hA : ∀ q, s.heap.size ≤ q → A q := fun q h => by rw [← hAe]; exact Or.inr h
  have hinX11 : ∀ w ∈ wsX110, w ∈ wsX11_forecast := by decide +kernel
  have hl := lv_entry ([.ref (ad 200), .int (nI k), .int lane, .int (nI i), .int c]) (n := 7) (Nat.le_of_ble_eq_true rfl)
  rw [lg_entry_eq]
  generalize (lg_sl ([.ref (ad 200), .int (nI k), .int lane, .int (nI i), .int c]) ++ List.replicate (7 - (lg_sl ([.ref (ad 200), .int (nI k), .int lane, .int (nI i), .int c])).length) Slot.unset).toArray = ls at hl ⊢
  have hl : lv_has ls 7 [(0, .ref (ad 200)), (1, .int (nI k)), (2, .int lane), (3, .int (nI i)), (4, .int c)] := hl
  have S0 : CallFix pg m cod cX11_forecast 7 s _ wsX11_forecast RX11 := ⟨hx, hb, hml, hown, hts⟩
  have hfr : ∀ j, j ≠ 200 → ct j = ct j := fun _ _ => rfl
  have kK : 0 ≤ (nI k).toInt64 ∧ (nI k).toInt64 ≤ 3 := kwl k 3 (by omega) (by omega)
  refine lv_aload_n hx hb dX11_forecast_0 rfl (lv_at hl 0 rfl) ?_
  refine lv_iconst (v := 0) hx hb dX11_forecast_1 (by decide) ?_
  refine kg_put (v := .int 0) (ty := .int) (C := RX11) (T := TX11) (N := 27) (fs' := [.int 0, .int tr, .int (nI N), .int b, .ref (ad 201), .long g, .int cm, .int da, .int (nI nt), .ref (ad 202), .ref (ad 203), .ref (ad 204), .ref (ad 205), .ref (ad 206), .ref (ad 207), .ref (ad 208), .ref (ad 209), .int (nI no), .ref (ad 210), .ref (ad 211), .ref (ad 212), .ref (ad 213), .ref (ad 214), .int bs, .int (nI nf), .ref (ad 215), .ref (ad 216)]) hx hb hts hinX11 tyX11 tyX11_ok nmX11 hown hK hw h0 rfl 0 (by decide) (hts (.fieldLink RX11 69 "BetMakerModel" "fault" "I") (by decide +kernel)) (fun _ h9 => h9) rfl (by decide +kernel) rfl rfl (Nat.le_of_ble_eq_true rfl) rfl dX11_forecast_2 (fun H locs hw => ?_)
  obtain ⟨ct_1, ect_1⟩ : ∃ z, z = kw_up ct 200 (.inr (11, [.int 0, .int tr, .int (nI N), .int b, .ref (ad 201), .long g, .int cm, .int da, .int (nI nt), .ref (ad 202), .ref (ad 203), .ref (ad 204), .ref (ad 205), .ref (ad 206), .ref (ad 207), .ref (ad 208), .ref (ad 209), .int (nI no), .ref (ad 210), .ref (ad 211), .ref (ad 212), .ref (ad 213), .ref (ad 214), .int bs, .int (nI nf), .ref (ad 215), .ref (ad 216)])) := ⟨_, rfl⟩
  rw [← ect_1] at hw
  have h_2 : ct_1 207 = some (eI tc 4 la) := by rw [ect_1, kw_up_n (by decide)]; exact h207
  have h_3 : ct_1 208 = some (eI tc 4 sl) := by rw [ect_1, kw_up_n (by decide)]; exact h208
  have h_4 : ct_1 209 = some (eI tc 96 ce) := by rw [ect_1, kw_up_n (by decide)]; exact h209
  have h_5 : ct_1 200 = some (.inr (11, [.int 0, .int tr, .int (nI N), .int b, .ref (ad 201), .long g, .int cm, .int da, .int (nI nt), .ref (ad 202), .ref (ad 203), .ref (ad 204), .ref (ad 205), .ref (ad 206), .ref (ad 207), .ref (ad 208), .ref (ad 209), .int (nI no), .ref (ad 210), .ref (ad 211), .ref (ad 212), .ref (ad 213), .ref (ad 214), .int bs, .int (nI nf), .ref (ad 215), .ref (ad 216)])) := by rw [ect_1]; exact kw_up_s
  have hfr_6 : ∀ j, j ≠ 200 → ct_1 j = ct j := fun j a0 => by rw [ect_1]; exact (kw_up_n a0).trans (hfr j a0)
  refine lv_iload_n hx hb dX11_forecast_5 rfl (lv_at hl 1 rfl) ?_
  refine lv_i2l (v := (nI k).toInt64) hx hb dX11_forecast_6 rfl ?_
  refine lv_lconst (v := 0) hx hb dX11_forecast_7 (by decide) ?_
  refine lv_ldc2 (v := 3) hx hb hown (hts (.constantLong RX11 165 (3)) (by decide +kernel)) dX11_forecast_8 ?_
  refine kc_s (As := [.long ((nI k).toInt64), .long 0, .long 3]) (rest := []) S0 (c_X11_within l D tc s.heap.size ad ct_1 ) (va_cwS 3 hts gX11_forecast_X11_within rfl rfl rfl (by decide +kernel) ⟨Nat.le_of_ble_eq_true rfl, Nat.le_of_ble_eq_true rfl⟩) hK hw rfl hl.1 rfl (Nat.le_of_ble_eq_true rfl) dX11_forecast_11 ⟨Nat.le_of_ble_eq_true rfl, (Nat.le_of_ble_eq_true rfl)⟩ ?_
  refine kb_ifeq (tgt := 26) hx hb dX11_forecast_14 (by decide) (fun c_7 => ?_) (fun c_7 => ?_)
  · exact absurd kK c_7
  · refine lv_aload_n hx hb dX11_forecast_17 rfl (lv_at hl 0 rfl) ?_
    refine lv_iload hx hb dX11_forecast_18 (lv_at hl 4 rfl) ?_
    refine kc_v (As := [.int c]) (rest := []) S0 (c_X11_isCase l D tc s.heap.size ad ct_1 (N := N) (nt := nt) (no := no) (nf := nf) h_5) (cwV 1 hts gX11_forecast_X11_isCase rfl rfl rfl (by decide +kernel) ⟨Nat.le_of_ble_eq_true rfl, Nat.le_of_ble_eq_true rfl⟩) hK hw h_5 rfl rfl hl.1 rfl (Nat.le_of_ble_eq_true rfl) dX11_forecast_20 ⟨Nat.le_of_ble_eq_true rfl, (Nat.le_of_ble_eq_true rfl)⟩ ?_
    refine kb_ifne (tgt := 28) hx hb dX11_forecast_23 (by decide) (fun c_8 => ?_) (fun c_8 => ?_)
    · refine lv_aload_n hx hb dX11_forecast_28 rfl (lv_at hl 0 rfl) ?_
      refine lv_iload_n hx hb dX11_forecast_29 rfl (lv_at hl 1 rfl) ?_
      refine lv_iload_n hx hb dX11_forecast_30 rfl (lv_at hl 2 rfl) ?_
      refine lv_iload_n hx hb dX11_forecast_31 rfl (lv_at hl 3 rfl) ?_
      refine kc_v (As := [.int (nI k), .int lane, .int (nI i)]) (rest := []) S0 (c_X11_against_v l D tc s.heap.size ad ct_1 (k := k) (i := i) (N := N) (nt := nt) (no := no) (nf := nf) h_5 h_2 h_3 h_4 hk4 hL ha1 ha2 hiN hn24 hsl hN hbad) (cwV 3 hts gX11_forecast_X11_against rfl rfl rfl (by decide +kernel) ⟨Nat.le_of_ble_eq_true rfl, Nat.le_of_ble_eq_true rfl⟩) hK hw h_5 rfl rfl hl.1 rfl (Nat.le_of_ble_eq_true rfl) dX11_forecast_32 ⟨Nat.le_of_ble_eq_true rfl, (Nat.le_of_ble_eq_true rfl)⟩ ?_
      refine lv_istore (lv' := [(5, .int (-2)), (0, .ref (ad 200)), (1, .int (nI k)), (2, .int lane), (3, .int (nI i)), (4, .int c)]) hx hb dX11_forecast_35 hl (by decide) rfl (fun ls hl => ?_)
      refine lv_iload hx hb dX11_forecast_37 (lv_at hl 0 rfl) ?_
      refine lv_if_eq (tgt := 45) hx hb dX11_forecast_39 (by decide) (fun c_9 => ?_) (fun c_9 => ?_)
      · exact absurd c_9 (by decide)
      · refine lv_iload hx hb dX11_forecast_42 (lv_at hl 0 rfl) ?_
        have hq_10 := h_5
        have hend := kw_eq1 hq_10 hfr_6
        rw [hend] at hw
        exact W.iret hx hb hr (fun t ht _ => ⟨rfl, by rw [ht]; exact hw.1, hw.2.2.1, hw.2.1.F ht, by rw [ht]; exact hw.2.2.2⟩) hw.2.1.2.2 dX11_forecast_44
    · exact absurd hcc c_8
set_option maxHeartbeats 4000000 in
set_option maxRecDepth 100000 in
theorem c_X11_forecast_f (l : Launch) (D : va_G) (tc : Nat → ClassId) (sz : Nat) (ad : Nat → Nat) (ct : Nat → Option va_E) {N nt no nf : Nat} {ft tr b cm da bs : Int32} {g : Int64}       {la : Nat → Int32} {sl : Nat → Int32} {ce : Nat → Int32}        {k i n : Nat} {lane c : Int32} (h0 : ct 200 = some (.inr (11, [.int ft, .int tr, .int (nI N), .int b, .ref (ad 201), .long g, .int cm, .int da, .int (nI nt), .ref (ad 202), .ref (ad 203), .ref (ad 204), .ref (ad 205), .ref (ad 206), .ref (ad 207), .ref (ad 208), .ref (ad 209), .int (nI no), .ref (ad 210), .ref (ad 211), .ref (ad 212), .ref (ad 213), .ref (ad 214), .int bs, .int (nI nf), .ref (ad 215), .ref (ad 216)]))) (h207 : ct 207 = some (eI tc 4 la)) (h208 : ct 208 = some (eI tc 4 sl)) (h209 : ct 209 = some (eI tc 96 ce)) (hk4 : k < 4) (hcc : 0 ≤ c ∧ c < nI N) (hL : 0 ≤ lane.toInt64 ∧ lane.toInt64 ≤ 2) (ha1 : ¬ (la k = (-9))) (ha2 : la k = lane) (hiN : i + N ≤ n) (hn24 : n ≤ 24) (hsl : sl k = nI n) (hN : N ≤ 8) (hok : kall (kWi (fun c => ce (24 * k + i + c))) N = true) (hnz : ¬ sw (fun c => ce (24 * k + i + c)) N = 0) (hfull : nf = 40) : Met l yX11_forecast wsX11_forecast ({ frames := 2, cells := 0, slots := 0, locals := 59 }) (va_Pc [.ref (ad 200), .int (nI k), .int lane, .int (nI i), .int c] (kw_B D tc sz ad ct)) (kw_Q D ad (kw_A ad ct sz) (some (.int (-4))) (kw_up ct 200 (.inr (11, [.int 0, .int tr, .int (nI N), .int b, .ref (ad 201), .long g, .int cm, .int da, .int (nI nt), .ref (ad 202), .ref (ad 203), .ref (ad 204), .ref (ad 205), .ref (ad 206), .ref (ad 207), .ref (ad 208), .ref (ad 209), .int (nI no), .ref (ad 210), .ref (ad 211), .ref (ad 212), .ref (ad 213), .ref (ad 214), .int bs, .int (nI nf), .ref (ad 215), .ref (ad 216)]))) 0) 0 0 (kw_A ad ct sz) := by
  refine Met.ofW (cc := cX11_forecast) (maxL := 7) (ret := (some .int)) (by decide) rfl ?_
  intro pg en s m args below meth cod s₁ B hml hv
  obtain ⟨rfl, hsz, hP0, hK⟩ := hv
  have hx := B.exec
  have hb := B.bytes
  have hr := B.returns
  have hts := atoms_spec (ws := wsX11_forecast) B.pre
  have hown : s.vm.findClass RX11 = some m.cls := findClass_of_methodNamed B.named
  have hlocks := B.notSynchronized
  subst hsz
  have hw := kw_H.start hP0
  generalize hAe : kw_A ad ct s.heap.size = A at hw ⊢
  have hA : ∀ q, s.heap.size ≤ q → A q := fun q h => by rw [← hAe]; exact Or.inr h
  have hinX11 : ∀ w ∈ wsX110, w ∈ wsX11_forecast := by decide +kernel
  have hl := lv_entry ([.ref (ad 200), .int (nI k), .int lane, .int (nI i), .int c]) (n := 7) (Nat.le_of_ble_eq_true rfl)
  rw [lg_entry_eq]
  generalize (lg_sl ([.ref (ad 200), .int (nI k), .int lane, .int (nI i), .int c]) ++ List.replicate (7 - (lg_sl ([.ref (ad 200), .int (nI k), .int lane, .int (nI i), .int c])).length) Slot.unset).toArray = ls at hl ⊢
  have hl : lv_has ls 7 [(0, .ref (ad 200)), (1, .int (nI k)), (2, .int lane), (3, .int (nI i)), (4, .int c)] := hl
  have S0 : CallFix pg m cod cX11_forecast 7 s _ wsX11_forecast RX11 := ⟨hx, hb, hml, hown, hts⟩
  have hfr : ∀ j, j ≠ 200 → ct j = ct j := fun _ _ => rfl
  have kK : 0 ≤ (nI k).toInt64 ∧ (nI k).toInt64 ≤ 3 := kwl k 3 (by omega) (by omega)
  refine lv_aload_n hx hb dX11_forecast_0 rfl (lv_at hl 0 rfl) ?_
  refine lv_iconst (v := 0) hx hb dX11_forecast_1 (by decide) ?_
  refine kg_put (v := .int 0) (ty := .int) (C := RX11) (T := TX11) (N := 27) (fs' := [.int 0, .int tr, .int (nI N), .int b, .ref (ad 201), .long g, .int cm, .int da, .int (nI nt), .ref (ad 202), .ref (ad 203), .ref (ad 204), .ref (ad 205), .ref (ad 206), .ref (ad 207), .ref (ad 208), .ref (ad 209), .int (nI no), .ref (ad 210), .ref (ad 211), .ref (ad 212), .ref (ad 213), .ref (ad 214), .int bs, .int (nI nf), .ref (ad 215), .ref (ad 216)]) hx hb hts hinX11 tyX11 tyX11_ok nmX11 hown hK hw h0 rfl 0 (by decide) (hts (.fieldLink RX11 69 "BetMakerModel" "fault" "I") (by decide +kernel)) (fun _ h9 => h9) rfl (by decide +kernel) rfl rfl (Nat.le_of_ble_eq_true rfl) rfl dX11_forecast_2 (fun H locs hw => ?_)
  obtain ⟨ct_1, ect_1⟩ : ∃ z, z = kw_up ct 200 (.inr (11, [.int 0, .int tr, .int (nI N), .int b, .ref (ad 201), .long g, .int cm, .int da, .int (nI nt), .ref (ad 202), .ref (ad 203), .ref (ad 204), .ref (ad 205), .ref (ad 206), .ref (ad 207), .ref (ad 208), .ref (ad 209), .int (nI no), .ref (ad 210), .ref (ad 211), .ref (ad 212), .ref (ad 213), .ref (ad 214), .int bs, .int (nI nf), .ref (ad 215), .ref (ad 216)])) := ⟨_, rfl⟩
  rw [← ect_1] at hw
  have h_2 : ct_1 207 = some (eI tc 4 la) := by rw [ect_1, kw_up_n (by decide)]; exact h207
  have h_3 : ct_1 208 = some (eI tc 4 sl) := by rw [ect_1, kw_up_n (by decide)]; exact h208
  have h_4 : ct_1 209 = some (eI tc 96 ce) := by rw [ect_1, kw_up_n (by decide)]; exact h209
  have h_5 : ct_1 200 = some (.inr (11, [.int 0, .int tr, .int (nI N), .int b, .ref (ad 201), .long g, .int cm, .int da, .int (nI nt), .ref (ad 202), .ref (ad 203), .ref (ad 204), .ref (ad 205), .ref (ad 206), .ref (ad 207), .ref (ad 208), .ref (ad 209), .int (nI no), .ref (ad 210), .ref (ad 211), .ref (ad 212), .ref (ad 213), .ref (ad 214), .int bs, .int (nI nf), .ref (ad 215), .ref (ad 216)])) := by rw [ect_1]; exact kw_up_s
  have hfr_6 : ∀ j, j ≠ 200 → ct_1 j = ct j := fun j a0 => by rw [ect_1]; exact (kw_up_n a0).trans (hfr j a0)
  refine lv_iload_n hx hb dX11_forecast_5 rfl (lv_at hl 1 rfl) ?_
  refine lv_i2l (v := (nI k).toInt64) hx hb dX11_forecast_6 rfl ?_
  refine lv_lconst (v := 0) hx hb dX11_forecast_7 (by decide) ?_
  refine lv_ldc2 (v := 3) hx hb hown (hts (.constantLong RX11 165 (3)) (by decide +kernel)) dX11_forecast_8 ?_
  refine kc_s (As := [.long ((nI k).toInt64), .long 0, .long 3]) (rest := []) S0 (c_X11_within l D tc s.heap.size ad ct_1 ) (va_cwS 3 hts gX11_forecast_X11_within rfl rfl rfl (by decide +kernel) ⟨Nat.le_of_ble_eq_true rfl, Nat.le_of_ble_eq_true rfl⟩) hK hw rfl hl.1 rfl (Nat.le_of_ble_eq_true rfl) dX11_forecast_11 ⟨Nat.le_of_ble_eq_true rfl, (Nat.le_of_ble_eq_true rfl)⟩ ?_
  refine kb_ifeq (tgt := 26) hx hb dX11_forecast_14 (by decide) (fun c_7 => ?_) (fun c_7 => ?_)
  · exact absurd kK c_7
  · refine lv_aload_n hx hb dX11_forecast_17 rfl (lv_at hl 0 rfl) ?_
    refine lv_iload hx hb dX11_forecast_18 (lv_at hl 4 rfl) ?_
    refine kc_v (As := [.int c]) (rest := []) S0 (c_X11_isCase l D tc s.heap.size ad ct_1 (N := N) (nt := nt) (no := no) (nf := nf) h_5) (cwV 1 hts gX11_forecast_X11_isCase rfl rfl rfl (by decide +kernel) ⟨Nat.le_of_ble_eq_true rfl, Nat.le_of_ble_eq_true rfl⟩) hK hw h_5 rfl rfl hl.1 rfl (Nat.le_of_ble_eq_true rfl) dX11_forecast_20 ⟨Nat.le_of_ble_eq_true rfl, (Nat.le_of_ble_eq_true rfl)⟩ ?_
    refine kb_ifne (tgt := 28) hx hb dX11_forecast_23 (by decide) (fun c_8 => ?_) (fun c_8 => ?_)
    · refine lv_aload_n hx hb dX11_forecast_28 rfl (lv_at hl 0 rfl) ?_
      refine lv_iload_n hx hb dX11_forecast_29 rfl (lv_at hl 1 rfl) ?_
      refine lv_iload_n hx hb dX11_forecast_30 rfl (lv_at hl 2 rfl) ?_
      refine lv_iload_n hx hb dX11_forecast_31 rfl (lv_at hl 3 rfl) ?_
      refine kc_v (As := [.int (nI k), .int lane, .int (nI i)]) (rest := []) S0 (c_X11_against l D tc s.heap.size ad ct_1 (k := k) (i := i) (N := N) (nt := nt) (no := no) (nf := nf) h_5 h_2 h_3 h_4 hk4 hL ha1 ha2 hiN hn24 hsl hN hok hnz) (cwV 3 hts gX11_forecast_X11_against rfl rfl rfl (by decide +kernel) ⟨Nat.le_of_ble_eq_true rfl, Nat.le_of_ble_eq_true rfl⟩) hK hw h_5 rfl rfl hl.1 rfl (Nat.le_of_ble_eq_true rfl) dX11_forecast_32 ⟨Nat.le_of_ble_eq_true rfl, (Nat.le_of_ble_eq_true rfl)⟩ ?_
      refine lv_istore (lv' := [(5, .int 0), (0, .ref (ad 200)), (1, .int (nI k)), (2, .int lane), (3, .int (nI i)), (4, .int c)]) hx hb dX11_forecast_35 hl (by decide) rfl (fun ls hl => ?_)
      refine lv_iload hx hb dX11_forecast_37 (lv_at hl 0 rfl) ?_
      refine lv_if_eq (tgt := 45) hx hb dX11_forecast_39 (by decide) (fun c_9 => ?_) (fun c_9 => ?_)
      · refine lv_aload_n hx hb dX11_forecast_45 rfl (lv_at hl 1 rfl) ?_
        refine kg_get (v := .int (nI nf)) (C := RX11) (T := TX11) (N := 27) hx hb hts hinX11 hown hK hw h_5 rfl 24 (by decide) (hts (.fieldLink RX11 99 "BetMakerModel" "forecasts" "I") (by decide +kernel)) (fun _ h9 => h9) rfl dX11_forecast_46 ?_
        refine lv_bipush (v := 40) hx hb dX11_forecast_49 (by decide) ?_
        refine kn_ne nf 40 rfl rfl (by omega) (by omega) (tgt := 57) hx hb dX11_forecast_51 (by decide) (fun c_10 => ?_) (fun c_10 => ?_)
        · exfalso; omega
        · refine lv_bipush (v := (-4)) hx hb dX11_forecast_54 (by decide) ?_
          have hq_11 := h_5
          have hend := kw_eq1 hq_11 hfr_6
          rw [hend] at hw
          exact W.iret hx hb hr (fun t ht _ => ⟨rfl, by rw [ht]; exact hw.1, hw.2.2.1, hw.2.1.F ht, by rw [ht]; exact hw.2.2.2⟩) hw.2.1.2.2 dX11_forecast_56
      · exact absurd c_9 (by decide)
    · exact absurd hcc c_8
set_option maxHeartbeats 4000000 in
set_option maxRecDepth 100000 in
theorem c_X11_forecast (l : Launch) (D : va_G) (tc : Nat → ClassId) (sz : Nat) (ad : Nat → Nat) (ct : Nat → Option va_E) {N nt no nf : Nat} {ft tr b cm da bs : Int32} {g : Int64}       {la : Nat → Int32} {sl : Nat → Int32} {ce : Nat → Int32}      {tl : Nat → Int32} {ca : Nat → Int32} {k i n : Nat} {lane c : Int32} (h0 : ct 200 = some (.inr (11, [.int ft, .int tr, .int (nI N), .int b, .ref (ad 201), .long g, .int cm, .int da, .int (nI nt), .ref (ad 202), .ref (ad 203), .ref (ad 204), .ref (ad 205), .ref (ad 206), .ref (ad 207), .ref (ad 208), .ref (ad 209), .int (nI no), .ref (ad 210), .ref (ad 211), .ref (ad 212), .ref (ad 213), .ref (ad 214), .int bs, .int (nI nf), .ref (ad 215), .ref (ad 216)]))) (h207 : ct 207 = some (eI tc 4 la)) (h208 : ct 208 = some (eI tc 4 sl)) (h209 : ct 209 = some (eI tc 96 ce)) (h215 : ct 215 = some (eI tc 320 tl)) (h216 : ct 216 = some (eI tc 40 ca)) (hk4 : k < 4) (hcc : 0 ≤ c ∧ c < nI N) (hL : 0 ≤ lane.toInt64 ∧ lane.toInt64 ≤ 2) (ha1 : ¬ (la k = (-9))) (ha2 : la k = lane) (hiN : i + N ≤ n) (hn24 : n ≤ 24) (hsl : sl k = nI n) (hN : N ≤ 8) (hok : kall (kWi (fun c => ce (24 * k + i + c))) N = true) (hnz : ¬ sw (fun c => ce (24 * k + i + c)) N = 0) (hnf : nf < 40) : Met l yX11_forecast wsX11_forecast ({ frames := 2, cells := 0, slots := 0, locals := 59 }) (va_Pc [.ref (ad 200), .int (nI k), .int lane, .int (nI i), .int c] (kw_B D tc sz ad ct)) (kw_Q D ad (kw_A ad ct sz) (some (.int (nI nf))) (kw_up (kw_up (kw_up ct 200 (.inr (11, [.int 0, .int tr, .int (nI N), .int b, .ref (ad 201), .long g, .int cm, .int da, .int (nI nt), .ref (ad 202), .ref (ad 203), .ref (ad 204), .ref (ad 205), .ref (ad 206), .ref (ad 207), .ref (ad 208), .ref (ad 209), .int (nI no), .ref (ad 210), .ref (ad 211), .ref (ad 212), .ref (ad 213), .ref (ad 214), .int bs, .int (nI (nf + 1)), .ref (ad 215), .ref (ad 216)]))) 215 (eI tc 320 (kBl tl (8 * nf) N (fun c => ce (24 * k + i + c))))) 216 (eI tc 40 (va_up ca nf c))) 0) 0 0 (kw_A ad ct sz) := by
  refine Met.ofW (cc := cX11_forecast) (maxL := 7) (ret := (some .int)) (by decide) rfl ?_
  intro pg en s m args below meth cod s₁ B hml hv
  obtain ⟨rfl, hsz, hP0, hK⟩ := hv
  have hx := B.exec
  have hb := B.bytes
  have hr := B.returns
  have hts := atoms_spec (ws := wsX11_forecast) B.pre
  have hown : s.vm.findClass RX11 = some m.cls := findClass_of_methodNamed B.named
  have hlocks := B.notSynchronized
  subst hsz
  have hw := kw_H.start hP0
  generalize hAe : kw_A ad ct s.heap.size = A at hw ⊢
  have hA : ∀ q, s.heap.size ≤ q → A q := fun q h => by rw [← hAe]; exact Or.inr h
  have hinX11 : ∀ w ∈ wsX110, w ∈ wsX11_forecast := by decide +kernel
  have hl := lv_entry ([.ref (ad 200), .int (nI k), .int lane, .int (nI i), .int c]) (n := 7) (Nat.le_of_ble_eq_true rfl)
  rw [lg_entry_eq]
  generalize (lg_sl ([.ref (ad 200), .int (nI k), .int lane, .int (nI i), .int c]) ++ List.replicate (7 - (lg_sl ([.ref (ad 200), .int (nI k), .int lane, .int (nI i), .int c])).length) Slot.unset).toArray = ls at hl ⊢
  have hl : lv_has ls 7 [(0, .ref (ad 200)), (1, .int (nI k)), (2, .int lane), (3, .int (nI i)), (4, .int c)] := hl
  have S0 : CallFix pg m cod cX11_forecast 7 s _ wsX11_forecast RX11 := ⟨hx, hb, hml, hown, hts⟩
  have hfr : ∀ j, j ≠ 200 → j ≠ 215 → j ≠ 216 → ct j = ct j := fun _ _ _ _ => rfl
  have kK : 0 ≤ (nI k).toInt64 ∧ (nI k).toInt64 ≤ 3 := kwl k 3 (by omega) (by omega)
  refine lv_aload_n hx hb dX11_forecast_0 rfl (lv_at hl 0 rfl) ?_
  refine lv_iconst (v := 0) hx hb dX11_forecast_1 (by decide) ?_
  refine kg_put (v := .int 0) (ty := .int) (C := RX11) (T := TX11) (N := 27) (fs' := [.int 0, .int tr, .int (nI N), .int b, .ref (ad 201), .long g, .int cm, .int da, .int (nI nt), .ref (ad 202), .ref (ad 203), .ref (ad 204), .ref (ad 205), .ref (ad 206), .ref (ad 207), .ref (ad 208), .ref (ad 209), .int (nI no), .ref (ad 210), .ref (ad 211), .ref (ad 212), .ref (ad 213), .ref (ad 214), .int bs, .int (nI nf), .ref (ad 215), .ref (ad 216)]) hx hb hts hinX11 tyX11 tyX11_ok nmX11 hown hK hw h0 rfl 0 (by decide) (hts (.fieldLink RX11 69 "BetMakerModel" "fault" "I") (by decide +kernel)) (fun _ h9 => h9) rfl (by decide +kernel) rfl rfl (Nat.le_of_ble_eq_true rfl) rfl dX11_forecast_2 (fun H locs hw => ?_)
  obtain ⟨ct_1, ect_1⟩ : ∃ z, z = kw_up ct 200 (.inr (11, [.int 0, .int tr, .int (nI N), .int b, .ref (ad 201), .long g, .int cm, .int da, .int (nI nt), .ref (ad 202), .ref (ad 203), .ref (ad 204), .ref (ad 205), .ref (ad 206), .ref (ad 207), .ref (ad 208), .ref (ad 209), .int (nI no), .ref (ad 210), .ref (ad 211), .ref (ad 212), .ref (ad 213), .ref (ad 214), .int bs, .int (nI nf), .ref (ad 215), .ref (ad 216)])) := ⟨_, rfl⟩
  rw [← ect_1] at hw
  have h_2 : ct_1 207 = some (eI tc 4 la) := by rw [ect_1, kw_up_n (by decide)]; exact h207
  have h_3 : ct_1 208 = some (eI tc 4 sl) := by rw [ect_1, kw_up_n (by decide)]; exact h208
  have h_4 : ct_1 209 = some (eI tc 96 ce) := by rw [ect_1, kw_up_n (by decide)]; exact h209
  have h_5 : ct_1 215 = some (eI tc 320 tl) := by rw [ect_1, kw_up_n (by decide)]; exact h215
  have h_6 : ct_1 216 = some (eI tc 40 ca) := by rw [ect_1, kw_up_n (by decide)]; exact h216
  have h_7 : ct_1 200 = some (.inr (11, [.int 0, .int tr, .int (nI N), .int b, .ref (ad 201), .long g, .int cm, .int da, .int (nI nt), .ref (ad 202), .ref (ad 203), .ref (ad 204), .ref (ad 205), .ref (ad 206), .ref (ad 207), .ref (ad 208), .ref (ad 209), .int (nI no), .ref (ad 210), .ref (ad 211), .ref (ad 212), .ref (ad 213), .ref (ad 214), .int bs, .int (nI nf), .ref (ad 215), .ref (ad 216)])) := by rw [ect_1]; exact kw_up_s
  have hfr_8 : ∀ j, j ≠ 200 → j ≠ 215 → j ≠ 216 → ct_1 j = ct j := fun j a0 a1 a2 => by rw [ect_1]; exact (kw_up_n a0).trans (hfr j a0 a1 a2)
  refine lv_iload_n hx hb dX11_forecast_5 rfl (lv_at hl 1 rfl) ?_
  refine lv_i2l (v := (nI k).toInt64) hx hb dX11_forecast_6 rfl ?_
  refine lv_lconst (v := 0) hx hb dX11_forecast_7 (by decide) ?_
  refine lv_ldc2 (v := 3) hx hb hown (hts (.constantLong RX11 165 (3)) (by decide +kernel)) dX11_forecast_8 ?_
  refine kc_s (As := [.long ((nI k).toInt64), .long 0, .long 3]) (rest := []) S0 (c_X11_within l D tc s.heap.size ad ct_1 ) (va_cwS 3 hts gX11_forecast_X11_within rfl rfl rfl (by decide +kernel) ⟨Nat.le_of_ble_eq_true rfl, Nat.le_of_ble_eq_true rfl⟩) hK hw rfl hl.1 rfl (Nat.le_of_ble_eq_true rfl) dX11_forecast_11 ⟨Nat.le_of_ble_eq_true rfl, (Nat.le_of_ble_eq_true rfl)⟩ ?_
  refine kb_ifeq (tgt := 26) hx hb dX11_forecast_14 (by decide) (fun c_9 => ?_) (fun c_9 => ?_)
  · exact absurd kK c_9
  · refine lv_aload_n hx hb dX11_forecast_17 rfl (lv_at hl 0 rfl) ?_
    refine lv_iload hx hb dX11_forecast_18 (lv_at hl 4 rfl) ?_
    refine kc_v (As := [.int c]) (rest := []) S0 (c_X11_isCase l D tc s.heap.size ad ct_1 (N := N) (nt := nt) (no := no) (nf := nf) h_7) (cwV 1 hts gX11_forecast_X11_isCase rfl rfl rfl (by decide +kernel) ⟨Nat.le_of_ble_eq_true rfl, Nat.le_of_ble_eq_true rfl⟩) hK hw h_7 rfl rfl hl.1 rfl (Nat.le_of_ble_eq_true rfl) dX11_forecast_20 ⟨Nat.le_of_ble_eq_true rfl, (Nat.le_of_ble_eq_true rfl)⟩ ?_
    refine kb_ifne (tgt := 28) hx hb dX11_forecast_23 (by decide) (fun c_10 => ?_) (fun c_10 => ?_)
    · refine lv_aload_n hx hb dX11_forecast_28 rfl (lv_at hl 0 rfl) ?_
      refine lv_iload_n hx hb dX11_forecast_29 rfl (lv_at hl 1 rfl) ?_
      refine lv_iload_n hx hb dX11_forecast_30 rfl (lv_at hl 2 rfl) ?_
      refine lv_iload_n hx hb dX11_forecast_31 rfl (lv_at hl 3 rfl) ?_
      refine kc_v (As := [.int (nI k), .int lane, .int (nI i)]) (rest := []) S0 (c_X11_against l D tc s.heap.size ad ct_1 (k := k) (i := i) (N := N) (nt := nt) (no := no) (nf := nf) h_7 h_2 h_3 h_4 hk4 hL ha1 ha2 hiN hn24 hsl hN hok hnz) (cwV 3 hts gX11_forecast_X11_against rfl rfl rfl (by decide +kernel) ⟨Nat.le_of_ble_eq_true rfl, Nat.le_of_ble_eq_true rfl⟩) hK hw h_7 rfl rfl hl.1 rfl (Nat.le_of_ble_eq_true rfl) dX11_forecast_32 ⟨Nat.le_of_ble_eq_true rfl, (Nat.le_of_ble_eq_true rfl)⟩ ?_
      refine lv_istore (lv' := [(5, .int 0), (0, .ref (ad 200)), (1, .int (nI k)), (2, .int lane), (3, .int (nI i)), (4, .int c)]) hx hb dX11_forecast_35 hl (by decide) rfl (fun ls hl => ?_)
      refine lv_iload hx hb dX11_forecast_37 (lv_at hl 0 rfl) ?_
      refine lv_if_eq (tgt := 45) hx hb dX11_forecast_39 (by decide) (fun c_11 => ?_) (fun c_11 => ?_)
      · refine lv_aload_n hx hb dX11_forecast_45 rfl (lv_at hl 1 rfl) ?_
        refine kg_get (v := .int (nI nf)) (C := RX11) (T := TX11) (N := 27) hx hb hts hinX11 hown hK hw h_7 rfl 24 (by decide) (hts (.fieldLink RX11 99 "BetMakerModel" "forecasts" "I") (by decide +kernel)) (fun _ h9 => h9) rfl dX11_forecast_46 ?_
        refine lv_bipush (v := 40) hx hb dX11_forecast_49 (by decide) ?_
        refine kn_ne nf 40 rfl rfl (by omega) (by omega) (tgt := 57) hx hb dX11_forecast_51 (by decide) (fun c_12 => ?_) (fun c_12 => ?_)
        · refine lv_iconst (v := 0) hx hb dX11_forecast_57 (by decide) ?_
          refine lv_istore (lv' := [(6, .int 0), (5, .int 0), (0, .ref (ad 200)), (1, .int (nI k)), (2, .int lane), (3, .int (nI i)), (4, .int c)]) hx hb dX11_forecast_58 hl (by decide) rfl (fun ls hl => ?_)
          suffices lp60 : ∀ (nfu : Nat) (j : Nat) (g1 : Nat → Int32) (ctL60 : Nat → Option va_E) (H : Heap) (locs : List Loc) (ls : Array Slot), N - j < nfu → j ≤ N → g1 = kBl tl (8 * nf) j (fun c => ce (24 * k + i + c)) → ctL60 207 = some (eI tc 4 la) → ctL60 208 = some (eI tc 4 sl) → ctL60 209 = some (eI tc 96 ce) → ctL60 215 = some (eI tc 320 g1) → ctL60 216 = some (eI tc 40 ca) → ctL60 200 = some (.inr (11, [.int 0, .int tr, .int (nI N), .int b, .ref (ad 201), .long g, .int cm, .int da, .int (nI nt), .ref (ad 202), .ref (ad 203), .ref (ad 204), .ref (ad 205), .ref (ad 206), .ref (ad 207), .ref (ad 208), .ref (ad 209), .int (nI no), .ref (ad 210), .ref (ad 211), .ref (ad 212), .ref (ad 213), .ref (ad 214), .int bs, .int (nI nf), .ref (ad 215), .ref (ad 216)])) → (∀ j, j ≠ 200 → j ≠ 215 → j ≠ 216 → ctL60 j = ct j) → kw_H D ad A s.heap ctL60 H locs s.heap.size → lv_has ls 7 [(0, .ref (ad 200)), (1, .int (nI k)), (2, .int lane), (3, .int (nI i)), (4, .int c), (6, .int (nI j))] → W pg l en (headSpec wsX11_forecast ({ frames := 2, cells := 0, slots := 0, locals := 59 })).room s m (([.ref (ad 200), .int (nI k), .int lane, .int (nI i), .int c] : List Value).toArray) below meth cod H locs 0 0 (MQ below (kw_Q D ad A (some (.int (nI nf))) (kw_up (kw_up (kw_up ct 200 (.inr (11, [.int 0, .int tr, .int (nI N), .int b, .ref (ad 201), .long g, .int cm, .int da, .int (nI nt), .ref (ad 202), .ref (ad 203), .ref (ad 204), .ref (ad 205), .ref (ad 206), .ref (ad 207), .ref (ad 208), .ref (ad 209), .int (nI no), .ref (ad 210), .ref (ad 211), .ref (ad 212), .ref (ad 213), .ref (ad 214), .int bs, .int (nI (nf + 1)), .ref (ad 215), .ref (ad 216)]))) 215 (eI tc 320 (kBl tl (8 * nf) N (fun c => ce (24 * k + i + c))))) 216 (eI tc 40 (va_up ca nf c))) 0) (([.ref (ad 200), .int (nI k), .int lane, .int (nI i), .int c] : List Value).toArray) s 0 0 A) (F0 m 60 ls []) by
            exact lp60 (N - 0 + 1) 0 tl _ _ _ ls (by omega) (by omega) (by exact kBl_0 _ _ _) h_2 h_3 h_4 h_5 h_6 h_7 hfr_8 hw (by have hl9 := lv_sub hl (l' := [(0, .ref (ad 200)), (1, .int (nI k)), (2, .int lane), (3, .int (nI i)), (4, .int c), (6, .int 0)]) [2, 3, 4, 5, 6, 0] rfl; exact hl9)
          intro n60
          induction n60 with
          | zero => intro j g1 ctL60 H locs ls hfu; exact absurd hfu (Nat.not_lt_zero _)
          | succ n60 ih60 =>
            intro j g1 ctL60 H locs ls hfu60 hj hg h_13 h_14 h_15 h_16 h_17 h_18 hfr_19 hw hl
            refine lv_iload hx hb dX11_forecast_60 (lv_at hl 5 rfl) ?_
            refine lv_aload_n hx hb dX11_forecast_62 rfl (lv_at hl 0 rfl) ?_
            refine kg_get (v := .int (nI N)) (C := RX11) (T := TX11) (N := 27) hx hb hts hinX11 hown hK hw h_18 rfl 2 (by decide) (hts (.fieldLink RX11 7 "BetMakerModel" "cases" "I") (by decide +kernel)) (fun _ h9 => h9) rfl dX11_forecast_63 ?_
            refine kn_ge j N rfl rfl (by omega) (by omega) (tgt := 104) hx hb dX11_forecast_66 (by decide) (fun c_20 => ?_) (fun c_20 => ?_)
            · refine lv_aload_n hx hb dX11_forecast_104 rfl (lv_at hl 0 rfl) ?_
              refine kg_get (v := .ref (ad 216)) (C := RX11) (T := TX11) (N := 27) hx hb hts hinX11 hown hK hw h_18 rfl 26 (by decide) (hts (.fieldLink RX11 66 "BetMakerModel" "cameThen" "[I") (by decide +kernel)) (fun _ h9 => h9) rfl dX11_forecast_105 ?_
              refine lv_aload_n hx hb dX11_forecast_108 rfl (lv_at hl 0 rfl) ?_
              refine kg_get (v := .int (nI nf)) (C := RX11) (T := TX11) (N := 27) hx hb hts hinX11 hown hK hw h_18 rfl 24 (by decide) (hts (.fieldLink RX11 99 "BetMakerModel" "forecasts" "I") (by decide +kernel)) (fun _ h9 => h9) rfl dX11_forecast_109 ?_
              refine lv_iload hx hb dX11_forecast_112 (lv_at hl 4 rfl) ?_
              refine kg_iast hx hb hK hw h_17 nf rfl (by omega) (by omega) dX11_forecast_114 (fun H locs hw => ?_)
              obtain ⟨ct_21, ect_21⟩ : ∃ z, z = kw_up ctL60 216 (eI tc 40 (va_up ca nf c)) := ⟨_, rfl⟩
              rw [← ect_21] at hw
              have h_22 : ct_21 207 = some (eI tc 4 la) := by rw [ect_21, kw_up_n (by decide)]; exact h_13
              have h_23 : ct_21 208 = some (eI tc 4 sl) := by rw [ect_21, kw_up_n (by decide)]; exact h_14
              have h_24 : ct_21 209 = some (eI tc 96 ce) := by rw [ect_21, kw_up_n (by decide)]; exact h_15
              have h_25 : ct_21 215 = some (eI tc 320 g1) := by rw [ect_21, kw_up_n (by decide)]; exact h_16
              have h_26 : ct_21 200 = some (.inr (11, [.int 0, .int tr, .int (nI N), .int b, .ref (ad 201), .long g, .int cm, .int da, .int (nI nt), .ref (ad 202), .ref (ad 203), .ref (ad 204), .ref (ad 205), .ref (ad 206), .ref (ad 207), .ref (ad 208), .ref (ad 209), .int (nI no), .ref (ad 210), .ref (ad 211), .ref (ad 212), .ref (ad 213), .ref (ad 214), .int bs, .int (nI nf), .ref (ad 215), .ref (ad 216)])) := by rw [ect_21, kw_up_n (by decide)]; exact h_18
              have h_27 : ct_21 216 = some (eI tc 40 (va_up ca nf c)) := by rw [ect_21]; exact kw_up_s
              have hfr_28 : ∀ j, j ≠ 200 → j ≠ 215 → j ≠ 216 → ct_21 j = ct j := fun j a0 a1 a2 => by rw [ect_21]; exact (kw_up_n a2).trans (hfr_19 j a0 a1 a2)
              refine lv_aload_n hx hb dX11_forecast_115 rfl (lv_at hl 0 rfl) ?_
              refine lv_dup hx hb dX11_forecast_116 rfl ?_
              refine kg_get (v := .int (nI nf)) (C := RX11) (T := TX11) (N := 27) hx hb hts hinX11 hown hK hw h_26 rfl 24 (by decide) (hts (.fieldLink RX11 99 "BetMakerModel" "forecasts" "I") (by decide +kernel)) (fun _ h9 => h9) rfl dX11_forecast_117 ?_
              refine lv_iconst (v := 1) hx hb dX11_forecast_120 (by decide) ?_
              refine lv_iadd hx hb dX11_forecast_121 ?_
              refine kg_put (v := .int ((nI nf) + 1)) (ty := .int) (C := RX11) (T := TX11) (N := 27) (fs' := [.int 0, .int tr, .int (nI N), .int b, .ref (ad 201), .long g, .int cm, .int da, .int (nI nt), .ref (ad 202), .ref (ad 203), .ref (ad 204), .ref (ad 205), .ref (ad 206), .ref (ad 207), .ref (ad 208), .ref (ad 209), .int (nI no), .ref (ad 210), .ref (ad 211), .ref (ad 212), .ref (ad 213), .ref (ad 214), .int bs, .int ((nI nf) + 1), .ref (ad 215), .ref (ad 216)]) hx hb hts hinX11 tyX11 tyX11_ok nmX11 hown hK hw h_26 rfl 24 (by decide) (hts (.fieldLink RX11 99 "BetMakerModel" "forecasts" "I") (by decide +kernel)) (fun _ h9 => h9) rfl (by decide +kernel) rfl rfl (Nat.le_of_ble_eq_true rfl) rfl dX11_forecast_122 (fun H locs hw => ?_)
              obtain ⟨ct_29, ect_29⟩ : ∃ z, z = kw_up ct_21 200 (.inr (11, [.int 0, .int tr, .int (nI N), .int b, .ref (ad 201), .long g, .int cm, .int da, .int (nI nt), .ref (ad 202), .ref (ad 203), .ref (ad 204), .ref (ad 205), .ref (ad 206), .ref (ad 207), .ref (ad 208), .ref (ad 209), .int (nI no), .ref (ad 210), .ref (ad 211), .ref (ad 212), .ref (ad 213), .ref (ad 214), .int bs, .int ((nI nf) + 1), .ref (ad 215), .ref (ad 216)])) := ⟨_, rfl⟩
              rw [← ect_29] at hw
              have h_30 : ct_29 207 = some (eI tc 4 la) := by rw [ect_29, kw_up_n (by decide)]; exact h_22
              have h_31 : ct_29 208 = some (eI tc 4 sl) := by rw [ect_29, kw_up_n (by decide)]; exact h_23
              have h_32 : ct_29 209 = some (eI tc 96 ce) := by rw [ect_29, kw_up_n (by decide)]; exact h_24
              have h_33 : ct_29 215 = some (eI tc 320 g1) := by rw [ect_29, kw_up_n (by decide)]; exact h_25
              have h_34 : ct_29 216 = some (eI tc 40 (va_up ca nf c)) := by rw [ect_29, kw_up_n (by decide)]; exact h_27
              have h_35 : ct_29 200 = some (.inr (11, [.int 0, .int tr, .int (nI N), .int b, .ref (ad 201), .long g, .int cm, .int da, .int (nI nt), .ref (ad 202), .ref (ad 203), .ref (ad 204), .ref (ad 205), .ref (ad 206), .ref (ad 207), .ref (ad 208), .ref (ad 209), .int (nI no), .ref (ad 210), .ref (ad 211), .ref (ad 212), .ref (ad 213), .ref (ad 214), .int bs, .int ((nI nf) + 1), .ref (ad 215), .ref (ad 216)])) := by rw [ect_29]; exact kw_up_s
              have hfr_36 : ∀ j, j ≠ 200 → j ≠ 215 → j ≠ 216 → ct_29 j = ct j := fun j a0 a1 a2 => by rw [ect_29]; exact (kw_up_n a0).trans (hfr_28 j a0 a1 a2)
              refine lv_aload_n hx hb dX11_forecast_125 rfl (lv_at hl 0 rfl) ?_
              refine kg_get (v := .int ((nI nf) + 1)) (C := RX11) (T := TX11) (N := 27) hx hb hts hinX11 hown hK hw h_35 rfl 24 (by decide) (hts (.fieldLink RX11 99 "BetMakerModel" "forecasts" "I") (by decide +kernel)) (fun _ h9 => h9) rfl dX11_forecast_126 ?_
              refine lv_iconst (v := 1) hx hb dX11_forecast_129 (by decide) ?_
              refine lv_isub hx hb dX11_forecast_130 ?_
              refine W.eq (congrArg (fun z => F0 m 131 ls [.int z]) (show (((nI nf) + 1) - 1) = (nI nf) from by exact Int32.add_sub_cancel _ _)) ?_
              have hq_37 : ct_29 200 = some (.inr (11, [.int 0, .int tr, .int (nI N), .int b, .ref (ad 201), .long g, .int cm, .int da, .int (nI nt), .ref (ad 202), .ref (ad 203), .ref (ad 204), .ref (ad 205), .ref (ad 206), .ref (ad 207), .ref (ad 208), .ref (ad 209), .int (nI no), .ref (ad 210), .ref (ad 211), .ref (ad 212), .ref (ad 213), .ref (ad 214), .int bs, .int (nI (nf + 1)), .ref (ad 215), .ref (ad 216)])) := h_35.trans (congrArg some (show (.inr (11, [.int 0, .int tr, .int (nI N), .int b, .ref (ad 201), .long g, .int cm, .int da, .int (nI nt), .ref (ad 202), .ref (ad 203), .ref (ad 204), .ref (ad 205), .ref (ad 206), .ref (ad 207), .ref (ad 208), .ref (ad 209), .int (nI no), .ref (ad 210), .ref (ad 211), .ref (ad 212), .ref (ad 213), .ref (ad 214), .int bs, .int ((nI nf) + 1), .ref (ad 215), .ref (ad 216)]) : va_E) = .inr (11, [.int 0, .int tr, .int (nI N), .int b, .ref (ad 201), .long g, .int cm, .int da, .int (nI nt), .ref (ad 202), .ref (ad 203), .ref (ad 204), .ref (ad 205), .ref (ad 206), .ref (ad 207), .ref (ad 208), .ref (ad 209), .int (nI no), .ref (ad 210), .ref (ad 211), .ref (ad 212), .ref (ad 213), .ref (ad 214), .int bs, .int (nI (nf + 1)), .ref (ad 215), .ref (ad 216)]) from by rw [← nI_1]))
              have hq_38 : ct_29 215 = some (eI tc 320 (kBl tl (8 * nf) N (fun c => ce (24 * k + i + c)))) := h_33.trans (congrArg some (show (eI tc 320 g1 : va_E) = eI tc 320 (kBl tl (8 * nf) N (fun c => ce (24 * k + i + c))) from by rw [hg, show j = N by omega]))
              have hq_39 := h_34
              have hend := kw_eq3 hq_37 hq_38 hq_39 hfr_36
              rw [hend] at hw
              exact W.iret hx hb hr (fun t ht _ => ⟨rfl, by rw [ht]; exact hw.1, hw.2.2.1, hw.2.1.F ht, by rw [ht]; exact hw.2.2.2⟩) hw.2.1.2.2 dX11_forecast_131
            · refine lv_aload_n hx hb dX11_forecast_69 rfl (lv_at hl 0 rfl) ?_
              refine kg_get (v := .ref (ad 215)) (C := RX11) (T := TX11) (N := 27) hx hb hts hinX11 hown hK hw h_18 rfl 25 (by decide) (hts (.fieldLink RX11 63 "BetMakerModel" "told" "[I") (by decide +kernel)) (fun _ h9 => h9) rfl dX11_forecast_70 ?_
              refine lv_bipush (v := 8) hx hb dX11_forecast_73 (by decide) ?_
              refine lv_aload_n hx hb dX11_forecast_75 rfl (lv_at hl 0 rfl) ?_
              refine kg_get (v := .int (nI nf)) (C := RX11) (T := TX11) (N := 27) hx hb hts hinX11 hown hK hw h_18 rfl 24 (by decide) (hts (.fieldLink RX11 99 "BetMakerModel" "forecasts" "I") (by decide +kernel)) (fun _ h9 => h9) rfl dX11_forecast_76 ?_
              refine lv_imul hx hb dX11_forecast_79 ?_
              refine lv_iload hx hb dX11_forecast_80 (lv_at hl 5 rfl) ?_
              refine lv_iadd hx hb dX11_forecast_82 ?_
              refine lv_aload_n hx hb dX11_forecast_83 rfl (lv_at hl 0 rfl) ?_
              refine kg_get (v := .ref (ad 209)) (C := RX11) (T := TX11) (N := 27) hx hb hts hinX11 hown hK hw h_18 rfl 16 (by decide) (hts (.fieldLink RX11 45 "BetMakerModel" "cells" "[I") (by decide +kernel)) (fun _ h9 => h9) rfl dX11_forecast_84 ?_
              refine lv_bipush (v := 24) hx hb dX11_forecast_87 (by decide) ?_
              refine lv_iload_n hx hb dX11_forecast_89 rfl (lv_at hl 1 rfl) ?_
              refine lv_imul hx hb dX11_forecast_90 ?_
              refine lv_iload_n hx hb dX11_forecast_91 rfl (lv_at hl 3 rfl) ?_
              refine lv_iadd hx hb dX11_forecast_92 ?_
              refine lv_iload hx hb dX11_forecast_93 (lv_at hl 5 rfl) ?_
              refine lv_iadd hx hb dX11_forecast_95 ?_
              refine kg_iald hx hb hK hw h_15 (((24 * k) + i) + j) (by simp only [kn_lit, nI_add, pk_mul, nI_1]) (by omega) (by omega) dX11_forecast_96 ?_
              refine kg_iast hx hb hK hw h_16 ((8 * nf) + j) (by simp only [kn_lit, nI_add, pk_mul, nI_1]) (by omega) (by omega) dX11_forecast_97 (fun H locs hw => ?_)
              obtain ⟨ct_40, ect_40⟩ : ∃ z, z = kw_up ctL60 215 (eI tc 320 (va_up g1 ((8 * nf) + j) (ce (((24 * k) + i) + j)))) := ⟨_, rfl⟩
              rw [← ect_40] at hw
              have h_41 : ct_40 207 = some (eI tc 4 la) := by rw [ect_40, kw_up_n (by decide)]; exact h_13
              have h_42 : ct_40 208 = some (eI tc 4 sl) := by rw [ect_40, kw_up_n (by decide)]; exact h_14
              have h_43 : ct_40 209 = some (eI tc 96 ce) := by rw [ect_40, kw_up_n (by decide)]; exact h_15
              have h_44 : ct_40 216 = some (eI tc 40 ca) := by rw [ect_40, kw_up_n (by decide)]; exact h_17
              have h_45 : ct_40 200 = some (.inr (11, [.int 0, .int tr, .int (nI N), .int b, .ref (ad 201), .long g, .int cm, .int da, .int (nI nt), .ref (ad 202), .ref (ad 203), .ref (ad 204), .ref (ad 205), .ref (ad 206), .ref (ad 207), .ref (ad 208), .ref (ad 209), .int (nI no), .ref (ad 210), .ref (ad 211), .ref (ad 212), .ref (ad 213), .ref (ad 214), .int bs, .int (nI nf), .ref (ad 215), .ref (ad 216)])) := by rw [ect_40, kw_up_n (by decide)]; exact h_18
              have h_46 : ct_40 215 = some (eI tc 320 (va_up g1 ((8 * nf) + j) (ce (((24 * k) + i) + j)))) := by rw [ect_40]; exact kw_up_s
              have hfr_47 : ∀ j, j ≠ 200 → j ≠ 215 → j ≠ 216 → ct_40 j = ct j := fun j a0 a1 a2 => by rw [ect_40]; exact (kw_up_n a1).trans (hfr_19 j a0 a1 a2)
              refine lv_iinc (v := (nI (j + 1))) (lv' := [(6, .int (nI (j + 1))), (0, .ref (ad 200)), (1, .int (nI k)), (2, .int lane), (3, .int (nI i)), (4, .int c)]) hx hb dX11_forecast_98 hl (k := 5) rfl (nI_1 j) (by decide) rfl (fun ls hl => ?_)
              refine lv_goto (tgt := 60) hx hb dX11_forecast_101 (by decide) ?_
              exact ih60 (j + 1) (va_up g1 ((8 * nf) + j) (ce (((24 * k) + i) + j))) _ _ _ ls (by omega) (by omega) (by rw [hg]; exact kBl_s tl (8 * nf) j (fun c => ce (24 * k + i + c))) h_41 h_42 h_43 h_46 h_44 h_45 hfr_47 hw (lv_sub hl [1, 2, 3, 4, 5, 0] rfl)
        · exfalso; omega
      · exact absurd c_11 (by decide)
    · exact absurd hcc c_10
set_option maxHeartbeats 4000000 in
set_option maxRecDepth 100000 in
theorem c_X11_sumOf (l : Launch) (D : va_G) (tc : Nat → ClassId) (sz : Nat) (ad : Nat → Nat) (ct : Nat → Option va_E) {N nt no nf : Nat} {ft tr b cm da bs : Int32} {g : Int64}              {tl : Nat → Int32}  {f : Nat} (h0 : ct 200 = some (.inr (11, [.int ft, .int tr, .int (nI N), .int b, .ref (ad 201), .long g, .int cm, .int da, .int (nI nt), .ref (ad 202), .ref (ad 203), .ref (ad 204), .ref (ad 205), .ref (ad 206), .ref (ad 207), .ref (ad 208), .ref (ad 209), .int (nI no), .ref (ad 210), .ref (ad 211), .ref (ad 212), .ref (ad 213), .ref (ad 214), .int bs, .int (nI nf), .ref (ad 215), .ref (ad 216)]))) (h215 : ct 215 = some (eI tc 320 tl)) (hf4 : f < 40) (hN : N ≤ 8) : Met l yX11_sumOf wsX11_sumOf ({ frames := 0, cells := 0, slots := 0, locals := 0 }) (va_Pc [.ref (ad 200), .int (nI f)] (kw_B D tc sz ad ct)) (k2_QcV (.long (su (fun c => (tl (8 * f + c)).toInt64) N))) 0 0 (fun _ => False) := by
  refine Met.ofW (cc := cX11_sumOf) (maxL := 5) (ret := (some .long)) (by decide) rfl ?_
  intro pg en s m args below meth cod s₁ B hml hv
  obtain ⟨rfl, hsz, hP0, hK⟩ := hv
  have hx := B.exec
  have hb := B.bytes
  have hr := B.returns
  have hts := atoms_spec (ws := wsX11_sumOf) B.pre
  have hown : s.vm.findClass RX11 = some m.cls := findClass_of_methodNamed B.named
  have hlocks := B.notSynchronized
  subst hsz
  have hw := kw_H.start hP0
  generalize kw_A ad ct s.heap.size = A at hw
  have hinX11 : ∀ w ∈ wsX110, w ∈ wsX11_sumOf := by decide +kernel
  have hl := lv_entry ([.ref (ad 200), .int (nI f)]) (n := 5) (Nat.le_of_ble_eq_true rfl)
  rw [lg_entry_eq]
  generalize (lg_sl ([.ref (ad 200), .int (nI f)]) ++ List.replicate (5 - (lg_sl ([.ref (ad 200), .int (nI f)])).length) Slot.unset).toArray = ls at hl ⊢
  have hl : lv_has ls 5 [(0, .ref (ad 200)), (1, .int (nI f))] := hl
  have S0 : CallFix pg m cod cX11_sumOf 5 s _ wsX11_sumOf RX11 := ⟨hx, hb, hml, hown, hts⟩
  refine lv_lconst (v := 0) hx hb dX11_sumOf_0 (by decide) ?_
  refine lv_lstore_n (lv' := [(2, .long 0), (0, .ref (ad 200)), (1, .int (nI f))]) hx hb dX11_sumOf_1 rfl hl (by decide) rfl (fun ls hl => ?_)
  refine lv_iconst (v := 0) hx hb dX11_sumOf_2 (by decide) ?_
  refine lv_istore (lv' := [(4, .int 0), (2, .long 0), (0, .ref (ad 200)), (1, .int (nI f))]) hx hb dX11_sumOf_3 hl (by decide) rfl (fun ls hl => ?_)
  suffices lp5 : ∀ (nfu : Nat) (i : Nat) (acc : Int64) (ls : Array Slot), N - i < nfu → i ≤ N → acc = su (fun c => (tl (8 * f + c)).toInt64) i → lv_has ls 5 [(0, .ref (ad 200)), (1, .int (nI f)), (2, .long acc), (4, .int (nI i))] → W pg l en (headSpec wsX11_sumOf ({ frames := 0, cells := 0, slots := 0, locals := 0 })).room s m (([.ref (ad 200), .int (nI f)] : List Value).toArray) below meth cod s.heap [] 0 0 (MQ below (k2_QcV (.long (su (fun c => (tl (8 * f + c)).toInt64) N))) (([.ref (ad 200), .int (nI f)] : List Value).toArray) s 0 0 (fun _ => False)) (F0 m 5 ls []) by
    exact lp5 (N - 0 + 1) 0 0 ls (by omega) (by omega) (by rfl) (by have hl9 := lv_sub hl (l' := [(0, .ref (ad 200)), (1, .int (nI f)), (2, .long 0), (4, .int 0)]) [2, 3, 1, 0] rfl; exact hl9)
  intro n5
  induction n5 with
  | zero => intro i acc ls hfu; exact absurd hfu (Nat.not_lt_zero _)
  | succ n5 ih5 =>
    intro i acc ls hfu5 hi ha hl
    refine lv_iload hx hb dX11_sumOf_5 (lv_at hl 3 rfl) ?_
    refine lv_aload_n hx hb dX11_sumOf_7 rfl (lv_at hl 0 rfl) ?_
    refine kg_get (v := .int (nI N)) (C := RX11) (T := TX11) (N := 27) hx hb hts hinX11 hown hK hw h0 rfl 2 (by decide) (hts (.fieldLink RX11 7 "BetMakerModel" "cases" "I") (by decide +kernel)) (fun _ h9 => h9) rfl dX11_sumOf_8 ?_
    refine kn_ge i N rfl rfl (by omega) (by omega) (tgt := 36) hx hb dX11_sumOf_11 (by decide) (fun c_1 => ?_) (fun c_1 => ?_)
    · refine lv_lload_n hx hb dX11_sumOf_36 rfl (lv_at hl 2 rfl) ?_
      refine W.eq (congrArg (fun z => F0 m 37 ls [.long z]) (show acc = (su (fun c => (tl (8 * f + c)).toInt64) N) from by rw [ha, show i = N by omega])) ?_
      exact W.lret hx hb hr (fun t ht _ => ⟨rfl, ht⟩) (fun _ h => absurd h List.not_mem_nil) dX11_sumOf_37
    · refine lv_lload_n hx hb dX11_sumOf_14 rfl (lv_at hl 2 rfl) ?_
      refine lv_aload_n hx hb dX11_sumOf_15 rfl (lv_at hl 0 rfl) ?_
      refine kg_get (v := .ref (ad 215)) (C := RX11) (T := TX11) (N := 27) hx hb hts hinX11 hown hK hw h0 rfl 25 (by decide) (hts (.fieldLink RX11 63 "BetMakerModel" "told" "[I") (by decide +kernel)) (fun _ h9 => h9) rfl dX11_sumOf_16 ?_
      refine lv_bipush (v := 8) hx hb dX11_sumOf_19 (by decide) ?_
      refine lv_iload_n hx hb dX11_sumOf_21 rfl (lv_at hl 1 rfl) ?_
      refine lv_imul hx hb dX11_sumOf_22 ?_
      refine lv_iload hx hb dX11_sumOf_23 (lv_at hl 3 rfl) ?_
      refine lv_iadd hx hb dX11_sumOf_25 ?_
      refine kg_iald hx hb hK hw h215 ((8 * f) + i) (by simp only [kn_lit, nI_add, pk_mul, nI_1]) (by omega) (by omega) dX11_sumOf_26 ?_
      refine lv_i2l (v := (tl ((8 * f) + i)).toInt64) hx hb dX11_sumOf_27 rfl ?_
      refine lv_ladd hx hb dX11_sumOf_28 ?_
      refine lv_lstore_n (lv' := [(2, .long (acc + ((tl ((8 * f) + i)).toInt64))), (0, .ref (ad 200)), (1, .int (nI f)), (4, .int (nI i))]) hx hb dX11_sumOf_29 rfl hl (by decide) rfl (fun ls hl => ?_)
      refine lv_iinc (v := (nI (i + 1))) (lv' := [(4, .int (nI (i + 1))), (2, .long (acc + ((tl ((8 * f) + i)).toInt64))), (0, .ref (ad 200)), (1, .int (nI f))]) hx hb dX11_sumOf_30 hl (k := 3) rfl (nI_1 i) (by decide) rfl (fun ls hl => ?_)
      refine lv_goto (tgt := 5) hx hb dX11_sumOf_33 (by decide) ?_
      exact ih5 (i + 1) (acc + ((tl ((8 * f) + i)).toInt64)) ls (by omega) (by omega) (by rw [ha]; rfl) (lv_sub hl [2, 3, 1, 0] rfl)
set_option maxHeartbeats 4000000 in
set_option maxRecDepth 100000 in
theorem c_X11_squaresOf (l : Launch) (D : va_G) (tc : Nat → ClassId) (sz : Nat) (ad : Nat → Nat) (ct : Nat → Option va_E) {N nt no nf : Nat} {ft tr b cm da bs : Int32} {g : Int64}              {tl : Nat → Int32}  {f : Nat} (h0 : ct 200 = some (.inr (11, [.int ft, .int tr, .int (nI N), .int b, .ref (ad 201), .long g, .int cm, .int da, .int (nI nt), .ref (ad 202), .ref (ad 203), .ref (ad 204), .ref (ad 205), .ref (ad 206), .ref (ad 207), .ref (ad 208), .ref (ad 209), .int (nI no), .ref (ad 210), .ref (ad 211), .ref (ad 212), .ref (ad 213), .ref (ad 214), .int bs, .int (nI nf), .ref (ad 215), .ref (ad 216)]))) (h215 : ct 215 = some (eI tc 320 tl)) (hf4 : f < 40) (hN : N ≤ 8) : Met l yX11_squaresOf wsX11_squaresOf ({ frames := 0, cells := 0, slots := 0, locals := 0 }) (va_Pc [.ref (ad 200), .int (nI f)] (kw_B D tc sz ad ct)) (k2_QcV (.long (su (fun c => (tl (8 * f + c)).toInt64 * (tl (8 * f + c)).toInt64) N))) 0 0 (fun _ => False) := by
  refine Met.ofW (cc := cX11_squaresOf) (maxL := 5) (ret := (some .long)) (by decide) rfl ?_
  intro pg en s m args below meth cod s₁ B hml hv
  obtain ⟨rfl, hsz, hP0, hK⟩ := hv
  have hx := B.exec
  have hb := B.bytes
  have hr := B.returns
  have hts := atoms_spec (ws := wsX11_squaresOf) B.pre
  have hown : s.vm.findClass RX11 = some m.cls := findClass_of_methodNamed B.named
  have hlocks := B.notSynchronized
  subst hsz
  have hw := kw_H.start hP0
  generalize kw_A ad ct s.heap.size = A at hw
  have hinX11 : ∀ w ∈ wsX110, w ∈ wsX11_squaresOf := by decide +kernel
  have hl := lv_entry ([.ref (ad 200), .int (nI f)]) (n := 5) (Nat.le_of_ble_eq_true rfl)
  rw [lg_entry_eq]
  generalize (lg_sl ([.ref (ad 200), .int (nI f)]) ++ List.replicate (5 - (lg_sl ([.ref (ad 200), .int (nI f)])).length) Slot.unset).toArray = ls at hl ⊢
  have hl : lv_has ls 5 [(0, .ref (ad 200)), (1, .int (nI f))] := hl
  have S0 : CallFix pg m cod cX11_squaresOf 5 s _ wsX11_squaresOf RX11 := ⟨hx, hb, hml, hown, hts⟩
  refine lv_lconst (v := 0) hx hb dX11_squaresOf_0 (by decide) ?_
  refine lv_lstore_n (lv' := [(2, .long 0), (0, .ref (ad 200)), (1, .int (nI f))]) hx hb dX11_squaresOf_1 rfl hl (by decide) rfl (fun ls hl => ?_)
  refine lv_iconst (v := 0) hx hb dX11_squaresOf_2 (by decide) ?_
  refine lv_istore (lv' := [(4, .int 0), (2, .long 0), (0, .ref (ad 200)), (1, .int (nI f))]) hx hb dX11_squaresOf_3 hl (by decide) rfl (fun ls hl => ?_)
  suffices lp5 : ∀ (nfu : Nat) (i : Nat) (acc : Int64) (ls : Array Slot), N - i < nfu → i ≤ N → acc = su (fun c => (tl (8 * f + c)).toInt64 * (tl (8 * f + c)).toInt64) i → lv_has ls 5 [(0, .ref (ad 200)), (1, .int (nI f)), (2, .long acc), (4, .int (nI i))] → W pg l en (headSpec wsX11_squaresOf ({ frames := 0, cells := 0, slots := 0, locals := 0 })).room s m (([.ref (ad 200), .int (nI f)] : List Value).toArray) below meth cod s.heap [] 0 0 (MQ below (k2_QcV (.long (su (fun c => (tl (8 * f + c)).toInt64 * (tl (8 * f + c)).toInt64) N))) (([.ref (ad 200), .int (nI f)] : List Value).toArray) s 0 0 (fun _ => False)) (F0 m 5 ls []) by
    exact lp5 (N - 0 + 1) 0 0 ls (by omega) (by omega) (by rfl) (by have hl9 := lv_sub hl (l' := [(0, .ref (ad 200)), (1, .int (nI f)), (2, .long 0), (4, .int 0)]) [2, 3, 1, 0] rfl; exact hl9)
  intro n5
  induction n5 with
  | zero => intro i acc ls hfu; exact absurd hfu (Nat.not_lt_zero _)
  | succ n5 ih5 =>
    intro i acc ls hfu5 hi ha hl
    refine lv_iload hx hb dX11_squaresOf_5 (lv_at hl 3 rfl) ?_
    refine lv_aload_n hx hb dX11_squaresOf_7 rfl (lv_at hl 0 rfl) ?_
    refine kg_get (v := .int (nI N)) (C := RX11) (T := TX11) (N := 27) hx hb hts hinX11 hown hK hw h0 rfl 2 (by decide) (hts (.fieldLink RX11 7 "BetMakerModel" "cases" "I") (by decide +kernel)) (fun _ h9 => h9) rfl dX11_squaresOf_8 ?_
    refine kn_ge i N rfl rfl (by omega) (by omega) (tgt := 50) hx hb dX11_squaresOf_11 (by decide) (fun c_1 => ?_) (fun c_1 => ?_)
    · refine lv_lload_n hx hb dX11_squaresOf_50 rfl (lv_at hl 2 rfl) ?_
      refine W.eq (congrArg (fun z => F0 m 51 ls [.long z]) (show acc = (su (fun c => (tl (8 * f + c)).toInt64 * (tl (8 * f + c)).toInt64) N) from by rw [ha, show i = N by omega])) ?_
      exact W.lret hx hb hr (fun t ht _ => ⟨rfl, ht⟩) (fun _ h => absurd h List.not_mem_nil) dX11_squaresOf_51
    · refine lv_lload_n hx hb dX11_squaresOf_14 rfl (lv_at hl 2 rfl) ?_
      refine lv_aload_n hx hb dX11_squaresOf_15 rfl (lv_at hl 0 rfl) ?_
      refine kg_get (v := .ref (ad 215)) (C := RX11) (T := TX11) (N := 27) hx hb hts hinX11 hown hK hw h0 rfl 25 (by decide) (hts (.fieldLink RX11 63 "BetMakerModel" "told" "[I") (by decide +kernel)) (fun _ h9 => h9) rfl dX11_squaresOf_16 ?_
      refine lv_bipush (v := 8) hx hb dX11_squaresOf_19 (by decide) ?_
      refine lv_iload_n hx hb dX11_squaresOf_21 rfl (lv_at hl 1 rfl) ?_
      refine lv_imul hx hb dX11_squaresOf_22 ?_
      refine lv_iload hx hb dX11_squaresOf_23 (lv_at hl 3 rfl) ?_
      refine lv_iadd hx hb dX11_squaresOf_25 ?_
      refine kg_iald hx hb hK hw h215 ((8 * f) + i) (by simp only [kn_lit, nI_add, pk_mul, nI_1]) (by omega) (by omega) dX11_squaresOf_26 ?_
      refine lv_i2l (v := (tl ((8 * f) + i)).toInt64) hx hb dX11_squaresOf_27 rfl ?_
      refine lv_aload_n hx hb dX11_squaresOf_28 rfl (lv_at hl 0 rfl) ?_
      refine kg_get (v := .ref (ad 215)) (C := RX11) (T := TX11) (N := 27) hx hb hts hinX11 hown hK hw h0 rfl 25 (by decide) (hts (.fieldLink RX11 63 "BetMakerModel" "told" "[I") (by decide +kernel)) (fun _ h9 => h9) rfl dX11_squaresOf_29 ?_
      refine lv_bipush (v := 8) hx hb dX11_squaresOf_32 (by decide) ?_
      refine lv_iload_n hx hb dX11_squaresOf_34 rfl (lv_at hl 1 rfl) ?_
      refine lv_imul hx hb dX11_squaresOf_35 ?_
      refine lv_iload hx hb dX11_squaresOf_36 (lv_at hl 3 rfl) ?_
      refine lv_iadd hx hb dX11_squaresOf_38 ?_
      refine kg_iald hx hb hK hw h215 ((8 * f) + i) (by simp only [kn_lit, nI_add, pk_mul, nI_1]) (by omega) (by omega) dX11_squaresOf_39 ?_
      refine lv_i2l (v := (tl ((8 * f) + i)).toInt64) hx hb dX11_squaresOf_40 rfl ?_
      refine lv_lmul hx hb dX11_squaresOf_41 ?_
      refine lv_ladd hx hb dX11_squaresOf_42 ?_
      refine lv_lstore_n (lv' := [(2, .long (acc + (((tl ((8 * f) + i)).toInt64) * ((tl ((8 * f) + i)).toInt64)))), (0, .ref (ad 200)), (1, .int (nI f)), (4, .int (nI i))]) hx hb dX11_squaresOf_43 rfl hl (by decide) rfl (fun ls hl => ?_)
      refine lv_iinc (v := (nI (i + 1))) (lv' := [(4, .int (nI (i + 1))), (2, .long (acc + (((tl ((8 * f) + i)).toInt64) * ((tl ((8 * f) + i)).toInt64)))), (0, .ref (ad 200)), (1, .int (nI f))]) hx hb dX11_squaresOf_44 hl (k := 3) rfl (nI_1 i) (by decide) rfl (fun ls hl => ?_)
      refine lv_goto (tgt := 5) hx hb dX11_squaresOf_47 (by decide) ?_
      exact ih5 (i + 1) (acc + (((tl ((8 * f) + i)).toInt64) * ((tl ((8 * f) + i)).toInt64))) ls (by omega) (by omega) (by rw [ha]; rfl) (lv_sub hl [2, 3, 1, 0] rfl)
set_option maxHeartbeats 4000000 in
set_option maxRecDepth 100000 in
theorem c_X11_part (l : Launch) (D : va_G) (tc : Nat → ClassId) (sz : Nat) (ad : Nat → Nat) (ct : Nat → Option va_E)                   {up dn : Int64} {which : Int32} {u d : Nat} (hdd : dn = lN d) (hd0 : 0 < d) (hd6 : d < 2 ^ 63) (huu : (if 0 ≤ up then up else -up) = lN u) (hu6 : u < 2 ^ 63) : Met l yX11_part wsX11_part ({ frames := 0, cells := 0, slots := 0, locals := 0 }) (va_Pc [.long up, .long dn, .int which] (kw_B D tc sz ad ct)) (k2_QcV (.long (if which = 0 then up / lN (Nat.gcd u d) else dn / lN (Nat.gcd u d)))) 0 0 (fun _ => False) := by
  refine Met.ofW (cc := cX11_part) (maxL := 11) (ret := (some .long)) (by decide) rfl ?_
  intro pg en s m args below meth cod s₁ B hml hv
  obtain ⟨rfl, hsz, hP0, hK⟩ := hv
  have hx := B.exec
  have hb := B.bytes
  have hr := B.returns
  have hts := atoms_spec (ws := wsX11_part) B.pre
  have hown : s.vm.findClass RX11 = some m.cls := findClass_of_methodNamed B.named
  have hlocks := B.notSynchronized
  subst hsz
  have hw := kw_H.start hP0
  generalize kw_A ad ct s.heap.size = A at hw
  have hl := lv_entry ([.long up, .long dn, .int which]) (n := 11) (Nat.le_of_ble_eq_true rfl)
  rw [lg_entry_eq]
  generalize (lg_sl ([.long up, .long dn, .int which]) ++ List.replicate (11 - (lg_sl ([.long up, .long dn, .int which])).length) Slot.unset).toArray = ls at hl ⊢
  have hl : lv_has ls 11 [(0, .long up), (2, .long dn), (4, .int which)] := hl
  have S0 : CallFix pg m cod cX11_part 11 s _ wsX11_part RX11 := ⟨hx, hb, hml, hown, hts⟩
  refine lv_lload_n hx hb dX11_part_0 rfl (lv_at hl 0 rfl) ?_
  refine lv_lconst (v := 0) hx hb dX11_part_1 (by decide) ?_
  refine W.lcmp hx hb dX11_part_2 ?_
  refine kl_ge (tgt := 11) hx hb dX11_part_3 (by decide) (fun c_1 => ?_) (fun c_1 => ?_)
  · refine lv_lload_n hx hb dX11_part_11 rfl (lv_at hl 0 rfl) ?_
    refine lv_lstore (lv' := [(5, .long up), (0, .long up), (2, .long dn), (4, .int which)]) hx hb dX11_part_12 hl (by decide) rfl (fun ls hl => ?_)
    refine lv_lload_n hx hb dX11_part_14 rfl (lv_at hl 2 rfl) ?_
    refine lv_lstore (lv' := [(7, .long dn), (5, .long up), (0, .long up), (2, .long dn), (4, .int which)]) hx hb dX11_part_15 hl (by decide) rfl (fun ls hl => ?_)
    suffices lp17 : ∀ (nfu : Nat) (x1 d1 : Nat) (ls : Array Slot), d1 < nfu → Nat.gcd x1 d1 = Nat.gcd u d → x1 < 2 ^ 63 → d1 < 2 ^ 63 → lv_has ls 11 [(0, .long up), (2, .long dn), (4, .int which), (5, .long (lN x1)), (7, .long (lN d1))] → W pg l en (headSpec wsX11_part ({ frames := 0, cells := 0, slots := 0, locals := 0 })).room s m (([.long up, .long dn, .int which] : List Value).toArray) below meth cod s.heap [] 0 0 (MQ below (k2_QcV (.long (if which = 0 then up / lN (Nat.gcd u d) else dn / lN (Nat.gcd u d)))) (([.long up, .long dn, .int which] : List Value).toArray) s 0 0 (fun _ => False)) (F0 m 17 ls []) by
      exact lp17 (d + 1) u d ls (by omega) (by rfl) (by omega) (by omega) (by have hl9 := lv_sub hl (l' := [(0, .long up), (2, .long dn), (4, .int which), (5, .long up), (7, .long dn)]) [2, 3, 4, 1, 0] rfl; rw [← huu, ← hdd, if_pos c_1]; exact hl9)
    intro n17
    induction n17 with
    | zero => intro x1 d1 ls hfu; exact absurd hfu (Nat.not_lt_zero _)
    | succ n17 ih17 =>
      intro x1 d1 ls hfu17 hgc hxb hdb hl
      refine lv_lload hx hb dX11_part_17 (lv_at hl 4 rfl) ?_
      refine lv_lconst (v := 0) hx hb dX11_part_19 (by decide) ?_
      refine W.lcmp hx hb dX11_part_20 ?_
      refine kl_eq (tgt := 42) hx hb dX11_part_21 (by decide) (fun c_2 => ?_) (fun c_2 => ?_)
      · have hz := kpd hgc c_2 hdb hxb hd0
        refine lv_iload hx hb dX11_part_42 (lv_at hl 2 rfl) ?_
        refine lv_if_ne (tgt := 54) hx hb dX11_part_44 (by decide) (fun c_3 => ?_) (fun c_3 => ?_)
        · refine lv_lload_n hx hb dX11_part_54 rfl (lv_at hl 1 rfl) ?_
          refine lv_lload hx hb dX11_part_55 (lv_at hl 3 rfl) ?_
          refine lv_ldiv hx hb dX11_part_57 hz.2 ?_
          refine W.eq (congrArg (fun z => F0 m 58 ls [.long z]) (show (dn / (lN x1)) = (if which = 0 then up / lN (Nat.gcd u d) else dn / lN (Nat.gcd u d)) from by rw [if_neg c_3, ← hz.1])) ?_
          exact W.lret hx hb hr (fun t ht _ => ⟨rfl, ht⟩) (fun _ h => absurd h List.not_mem_nil) dX11_part_58
        · refine lv_lload_n hx hb dX11_part_47 rfl (lv_at hl 0 rfl) ?_
          refine lv_lload hx hb dX11_part_48 (lv_at hl 3 rfl) ?_
          refine lv_ldiv hx hb dX11_part_50 hz.2 ?_
          refine lv_goto (tgt := 58) hx hb dX11_part_51 (by decide) ?_
          refine W.eq (congrArg (fun z => F0 m 58 ls [.long z]) (show (up / (lN x1)) = (if which = 0 then up / lN (Nat.gcd u d) else dn / lN (Nat.gcd u d)) from by rw [if_pos c_3, ← hz.1])) ?_
          exact W.lret hx hb hr (fun t ht _ => ⟨rfl, ht⟩) (fun _ h => absurd h List.not_mem_nil) dX11_part_58
      · have hdp := kpd_p c_2
        have hml2 := Nat.mod_lt x1 hdp
        refine lv_lload hx hb dX11_part_24 (lv_at hl 3 rfl) ?_
        refine lv_lload hx hb dX11_part_26 (lv_at hl 4 rfl) ?_
        refine lv_lrem hx hb dX11_part_28 c_2 ?_
        refine lv_lstore (lv' := [(9, .long ((lN x1) - (lN x1) / (lN d1) * (lN d1))), (0, .long up), (2, .long dn), (4, .int which), (5, .long (lN x1)), (7, .long (lN d1))]) hx hb dX11_part_29 hl (by decide) rfl (fun ls hl => ?_)
        refine lv_lload hx hb dX11_part_31 (lv_at hl 5 rfl) ?_
        refine lv_lstore (lv' := [(5, .long (lN d1)), (9, .long ((lN x1) - (lN x1) / (lN d1) * (lN d1))), (0, .long up), (2, .long dn), (4, .int which), (7, .long (lN d1))]) hx hb dX11_part_33 hl (by decide) rfl (fun ls hl => ?_)
        refine lv_lload hx hb dX11_part_35 (lv_at hl 1 rfl) ?_
        refine lv_lstore (lv' := [(7, .long ((lN x1) - (lN x1) / (lN d1) * (lN d1))), (5, .long (lN d1)), (9, .long ((lN x1) - (lN x1) / (lN d1) * (lN d1))), (0, .long up), (2, .long dn), (4, .int which)]) hx hb dX11_part_37 hl (by decide) rfl (fun ls hl => ?_)
        refine lv_goto (tgt := 17) hx hb dX11_part_39 (by decide) ?_
        exact ih17 d1 (x1 % d1) ls (by omega) (by exact kpd_s hgc) (by omega) (by exact Nat.lt_trans (Nat.mod_lt _ (kpd_p c_2)) hdb) (by have hl9 := lv_sub hl (l' := [(0, .long up), (2, .long dn), (4, .int which), (5, .long (lN d1)), (7, .long ((lN x1) - (lN x1) / (lN d1) * (lN d1)))]) [3, 4, 5, 1, 0] rfl; rw [pk_lRem hxb (kpd_p c_2) hdb] at hl9; exact hl9)
  · refine lv_lload_n hx hb dX11_part_6 rfl (lv_at hl 0 rfl) ?_
    refine lv_lneg hx hb dX11_part_7 ?_
    refine lv_goto (tgt := 12) hx hb dX11_part_8 (by decide) ?_
    refine lv_lstore (lv' := [(5, .long (-up)), (0, .long up), (2, .long dn), (4, .int which)]) hx hb dX11_part_12 hl (by decide) rfl (fun ls hl => ?_)
    refine lv_lload_n hx hb dX11_part_14 rfl (lv_at hl 2 rfl) ?_
    refine lv_lstore (lv' := [(7, .long dn), (5, .long (-up)), (0, .long up), (2, .long dn), (4, .int which)]) hx hb dX11_part_15 hl (by decide) rfl (fun ls hl => ?_)
    suffices lp17 : ∀ (nfu : Nat) (x1 d1 : Nat) (ls : Array Slot), d1 < nfu → Nat.gcd x1 d1 = Nat.gcd u d → x1 < 2 ^ 63 → d1 < 2 ^ 63 → lv_has ls 11 [(0, .long up), (2, .long dn), (4, .int which), (5, .long (lN x1)), (7, .long (lN d1))] → W pg l en (headSpec wsX11_part ({ frames := 0, cells := 0, slots := 0, locals := 0 })).room s m (([.long up, .long dn, .int which] : List Value).toArray) below meth cod s.heap [] 0 0 (MQ below (k2_QcV (.long (if which = 0 then up / lN (Nat.gcd u d) else dn / lN (Nat.gcd u d)))) (([.long up, .long dn, .int which] : List Value).toArray) s 0 0 (fun _ => False)) (F0 m 17 ls []) by
      exact lp17 (d + 1) u d ls (by omega) (by rfl) (by omega) (by omega) (by have hl9 := lv_sub hl (l' := [(0, .long up), (2, .long dn), (4, .int which), (5, .long (-up)), (7, .long dn)]) [2, 3, 4, 1, 0] rfl; rw [← huu, ← hdd, if_neg c_1]; exact hl9)
    intro n17
    induction n17 with
    | zero => intro x1 d1 ls hfu; exact absurd hfu (Nat.not_lt_zero _)
    | succ n17 ih17 =>
      intro x1 d1 ls hfu17 hgc hxb hdb hl
      refine lv_lload hx hb dX11_part_17 (lv_at hl 4 rfl) ?_
      refine lv_lconst (v := 0) hx hb dX11_part_19 (by decide) ?_
      refine W.lcmp hx hb dX11_part_20 ?_
      refine kl_eq (tgt := 42) hx hb dX11_part_21 (by decide) (fun c_4 => ?_) (fun c_4 => ?_)
      · have hz := kpd hgc c_4 hdb hxb hd0
        refine lv_iload hx hb dX11_part_42 (lv_at hl 2 rfl) ?_
        refine lv_if_ne (tgt := 54) hx hb dX11_part_44 (by decide) (fun c_5 => ?_) (fun c_5 => ?_)
        · refine lv_lload_n hx hb dX11_part_54 rfl (lv_at hl 1 rfl) ?_
          refine lv_lload hx hb dX11_part_55 (lv_at hl 3 rfl) ?_
          refine lv_ldiv hx hb dX11_part_57 hz.2 ?_
          refine W.eq (congrArg (fun z => F0 m 58 ls [.long z]) (show (dn / (lN x1)) = (if which = 0 then up / lN (Nat.gcd u d) else dn / lN (Nat.gcd u d)) from by rw [if_neg c_5, ← hz.1])) ?_
          exact W.lret hx hb hr (fun t ht _ => ⟨rfl, ht⟩) (fun _ h => absurd h List.not_mem_nil) dX11_part_58
        · refine lv_lload_n hx hb dX11_part_47 rfl (lv_at hl 0 rfl) ?_
          refine lv_lload hx hb dX11_part_48 (lv_at hl 3 rfl) ?_
          refine lv_ldiv hx hb dX11_part_50 hz.2 ?_
          refine lv_goto (tgt := 58) hx hb dX11_part_51 (by decide) ?_
          refine W.eq (congrArg (fun z => F0 m 58 ls [.long z]) (show (up / (lN x1)) = (if which = 0 then up / lN (Nat.gcd u d) else dn / lN (Nat.gcd u d)) from by rw [if_pos c_5, ← hz.1])) ?_
          exact W.lret hx hb hr (fun t ht _ => ⟨rfl, ht⟩) (fun _ h => absurd h List.not_mem_nil) dX11_part_58
      · have hdp := kpd_p c_4
        have hml2 := Nat.mod_lt x1 hdp
        refine lv_lload hx hb dX11_part_24 (lv_at hl 3 rfl) ?_
        refine lv_lload hx hb dX11_part_26 (lv_at hl 4 rfl) ?_
        refine lv_lrem hx hb dX11_part_28 c_4 ?_
        refine lv_lstore (lv' := [(9, .long ((lN x1) - (lN x1) / (lN d1) * (lN d1))), (0, .long up), (2, .long dn), (4, .int which), (5, .long (lN x1)), (7, .long (lN d1))]) hx hb dX11_part_29 hl (by decide) rfl (fun ls hl => ?_)
        refine lv_lload hx hb dX11_part_31 (lv_at hl 5 rfl) ?_
        refine lv_lstore (lv' := [(5, .long (lN d1)), (9, .long ((lN x1) - (lN x1) / (lN d1) * (lN d1))), (0, .long up), (2, .long dn), (4, .int which), (7, .long (lN d1))]) hx hb dX11_part_33 hl (by decide) rfl (fun ls hl => ?_)
        refine lv_lload hx hb dX11_part_35 (lv_at hl 1 rfl) ?_
        refine lv_lstore (lv' := [(7, .long ((lN x1) - (lN x1) / (lN d1) * (lN d1))), (5, .long (lN d1)), (9, .long ((lN x1) - (lN x1) / (lN d1) * (lN d1))), (0, .long up), (2, .long dn), (4, .int which)]) hx hb dX11_part_37 hl (by decide) rfl (fun ls hl => ?_)
        refine lv_goto (tgt := 17) hx hb dX11_part_39 (by decide) ?_
        exact ih17 d1 (x1 % d1) ls (by omega) (by exact kpd_s hgc) (by omega) (by exact Nat.lt_trans (Nat.mod_lt _ (kpd_p c_4)) hdb) (by have hl9 := lv_sub hl (l' := [(0, .long up), (2, .long dn), (4, .int which), (5, .long (lN d1)), (7, .long ((lN x1) - (lN x1) / (lN d1) * (lN d1)))]) [3, 4, 5, 1, 0] rfl; rw [pk_lRem hxb (kpd_p c_4) hdb] at hl9; exact hl9)
set_option maxHeartbeats 4000000 in
set_option maxRecDepth 100000 in
theorem c_X11_score_n (l : Launch) (D : va_G) (tc : Nat → ClassId) (sz : Nat) (ad : Nat → Nat) (ct : Nat → Option va_E) {N nt no nf : Nat} {ft tr b cm da bs : Int32} {g : Int64}                {f which : Int32} (h0 : ct 200 = some (.inr (11, [.int ft, .int tr, .int (nI N), .int b, .ref (ad 201), .long g, .int cm, .int da, .int (nI nt), .ref (ad 202), .ref (ad 203), .ref (ad 204), .ref (ad 205), .ref (ad 206), .ref (ad 207), .ref (ad 208), .ref (ad 209), .int (nI no), .ref (ad 210), .ref (ad 211), .ref (ad 212), .ref (ad 213), .ref (ad 214), .int bs, .int (nI nf), .ref (ad 215), .ref (ad 216)]))) (hbad : ¬ ((0 ≤ f ∧ f < nI nf) ∧ 0 ≤ which.toInt64 ∧ which.toInt64 ≤ 1)) : Met l yX11_score wsX11_score ({ frames := 1, cells := 0, slots := 0, locals := 34 }) (va_Pc [.ref (ad 200), .int f, .int which] (kw_B D tc sz ad ct)) (k2_QcV (.long (-9223372036854775808))) 0 0 (fun _ => False) := by
  refine Met.ofW (cc := cX11_score) (maxL := 5) (ret := (some .long)) (by decide) rfl ?_
  intro pg en s m args below meth cod s₁ B hml hv
  obtain ⟨rfl, hsz, hP0, hK⟩ := hv
  have hx := B.exec
  have hb := B.bytes
  have hr := B.returns
  have hts := atoms_spec (ws := wsX11_score) B.pre
  have hown : s.vm.findClass RX11 = some m.cls := findClass_of_methodNamed B.named
  have hlocks := B.notSynchronized
  subst hsz
  have hw := kw_H.start hP0
  generalize kw_A ad ct s.heap.size = A at hw
  have hinX11 : ∀ w ∈ wsX110, w ∈ wsX11_score := by decide +kernel
  have hl := lv_entry ([.ref (ad 200), .int f, .int which]) (n := 5) (Nat.le_of_ble_eq_true rfl)
  rw [lg_entry_eq]
  generalize (lg_sl ([.ref (ad 200), .int f, .int which]) ++ List.replicate (5 - (lg_sl ([.ref (ad 200), .int f, .int which])).length) Slot.unset).toArray = ls at hl ⊢
  have hl : lv_has ls 5 [(0, .ref (ad 200)), (1, .int f), (2, .int which)] := hl
  have S0 : CallFix pg m cod cX11_score 5 s _ wsX11_score RX11 := ⟨hx, hb, hml, hown, hts⟩
  refine lv_iload_n hx hb dX11_score_0 rfl (lv_at hl 1 rfl) ?_
  refine lv_if_lt (tgt := 22) hx hb dX11_score_1 (by decide) (fun c_1 => ?_) (fun c_1 => ?_)
  · refine lv_ldc2 (v := (-9223372036854775808)) hx hb hown (hts (.constantLong RX11 72 (-9223372036854775808)) (by decide +kernel)) dX11_score_22 ?_
    exact W.lret hx hb hr (fun t ht _ => ⟨rfl, ht⟩) (fun _ h => absurd h List.not_mem_nil) dX11_score_25
  · refine lv_iload_n hx hb dX11_score_4 rfl (lv_at hl 1 rfl) ?_
    refine lv_aload_n hx hb dX11_score_5 rfl (lv_at hl 0 rfl) ?_
    refine kg_get (v := .int (nI nf)) (C := RX11) (T := TX11) (N := 27) hx hb hts hinX11 hown hK hw h0 rfl 24 (by decide) (hts (.fieldLink RX11 99 "BetMakerModel" "forecasts" "I") (by decide +kernel)) (fun _ h9 => h9) rfl dX11_score_6 ?_
    refine lv_icmp_ge (tgt := 22) hx hb dX11_score_9 (by decide) (fun c_2 => ?_) (fun c_2 => ?_)
    · refine lv_ldc2 (v := (-9223372036854775808)) hx hb hown (hts (.constantLong RX11 72 (-9223372036854775808)) (by decide +kernel)) dX11_score_22 ?_
      exact W.lret hx hb hr (fun t ht _ => ⟨rfl, ht⟩) (fun _ h => absurd h List.not_mem_nil) dX11_score_25
    · refine lv_iload_n hx hb dX11_score_12 rfl (lv_at hl 2 rfl) ?_
      refine lv_i2l (v := which.toInt64) hx hb dX11_score_13 rfl ?_
      refine lv_lconst (v := 0) hx hb dX11_score_14 (by decide) ?_
      refine lv_lconst (v := 1) hx hb dX11_score_15 (by decide) ?_
      refine kc_s (As := [.long which.toInt64, .long 0, .long 1]) (rest := []) S0 (c_X11_within l D tc s.heap.size ad ct ) (va_cwS 3 hts gX11_score_X11_within rfl rfl rfl (by decide +kernel) ⟨Nat.le_of_ble_eq_true rfl, Nat.le_of_ble_eq_true rfl⟩) hK hw rfl hl.1 rfl (Nat.le_of_ble_eq_true rfl) dX11_score_16 ⟨Nat.le_of_ble_eq_true rfl, (Nat.le_of_ble_eq_true rfl)⟩ ?_
      refine kb_ifne (tgt := 26) hx hb dX11_score_19 (by decide) (fun c_3 => ?_) (fun c_3 => ?_)
      · exact absurd ⟨⟨kq_1 c_1, kq_2 c_2⟩, c_3⟩ hbad
      · refine lv_ldc2 (v := (-9223372036854775808)) hx hb hown (hts (.constantLong RX11 72 (-9223372036854775808)) (by decide +kernel)) dX11_score_22 ?_
        exact W.lret hx hb hr (fun t ht _ => ⟨rfl, ht⟩) (fun _ h => absurd h List.not_mem_nil) dX11_score_25
set_option maxHeartbeats 4000000 in
set_option maxRecDepth 100000 in
theorem c_X11_score (l : Launch) (D : va_G) (tc : Nat → ClassId) (sz : Nat) (ad : Nat → Nat) (ct : Nat → Option va_E) {N nt no nf : Nat} {ft tr b cm da bs : Int32} {g : Int64}              {tl : Nat → Int32} {ca : Nat → Int32} {f cf u d : Nat} {which : Int32} (h0 : ct 200 = some (.inr (11, [.int ft, .int tr, .int (nI N), .int b, .ref (ad 201), .long g, .int cm, .int da, .int (nI nt), .ref (ad 202), .ref (ad 203), .ref (ad 204), .ref (ad 205), .ref (ad 206), .ref (ad 207), .ref (ad 208), .ref (ad 209), .int (nI no), .ref (ad 210), .ref (ad 211), .ref (ad 212), .ref (ad 213), .ref (ad 214), .int bs, .int (nI nf), .ref (ad 215), .ref (ad 216)]))) (h215 : ct 215 = some (eI tc 320 tl)) (h216 : ct 216 = some (eI tc 40 ca)) (hf : f < nf) (hnf : nf ≤ 40) (hN : N ≤ 8) (hwh : 0 ≤ which.toInt64 ∧ which.toInt64 ≤ 1) (hcf : ca f = nI cf) (hcN : cf < N) (hdd : su (fun c => (tl (8 * f + c)).toInt64) N * su (fun c => (tl (8 * f + c)).toInt64) N = lN d) (hd0 : 0 < d) (hd6 : d < 2 ^ 63) (huu : (if 0 ≤ 2 * su (fun c => (tl (8 * f + c)).toInt64) N * (tl (8 * f + cf)).toInt64 - su (fun c => (tl (8 * f + c)).toInt64 * (tl (8 * f + c)).toInt64) N then 2 * su (fun c => (tl (8 * f + c)).toInt64) N * (tl (8 * f + cf)).toInt64 - su (fun c => (tl (8 * f + c)).toInt64 * (tl (8 * f + c)).toInt64) N else -(2 * su (fun c => (tl (8 * f + c)).toInt64) N * (tl (8 * f + cf)).toInt64 - su (fun c => (tl (8 * f + c)).toInt64 * (tl (8 * f + c)).toInt64) N)) = lN u) (hu6 : u < 2 ^ 63) : Met l yX11_score wsX11_score ({ frames := 1, cells := 0, slots := 0, locals := 34 }) (va_Pc [.ref (ad 200), .int (nI f), .int which] (kw_B D tc sz ad ct)) (k2_QcV (.long (if which = 0 then (2 * su (fun c => (tl (8 * f + c)).toInt64) N * (tl (8 * f + cf)).toInt64 - su (fun c => (tl (8 * f + c)).toInt64 * (tl (8 * f + c)).toInt64) N) / lN (Nat.gcd u d) else (su (fun c => (tl (8 * f + c)).toInt64) N * su (fun c => (tl (8 * f + c)).toInt64) N) / lN (Nat.gcd u d)))) 0 0 (fun _ => False) := by
  refine Met.ofW (cc := cX11_score) (maxL := 5) (ret := (some .long)) (by decide) rfl ?_
  intro pg en s m args below meth cod s₁ B hml hv
  obtain ⟨rfl, hsz, hP0, hK⟩ := hv
  have hx := B.exec
  have hb := B.bytes
  have hr := B.returns
  have hts := atoms_spec (ws := wsX11_score) B.pre
  have hown : s.vm.findClass RX11 = some m.cls := findClass_of_methodNamed B.named
  have hlocks := B.notSynchronized
  subst hsz
  have hw := kw_H.start hP0
  generalize kw_A ad ct s.heap.size = A at hw
  have hinX11 : ∀ w ∈ wsX110, w ∈ wsX11_score := by decide +kernel
  have hl := lv_entry ([.ref (ad 200), .int (nI f), .int which]) (n := 5) (Nat.le_of_ble_eq_true rfl)
  rw [lg_entry_eq]
  generalize (lg_sl ([.ref (ad 200), .int (nI f), .int which]) ++ List.replicate (5 - (lg_sl ([.ref (ad 200), .int (nI f), .int which])).length) Slot.unset).toArray = ls at hl ⊢
  have hl : lv_has ls 5 [(0, .ref (ad 200)), (1, .int (nI f)), (2, .int which)] := hl
  have S0 : CallFix pg m cod cX11_score 5 s _ wsX11_score RX11 := ⟨hx, hb, hml, hown, hts⟩
  refine lv_iload_n hx hb dX11_score_0 rfl (lv_at hl 1 rfl) ?_
  refine lv_if_lt (tgt := 22) hx hb dX11_score_1 (by decide) (fun c_1 => ?_) (fun c_1 => ?_)
  · exact absurd c_1 (nI_pos (by omega))
  · refine lv_iload_n hx hb dX11_score_4 rfl (lv_at hl 1 rfl) ?_
    refine lv_aload_n hx hb dX11_score_5 rfl (lv_at hl 0 rfl) ?_
    refine kg_get (v := .int (nI nf)) (C := RX11) (T := TX11) (N := 27) hx hb hts hinX11 hown hK hw h0 rfl 24 (by decide) (hts (.fieldLink RX11 99 "BetMakerModel" "forecasts" "I") (by decide +kernel)) (fun _ h9 => h9) rfl dX11_score_6 ?_
    refine kn_ge f nf rfl rfl (by omega) (by omega) (tgt := 22) hx hb dX11_score_9 (by decide) (fun c_2 => ?_) (fun c_2 => ?_)
    · exfalso; omega
    · refine lv_iload_n hx hb dX11_score_12 rfl (lv_at hl 2 rfl) ?_
      refine lv_i2l (v := which.toInt64) hx hb dX11_score_13 rfl ?_
      refine lv_lconst (v := 0) hx hb dX11_score_14 (by decide) ?_
      refine lv_lconst (v := 1) hx hb dX11_score_15 (by decide) ?_
      refine kc_s (As := [.long which.toInt64, .long 0, .long 1]) (rest := []) S0 (c_X11_within l D tc s.heap.size ad ct ) (va_cwS 3 hts gX11_score_X11_within rfl rfl rfl (by decide +kernel) ⟨Nat.le_of_ble_eq_true rfl, Nat.le_of_ble_eq_true rfl⟩) hK hw rfl hl.1 rfl (Nat.le_of_ble_eq_true rfl) dX11_score_16 ⟨Nat.le_of_ble_eq_true rfl, (Nat.le_of_ble_eq_true rfl)⟩ ?_
      refine kb_ifne (tgt := 26) hx hb dX11_score_19 (by decide) (fun c_3 => ?_) (fun c_3 => ?_)
      · refine lv_aload_n hx hb dX11_score_26 rfl (lv_at hl 0 rfl) ?_
        refine lv_iload_n hx hb dX11_score_27 rfl (lv_at hl 1 rfl) ?_
        refine kc_v (As := [.int (nI f)]) (rest := []) S0 (c_X11_sumOf l D tc s.heap.size ad ct (f := f) (N := N) (nt := nt) (no := no) (nf := nf) h0 h215 (by omega) (by omega)) (cwV 1 hts gX11_score_X11_sumOf rfl rfl rfl (by decide +kernel) ⟨Nat.le_of_ble_eq_true rfl, Nat.le_of_ble_eq_true rfl⟩) hK hw h0 rfl rfl hl.1 rfl (Nat.le_of_ble_eq_true rfl) dX11_score_28 ⟨Nat.le_of_ble_eq_true rfl, (Nat.le_of_ble_eq_true rfl)⟩ ?_
        refine lv_lstore_n (lv' := [(3, .long (su (fun c => (tl (8 * f + c)).toInt64) N)), (0, .ref (ad 200)), (1, .int (nI f)), (2, .int which)]) hx hb dX11_score_31 rfl hl (by decide) rfl (fun ls hl => ?_)
        refine lv_ldc2 (v := 2) hx hb hown (hts (.constantLong RX11 76 (2)) (by decide +kernel)) dX11_score_32 ?_
        refine lv_lload_n hx hb dX11_score_35 rfl (lv_at hl 0 rfl) ?_
        refine lv_lmul hx hb dX11_score_36 ?_
        refine lv_aload_n hx hb dX11_score_37 rfl (lv_at hl 1 rfl) ?_
        refine kg_get (v := .ref (ad 215)) (C := RX11) (T := TX11) (N := 27) hx hb hts hinX11 hown hK hw h0 rfl 25 (by decide) (hts (.fieldLink RX11 63 "BetMakerModel" "told" "[I") (by decide +kernel)) (fun _ h9 => h9) rfl dX11_score_38 ?_
        refine lv_bipush (v := 8) hx hb dX11_score_41 (by decide) ?_
        refine lv_iload_n hx hb dX11_score_43 rfl (lv_at hl 2 rfl) ?_
        refine lv_imul hx hb dX11_score_44 ?_
        refine lv_aload_n hx hb dX11_score_45 rfl (lv_at hl 1 rfl) ?_
        refine kg_get (v := .ref (ad 216)) (C := RX11) (T := TX11) (N := 27) hx hb hts hinX11 hown hK hw h0 rfl 26 (by decide) (hts (.fieldLink RX11 66 "BetMakerModel" "cameThen" "[I") (by decide +kernel)) (fun _ h9 => h9) rfl dX11_score_46 ?_
        refine lv_iload_n hx hb dX11_score_49 rfl (lv_at hl 2 rfl) ?_
        refine kg_iald hx hb hK hw h216 f rfl (by omega) (by omega) dX11_score_50 ?_
        rw [show ca f = nI cf from hcf]
        refine lv_iadd hx hb dX11_score_51 ?_
        refine kg_iald hx hb hK hw h215 ((8 * f) + cf) (by simp only [kn_lit, nI_add, pk_mul, nI_1]) (by omega) (by omega) dX11_score_52 ?_
        refine lv_i2l (v := (tl ((8 * f) + cf)).toInt64) hx hb dX11_score_53 rfl ?_
        refine lv_lmul hx hb dX11_score_54 ?_
        refine lv_aload_n hx hb dX11_score_55 rfl (lv_at hl 1 rfl) ?_
        refine lv_iload_n hx hb dX11_score_56 rfl (lv_at hl 2 rfl) ?_
        refine kc_v (As := [.int (nI f)]) (rest := [.long ((2 * (su (fun c => (tl (8 * f + c)).toInt64) N)) * ((tl ((8 * f) + cf)).toInt64))]) S0 (c_X11_squaresOf l D tc s.heap.size ad ct (f := f) (N := N) (nt := nt) (no := no) (nf := nf) h0 h215 (by omega) (by omega)) (cwV 1 hts gX11_score_X11_squaresOf rfl rfl rfl (by decide +kernel) ⟨Nat.le_of_ble_eq_true rfl, Nat.le_of_ble_eq_true rfl⟩) hK hw h0 rfl rfl hl.1 rfl (Nat.le_of_ble_eq_true rfl) dX11_score_57 ⟨Nat.le_of_ble_eq_true rfl, (Nat.le_of_ble_eq_true rfl)⟩ ?_
        refine lv_lsub hx hb dX11_score_60 ?_
        refine lv_lload_n hx hb dX11_score_61 rfl (lv_at hl 0 rfl) ?_
        refine lv_lload_n hx hb dX11_score_62 rfl (lv_at hl 0 rfl) ?_
        refine lv_lmul hx hb dX11_score_63 ?_
        refine lv_iload_n hx hb dX11_score_64 rfl (lv_at hl 3 rfl) ?_
        refine kc_s (As := [.long (((2 * (su (fun c => (tl (8 * f + c)).toInt64) N)) * ((tl ((8 * f) + cf)).toInt64)) - (su (fun c => (tl (8 * f + c)).toInt64 * (tl (8 * f + c)).toInt64) N)), .long ((su (fun c => (tl (8 * f + c)).toInt64) N) * (su (fun c => (tl (8 * f + c)).toInt64) N)), .int which]) (rest := []) S0 (c_X11_part l D tc s.heap.size ad ct hdd hd0 hd6 huu hu6) (va_cwS 3 hts gX11_score_X11_part rfl rfl rfl (by decide +kernel) ⟨Nat.le_of_ble_eq_true rfl, Nat.le_of_ble_eq_true rfl⟩) hK hw rfl hl.1 rfl (Nat.le_of_ble_eq_true rfl) dX11_score_65 ⟨Nat.le_of_ble_eq_true rfl, (Nat.le_of_ble_eq_true rfl)⟩ ?_
        refine W.eq (congrArg (fun z => F0 m 68 ls [.long z]) (show (if which = 0 then (((2 * (su (fun c => (tl (8 * f + c)).toInt64) N)) * ((tl ((8 * f) + cf)).toInt64)) - (su (fun c => (tl (8 * f + c)).toInt64 * (tl (8 * f + c)).toInt64) N)) / lN (Nat.gcd u d) else ((su (fun c => (tl (8 * f + c)).toInt64) N) * (su (fun c => (tl (8 * f + c)).toInt64) N)) / lN (Nat.gcd u d)) = (if which = 0 then (2 * su (fun c => (tl (8 * f + c)).toInt64) N * (tl (8 * f + cf)).toInt64 - su (fun c => (tl (8 * f + c)).toInt64 * (tl (8 * f + c)).toInt64) N) / lN (Nat.gcd u d) else (su (fun c => (tl (8 * f + c)).toInt64) N * su (fun c => (tl (8 * f + c)).toInt64) N) / lN (Nat.gcd u d)) from by rfl)) ?_
        exact W.lret hx hb hr (fun t ht _ => ⟨rfl, ht⟩) (fun _ h => absurd h List.not_mem_nil) dX11_score_68
      · exact absurd hwh c_3
set_option maxHeartbeats 4000000 in
set_option maxRecDepth 100000 in
theorem c_X11_honest_n (l : Launch) (D : va_G) (tc : Nat → ClassId) (sz : Nat) (ad : Nat → Nat) (ct : Nat → Option va_E) {N nt no nf : Nat} {ft tr b cm da bs : Int32} {g : Int64}                {t f which : Int32} (h0 : ct 200 = some (.inr (11, [.int ft, .int tr, .int (nI N), .int b, .ref (ad 201), .long g, .int cm, .int da, .int (nI nt), .ref (ad 202), .ref (ad 203), .ref (ad 204), .ref (ad 205), .ref (ad 206), .ref (ad 207), .ref (ad 208), .ref (ad 209), .int (nI no), .ref (ad 210), .ref (ad 211), .ref (ad 212), .ref (ad 213), .ref (ad 214), .int bs, .int (nI nf), .ref (ad 215), .ref (ad 216)]))) (hbad : ¬ ((0 ≤ t ∧ t < nI nt) ∧ (0 ≤ f ∧ f < nI nf) ∧ 0 ≤ which.toInt64 ∧ which.toInt64 ≤ 1)) : Met l yX11_honest wsX11_honest ({ frames := 1, cells := 0, slots := 0, locals := 34 }) (va_Pc [.ref (ad 200), .int t, .int f, .int which] (kw_B D tc sz ad ct)) (k2_QcV (.long (-9223372036854775808))) 0 0 (fun _ => False) := by
  refine Met.ofW (cc := cX11_honest) (maxL := 11) (ret := (some .long)) (by decide) rfl ?_
  intro pg en s m args below meth cod s₁ B hml hv
  obtain ⟨rfl, hsz, hP0, hK⟩ := hv
  have hx := B.exec
  have hb := B.bytes
  have hr := B.returns
  have hts := atoms_spec (ws := wsX11_honest) B.pre
  have hown : s.vm.findClass RX11 = some m.cls := findClass_of_methodNamed B.named
  have hlocks := B.notSynchronized
  subst hsz
  have hw := kw_H.start hP0
  generalize kw_A ad ct s.heap.size = A at hw
  have hinX11 : ∀ w ∈ wsX110, w ∈ wsX11_honest := by decide +kernel
  have hl := lv_entry ([.ref (ad 200), .int t, .int f, .int which]) (n := 11) (Nat.le_of_ble_eq_true rfl)
  rw [lg_entry_eq]
  generalize (lg_sl ([.ref (ad 200), .int t, .int f, .int which]) ++ List.replicate (11 - (lg_sl ([.ref (ad 200), .int t, .int f, .int which])).length) Slot.unset).toArray = ls at hl ⊢
  have hl : lv_has ls 11 [(0, .ref (ad 200)), (1, .int t), (2, .int f), (3, .int which)] := hl
  have S0 : CallFix pg m cod cX11_honest 11 s _ wsX11_honest RX11 := ⟨hx, hb, hml, hown, hts⟩
  refine lv_aload_n hx hb dX11_honest_0 rfl (lv_at hl 0 rfl) ?_
  refine lv_iload_n hx hb dX11_honest_1 rfl (lv_at hl 1 rfl) ?_
  refine kc_v (As := [.int t]) (rest := []) S0 (c_X11_isTrader l D tc s.heap.size ad ct (N := N) (nt := nt) (no := no) (nf := nf) h0) (cwV 1 hts gX11_honest_X11_isTrader rfl rfl rfl (by decide +kernel) ⟨Nat.le_of_ble_eq_true rfl, Nat.le_of_ble_eq_true rfl⟩) hK hw h0 rfl rfl hl.1 rfl (Nat.le_of_ble_eq_true rfl) dX11_honest_2 ⟨Nat.le_of_ble_eq_true rfl, (Nat.le_of_ble_eq_true rfl)⟩ ?_
  refine kb_ifeq (tgt := 30) hx hb dX11_honest_5 (by decide) (fun c_1 => ?_) (fun c_1 => ?_)
  · refine lv_ldc2 (v := (-9223372036854775808)) hx hb hown (hts (.constantLong RX11 72 (-9223372036854775808)) (by decide +kernel)) dX11_honest_30 ?_
    exact W.lret hx hb hr (fun t ht _ => ⟨rfl, ht⟩) (fun _ h => absurd h List.not_mem_nil) dX11_honest_33
  · refine lv_iload_n hx hb dX11_honest_8 rfl (lv_at hl 2 rfl) ?_
    refine lv_if_lt (tgt := 30) hx hb dX11_honest_9 (by decide) (fun c_2 => ?_) (fun c_2 => ?_)
    · refine lv_ldc2 (v := (-9223372036854775808)) hx hb hown (hts (.constantLong RX11 72 (-9223372036854775808)) (by decide +kernel)) dX11_honest_30 ?_
      exact W.lret hx hb hr (fun t ht _ => ⟨rfl, ht⟩) (fun _ h => absurd h List.not_mem_nil) dX11_honest_33
    · refine lv_iload_n hx hb dX11_honest_12 rfl (lv_at hl 2 rfl) ?_
      refine lv_aload_n hx hb dX11_honest_13 rfl (lv_at hl 0 rfl) ?_
      refine kg_get (v := .int (nI nf)) (C := RX11) (T := TX11) (N := 27) hx hb hts hinX11 hown hK hw h0 rfl 24 (by decide) (hts (.fieldLink RX11 99 "BetMakerModel" "forecasts" "I") (by decide +kernel)) (fun _ h9 => h9) rfl dX11_honest_14 ?_
      refine lv_icmp_ge (tgt := 30) hx hb dX11_honest_17 (by decide) (fun c_3 => ?_) (fun c_3 => ?_)
      · refine lv_ldc2 (v := (-9223372036854775808)) hx hb hown (hts (.constantLong RX11 72 (-9223372036854775808)) (by decide +kernel)) dX11_honest_30 ?_
        exact W.lret hx hb hr (fun t ht _ => ⟨rfl, ht⟩) (fun _ h => absurd h List.not_mem_nil) dX11_honest_33
      · refine lv_iload_n hx hb dX11_honest_20 rfl (lv_at hl 3 rfl) ?_
        refine lv_i2l (v := which.toInt64) hx hb dX11_honest_21 rfl ?_
        refine lv_lconst (v := 0) hx hb dX11_honest_22 (by decide) ?_
        refine lv_lconst (v := 1) hx hb dX11_honest_23 (by decide) ?_
        refine kc_s (As := [.long which.toInt64, .long 0, .long 1]) (rest := []) S0 (c_X11_within l D tc s.heap.size ad ct ) (va_cwS 3 hts gX11_honest_X11_within rfl rfl rfl (by decide +kernel) ⟨Nat.le_of_ble_eq_true rfl, Nat.le_of_ble_eq_true rfl⟩) hK hw rfl hl.1 rfl (Nat.le_of_ble_eq_true rfl) dX11_honest_24 ⟨Nat.le_of_ble_eq_true rfl, (Nat.le_of_ble_eq_true rfl)⟩ ?_
        refine kb_ifne (tgt := 34) hx hb dX11_honest_27 (by decide) (fun c_4 => ?_) (fun c_4 => ?_)
        · exact absurd ⟨c_1, ⟨kq_1 c_2, kq_2 c_3⟩, c_4⟩ hbad
        · refine lv_ldc2 (v := (-9223372036854775808)) hx hb hown (hts (.constantLong RX11 72 (-9223372036854775808)) (by decide +kernel)) dX11_honest_30 ?_
          exact W.lret hx hb hr (fun t ht _ => ⟨rfl, ht⟩) (fun _ h => absurd h List.not_mem_nil) dX11_honest_33
set_option maxHeartbeats 4000000 in
set_option maxRecDepth 100000 in
theorem c_X11_honest (l : Launch) (D : va_G) (tc : Nat → ClassId) (sz : Nat) (ad : Nat → Nat) (ct : Nat → Option va_E) {N nt no nf : Nat} {ft tr b cm da bs : Int32} {g : Int64}     {we : Nat → Int32}         {tl : Nat → Int32}  {t f u d : Nat} {which : Int32} (h0 : ct 200 = some (.inr (11, [.int ft, .int tr, .int (nI N), .int b, .ref (ad 201), .long g, .int cm, .int da, .int (nI nt), .ref (ad 202), .ref (ad 203), .ref (ad 204), .ref (ad 205), .ref (ad 206), .ref (ad 207), .ref (ad 208), .ref (ad 209), .int (nI no), .ref (ad 210), .ref (ad 211), .ref (ad 212), .ref (ad 213), .ref (ad 214), .int bs, .int (nI nf), .ref (ad 215), .ref (ad 216)]))) (h206 : ct 206 = some (eI tc 48 we)) (h215 : ct 215 = some (eI tc 320 tl)) (ht : t < nt) (hnt : nt ≤ 6) (hf : f < nf) (hnf : nf ≤ 40) (hN : N ≤ 8) (hwh : 0 ≤ which.toInt64 ∧ which.toInt64 ≤ 1) (hdd : su (fun c => (tl (8 * f + c)).toInt64) N * su (fun c => (tl (8 * f + c)).toInt64) N * (sw (fun c => we (8 * t + c)) N).toInt64 = lN d) (hd0 : 0 < d) (hd6 : d < 2 ^ 63) (huu : (if 0 ≤ 2 * su (fun c => (tl (8 * f + c)).toInt64) N * su (fun c => (we (8 * t + c)).toInt64 * (tl (8 * f + c)).toInt64) N - su (fun c => (tl (8 * f + c)).toInt64 * (tl (8 * f + c)).toInt64) N * (sw (fun c => we (8 * t + c)) N).toInt64 then 2 * su (fun c => (tl (8 * f + c)).toInt64) N * su (fun c => (we (8 * t + c)).toInt64 * (tl (8 * f + c)).toInt64) N - su (fun c => (tl (8 * f + c)).toInt64 * (tl (8 * f + c)).toInt64) N * (sw (fun c => we (8 * t + c)) N).toInt64 else -(2 * su (fun c => (tl (8 * f + c)).toInt64) N * su (fun c => (we (8 * t + c)).toInt64 * (tl (8 * f + c)).toInt64) N - su (fun c => (tl (8 * f + c)).toInt64 * (tl (8 * f + c)).toInt64) N * (sw (fun c => we (8 * t + c)) N).toInt64)) = lN u) (hu6 : u < 2 ^ 63) : Met l yX11_honest wsX11_honest ({ frames := 1, cells := 0, slots := 0, locals := 34 }) (va_Pc [.ref (ad 200), .int (nI t), .int (nI f), .int which] (kw_B D tc sz ad ct)) (k2_QcV (.long (if which = 0 then (2 * su (fun c => (tl (8 * f + c)).toInt64) N * su (fun c => (we (8 * t + c)).toInt64 * (tl (8 * f + c)).toInt64) N - su (fun c => (tl (8 * f + c)).toInt64 * (tl (8 * f + c)).toInt64) N * (sw (fun c => we (8 * t + c)) N).toInt64) / lN (Nat.gcd u d) else (su (fun c => (tl (8 * f + c)).toInt64) N * su (fun c => (tl (8 * f + c)).toInt64) N * (sw (fun c => we (8 * t + c)) N).toInt64) / lN (Nat.gcd u d)))) 0 0 (fun _ => False) := by
  refine Met.ofW (cc := cX11_honest) (maxL := 11) (ret := (some .long)) (by decide) rfl ?_
  intro pg en s m args below meth cod s₁ B hml hv
  obtain ⟨rfl, hsz, hP0, hK⟩ := hv
  have hx := B.exec
  have hb := B.bytes
  have hr := B.returns
  have hts := atoms_spec (ws := wsX11_honest) B.pre
  have hown : s.vm.findClass RX11 = some m.cls := findClass_of_methodNamed B.named
  have hlocks := B.notSynchronized
  subst hsz
  have hw := kw_H.start hP0
  generalize kw_A ad ct s.heap.size = A at hw
  have hinX11 : ∀ w ∈ wsX110, w ∈ wsX11_honest := by decide +kernel
  have hl := lv_entry ([.ref (ad 200), .int (nI t), .int (nI f), .int which]) (n := 11) (Nat.le_of_ble_eq_true rfl)
  rw [lg_entry_eq]
  generalize (lg_sl ([.ref (ad 200), .int (nI t), .int (nI f), .int which]) ++ List.replicate (11 - (lg_sl ([.ref (ad 200), .int (nI t), .int (nI f), .int which])).length) Slot.unset).toArray = ls at hl ⊢
  have hl : lv_has ls 11 [(0, .ref (ad 200)), (1, .int (nI t)), (2, .int (nI f)), (3, .int which)] := hl
  have S0 : CallFix pg m cod cX11_honest 11 s _ wsX11_honest RX11 := ⟨hx, hb, hml, hown, hts⟩
  have kT : 0 ≤ nI t ∧ nI t < nI nt := ⟨nI_pos' (by omega), nI_lt ht (by omega)⟩
  refine lv_aload_n hx hb dX11_honest_0 rfl (lv_at hl 0 rfl) ?_
  refine lv_iload_n hx hb dX11_honest_1 rfl (lv_at hl 1 rfl) ?_
  refine kc_v (As := [.int (nI t)]) (rest := []) S0 (c_X11_isTrader l D tc s.heap.size ad ct (N := N) (nt := nt) (no := no) (nf := nf) h0) (cwV 1 hts gX11_honest_X11_isTrader rfl rfl rfl (by decide +kernel) ⟨Nat.le_of_ble_eq_true rfl, Nat.le_of_ble_eq_true rfl⟩) hK hw h0 rfl rfl hl.1 rfl (Nat.le_of_ble_eq_true rfl) dX11_honest_2 ⟨Nat.le_of_ble_eq_true rfl, (Nat.le_of_ble_eq_true rfl)⟩ ?_
  refine kb_ifeq (tgt := 30) hx hb dX11_honest_5 (by decide) (fun c_1 => ?_) (fun c_1 => ?_)
  · exact absurd kT c_1
  · refine lv_iload_n hx hb dX11_honest_8 rfl (lv_at hl 2 rfl) ?_
    refine lv_if_lt (tgt := 30) hx hb dX11_honest_9 (by decide) (fun c_2 => ?_) (fun c_2 => ?_)
    · exact absurd c_2 (nI_pos (by omega))
    · refine lv_iload_n hx hb dX11_honest_12 rfl (lv_at hl 2 rfl) ?_
      refine lv_aload_n hx hb dX11_honest_13 rfl (lv_at hl 0 rfl) ?_
      refine kg_get (v := .int (nI nf)) (C := RX11) (T := TX11) (N := 27) hx hb hts hinX11 hown hK hw h0 rfl 24 (by decide) (hts (.fieldLink RX11 99 "BetMakerModel" "forecasts" "I") (by decide +kernel)) (fun _ h9 => h9) rfl dX11_honest_14 ?_
      refine kn_ge f nf rfl rfl (by omega) (by omega) (tgt := 30) hx hb dX11_honest_17 (by decide) (fun c_3 => ?_) (fun c_3 => ?_)
      · exfalso; omega
      · refine lv_iload_n hx hb dX11_honest_20 rfl (lv_at hl 3 rfl) ?_
        refine lv_i2l (v := which.toInt64) hx hb dX11_honest_21 rfl ?_
        refine lv_lconst (v := 0) hx hb dX11_honest_22 (by decide) ?_
        refine lv_lconst (v := 1) hx hb dX11_honest_23 (by decide) ?_
        refine kc_s (As := [.long which.toInt64, .long 0, .long 1]) (rest := []) S0 (c_X11_within l D tc s.heap.size ad ct ) (va_cwS 3 hts gX11_honest_X11_within rfl rfl rfl (by decide +kernel) ⟨Nat.le_of_ble_eq_true rfl, Nat.le_of_ble_eq_true rfl⟩) hK hw rfl hl.1 rfl (Nat.le_of_ble_eq_true rfl) dX11_honest_24 ⟨Nat.le_of_ble_eq_true rfl, (Nat.le_of_ble_eq_true rfl)⟩ ?_
        refine kb_ifne (tgt := 34) hx hb dX11_honest_27 (by decide) (fun c_4 => ?_) (fun c_4 => ?_)
        · refine lv_aload_n hx hb dX11_honest_34 rfl (lv_at hl 0 rfl) ?_
          refine lv_iload_n hx hb dX11_honest_35 rfl (lv_at hl 2 rfl) ?_
          refine kc_v (As := [.int (nI f)]) (rest := []) S0 (c_X11_sumOf l D tc s.heap.size ad ct (f := f) (N := N) (nt := nt) (no := no) (nf := nf) h0 h215 (by omega) (by omega)) (cwV 1 hts gX11_honest_X11_sumOf rfl rfl rfl (by decide +kernel) ⟨Nat.le_of_ble_eq_true rfl, Nat.le_of_ble_eq_true rfl⟩) hK hw h0 rfl rfl hl.1 rfl (Nat.le_of_ble_eq_true rfl) dX11_honest_36 ⟨Nat.le_of_ble_eq_true rfl, (Nat.le_of_ble_eq_true rfl)⟩ ?_
          refine lv_lstore (lv' := [(4, .long (su (fun c => (tl (8 * f + c)).toInt64) N)), (0, .ref (ad 200)), (1, .int (nI t)), (2, .int (nI f)), (3, .int which)]) hx hb dX11_honest_39 hl (by decide) rfl (fun ls hl => ?_)
          refine lv_aload_n hx hb dX11_honest_41 rfl (lv_at hl 1 rfl) ?_
          refine lv_iload_n hx hb dX11_honest_42 rfl (lv_at hl 2 rfl) ?_
          refine kc_v (As := [.int (nI t)]) (rest := []) S0 (c_X11_believed l D tc s.heap.size ad ct (t := t) (N := N) (nt := nt) (no := no) (nf := nf) h0 h206 (by omega) (by omega)) (cwV 1 hts gX11_honest_X11_believed rfl rfl rfl (by decide +kernel) ⟨Nat.le_of_ble_eq_true rfl, Nat.le_of_ble_eq_true rfl⟩) hK hw h0 rfl rfl hl.1 rfl (Nat.le_of_ble_eq_true rfl) dX11_honest_43 ⟨Nat.le_of_ble_eq_true rfl, (Nat.le_of_ble_eq_true rfl)⟩ ?_
          refine lv_i2l (v := (sw (fun c => we (8 * t + c)) N).toInt64) hx hb dX11_honest_46 rfl ?_
          refine lv_lstore (lv' := [(6, .long ((sw (fun c => we (8 * t + c)) N).toInt64)), (4, .long (su (fun c => (tl (8 * f + c)).toInt64) N)), (0, .ref (ad 200)), (1, .int (nI t)), (2, .int (nI f)), (3, .int which)]) hx hb dX11_honest_47 hl (by decide) rfl (fun ls hl => ?_)
          refine lv_lconst (v := 0) hx hb dX11_honest_49 (by decide) ?_
          refine lv_lstore (lv' := [(8, .long 0), (6, .long ((sw (fun c => we (8 * t + c)) N).toInt64)), (4, .long (su (fun c => (tl (8 * f + c)).toInt64) N)), (0, .ref (ad 200)), (1, .int (nI t)), (2, .int (nI f)), (3, .int which)]) hx hb dX11_honest_50 hl (by decide) rfl (fun ls hl => ?_)
          refine lv_iconst (v := 0) hx hb dX11_honest_52 (by decide) ?_
          refine lv_istore (lv' := [(10, .int 0), (8, .long 0), (6, .long ((sw (fun c => we (8 * t + c)) N).toInt64)), (4, .long (su (fun c => (tl (8 * f + c)).toInt64) N)), (0, .ref (ad 200)), (1, .int (nI t)), (2, .int (nI f)), (3, .int which)]) hx hb dX11_honest_53 hl (by decide) rfl (fun ls hl => ?_)
          suffices lp55 : ∀ (nfu : Nat) (i : Nat) (acc : Int64) (ls : Array Slot), N - i < nfu → i ≤ N → acc = su (fun c => (we (8 * t + c)).toInt64 * (tl (8 * f + c)).toInt64) i → lv_has ls 11 [(0, .ref (ad 200)), (1, .int (nI t)), (2, .int (nI f)), (3, .int which), (4, .long (su (fun c => (tl (8 * f + c)).toInt64) N)), (6, .long ((sw (fun c => we (8 * t + c)) N).toInt64)), (8, .long acc), (10, .int (nI i))] → W pg l en (headSpec wsX11_honest ({ frames := 1, cells := 0, slots := 0, locals := 34 })).room s m (([.ref (ad 200), .int (nI t), .int (nI f), .int which] : List Value).toArray) below meth cod s.heap [] 0 0 (MQ below (k2_QcV (.long (if which = 0 then (2 * su (fun c => (tl (8 * f + c)).toInt64) N * su (fun c => (we (8 * t + c)).toInt64 * (tl (8 * f + c)).toInt64) N - su (fun c => (tl (8 * f + c)).toInt64 * (tl (8 * f + c)).toInt64) N * (sw (fun c => we (8 * t + c)) N).toInt64) / lN (Nat.gcd u d) else (su (fun c => (tl (8 * f + c)).toInt64) N * su (fun c => (tl (8 * f + c)).toInt64) N * (sw (fun c => we (8 * t + c)) N).toInt64) / lN (Nat.gcd u d)))) (([.ref (ad 200), .int (nI t), .int (nI f), .int which] : List Value).toArray) s 0 0 (fun _ => False)) (F0 m 55 ls []) by
            exact lp55 (N - 0 + 1) 0 0 ls (by omega) (by omega) (by rfl) (by have hl9 := lv_sub hl (l' := [(0, .ref (ad 200)), (1, .int (nI t)), (2, .int (nI f)), (3, .int which), (4, .long (su (fun c => (tl (8 * f + c)).toInt64) N)), (6, .long ((sw (fun c => we (8 * t + c)) N).toInt64)), (8, .long 0), (10, .int 0)]) [4, 5, 6, 7, 3, 2, 1, 0] rfl; exact hl9)
          intro n55
          induction n55 with
          | zero => intro i acc ls hfu; exact absurd hfu (Nat.not_lt_zero _)
          | succ n55 ih55 =>
            intro i acc ls hfu55 hi ha hl
            refine lv_iload hx hb dX11_honest_55 (lv_at hl 7 rfl) ?_
            refine lv_aload_n hx hb dX11_honest_57 rfl (lv_at hl 0 rfl) ?_
            refine kg_get (v := .int (nI N)) (C := RX11) (T := TX11) (N := 27) hx hb hts hinX11 hown hK hw h0 rfl 2 (by decide) (hts (.fieldLink RX11 7 "BetMakerModel" "cases" "I") (by decide +kernel)) (fun _ h9 => h9) rfl dX11_honest_58 ?_
            refine kn_ge i N rfl rfl (by omega) (by omega) (tgt := 102) hx hb dX11_honest_61 (by decide) (fun c_5 => ?_) (fun c_5 => ?_)
            · have hB : acc = su (fun c => (we (8 * t + c)).toInt64 * (tl (8 * f + c)).toInt64) N := by rw [ha, show i = N by omega]
              refine lv_ldc2 (v := 2) hx hb hown (hts (.constantLong RX11 76 (2)) (by decide +kernel)) dX11_honest_102 ?_
              refine lv_lload hx hb dX11_honest_105 (lv_at hl 4 rfl) ?_
              refine lv_lmul hx hb dX11_honest_107 ?_
              refine lv_lload hx hb dX11_honest_108 (lv_at hl 6 rfl) ?_
              refine lv_lmul hx hb dX11_honest_110 ?_
              refine lv_aload_n hx hb dX11_honest_111 rfl (lv_at hl 0 rfl) ?_
              refine lv_iload_n hx hb dX11_honest_112 rfl (lv_at hl 2 rfl) ?_
              refine kc_v (As := [.int (nI f)]) (rest := [.long ((2 * (su (fun c => (tl (8 * f + c)).toInt64) N)) * acc)]) S0 (c_X11_squaresOf l D tc s.heap.size ad ct (f := f) (N := N) (nt := nt) (no := no) (nf := nf) h0 h215 (by omega) (by omega)) (cwV 1 hts gX11_honest_X11_squaresOf rfl rfl rfl (by decide +kernel) ⟨Nat.le_of_ble_eq_true rfl, Nat.le_of_ble_eq_true rfl⟩) hK hw h0 rfl rfl hl.1 rfl (Nat.le_of_ble_eq_true rfl) dX11_honest_113 ⟨Nat.le_of_ble_eq_true rfl, (Nat.le_of_ble_eq_true rfl)⟩ ?_
              refine lv_lload hx hb dX11_honest_116 (lv_at hl 5 rfl) ?_
              refine lv_lmul hx hb dX11_honest_118 ?_
              refine lv_lsub hx hb dX11_honest_119 ?_
              refine lv_lload hx hb dX11_honest_120 (lv_at hl 4 rfl) ?_
              refine lv_lload hx hb dX11_honest_122 (lv_at hl 4 rfl) ?_
              refine lv_lmul hx hb dX11_honest_124 ?_
              refine lv_lload hx hb dX11_honest_125 (lv_at hl 5 rfl) ?_
              refine lv_lmul hx hb dX11_honest_127 ?_
              refine lv_iload_n hx hb dX11_honest_128 rfl (lv_at hl 3 rfl) ?_
              refine kc_s (As := [.long (((2 * (su (fun c => (tl (8 * f + c)).toInt64) N)) * acc) - ((su (fun c => (tl (8 * f + c)).toInt64 * (tl (8 * f + c)).toInt64) N) * ((sw (fun c => we (8 * t + c)) N).toInt64))), .long (((su (fun c => (tl (8 * f + c)).toInt64) N) * (su (fun c => (tl (8 * f + c)).toInt64) N)) * ((sw (fun c => we (8 * t + c)) N).toInt64)), .int which]) (rest := []) S0 (c_X11_part l D tc s.heap.size ad ct hdd hd0 hd6 (by rw [hB]; exact huu) hu6) (va_cwS 3 hts gX11_honest_X11_part rfl rfl rfl (by decide +kernel) ⟨Nat.le_of_ble_eq_true rfl, Nat.le_of_ble_eq_true rfl⟩) hK hw rfl hl.1 rfl (Nat.le_of_ble_eq_true rfl) dX11_honest_129 ⟨Nat.le_of_ble_eq_true rfl, (Nat.le_of_ble_eq_true rfl)⟩ ?_
              refine W.eq (congrArg (fun z => F0 m 132 ls [.long z]) (show (if which = 0 then (((2 * (su (fun c => (tl (8 * f + c)).toInt64) N)) * acc) - ((su (fun c => (tl (8 * f + c)).toInt64 * (tl (8 * f + c)).toInt64) N) * ((sw (fun c => we (8 * t + c)) N).toInt64))) / lN (Nat.gcd u d) else (((su (fun c => (tl (8 * f + c)).toInt64) N) * (su (fun c => (tl (8 * f + c)).toInt64) N)) * ((sw (fun c => we (8 * t + c)) N).toInt64)) / lN (Nat.gcd u d)) = (if which = 0 then (2 * su (fun c => (tl (8 * f + c)).toInt64) N * su (fun c => (we (8 * t + c)).toInt64 * (tl (8 * f + c)).toInt64) N - su (fun c => (tl (8 * f + c)).toInt64 * (tl (8 * f + c)).toInt64) N * (sw (fun c => we (8 * t + c)) N).toInt64) / lN (Nat.gcd u d) else (su (fun c => (tl (8 * f + c)).toInt64) N * su (fun c => (tl (8 * f + c)).toInt64) N * (sw (fun c => we (8 * t + c)) N).toInt64) / lN (Nat.gcd u d)) from by rw [hB])) ?_
              exact W.lret hx hb hr (fun t ht _ => ⟨rfl, ht⟩) (fun _ h => absurd h List.not_mem_nil) dX11_honest_132
            · refine lv_lload hx hb dX11_honest_64 (lv_at hl 6 rfl) ?_
              refine lv_aload_n hx hb dX11_honest_66 rfl (lv_at hl 0 rfl) ?_
              refine kg_get (v := .ref (ad 206)) (C := RX11) (T := TX11) (N := 27) hx hb hts hinX11 hown hK hw h0 rfl 13 (by decide) (hts (.fieldLink RX11 36 "BetMakerModel" "weight" "[I") (by decide +kernel)) (fun _ h9 => h9) rfl dX11_honest_67 ?_
              refine lv_bipush (v := 8) hx hb dX11_honest_70 (by decide) ?_
              refine lv_iload_n hx hb dX11_honest_72 rfl (lv_at hl 1 rfl) ?_
              refine lv_imul hx hb dX11_honest_73 ?_
              refine lv_iload hx hb dX11_honest_74 (lv_at hl 7 rfl) ?_
              refine lv_iadd hx hb dX11_honest_76 ?_
              refine kg_iald hx hb hK hw h206 ((8 * t) + i) (by simp only [kn_lit, nI_add, pk_mul, nI_1]) (by omega) (by omega) dX11_honest_77 ?_
              refine lv_i2l (v := (we ((8 * t) + i)).toInt64) hx hb dX11_honest_78 rfl ?_
              refine lv_aload_n hx hb dX11_honest_79 rfl (lv_at hl 0 rfl) ?_
              refine kg_get (v := .ref (ad 215)) (C := RX11) (T := TX11) (N := 27) hx hb hts hinX11 hown hK hw h0 rfl 25 (by decide) (hts (.fieldLink RX11 63 "BetMakerModel" "told" "[I") (by decide +kernel)) (fun _ h9 => h9) rfl dX11_honest_80 ?_
              refine lv_bipush (v := 8) hx hb dX11_honest_83 (by decide) ?_
              refine lv_iload_n hx hb dX11_honest_85 rfl (lv_at hl 2 rfl) ?_
              refine lv_imul hx hb dX11_honest_86 ?_
              refine lv_iload hx hb dX11_honest_87 (lv_at hl 7 rfl) ?_
              refine lv_iadd hx hb dX11_honest_89 ?_
              refine kg_iald hx hb hK hw h215 ((8 * f) + i) (by simp only [kn_lit, nI_add, pk_mul, nI_1]) (by omega) (by omega) dX11_honest_90 ?_
              refine lv_i2l (v := (tl ((8 * f) + i)).toInt64) hx hb dX11_honest_91 rfl ?_
              refine lv_lmul hx hb dX11_honest_92 ?_
              refine lv_ladd hx hb dX11_honest_93 ?_
              refine lv_lstore (lv' := [(8, .long (acc + (((we ((8 * t) + i)).toInt64) * ((tl ((8 * f) + i)).toInt64)))), (0, .ref (ad 200)), (1, .int (nI t)), (2, .int (nI f)), (3, .int which), (4, .long (su (fun c => (tl (8 * f + c)).toInt64) N)), (6, .long ((sw (fun c => we (8 * t + c)) N).toInt64)), (10, .int (nI i))]) hx hb dX11_honest_94 hl (by decide) rfl (fun ls hl => ?_)
              refine lv_iinc (v := (nI (i + 1))) (lv' := [(10, .int (nI (i + 1))), (8, .long (acc + (((we ((8 * t) + i)).toInt64) * ((tl ((8 * f) + i)).toInt64)))), (0, .ref (ad 200)), (1, .int (nI t)), (2, .int (nI f)), (3, .int which), (4, .long (su (fun c => (tl (8 * f + c)).toInt64) N)), (6, .long ((sw (fun c => we (8 * t + c)) N).toInt64))]) hx hb dX11_honest_96 hl (k := 7) rfl (nI_1 i) (by decide) rfl (fun ls hl => ?_)
              refine lv_goto (tgt := 55) hx hb dX11_honest_99 (by decide) ?_
              exact ih55 (i + 1) (acc + (((we ((8 * t) + i)).toInt64) * ((tl ((8 * f) + i)).toInt64))) ls (by omega) (by omega) (by rw [ha]; rfl) (lv_sub hl [2, 3, 4, 5, 6, 7, 1, 0] rfl)
        · exact absurd hwh c_4
set_option maxHeartbeats 4000000 in
set_option maxRecDepth 100000 in
theorem c_X11_power (l : Launch) (D : va_G) (tc : Nat → ClassId) (sz : Nat) (ad : Nat → Nat) (ct : Nat → Option va_E)                   {v : Int64} {n0 : Nat} (hn : n0 < 2 ^ 30) : Met l yX11_power wsX11_power ({ frames := 0, cells := 0, slots := 0, locals := 0 }) (va_Pc [.long v, .int (nI n0)] (kw_B D tc sz ad ct)) (k2_QcV (.long (kPw v n0))) 0 0 (fun _ => False) := by
  refine Met.ofW (cc := cX11_power) (maxL := 6) (ret := (some .long)) (by decide) rfl ?_
  intro pg en s m args below meth cod s₁ B hml hv
  obtain ⟨rfl, hsz, hP0, hK⟩ := hv
  have hx := B.exec
  have hb := B.bytes
  have hr := B.returns
  have hts := atoms_spec (ws := wsX11_power) B.pre
  have hown : s.vm.findClass RX11 = some m.cls := findClass_of_methodNamed B.named
  have hlocks := B.notSynchronized
  subst hsz
  have hw := kw_H.start hP0
  generalize kw_A ad ct s.heap.size = A at hw
  have hl := lv_entry ([.long v, .int (nI n0)]) (n := 6) (Nat.le_of_ble_eq_true rfl)
  rw [lg_entry_eq]
  generalize (lg_sl ([.long v, .int (nI n0)]) ++ List.replicate (6 - (lg_sl ([.long v, .int (nI n0)])).length) Slot.unset).toArray = ls at hl ⊢
  have hl : lv_has ls 6 [(0, .long v), (2, .int (nI n0))] := hl
  have S0 : CallFix pg m cod cX11_power 6 s _ wsX11_power RX11 := ⟨hx, hb, hml, hown, hts⟩
  refine lv_lconst (v := 1) hx hb dX11_power_0 (by decide) ?_
  refine lv_lstore_n (lv' := [(3, .long 1), (0, .long v), (2, .int (nI n0))]) hx hb dX11_power_1 rfl hl (by decide) rfl (fun ls hl => ?_)
  refine lv_iconst (v := 0) hx hb dX11_power_2 (by decide) ?_
  refine lv_istore (lv' := [(5, .int 0), (3, .long 1), (0, .long v), (2, .int (nI n0))]) hx hb dX11_power_3 hl (by decide) rfl (fun ls hl => ?_)
  suffices lp5 : ∀ (nfu : Nat) (i : Nat) (acc : Int64) (ls : Array Slot), n0 - i < nfu → i ≤ n0 → acc = kPw v i → lv_has ls 6 [(0, .long v), (2, .int (nI n0)), (3, .long acc), (5, .int (nI i))] → W pg l en (headSpec wsX11_power ({ frames := 0, cells := 0, slots := 0, locals := 0 })).room s m (([.long v, .int (nI n0)] : List Value).toArray) below meth cod s.heap [] 0 0 (MQ below (k2_QcV (.long (kPw v n0))) (([.long v, .int (nI n0)] : List Value).toArray) s 0 0 (fun _ => False)) (F0 m 5 ls []) by
    exact lp5 (n0 - 0 + 1) 0 1 ls (by omega) (by omega) (by rfl) (by have hl9 := lv_sub hl (l' := [(0, .long v), (2, .int (nI n0)), (3, .long 1), (5, .int 0)]) [2, 3, 1, 0] rfl; exact hl9)
  intro n5
  induction n5 with
  | zero => intro i acc ls hfu; exact absurd hfu (Nat.not_lt_zero _)
  | succ n5 ih5 =>
    intro i acc ls hfu5 hi ha hl
    refine lv_iload hx hb dX11_power_5 (lv_at hl 3 rfl) ?_
    refine lv_iload_n hx hb dX11_power_7 rfl (lv_at hl 1 rfl) ?_
    refine kn_ge i n0 rfl rfl (by omega) (by omega) (tgt := 21) hx hb dX11_power_8 (by decide) (fun c_1 => ?_) (fun c_1 => ?_)
    · refine lv_lload_n hx hb dX11_power_21 rfl (lv_at hl 2 rfl) ?_
      refine W.eq (congrArg (fun z => F0 m 22 ls [.long z]) (show acc = (kPw v n0) from by rw [ha, show i = n0 by omega])) ?_
      exact W.lret hx hb hr (fun t ht _ => ⟨rfl, ht⟩) (fun _ h => absurd h List.not_mem_nil) dX11_power_22
    · refine lv_lload_n hx hb dX11_power_11 rfl (lv_at hl 2 rfl) ?_
      refine lv_lload_n hx hb dX11_power_12 rfl (lv_at hl 0 rfl) ?_
      refine lv_lmul hx hb dX11_power_13 ?_
      refine lv_lstore_n (lv' := [(3, .long (acc * v)), (0, .long v), (2, .int (nI n0)), (5, .int (nI i))]) hx hb dX11_power_14 rfl hl (by decide) rfl (fun ls hl => ?_)
      refine lv_iinc (v := (nI (i + 1))) (lv' := [(5, .int (nI (i + 1))), (3, .long (acc * v)), (0, .long v), (2, .int (nI n0))]) hx hb dX11_power_15 hl (k := 3) rfl (nI_1 i) (by decide) rfl (fun ls hl => ?_)
      refine lv_goto (tgt := 5) hx hb dX11_power_18 (by decide) ?_
      exact ih5 (i + 1) (acc * v) ls (by omega) (by omega) (by rw [ha]; rfl) (lv_sub hl [2, 3, 1, 0] rfl)
set_option maxHeartbeats 4000000 in
set_option maxRecDepth 100000 in
theorem c_X11_held_n (l : Launch) (D : va_G) (tc : Nat → ClassId) (sz : Nat) (ad : Nat → Nat) (ct : Nat → Option va_E) {N nt no nf : Nat} {ft tr b cm da bs : Int32} {g : Int64}                {c t1 what : Int32} (h0 : ct 200 = some (.inr (11, [.int ft, .int tr, .int (nI N), .int b, .ref (ad 201), .long g, .int cm, .int da, .int (nI nt), .ref (ad 202), .ref (ad 203), .ref (ad 204), .ref (ad 205), .ref (ad 206), .ref (ad 207), .ref (ad 208), .ref (ad 209), .int (nI no), .ref (ad 210), .ref (ad 211), .ref (ad 212), .ref (ad 213), .ref (ad 214), .int bs, .int (nI nf), .ref (ad 215), .ref (ad 216)]))) (hbad : ¬ ((0 ≤ c ∧ c < nI N) ∧ (0 ≤ t1.toInt64 ∧ t1.toInt64 ≤ 10) ∧ 0 ≤ what.toInt64 ∧ what.toInt64 ≤ 2)) : Met l yX11_held wsX11_held ({ frames := 1, cells := 0, slots := 0, locals := 29 }) (va_Pc [.ref (ad 200), .int c, .int t1, .int what] (kw_B D tc sz ad ct)) (k2_QcV (.long (-9223372036854775808))) 0 0 (fun _ => False) := by
  refine Met.ofW (cc := cX11_held) (maxL := 11) (ret := (some .long)) (by decide) rfl ?_
  intro pg en s m args below meth cod s₁ B hml hv
  obtain ⟨rfl, hsz, hP0, hK⟩ := hv
  have hx := B.exec
  have hb := B.bytes
  have hr := B.returns
  have hts := atoms_spec (ws := wsX11_held) B.pre
  have hown : s.vm.findClass RX11 = some m.cls := findClass_of_methodNamed B.named
  have hlocks := B.notSynchronized
  subst hsz
  have hw := kw_H.start hP0
  generalize kw_A ad ct s.heap.size = A at hw
  have hinX11 : ∀ w ∈ wsX110, w ∈ wsX11_held := by decide +kernel
  have hl := lv_entry ([.ref (ad 200), .int c, .int t1, .int what]) (n := 11) (Nat.le_of_ble_eq_true rfl)
  rw [lg_entry_eq]
  generalize (lg_sl ([.ref (ad 200), .int c, .int t1, .int what]) ++ List.replicate (11 - (lg_sl ([.ref (ad 200), .int c, .int t1, .int what])).length) Slot.unset).toArray = ls at hl ⊢
  have hl : lv_has ls 11 [(0, .ref (ad 200)), (1, .int c), (2, .int t1), (3, .int what)] := hl
  have S0 : CallFix pg m cod cX11_held 11 s _ wsX11_held RX11 := ⟨hx, hb, hml, hown, hts⟩
  refine lv_aload_n hx hb dX11_held_0 rfl (lv_at hl 0 rfl) ?_
  refine lv_iload_n hx hb dX11_held_1 rfl (lv_at hl 1 rfl) ?_
  refine kc_v (As := [.int c]) (rest := []) S0 (c_X11_isCase l D tc s.heap.size ad ct (N := N) (nt := nt) (no := no) (nf := nf) h0) (cwV 1 hts gX11_held_X11_isCase rfl rfl rfl (by decide +kernel) ⟨Nat.le_of_ble_eq_true rfl, Nat.le_of_ble_eq_true rfl⟩) hK hw h0 rfl rfl hl.1 rfl (Nat.le_of_ble_eq_true rfl) dX11_held_2 ⟨Nat.le_of_ble_eq_true rfl, (Nat.le_of_ble_eq_true rfl)⟩ ?_
  refine kb_ifeq (tgt := 32) hx hb dX11_held_5 (by decide) (fun c_1 => ?_) (fun c_1 => ?_)
  · refine lv_ldc2 (v := (-9223372036854775808)) hx hb hown (hts (.constantLong RX11 72 (-9223372036854775808)) (by decide +kernel)) dX11_held_32 ?_
    exact W.lret hx hb hr (fun t ht _ => ⟨rfl, ht⟩) (fun _ h => absurd h List.not_mem_nil) dX11_held_35
  · refine lv_iload_n hx hb dX11_held_8 rfl (lv_at hl 2 rfl) ?_
    refine lv_i2l (v := t1.toInt64) hx hb dX11_held_9 rfl ?_
    refine lv_lconst (v := 0) hx hb dX11_held_10 (by decide) ?_
    refine lv_ldc2 (v := 10) hx hb hown (hts (.constantLong RX11 198 (10)) (by decide +kernel)) dX11_held_11 ?_
    refine kc_s (As := [.long t1.toInt64, .long 0, .long 10]) (rest := []) S0 (c_X11_within l D tc s.heap.size ad ct ) (va_cwS 3 hts gX11_held_X11_within rfl rfl rfl (by decide +kernel) ⟨Nat.le_of_ble_eq_true rfl, Nat.le_of_ble_eq_true rfl⟩) hK hw rfl hl.1 rfl (Nat.le_of_ble_eq_true rfl) dX11_held_14 ⟨Nat.le_of_ble_eq_true rfl, (Nat.le_of_ble_eq_true rfl)⟩ ?_
    refine kb_ifeq (tgt := 32) hx hb dX11_held_17 (by decide) (fun c_2 => ?_) (fun c_2 => ?_)
    · refine lv_ldc2 (v := (-9223372036854775808)) hx hb hown (hts (.constantLong RX11 72 (-9223372036854775808)) (by decide +kernel)) dX11_held_32 ?_
      exact W.lret hx hb hr (fun t ht _ => ⟨rfl, ht⟩) (fun _ h => absurd h List.not_mem_nil) dX11_held_35
    · refine lv_iload_n hx hb dX11_held_20 rfl (lv_at hl 3 rfl) ?_
      refine lv_i2l (v := what.toInt64) hx hb dX11_held_21 rfl ?_
      refine lv_lconst (v := 0) hx hb dX11_held_22 (by decide) ?_
      refine lv_ldc2 (v := 2) hx hb hown (hts (.constantLong RX11 76 (2)) (by decide +kernel)) dX11_held_23 ?_
      refine kc_s (As := [.long what.toInt64, .long 0, .long 2]) (rest := []) S0 (c_X11_within l D tc s.heap.size ad ct ) (va_cwS 3 hts gX11_held_X11_within rfl rfl rfl (by decide +kernel) ⟨Nat.le_of_ble_eq_true rfl, Nat.le_of_ble_eq_true rfl⟩) hK hw rfl hl.1 rfl (Nat.le_of_ble_eq_true rfl) dX11_held_26 ⟨Nat.le_of_ble_eq_true rfl, (Nat.le_of_ble_eq_true rfl)⟩ ?_
      refine kb_ifne (tgt := 36) hx hb dX11_held_29 (by decide) (fun c_3 => ?_) (fun c_3 => ?_)
      · exact absurd ⟨c_1, c_2, c_3⟩ hbad
      · refine lv_ldc2 (v := (-9223372036854775808)) hx hb hown (hts (.constantLong RX11 72 (-9223372036854775808)) (by decide +kernel)) dX11_held_32 ?_
        exact W.lret hx hb hr (fun t ht _ => ⟨rfl, ht⟩) (fun _ h => absurd h List.not_mem_nil) dX11_held_35
set_option maxHeartbeats 4000000 in
set_option maxRecDepth 100000 in
theorem c_X11_held_0 (l : Launch) (D : va_G) (tc : Nat → ClassId) (sz : Nat) (ad : Nat → Nat) (ct : Nat → Option va_E) {N nt no nf : Nat} {ft tr b cm da bs : Int32} {g : Int64}              {tl : Nat → Int32} {ca : Nat → Int32} {c : Nat} {t1 : Int32} (h0 : ct 200 = some (.inr (11, [.int ft, .int tr, .int (nI N), .int b, .ref (ad 201), .long g, .int cm, .int da, .int (nI nt), .ref (ad 202), .ref (ad 203), .ref (ad 204), .ref (ad 205), .ref (ad 206), .ref (ad 207), .ref (ad 208), .ref (ad 209), .int (nI no), .ref (ad 210), .ref (ad 211), .ref (ad 212), .ref (ad 213), .ref (ad 214), .int bs, .int (nI nf), .ref (ad 215), .ref (ad 216)]))) (h215 : ct 215 = some (eI tc 320 tl)) (h216 : ct 216 = some (eI tc 40 ca)) (hc : c < N) (hN : N ≤ 8) (hnf : nf ≤ 40) (hpt : 0 ≤ t1.toInt64 ∧ t1.toInt64 ≤ 10) : Met l yX11_held wsX11_held ({ frames := 1, cells := 0, slots := 0, locals := 29 }) (va_Pc [.ref (ad 200), .int (nI c), .int t1, .int 0] (kw_B D tc sz ad ct)) (k2_QcV (.long ((nI (kcn (kGv N tl c t1.toInt64) nf)).toInt64))) 0 0 (fun _ => False) := by
  refine Met.ofW (cc := cX11_held) (maxL := 11) (ret := (some .long)) (by decide) rfl ?_
  intro pg en s m args below meth cod s₁ B hml hv
  obtain ⟨rfl, hsz, hP0, hK⟩ := hv
  have hx := B.exec
  have hb := B.bytes
  have hr := B.returns
  have hts := atoms_spec (ws := wsX11_held) B.pre
  have hown : s.vm.findClass RX11 = some m.cls := findClass_of_methodNamed B.named
  have hlocks := B.notSynchronized
  subst hsz
  have hw := kw_H.start hP0
  generalize kw_A ad ct s.heap.size = A at hw
  have hinX11 : ∀ w ∈ wsX110, w ∈ wsX11_held := by decide +kernel
  have hl := lv_entry ([.ref (ad 200), .int (nI c), .int t1, .int 0]) (n := 11) (Nat.le_of_ble_eq_true rfl)
  rw [lg_entry_eq]
  generalize (lg_sl ([.ref (ad 200), .int (nI c), .int t1, .int 0]) ++ List.replicate (11 - (lg_sl ([.ref (ad 200), .int (nI c), .int t1, .int 0])).length) Slot.unset).toArray = ls at hl ⊢
  have hl : lv_has ls 11 [(0, .ref (ad 200)), (1, .int (nI c)), (2, .int t1), (3, .int 0)] := hl
  have S0 : CallFix pg m cod cX11_held 11 s _ wsX11_held RX11 := ⟨hx, hb, hml, hown, hts⟩
  have kC : 0 ≤ nI c ∧ nI c < nI N := ⟨nI_pos' (by omega), nI_lt hc (by omega)⟩
  have kW : 0 ≤ (0 : Int32).toInt64 ∧ (0 : Int32).toInt64 ≤ 2 := by decide
  refine lv_aload_n hx hb dX11_held_0 rfl (lv_at hl 0 rfl) ?_
  refine lv_iload_n hx hb dX11_held_1 rfl (lv_at hl 1 rfl) ?_
  refine kc_v (As := [.int (nI c)]) (rest := []) S0 (c_X11_isCase l D tc s.heap.size ad ct (N := N) (nt := nt) (no := no) (nf := nf) h0) (cwV 1 hts gX11_held_X11_isCase rfl rfl rfl (by decide +kernel) ⟨Nat.le_of_ble_eq_true rfl, Nat.le_of_ble_eq_true rfl⟩) hK hw h0 rfl rfl hl.1 rfl (Nat.le_of_ble_eq_true rfl) dX11_held_2 ⟨Nat.le_of_ble_eq_true rfl, (Nat.le_of_ble_eq_true rfl)⟩ ?_
  refine kb_ifeq (tgt := 32) hx hb dX11_held_5 (by decide) (fun c_1 => ?_) (fun c_1 => ?_)
  · exact absurd kC c_1
  · refine lv_iload_n hx hb dX11_held_8 rfl (lv_at hl 2 rfl) ?_
    refine lv_i2l (v := t1.toInt64) hx hb dX11_held_9 rfl ?_
    refine lv_lconst (v := 0) hx hb dX11_held_10 (by decide) ?_
    refine lv_ldc2 (v := 10) hx hb hown (hts (.constantLong RX11 198 (10)) (by decide +kernel)) dX11_held_11 ?_
    refine kc_s (As := [.long t1.toInt64, .long 0, .long 10]) (rest := []) S0 (c_X11_within l D tc s.heap.size ad ct ) (va_cwS 3 hts gX11_held_X11_within rfl rfl rfl (by decide +kernel) ⟨Nat.le_of_ble_eq_true rfl, Nat.le_of_ble_eq_true rfl⟩) hK hw rfl hl.1 rfl (Nat.le_of_ble_eq_true rfl) dX11_held_14 ⟨Nat.le_of_ble_eq_true rfl, (Nat.le_of_ble_eq_true rfl)⟩ ?_
    refine kb_ifeq (tgt := 32) hx hb dX11_held_17 (by decide) (fun c_2 => ?_) (fun c_2 => ?_)
    · exact absurd hpt c_2
    · refine lv_iload_n hx hb dX11_held_20 rfl (lv_at hl 3 rfl) ?_
      refine lv_i2l (v := (0 : Int32).toInt64) hx hb dX11_held_21 rfl ?_
      refine lv_lconst (v := 0) hx hb dX11_held_22 (by decide) ?_
      refine lv_ldc2 (v := 2) hx hb hown (hts (.constantLong RX11 76 (2)) (by decide +kernel)) dX11_held_23 ?_
      refine kc_s (As := [.long ((0 : Int32).toInt64), .long 0, .long 2]) (rest := []) S0 (c_X11_within l D tc s.heap.size ad ct ) (va_cwS 3 hts gX11_held_X11_within rfl rfl rfl (by decide +kernel) ⟨Nat.le_of_ble_eq_true rfl, Nat.le_of_ble_eq_true rfl⟩) hK hw rfl hl.1 rfl (Nat.le_of_ble_eq_true rfl) dX11_held_26 ⟨Nat.le_of_ble_eq_true rfl, (Nat.le_of_ble_eq_true rfl)⟩ ?_
      refine kb_ifne (tgt := 36) hx hb dX11_held_29 (by decide) (fun c_3 => ?_) (fun c_3 => ?_)
      · refine lv_iconst (v := 0) hx hb dX11_held_36 (by decide) ?_
        refine lv_istore (lv' := [(4, .int 0), (0, .ref (ad 200)), (1, .int (nI c)), (2, .int t1), (3, .int 0)]) hx hb dX11_held_37 hl (by decide) rfl (fun ls hl => ?_)
        refine lv_iconst (v := 0) hx hb dX11_held_39 (by decide) ?_
        refine lv_istore (lv' := [(5, .int 0), (4, .int 0), (0, .ref (ad 200)), (1, .int (nI c)), (2, .int t1), (3, .int 0)]) hx hb dX11_held_40 hl (by decide) rfl (fun ls hl => ?_)
        refine lv_iconst (v := 0) hx hb dX11_held_42 (by decide) ?_
        refine lv_istore (lv' := [(6, .int 0), (5, .int 0), (4, .int 0), (0, .ref (ad 200)), (1, .int (nI c)), (2, .int t1), (3, .int 0)]) hx hb dX11_held_43 hl (by decide) rfl (fun ls hl => ?_)
        suffices lp45 : ∀ (nfu : Nat) (i a1 a2 : Nat) (ls : Array Slot), nf - i < nfu → i ≤ nf → a1 = kcn (kGv N tl c t1.toInt64) i → a2 = kcn (kGc N tl ca c t1.toInt64) i → lv_has ls 11 [(0, .ref (ad 200)), (1, .int (nI c)), (2, .int t1), (3, .int 0), (4, .int (nI a1)), (5, .int (nI a2)), (6, .int (nI i))] → W pg l en (headSpec wsX11_held ({ frames := 1, cells := 0, slots := 0, locals := 29 })).room s m (([.ref (ad 200), .int (nI c), .int t1, .int 0] : List Value).toArray) below meth cod s.heap [] 0 0 (MQ below (k2_QcV (.long ((nI (kcn (kGv N tl c t1.toInt64) nf)).toInt64))) (([.ref (ad 200), .int (nI c), .int t1, .int 0] : List Value).toArray) s 0 0 (fun _ => False)) (F0 m 45 ls []) by
          exact lp45 (nf - 0 + 1) 0 0 0 ls (by omega) (by omega) (by rfl) (by rfl) (by have hl9 := lv_sub hl (l' := [(0, .ref (ad 200)), (1, .int (nI c)), (2, .int t1), (3, .int 0), (4, .int 0), (5, .int 0), (6, .int 0)]) [3, 4, 5, 6, 2, 1, 0] rfl; exact hl9)
        intro n45
        induction n45 with
        | zero => intro i a1 a2 ls hfu; exact absurd hfu (Nat.not_lt_zero _)
        | succ n45 ih45 =>
          intro i a1 a2 ls hfu45 hi hp1 hp2 hl
          refine lv_iload hx hb dX11_held_45 (lv_at hl 6 rfl) ?_
          refine lv_aload_n hx hb dX11_held_47 rfl (lv_at hl 0 rfl) ?_
          refine kg_get (v := .int (nI nf)) (C := RX11) (T := TX11) (N := 27) hx hb hts hinX11 hown hK hw h0 rfl 24 (by decide) (hts (.fieldLink RX11 99 "BetMakerModel" "forecasts" "I") (by decide +kernel)) (fun _ h9 => h9) rfl dX11_held_48 ?_
          refine kn_ge i nf rfl rfl (by omega) (by omega) (tgt := 114) hx hb dX11_held_51 (by decide) (fun c_4 => ?_) (fun c_4 => ?_)
          · refine lv_iload_n hx hb dX11_held_114 rfl (lv_at hl 3 rfl) ?_
            refine lv_iconst (v := 2) hx hb dX11_held_115 (by decide) ?_
            refine kn_ge 0 2 rfl rfl (by omega) (by omega) (tgt := 133) hx hb dX11_held_116 (by decide) (fun c_5 => ?_) (fun c_5 => ?_)
            · exfalso; omega
            · refine lv_iload_n hx hb dX11_held_119 rfl (lv_at hl 3 rfl) ?_
              refine lv_if_ne (tgt := 129) hx hb dX11_held_120 (by decide) (fun c_6 => ?_) (fun c_6 => ?_)
              · exact absurd c_6 (by decide)
              · refine lv_iload hx hb dX11_held_123 (lv_at hl 4 rfl) ?_
                refine lv_i2l (v := (nI a1).toInt64) hx hb dX11_held_125 rfl ?_
                refine lv_goto (tgt := 132) hx hb dX11_held_126 (by decide) ?_
                refine W.eq (congrArg (fun z => F0 m 132 ls [.long z]) (show ((nI a1).toInt64) = ((nI (kcn (kGv N tl c t1.toInt64) nf)).toInt64) from by rw [hp1, show i = nf by omega])) ?_
                exact W.lret hx hb hr (fun t ht _ => ⟨rfl, ht⟩) (fun _ h => absurd h List.not_mem_nil) dX11_held_132
          · refine lv_ldc2 (v := 10) hx hb hown (hts (.constantLong RX11 198 (10)) (by decide +kernel)) dX11_held_54 ?_
            refine lv_aload_n hx hb dX11_held_57 rfl (lv_at hl 0 rfl) ?_
            refine kg_get (v := .ref (ad 215)) (C := RX11) (T := TX11) (N := 27) hx hb hts hinX11 hown hK hw h0 rfl 25 (by decide) (hts (.fieldLink RX11 63 "BetMakerModel" "told" "[I") (by decide +kernel)) (fun _ h9 => h9) rfl dX11_held_58 ?_
            refine lv_bipush (v := 8) hx hb dX11_held_61 (by decide) ?_
            refine lv_iload hx hb dX11_held_63 (lv_at hl 6 rfl) ?_
            refine lv_imul hx hb dX11_held_65 ?_
            refine lv_iload_n hx hb dX11_held_66 rfl (lv_at hl 1 rfl) ?_
            refine lv_iadd hx hb dX11_held_67 ?_
            refine kg_iald hx hb hK hw h215 ((8 * i) + c) (by simp only [kn_lit, nI_add, pk_mul, nI_1]) (by omega) (by omega) dX11_held_68 ?_
            refine lv_i2l (v := (tl ((8 * i) + c)).toInt64) hx hb dX11_held_69 rfl ?_
            refine lv_lmul hx hb dX11_held_70 ?_
            refine lv_iload_n hx hb dX11_held_71 rfl (lv_at hl 2 rfl) ?_
            refine lv_i2l (v := t1.toInt64) hx hb dX11_held_72 rfl ?_
            refine lv_aload_n hx hb dX11_held_73 rfl (lv_at hl 0 rfl) ?_
            refine lv_iload hx hb dX11_held_74 (lv_at hl 6 rfl) ?_
            refine kc_v (As := [.int (nI i)]) (rest := [.long t1.toInt64, .long (10 * ((tl ((8 * i) + c)).toInt64))]) S0 (c_X11_sumOf l D tc s.heap.size ad ct (f := i) (N := N) (nt := nt) (no := no) (nf := nf) h0 h215 (by omega) (by omega)) (cwV 1 hts gX11_held_X11_sumOf rfl rfl rfl (by decide +kernel) ⟨Nat.le_of_ble_eq_true rfl, Nat.le_of_ble_eq_true rfl⟩) hK hw h0 rfl rfl hl.1 rfl (Nat.le_of_ble_eq_true rfl) dX11_held_76 ⟨Nat.le_of_ble_eq_true rfl, (Nat.le_of_ble_eq_true rfl)⟩ ?_
            refine lv_lmul hx hb dX11_held_79 ?_
            refine W.lcmp hx hb dX11_held_80 ?_
            refine kl_ne (tgt := 108) hx hb dX11_held_81 (by decide) (fun c_7 => ?_) (fun c_7 => ?_)
            · refine lv_iinc (v := (nI (i + 1))) (lv' := [(6, .int (nI (i + 1))), (0, .ref (ad 200)), (1, .int (nI c)), (2, .int t1), (3, .int 0), (4, .int (nI a1)), (5, .int (nI a2))]) hx hb dX11_held_108 hl (k := 6) rfl (nI_1 i) (by decide) rfl (fun ls hl => ?_)
              refine lv_goto (tgt := 45) hx hb dX11_held_111 (by decide) ?_
              exact ih45 (i + 1) a1 a2 ls (by omega) (by omega) (by rw [hp1]; exact kcn_f (fun q => c_7 (of_decide_eq_true q))) (by rw [hp2]; exact kcn_f (kGc_3 c_7)) (lv_sub hl [1, 2, 3, 4, 5, 6, 0] rfl)
            · refine lv_iinc (v := (nI (a1 + 1))) (lv' := [(4, .int (nI (a1 + 1))), (0, .ref (ad 200)), (1, .int (nI c)), (2, .int t1), (3, .int 0), (5, .int (nI a2)), (6, .int (nI i))]) hx hb dX11_held_84 hl (k := 4) rfl (nI_1 a1) (by decide) rfl (fun ls hl => ?_)
              refine lv_iload hx hb dX11_held_87 (lv_at hl 5 rfl) ?_
              refine lv_aload_n hx hb dX11_held_89 rfl (lv_at hl 1 rfl) ?_
              refine kg_get (v := .ref (ad 216)) (C := RX11) (T := TX11) (N := 27) hx hb hts hinX11 hown hK hw h0 rfl 26 (by decide) (hts (.fieldLink RX11 66 "BetMakerModel" "cameThen" "[I") (by decide +kernel)) (fun _ h9 => h9) rfl dX11_held_90 ?_
              refine lv_iload hx hb dX11_held_93 (lv_at hl 6 rfl) ?_
              refine kg_iald hx hb hK hw h216 i rfl (by omega) (by omega) dX11_held_95 ?_
              refine lv_iload_n hx hb dX11_held_96 rfl (lv_at hl 2 rfl) ?_
              refine lv_icmp_ne (tgt := 104) hx hb dX11_held_97 (by decide) (fun c_8 => ?_) (fun c_8 => ?_)
              · refine lv_iconst (v := 0) hx hb dX11_held_104 (by decide) ?_
                refine lv_iadd hx hb dX11_held_105 ?_
                refine lv_istore (lv' := [(5, .int ((nI a2) + 0)), (4, .int (nI (a1 + 1))), (0, .ref (ad 200)), (1, .int (nI c)), (2, .int t1), (3, .int 0), (6, .int (nI i))]) hx hb dX11_held_106 hl (by decide) rfl (fun ls hl => ?_)
                refine lv_iinc (v := (nI (i + 1))) (lv' := [(6, .int (nI (i + 1))), (5, .int ((nI a2) + 0)), (4, .int (nI (a1 + 1))), (0, .ref (ad 200)), (1, .int (nI c)), (2, .int t1), (3, .int 0)]) hx hb dX11_held_108 hl (k := 6) rfl (nI_1 i) (by decide) rfl (fun ls hl => ?_)
                refine lv_goto (tgt := 45) hx hb dX11_held_111 (by decide) ?_
                exact ih45 (i + 1) (a1 + 1) (a2 + 0) ls (by omega) (by omega) (by rw [hp1]; exact kcn_t (decide_eq_true c_7)) (by rw [hp2]; exact kcn_f (kGc_2 c_8)) (by have hl9 := lv_sub hl (l' := [(0, .ref (ad 200)), (1, .int (nI c)), (2, .int t1), (3, .int 0), (4, .int (nI (a1 + 1))), (5, .int ((nI a2) + 0)), (6, .int (nI (i + 1)))]) [3, 4, 5, 6, 2, 1, 0] rfl; have _ := c_8; rw [Int32.add_zero] at hl9; exact hl9)
              · refine lv_iconst (v := 1) hx hb dX11_held_100 (by decide) ?_
                refine lv_goto (tgt := 105) hx hb dX11_held_101 (by decide) ?_
                refine lv_iadd hx hb dX11_held_105 ?_
                refine lv_istore (lv' := [(5, .int ((nI a2) + 1)), (4, .int (nI (a1 + 1))), (0, .ref (ad 200)), (1, .int (nI c)), (2, .int t1), (3, .int 0), (6, .int (nI i))]) hx hb dX11_held_106 hl (by decide) rfl (fun ls hl => ?_)
                refine lv_iinc (v := (nI (i + 1))) (lv' := [(6, .int (nI (i + 1))), (5, .int ((nI a2) + 1)), (4, .int (nI (a1 + 1))), (0, .ref (ad 200)), (1, .int (nI c)), (2, .int t1), (3, .int 0)]) hx hb dX11_held_108 hl (k := 6) rfl (nI_1 i) (by decide) rfl (fun ls hl => ?_)
                refine lv_goto (tgt := 45) hx hb dX11_held_111 (by decide) ?_
                exact ih45 (i + 1) (a1 + 1) (a2 + 1) ls (by omega) (by omega) (by rw [hp1]; exact kcn_t (decide_eq_true c_7)) (by rw [hp2]; exact kcn_t (kGc_1 c_7 c_8)) (by have hl9 := lv_sub hl (l' := [(0, .ref (ad 200)), (1, .int (nI c)), (2, .int t1), (3, .int 0), (4, .int (nI (a1 + 1))), (5, .int ((nI a2) + 1)), (6, .int (nI (i + 1)))]) [3, 4, 5, 6, 2, 1, 0] rfl; have _ := c_8; rw [nI_1] at hl9; exact hl9)
      · exact absurd kW c_3
set_option maxHeartbeats 4000000 in
set_option maxRecDepth 100000 in
theorem c_X11_held_1 (l : Launch) (D : va_G) (tc : Nat → ClassId) (sz : Nat) (ad : Nat → Nat) (ct : Nat → Option va_E) {N nt no nf : Nat} {ft tr b cm da bs : Int32} {g : Int64}              {tl : Nat → Int32} {ca : Nat → Int32} {c : Nat} {t1 : Int32} (h0 : ct 200 = some (.inr (11, [.int ft, .int tr, .int (nI N), .int b, .ref (ad 201), .long g, .int cm, .int da, .int (nI nt), .ref (ad 202), .ref (ad 203), .ref (ad 204), .ref (ad 205), .ref (ad 206), .ref (ad 207), .ref (ad 208), .ref (ad 209), .int (nI no), .ref (ad 210), .ref (ad 211), .ref (ad 212), .ref (ad 213), .ref (ad 214), .int bs, .int (nI nf), .ref (ad 215), .ref (ad 216)]))) (h215 : ct 215 = some (eI tc 320 tl)) (h216 : ct 216 = some (eI tc 40 ca)) (hc : c < N) (hN : N ≤ 8) (hnf : nf ≤ 40) (hpt : 0 ≤ t1.toInt64 ∧ t1.toInt64 ≤ 10) : Met l yX11_held wsX11_held ({ frames := 1, cells := 0, slots := 0, locals := 29 }) (va_Pc [.ref (ad 200), .int (nI c), .int t1, .int 1] (kw_B D tc sz ad ct)) (k2_QcV (.long ((nI (kcn (kGc N tl ca c t1.toInt64) nf)).toInt64))) 0 0 (fun _ => False) := by
  refine Met.ofW (cc := cX11_held) (maxL := 11) (ret := (some .long)) (by decide) rfl ?_
  intro pg en s m args below meth cod s₁ B hml hv
  obtain ⟨rfl, hsz, hP0, hK⟩ := hv
  have hx := B.exec
  have hb := B.bytes
  have hr := B.returns
  have hts := atoms_spec (ws := wsX11_held) B.pre
  have hown : s.vm.findClass RX11 = some m.cls := findClass_of_methodNamed B.named
  have hlocks := B.notSynchronized
  subst hsz
  have hw := kw_H.start hP0
  generalize kw_A ad ct s.heap.size = A at hw
  have hinX11 : ∀ w ∈ wsX110, w ∈ wsX11_held := by decide +kernel
  have hl := lv_entry ([.ref (ad 200), .int (nI c), .int t1, .int 1]) (n := 11) (Nat.le_of_ble_eq_true rfl)
  rw [lg_entry_eq]
  generalize (lg_sl ([.ref (ad 200), .int (nI c), .int t1, .int 1]) ++ List.replicate (11 - (lg_sl ([.ref (ad 200), .int (nI c), .int t1, .int 1])).length) Slot.unset).toArray = ls at hl ⊢
  have hl : lv_has ls 11 [(0, .ref (ad 200)), (1, .int (nI c)), (2, .int t1), (3, .int 1)] := hl
  have S0 : CallFix pg m cod cX11_held 11 s _ wsX11_held RX11 := ⟨hx, hb, hml, hown, hts⟩
  have kC : 0 ≤ nI c ∧ nI c < nI N := ⟨nI_pos' (by omega), nI_lt hc (by omega)⟩
  have kW : 0 ≤ (1 : Int32).toInt64 ∧ (1 : Int32).toInt64 ≤ 2 := by decide
  refine lv_aload_n hx hb dX11_held_0 rfl (lv_at hl 0 rfl) ?_
  refine lv_iload_n hx hb dX11_held_1 rfl (lv_at hl 1 rfl) ?_
  refine kc_v (As := [.int (nI c)]) (rest := []) S0 (c_X11_isCase l D tc s.heap.size ad ct (N := N) (nt := nt) (no := no) (nf := nf) h0) (cwV 1 hts gX11_held_X11_isCase rfl rfl rfl (by decide +kernel) ⟨Nat.le_of_ble_eq_true rfl, Nat.le_of_ble_eq_true rfl⟩) hK hw h0 rfl rfl hl.1 rfl (Nat.le_of_ble_eq_true rfl) dX11_held_2 ⟨Nat.le_of_ble_eq_true rfl, (Nat.le_of_ble_eq_true rfl)⟩ ?_
  refine kb_ifeq (tgt := 32) hx hb dX11_held_5 (by decide) (fun c_1 => ?_) (fun c_1 => ?_)
  · exact absurd kC c_1
  · refine lv_iload_n hx hb dX11_held_8 rfl (lv_at hl 2 rfl) ?_
    refine lv_i2l (v := t1.toInt64) hx hb dX11_held_9 rfl ?_
    refine lv_lconst (v := 0) hx hb dX11_held_10 (by decide) ?_
    refine lv_ldc2 (v := 10) hx hb hown (hts (.constantLong RX11 198 (10)) (by decide +kernel)) dX11_held_11 ?_
    refine kc_s (As := [.long t1.toInt64, .long 0, .long 10]) (rest := []) S0 (c_X11_within l D tc s.heap.size ad ct ) (va_cwS 3 hts gX11_held_X11_within rfl rfl rfl (by decide +kernel) ⟨Nat.le_of_ble_eq_true rfl, Nat.le_of_ble_eq_true rfl⟩) hK hw rfl hl.1 rfl (Nat.le_of_ble_eq_true rfl) dX11_held_14 ⟨Nat.le_of_ble_eq_true rfl, (Nat.le_of_ble_eq_true rfl)⟩ ?_
    refine kb_ifeq (tgt := 32) hx hb dX11_held_17 (by decide) (fun c_2 => ?_) (fun c_2 => ?_)
    · exact absurd hpt c_2
    · refine lv_iload_n hx hb dX11_held_20 rfl (lv_at hl 3 rfl) ?_
      refine lv_i2l (v := (1 : Int32).toInt64) hx hb dX11_held_21 rfl ?_
      refine lv_lconst (v := 0) hx hb dX11_held_22 (by decide) ?_
      refine lv_ldc2 (v := 2) hx hb hown (hts (.constantLong RX11 76 (2)) (by decide +kernel)) dX11_held_23 ?_
      refine kc_s (As := [.long ((1 : Int32).toInt64), .long 0, .long 2]) (rest := []) S0 (c_X11_within l D tc s.heap.size ad ct ) (va_cwS 3 hts gX11_held_X11_within rfl rfl rfl (by decide +kernel) ⟨Nat.le_of_ble_eq_true rfl, Nat.le_of_ble_eq_true rfl⟩) hK hw rfl hl.1 rfl (Nat.le_of_ble_eq_true rfl) dX11_held_26 ⟨Nat.le_of_ble_eq_true rfl, (Nat.le_of_ble_eq_true rfl)⟩ ?_
      refine kb_ifne (tgt := 36) hx hb dX11_held_29 (by decide) (fun c_3 => ?_) (fun c_3 => ?_)
      · refine lv_iconst (v := 0) hx hb dX11_held_36 (by decide) ?_
        refine lv_istore (lv' := [(4, .int 0), (0, .ref (ad 200)), (1, .int (nI c)), (2, .int t1), (3, .int 1)]) hx hb dX11_held_37 hl (by decide) rfl (fun ls hl => ?_)
        refine lv_iconst (v := 0) hx hb dX11_held_39 (by decide) ?_
        refine lv_istore (lv' := [(5, .int 0), (4, .int 0), (0, .ref (ad 200)), (1, .int (nI c)), (2, .int t1), (3, .int 1)]) hx hb dX11_held_40 hl (by decide) rfl (fun ls hl => ?_)
        refine lv_iconst (v := 0) hx hb dX11_held_42 (by decide) ?_
        refine lv_istore (lv' := [(6, .int 0), (5, .int 0), (4, .int 0), (0, .ref (ad 200)), (1, .int (nI c)), (2, .int t1), (3, .int 1)]) hx hb dX11_held_43 hl (by decide) rfl (fun ls hl => ?_)
        suffices lp45 : ∀ (nfu : Nat) (i a1 a2 : Nat) (ls : Array Slot), nf - i < nfu → i ≤ nf → a1 = kcn (kGv N tl c t1.toInt64) i → a2 = kcn (kGc N tl ca c t1.toInt64) i → lv_has ls 11 [(0, .ref (ad 200)), (1, .int (nI c)), (2, .int t1), (3, .int 1), (4, .int (nI a1)), (5, .int (nI a2)), (6, .int (nI i))] → W pg l en (headSpec wsX11_held ({ frames := 1, cells := 0, slots := 0, locals := 29 })).room s m (([.ref (ad 200), .int (nI c), .int t1, .int 1] : List Value).toArray) below meth cod s.heap [] 0 0 (MQ below (k2_QcV (.long ((nI (kcn (kGc N tl ca c t1.toInt64) nf)).toInt64))) (([.ref (ad 200), .int (nI c), .int t1, .int 1] : List Value).toArray) s 0 0 (fun _ => False)) (F0 m 45 ls []) by
          exact lp45 (nf - 0 + 1) 0 0 0 ls (by omega) (by omega) (by rfl) (by rfl) (by have hl9 := lv_sub hl (l' := [(0, .ref (ad 200)), (1, .int (nI c)), (2, .int t1), (3, .int 1), (4, .int 0), (5, .int 0), (6, .int 0)]) [3, 4, 5, 6, 2, 1, 0] rfl; exact hl9)
        intro n45
        induction n45 with
        | zero => intro i a1 a2 ls hfu; exact absurd hfu (Nat.not_lt_zero _)
        | succ n45 ih45 =>
          intro i a1 a2 ls hfu45 hi hp1 hp2 hl
          refine lv_iload hx hb dX11_held_45 (lv_at hl 6 rfl) ?_
          refine lv_aload_n hx hb dX11_held_47 rfl (lv_at hl 0 rfl) ?_
          refine kg_get (v := .int (nI nf)) (C := RX11) (T := TX11) (N := 27) hx hb hts hinX11 hown hK hw h0 rfl 24 (by decide) (hts (.fieldLink RX11 99 "BetMakerModel" "forecasts" "I") (by decide +kernel)) (fun _ h9 => h9) rfl dX11_held_48 ?_
          refine kn_ge i nf rfl rfl (by omega) (by omega) (tgt := 114) hx hb dX11_held_51 (by decide) (fun c_4 => ?_) (fun c_4 => ?_)
          · refine lv_iload_n hx hb dX11_held_114 rfl (lv_at hl 3 rfl) ?_
            refine lv_iconst (v := 2) hx hb dX11_held_115 (by decide) ?_
            refine kn_ge 1 2 rfl rfl (by omega) (by omega) (tgt := 133) hx hb dX11_held_116 (by decide) (fun c_5 => ?_) (fun c_5 => ?_)
            · exfalso; omega
            · refine lv_iload_n hx hb dX11_held_119 rfl (lv_at hl 3 rfl) ?_
              refine lv_if_ne (tgt := 129) hx hb dX11_held_120 (by decide) (fun c_6 => ?_) (fun c_6 => ?_)
              · refine lv_iload hx hb dX11_held_129 (lv_at hl 5 rfl) ?_
                refine lv_i2l (v := (nI a2).toInt64) hx hb dX11_held_131 rfl ?_
                refine W.eq (congrArg (fun z => F0 m 132 ls [.long z]) (show ((nI a2).toInt64) = ((nI (kcn (kGc N tl ca c t1.toInt64) nf)).toInt64) from by rw [hp2, show i = nf by omega])) ?_
                exact W.lret hx hb hr (fun t ht _ => ⟨rfl, ht⟩) (fun _ h => absurd h List.not_mem_nil) dX11_held_132
              · exact absurd c_6 (by decide)
          · refine lv_ldc2 (v := 10) hx hb hown (hts (.constantLong RX11 198 (10)) (by decide +kernel)) dX11_held_54 ?_
            refine lv_aload_n hx hb dX11_held_57 rfl (lv_at hl 0 rfl) ?_
            refine kg_get (v := .ref (ad 215)) (C := RX11) (T := TX11) (N := 27) hx hb hts hinX11 hown hK hw h0 rfl 25 (by decide) (hts (.fieldLink RX11 63 "BetMakerModel" "told" "[I") (by decide +kernel)) (fun _ h9 => h9) rfl dX11_held_58 ?_
            refine lv_bipush (v := 8) hx hb dX11_held_61 (by decide) ?_
            refine lv_iload hx hb dX11_held_63 (lv_at hl 6 rfl) ?_
            refine lv_imul hx hb dX11_held_65 ?_
            refine lv_iload_n hx hb dX11_held_66 rfl (lv_at hl 1 rfl) ?_
            refine lv_iadd hx hb dX11_held_67 ?_
            refine kg_iald hx hb hK hw h215 ((8 * i) + c) (by simp only [kn_lit, nI_add, pk_mul, nI_1]) (by omega) (by omega) dX11_held_68 ?_
            refine lv_i2l (v := (tl ((8 * i) + c)).toInt64) hx hb dX11_held_69 rfl ?_
            refine lv_lmul hx hb dX11_held_70 ?_
            refine lv_iload_n hx hb dX11_held_71 rfl (lv_at hl 2 rfl) ?_
            refine lv_i2l (v := t1.toInt64) hx hb dX11_held_72 rfl ?_
            refine lv_aload_n hx hb dX11_held_73 rfl (lv_at hl 0 rfl) ?_
            refine lv_iload hx hb dX11_held_74 (lv_at hl 6 rfl) ?_
            refine kc_v (As := [.int (nI i)]) (rest := [.long t1.toInt64, .long (10 * ((tl ((8 * i) + c)).toInt64))]) S0 (c_X11_sumOf l D tc s.heap.size ad ct (f := i) (N := N) (nt := nt) (no := no) (nf := nf) h0 h215 (by omega) (by omega)) (cwV 1 hts gX11_held_X11_sumOf rfl rfl rfl (by decide +kernel) ⟨Nat.le_of_ble_eq_true rfl, Nat.le_of_ble_eq_true rfl⟩) hK hw h0 rfl rfl hl.1 rfl (Nat.le_of_ble_eq_true rfl) dX11_held_76 ⟨Nat.le_of_ble_eq_true rfl, (Nat.le_of_ble_eq_true rfl)⟩ ?_
            refine lv_lmul hx hb dX11_held_79 ?_
            refine W.lcmp hx hb dX11_held_80 ?_
            refine kl_ne (tgt := 108) hx hb dX11_held_81 (by decide) (fun c_7 => ?_) (fun c_7 => ?_)
            · refine lv_iinc (v := (nI (i + 1))) (lv' := [(6, .int (nI (i + 1))), (0, .ref (ad 200)), (1, .int (nI c)), (2, .int t1), (3, .int 1), (4, .int (nI a1)), (5, .int (nI a2))]) hx hb dX11_held_108 hl (k := 6) rfl (nI_1 i) (by decide) rfl (fun ls hl => ?_)
              refine lv_goto (tgt := 45) hx hb dX11_held_111 (by decide) ?_
              exact ih45 (i + 1) a1 a2 ls (by omega) (by omega) (by rw [hp1]; exact kcn_f (fun q => c_7 (of_decide_eq_true q))) (by rw [hp2]; exact kcn_f (kGc_3 c_7)) (lv_sub hl [1, 2, 3, 4, 5, 6, 0] rfl)
            · refine lv_iinc (v := (nI (a1 + 1))) (lv' := [(4, .int (nI (a1 + 1))), (0, .ref (ad 200)), (1, .int (nI c)), (2, .int t1), (3, .int 1), (5, .int (nI a2)), (6, .int (nI i))]) hx hb dX11_held_84 hl (k := 4) rfl (nI_1 a1) (by decide) rfl (fun ls hl => ?_)
              refine lv_iload hx hb dX11_held_87 (lv_at hl 5 rfl) ?_
              refine lv_aload_n hx hb dX11_held_89 rfl (lv_at hl 1 rfl) ?_
              refine kg_get (v := .ref (ad 216)) (C := RX11) (T := TX11) (N := 27) hx hb hts hinX11 hown hK hw h0 rfl 26 (by decide) (hts (.fieldLink RX11 66 "BetMakerModel" "cameThen" "[I") (by decide +kernel)) (fun _ h9 => h9) rfl dX11_held_90 ?_
              refine lv_iload hx hb dX11_held_93 (lv_at hl 6 rfl) ?_
              refine kg_iald hx hb hK hw h216 i rfl (by omega) (by omega) dX11_held_95 ?_
              refine lv_iload_n hx hb dX11_held_96 rfl (lv_at hl 2 rfl) ?_
              refine lv_icmp_ne (tgt := 104) hx hb dX11_held_97 (by decide) (fun c_8 => ?_) (fun c_8 => ?_)
              · refine lv_iconst (v := 0) hx hb dX11_held_104 (by decide) ?_
                refine lv_iadd hx hb dX11_held_105 ?_
                refine lv_istore (lv' := [(5, .int ((nI a2) + 0)), (4, .int (nI (a1 + 1))), (0, .ref (ad 200)), (1, .int (nI c)), (2, .int t1), (3, .int 1), (6, .int (nI i))]) hx hb dX11_held_106 hl (by decide) rfl (fun ls hl => ?_)
                refine lv_iinc (v := (nI (i + 1))) (lv' := [(6, .int (nI (i + 1))), (5, .int ((nI a2) + 0)), (4, .int (nI (a1 + 1))), (0, .ref (ad 200)), (1, .int (nI c)), (2, .int t1), (3, .int 1)]) hx hb dX11_held_108 hl (k := 6) rfl (nI_1 i) (by decide) rfl (fun ls hl => ?_)
                refine lv_goto (tgt := 45) hx hb dX11_held_111 (by decide) ?_
                exact ih45 (i + 1) (a1 + 1) (a2 + 0) ls (by omega) (by omega) (by rw [hp1]; exact kcn_t (decide_eq_true c_7)) (by rw [hp2]; exact kcn_f (kGc_2 c_8)) (by have hl9 := lv_sub hl (l' := [(0, .ref (ad 200)), (1, .int (nI c)), (2, .int t1), (3, .int 1), (4, .int (nI (a1 + 1))), (5, .int ((nI a2) + 0)), (6, .int (nI (i + 1)))]) [3, 4, 5, 6, 2, 1, 0] rfl; have _ := c_8; rw [Int32.add_zero] at hl9; exact hl9)
              · refine lv_iconst (v := 1) hx hb dX11_held_100 (by decide) ?_
                refine lv_goto (tgt := 105) hx hb dX11_held_101 (by decide) ?_
                refine lv_iadd hx hb dX11_held_105 ?_
                refine lv_istore (lv' := [(5, .int ((nI a2) + 1)), (4, .int (nI (a1 + 1))), (0, .ref (ad 200)), (1, .int (nI c)), (2, .int t1), (3, .int 1), (6, .int (nI i))]) hx hb dX11_held_106 hl (by decide) rfl (fun ls hl => ?_)
                refine lv_iinc (v := (nI (i + 1))) (lv' := [(6, .int (nI (i + 1))), (5, .int ((nI a2) + 1)), (4, .int (nI (a1 + 1))), (0, .ref (ad 200)), (1, .int (nI c)), (2, .int t1), (3, .int 1)]) hx hb dX11_held_108 hl (k := 6) rfl (nI_1 i) (by decide) rfl (fun ls hl => ?_)
                refine lv_goto (tgt := 45) hx hb dX11_held_111 (by decide) ?_
                exact ih45 (i + 1) (a1 + 1) (a2 + 1) ls (by omega) (by omega) (by rw [hp1]; exact kcn_t (decide_eq_true c_7)) (by rw [hp2]; exact kcn_t (kGc_1 c_7 c_8)) (by have hl9 := lv_sub hl (l' := [(0, .ref (ad 200)), (1, .int (nI c)), (2, .int t1), (3, .int 1), (4, .int (nI (a1 + 1))), (5, .int ((nI a2) + 1)), (6, .int (nI (i + 1)))]) [3, 4, 5, 6, 2, 1, 0] rfl; have _ := c_8; rw [nI_1] at hl9; exact hl9)
      · exact absurd kW c_3
set_option maxHeartbeats 4000000 in
set_option maxRecDepth 100000 in
theorem c_X11_held_2b (l : Launch) (D : va_G) (tc : Nat → ClassId) (sz : Nat) (ad : Nat → Nat) (ct : Nat → Option va_E) {N nt no nf : Nat} {ft tr b cm da bs : Int32} {g : Int64}              {tl : Nat → Int32} {ca : Nat → Int32} {c : Nat} {t1 : Int32} (h0 : ct 200 = some (.inr (11, [.int ft, .int tr, .int (nI N), .int b, .ref (ad 201), .long g, .int cm, .int da, .int (nI nt), .ref (ad 202), .ref (ad 203), .ref (ad 204), .ref (ad 205), .ref (ad 206), .ref (ad 207), .ref (ad 208), .ref (ad 209), .int (nI no), .ref (ad 210), .ref (ad 211), .ref (ad 212), .ref (ad 213), .ref (ad 214), .int bs, .int (nI nf), .ref (ad 215), .ref (ad 216)]))) (h215 : ct 215 = some (eI tc 320 tl)) (h216 : ct 216 = some (eI tc 40 ca)) (hc : c < N) (hN : N ≤ 8) (hnf : nf ≤ 40) (hpt : 0 ≤ t1.toInt64 ∧ t1.toInt64 ≤ 10) (hbig : 15 < kcn (kGv N tl c t1.toInt64) nf) : Met l yX11_held wsX11_held ({ frames := 1, cells := 0, slots := 0, locals := 29 }) (va_Pc [.ref (ad 200), .int (nI c), .int t1, .int 2] (kw_B D tc sz ad ct)) (k2_QcV (.long (-9223372036854775808))) 0 0 (fun _ => False) := by
  refine Met.ofW (cc := cX11_held) (maxL := 11) (ret := (some .long)) (by decide) rfl ?_
  intro pg en s m args below meth cod s₁ B hml hv
  obtain ⟨rfl, hsz, hP0, hK⟩ := hv
  have hx := B.exec
  have hb := B.bytes
  have hr := B.returns
  have hts := atoms_spec (ws := wsX11_held) B.pre
  have hown : s.vm.findClass RX11 = some m.cls := findClass_of_methodNamed B.named
  have hlocks := B.notSynchronized
  subst hsz
  have hw := kw_H.start hP0
  generalize kw_A ad ct s.heap.size = A at hw
  have hinX11 : ∀ w ∈ wsX110, w ∈ wsX11_held := by decide +kernel
  have hl := lv_entry ([.ref (ad 200), .int (nI c), .int t1, .int 2]) (n := 11) (Nat.le_of_ble_eq_true rfl)
  rw [lg_entry_eq]
  generalize (lg_sl ([.ref (ad 200), .int (nI c), .int t1, .int 2]) ++ List.replicate (11 - (lg_sl ([.ref (ad 200), .int (nI c), .int t1, .int 2])).length) Slot.unset).toArray = ls at hl ⊢
  have hl : lv_has ls 11 [(0, .ref (ad 200)), (1, .int (nI c)), (2, .int t1), (3, .int 2)] := hl
  have S0 : CallFix pg m cod cX11_held 11 s _ wsX11_held RX11 := ⟨hx, hb, hml, hown, hts⟩
  have kC : 0 ≤ nI c ∧ nI c < nI N := ⟨nI_pos' (by omega), nI_lt hc (by omega)⟩
  have kW : 0 ≤ (2 : Int32).toInt64 ∧ (2 : Int32).toInt64 ≤ 2 := by decide
  refine lv_aload_n hx hb dX11_held_0 rfl (lv_at hl 0 rfl) ?_
  refine lv_iload_n hx hb dX11_held_1 rfl (lv_at hl 1 rfl) ?_
  refine kc_v (As := [.int (nI c)]) (rest := []) S0 (c_X11_isCase l D tc s.heap.size ad ct (N := N) (nt := nt) (no := no) (nf := nf) h0) (cwV 1 hts gX11_held_X11_isCase rfl rfl rfl (by decide +kernel) ⟨Nat.le_of_ble_eq_true rfl, Nat.le_of_ble_eq_true rfl⟩) hK hw h0 rfl rfl hl.1 rfl (Nat.le_of_ble_eq_true rfl) dX11_held_2 ⟨Nat.le_of_ble_eq_true rfl, (Nat.le_of_ble_eq_true rfl)⟩ ?_
  refine kb_ifeq (tgt := 32) hx hb dX11_held_5 (by decide) (fun c_1 => ?_) (fun c_1 => ?_)
  · exact absurd kC c_1
  · refine lv_iload_n hx hb dX11_held_8 rfl (lv_at hl 2 rfl) ?_
    refine lv_i2l (v := t1.toInt64) hx hb dX11_held_9 rfl ?_
    refine lv_lconst (v := 0) hx hb dX11_held_10 (by decide) ?_
    refine lv_ldc2 (v := 10) hx hb hown (hts (.constantLong RX11 198 (10)) (by decide +kernel)) dX11_held_11 ?_
    refine kc_s (As := [.long t1.toInt64, .long 0, .long 10]) (rest := []) S0 (c_X11_within l D tc s.heap.size ad ct ) (va_cwS 3 hts gX11_held_X11_within rfl rfl rfl (by decide +kernel) ⟨Nat.le_of_ble_eq_true rfl, Nat.le_of_ble_eq_true rfl⟩) hK hw rfl hl.1 rfl (Nat.le_of_ble_eq_true rfl) dX11_held_14 ⟨Nat.le_of_ble_eq_true rfl, (Nat.le_of_ble_eq_true rfl)⟩ ?_
    refine kb_ifeq (tgt := 32) hx hb dX11_held_17 (by decide) (fun c_2 => ?_) (fun c_2 => ?_)
    · exact absurd hpt c_2
    · refine lv_iload_n hx hb dX11_held_20 rfl (lv_at hl 3 rfl) ?_
      refine lv_i2l (v := (2 : Int32).toInt64) hx hb dX11_held_21 rfl ?_
      refine lv_lconst (v := 0) hx hb dX11_held_22 (by decide) ?_
      refine lv_ldc2 (v := 2) hx hb hown (hts (.constantLong RX11 76 (2)) (by decide +kernel)) dX11_held_23 ?_
      refine kc_s (As := [.long ((2 : Int32).toInt64), .long 0, .long 2]) (rest := []) S0 (c_X11_within l D tc s.heap.size ad ct ) (va_cwS 3 hts gX11_held_X11_within rfl rfl rfl (by decide +kernel) ⟨Nat.le_of_ble_eq_true rfl, Nat.le_of_ble_eq_true rfl⟩) hK hw rfl hl.1 rfl (Nat.le_of_ble_eq_true rfl) dX11_held_26 ⟨Nat.le_of_ble_eq_true rfl, (Nat.le_of_ble_eq_true rfl)⟩ ?_
      refine kb_ifne (tgt := 36) hx hb dX11_held_29 (by decide) (fun c_3 => ?_) (fun c_3 => ?_)
      · refine lv_iconst (v := 0) hx hb dX11_held_36 (by decide) ?_
        refine lv_istore (lv' := [(4, .int 0), (0, .ref (ad 200)), (1, .int (nI c)), (2, .int t1), (3, .int 2)]) hx hb dX11_held_37 hl (by decide) rfl (fun ls hl => ?_)
        refine lv_iconst (v := 0) hx hb dX11_held_39 (by decide) ?_
        refine lv_istore (lv' := [(5, .int 0), (4, .int 0), (0, .ref (ad 200)), (1, .int (nI c)), (2, .int t1), (3, .int 2)]) hx hb dX11_held_40 hl (by decide) rfl (fun ls hl => ?_)
        refine lv_iconst (v := 0) hx hb dX11_held_42 (by decide) ?_
        refine lv_istore (lv' := [(6, .int 0), (5, .int 0), (4, .int 0), (0, .ref (ad 200)), (1, .int (nI c)), (2, .int t1), (3, .int 2)]) hx hb dX11_held_43 hl (by decide) rfl (fun ls hl => ?_)
        suffices lp45 : ∀ (nfu : Nat) (i a1 a2 : Nat) (ls : Array Slot), nf - i < nfu → i ≤ nf → a1 = kcn (kGv N tl c t1.toInt64) i → a2 = kcn (kGc N tl ca c t1.toInt64) i → lv_has ls 11 [(0, .ref (ad 200)), (1, .int (nI c)), (2, .int t1), (3, .int 2), (4, .int (nI a1)), (5, .int (nI a2)), (6, .int (nI i))] → W pg l en (headSpec wsX11_held ({ frames := 1, cells := 0, slots := 0, locals := 29 })).room s m (([.ref (ad 200), .int (nI c), .int t1, .int 2] : List Value).toArray) below meth cod s.heap [] 0 0 (MQ below (k2_QcV (.long (-9223372036854775808))) (([.ref (ad 200), .int (nI c), .int t1, .int 2] : List Value).toArray) s 0 0 (fun _ => False)) (F0 m 45 ls []) by
          exact lp45 (nf - 0 + 1) 0 0 0 ls (by omega) (by omega) (by rfl) (by rfl) (by have hl9 := lv_sub hl (l' := [(0, .ref (ad 200)), (1, .int (nI c)), (2, .int t1), (3, .int 2), (4, .int 0), (5, .int 0), (6, .int 0)]) [3, 4, 5, 6, 2, 1, 0] rfl; exact hl9)
        intro n45
        induction n45 with
        | zero => intro i a1 a2 ls hfu; exact absurd hfu (Nat.not_lt_zero _)
        | succ n45 ih45 =>
          intro i a1 a2 ls hfu45 hi hp1 hp2 hl
          refine lv_iload hx hb dX11_held_45 (lv_at hl 6 rfl) ?_
          refine lv_aload_n hx hb dX11_held_47 rfl (lv_at hl 0 rfl) ?_
          refine kg_get (v := .int (nI nf)) (C := RX11) (T := TX11) (N := 27) hx hb hts hinX11 hown hK hw h0 rfl 24 (by decide) (hts (.fieldLink RX11 99 "BetMakerModel" "forecasts" "I") (by decide +kernel)) (fun _ h9 => h9) rfl dX11_held_48 ?_
          refine kn_ge i nf rfl rfl (by omega) (by omega) (tgt := 114) hx hb dX11_held_51 (by decide) (fun c_4 => ?_) (fun c_4 => ?_)
          · have ei : i = nf := by omega
            subst ei
            have hle := kcn_le (kGv N tl c t1.toInt64) i
            refine lv_iload_n hx hb dX11_held_114 rfl (lv_at hl 3 rfl) ?_
            refine lv_iconst (v := 2) hx hb dX11_held_115 (by decide) ?_
            refine kn_ge 2 2 rfl rfl (by omega) (by omega) (tgt := 133) hx hb dX11_held_116 (by decide) (fun c_5 => ?_) (fun c_5 => ?_)
            · refine lv_iload hx hb dX11_held_133 (lv_at hl 4 rfl) ?_
              refine lv_bipush (v := 15) hx hb dX11_held_135 (by decide) ?_
              refine kn_le a1 15 rfl rfl (by omega) (by omega) (tgt := 144) hx hb dX11_held_137 (by decide) (fun c_6 => ?_) (fun c_6 => ?_)
              · exfalso; omega
              · refine lv_ldc2 (v := (-9223372036854775808)) hx hb hown (hts (.constantLong RX11 72 (-9223372036854775808)) (by decide +kernel)) dX11_held_140 ?_
                exact W.lret hx hb hr (fun t ht _ => ⟨rfl, ht⟩) (fun _ h => absurd h List.not_mem_nil) dX11_held_143
            · exfalso; omega
          · refine lv_ldc2 (v := 10) hx hb hown (hts (.constantLong RX11 198 (10)) (by decide +kernel)) dX11_held_54 ?_
            refine lv_aload_n hx hb dX11_held_57 rfl (lv_at hl 0 rfl) ?_
            refine kg_get (v := .ref (ad 215)) (C := RX11) (T := TX11) (N := 27) hx hb hts hinX11 hown hK hw h0 rfl 25 (by decide) (hts (.fieldLink RX11 63 "BetMakerModel" "told" "[I") (by decide +kernel)) (fun _ h9 => h9) rfl dX11_held_58 ?_
            refine lv_bipush (v := 8) hx hb dX11_held_61 (by decide) ?_
            refine lv_iload hx hb dX11_held_63 (lv_at hl 6 rfl) ?_
            refine lv_imul hx hb dX11_held_65 ?_
            refine lv_iload_n hx hb dX11_held_66 rfl (lv_at hl 1 rfl) ?_
            refine lv_iadd hx hb dX11_held_67 ?_
            refine kg_iald hx hb hK hw h215 ((8 * i) + c) (by simp only [kn_lit, nI_add, pk_mul, nI_1]) (by omega) (by omega) dX11_held_68 ?_
            refine lv_i2l (v := (tl ((8 * i) + c)).toInt64) hx hb dX11_held_69 rfl ?_
            refine lv_lmul hx hb dX11_held_70 ?_
            refine lv_iload_n hx hb dX11_held_71 rfl (lv_at hl 2 rfl) ?_
            refine lv_i2l (v := t1.toInt64) hx hb dX11_held_72 rfl ?_
            refine lv_aload_n hx hb dX11_held_73 rfl (lv_at hl 0 rfl) ?_
            refine lv_iload hx hb dX11_held_74 (lv_at hl 6 rfl) ?_
            refine kc_v (As := [.int (nI i)]) (rest := [.long t1.toInt64, .long (10 * ((tl ((8 * i) + c)).toInt64))]) S0 (c_X11_sumOf l D tc s.heap.size ad ct (f := i) (N := N) (nt := nt) (no := no) (nf := nf) h0 h215 (by omega) (by omega)) (cwV 1 hts gX11_held_X11_sumOf rfl rfl rfl (by decide +kernel) ⟨Nat.le_of_ble_eq_true rfl, Nat.le_of_ble_eq_true rfl⟩) hK hw h0 rfl rfl hl.1 rfl (Nat.le_of_ble_eq_true rfl) dX11_held_76 ⟨Nat.le_of_ble_eq_true rfl, (Nat.le_of_ble_eq_true rfl)⟩ ?_
            refine lv_lmul hx hb dX11_held_79 ?_
            refine W.lcmp hx hb dX11_held_80 ?_
            refine kl_ne (tgt := 108) hx hb dX11_held_81 (by decide) (fun c_7 => ?_) (fun c_7 => ?_)
            · refine lv_iinc (v := (nI (i + 1))) (lv' := [(6, .int (nI (i + 1))), (0, .ref (ad 200)), (1, .int (nI c)), (2, .int t1), (3, .int 2), (4, .int (nI a1)), (5, .int (nI a2))]) hx hb dX11_held_108 hl (k := 6) rfl (nI_1 i) (by decide) rfl (fun ls hl => ?_)
              refine lv_goto (tgt := 45) hx hb dX11_held_111 (by decide) ?_
              exact ih45 (i + 1) a1 a2 ls (by omega) (by omega) (by rw [hp1]; exact kcn_f (fun q => c_7 (of_decide_eq_true q))) (by rw [hp2]; exact kcn_f (kGc_3 c_7)) (lv_sub hl [1, 2, 3, 4, 5, 6, 0] rfl)
            · refine lv_iinc (v := (nI (a1 + 1))) (lv' := [(4, .int (nI (a1 + 1))), (0, .ref (ad 200)), (1, .int (nI c)), (2, .int t1), (3, .int 2), (5, .int (nI a2)), (6, .int (nI i))]) hx hb dX11_held_84 hl (k := 4) rfl (nI_1 a1) (by decide) rfl (fun ls hl => ?_)
              refine lv_iload hx hb dX11_held_87 (lv_at hl 5 rfl) ?_
              refine lv_aload_n hx hb dX11_held_89 rfl (lv_at hl 1 rfl) ?_
              refine kg_get (v := .ref (ad 216)) (C := RX11) (T := TX11) (N := 27) hx hb hts hinX11 hown hK hw h0 rfl 26 (by decide) (hts (.fieldLink RX11 66 "BetMakerModel" "cameThen" "[I") (by decide +kernel)) (fun _ h9 => h9) rfl dX11_held_90 ?_
              refine lv_iload hx hb dX11_held_93 (lv_at hl 6 rfl) ?_
              refine kg_iald hx hb hK hw h216 i rfl (by omega) (by omega) dX11_held_95 ?_
              refine lv_iload_n hx hb dX11_held_96 rfl (lv_at hl 2 rfl) ?_
              refine lv_icmp_ne (tgt := 104) hx hb dX11_held_97 (by decide) (fun c_8 => ?_) (fun c_8 => ?_)
              · refine lv_iconst (v := 0) hx hb dX11_held_104 (by decide) ?_
                refine lv_iadd hx hb dX11_held_105 ?_
                refine lv_istore (lv' := [(5, .int ((nI a2) + 0)), (4, .int (nI (a1 + 1))), (0, .ref (ad 200)), (1, .int (nI c)), (2, .int t1), (3, .int 2), (6, .int (nI i))]) hx hb dX11_held_106 hl (by decide) rfl (fun ls hl => ?_)
                refine lv_iinc (v := (nI (i + 1))) (lv' := [(6, .int (nI (i + 1))), (5, .int ((nI a2) + 0)), (4, .int (nI (a1 + 1))), (0, .ref (ad 200)), (1, .int (nI c)), (2, .int t1), (3, .int 2)]) hx hb dX11_held_108 hl (k := 6) rfl (nI_1 i) (by decide) rfl (fun ls hl => ?_)
                refine lv_goto (tgt := 45) hx hb dX11_held_111 (by decide) ?_
                exact ih45 (i + 1) (a1 + 1) (a2 + 0) ls (by omega) (by omega) (by rw [hp1]; exact kcn_t (decide_eq_true c_7)) (by rw [hp2]; exact kcn_f (kGc_2 c_8)) (by have hl9 := lv_sub hl (l' := [(0, .ref (ad 200)), (1, .int (nI c)), (2, .int t1), (3, .int 2), (4, .int (nI (a1 + 1))), (5, .int ((nI a2) + 0)), (6, .int (nI (i + 1)))]) [3, 4, 5, 6, 2, 1, 0] rfl; have _ := c_8; rw [Int32.add_zero] at hl9; exact hl9)
              · refine lv_iconst (v := 1) hx hb dX11_held_100 (by decide) ?_
                refine lv_goto (tgt := 105) hx hb dX11_held_101 (by decide) ?_
                refine lv_iadd hx hb dX11_held_105 ?_
                refine lv_istore (lv' := [(5, .int ((nI a2) + 1)), (4, .int (nI (a1 + 1))), (0, .ref (ad 200)), (1, .int (nI c)), (2, .int t1), (3, .int 2), (6, .int (nI i))]) hx hb dX11_held_106 hl (by decide) rfl (fun ls hl => ?_)
                refine lv_iinc (v := (nI (i + 1))) (lv' := [(6, .int (nI (i + 1))), (5, .int ((nI a2) + 1)), (4, .int (nI (a1 + 1))), (0, .ref (ad 200)), (1, .int (nI c)), (2, .int t1), (3, .int 2)]) hx hb dX11_held_108 hl (k := 6) rfl (nI_1 i) (by decide) rfl (fun ls hl => ?_)
                refine lv_goto (tgt := 45) hx hb dX11_held_111 (by decide) ?_
                exact ih45 (i + 1) (a1 + 1) (a2 + 1) ls (by omega) (by omega) (by rw [hp1]; exact kcn_t (decide_eq_true c_7)) (by rw [hp2]; exact kcn_t (kGc_1 c_7 c_8)) (by have hl9 := lv_sub hl (l' := [(0, .ref (ad 200)), (1, .int (nI c)), (2, .int t1), (3, .int 2), (4, .int (nI (a1 + 1))), (5, .int ((nI a2) + 1)), (6, .int (nI (i + 1)))]) [3, 4, 5, 6, 2, 1, 0] rfl; have _ := c_8; rw [nI_1] at hl9; exact hl9)
      · exact absurd kW c_3
set_option maxHeartbeats 4000000 in
set_option maxRecDepth 100000 in
theorem c_X11_held_2 (l : Launch) (D : va_G) (tc : Nat → ClassId) (sz : Nat) (ad : Nat → Nat) (ct : Nat → Option va_E) {N nt no nf : Nat} {ft tr b cm da bs : Int32} {g : Int64}              {tl : Nat → Int32} {ca : Nat → Int32} {c : Nat} {t1 : Int32} (h0 : ct 200 = some (.inr (11, [.int ft, .int tr, .int (nI N), .int b, .ref (ad 201), .long g, .int cm, .int da, .int (nI nt), .ref (ad 202), .ref (ad 203), .ref (ad 204), .ref (ad 205), .ref (ad 206), .ref (ad 207), .ref (ad 208), .ref (ad 209), .int (nI no), .ref (ad 210), .ref (ad 211), .ref (ad 212), .ref (ad 213), .ref (ad 214), .int bs, .int (nI nf), .ref (ad 215), .ref (ad 216)]))) (h215 : ct 215 = some (eI tc 320 tl)) (h216 : ct 216 = some (eI tc 40 ca)) (hc : c < N) (hN : N ≤ 8) (hnf : nf ≤ 40) (hpt : 0 ≤ t1.toInt64 ∧ t1.toInt64 ≤ 10) (hbig : kcn (kGv N tl c t1.toInt64) nf ≤ 15) : Met l yX11_held wsX11_held ({ frames := 1, cells := 0, slots := 0, locals := 29 }) (va_Pc [.ref (ad 200), .int (nI c), .int t1, .int 2] (kw_B D tc sz ad ct)) (k2_QcV (.long (kHs t1.toInt64 (kcn (kGc N tl ca c t1.toInt64) nf) (kcn (kGv N tl c t1.toInt64) nf) (kcn (kGv N tl c t1.toInt64) nf + 1)))) 0 0 (fun _ => False) := by
  refine Met.ofW (cc := cX11_held) (maxL := 11) (ret := (some .long)) (by decide) rfl ?_
  intro pg en s m args below meth cod s₁ B hml hv
  obtain ⟨rfl, hsz, hP0, hK⟩ := hv
  have hx := B.exec
  have hb := B.bytes
  have hr := B.returns
  have hts := atoms_spec (ws := wsX11_held) B.pre
  have hown : s.vm.findClass RX11 = some m.cls := findClass_of_methodNamed B.named
  have hlocks := B.notSynchronized
  subst hsz
  have hw := kw_H.start hP0
  generalize kw_A ad ct s.heap.size = A at hw
  have hinX11 : ∀ w ∈ wsX110, w ∈ wsX11_held := by decide +kernel
  have hl := lv_entry ([.ref (ad 200), .int (nI c), .int t1, .int 2]) (n := 11) (Nat.le_of_ble_eq_true rfl)
  rw [lg_entry_eq]
  generalize (lg_sl ([.ref (ad 200), .int (nI c), .int t1, .int 2]) ++ List.replicate (11 - (lg_sl ([.ref (ad 200), .int (nI c), .int t1, .int 2])).length) Slot.unset).toArray = ls at hl ⊢
  have hl : lv_has ls 11 [(0, .ref (ad 200)), (1, .int (nI c)), (2, .int t1), (3, .int 2)] := hl
  have S0 : CallFix pg m cod cX11_held 11 s _ wsX11_held RX11 := ⟨hx, hb, hml, hown, hts⟩
  have kC : 0 ≤ nI c ∧ nI c < nI N := ⟨nI_pos' (by omega), nI_lt hc (by omega)⟩
  have kW : 0 ≤ (2 : Int32).toInt64 ∧ (2 : Int32).toInt64 ≤ 2 := by decide
  refine lv_aload_n hx hb dX11_held_0 rfl (lv_at hl 0 rfl) ?_
  refine lv_iload_n hx hb dX11_held_1 rfl (lv_at hl 1 rfl) ?_
  refine kc_v (As := [.int (nI c)]) (rest := []) S0 (c_X11_isCase l D tc s.heap.size ad ct (N := N) (nt := nt) (no := no) (nf := nf) h0) (cwV 1 hts gX11_held_X11_isCase rfl rfl rfl (by decide +kernel) ⟨Nat.le_of_ble_eq_true rfl, Nat.le_of_ble_eq_true rfl⟩) hK hw h0 rfl rfl hl.1 rfl (Nat.le_of_ble_eq_true rfl) dX11_held_2 ⟨Nat.le_of_ble_eq_true rfl, (Nat.le_of_ble_eq_true rfl)⟩ ?_
  refine kb_ifeq (tgt := 32) hx hb dX11_held_5 (by decide) (fun c_1 => ?_) (fun c_1 => ?_)
  · exact absurd kC c_1
  · refine lv_iload_n hx hb dX11_held_8 rfl (lv_at hl 2 rfl) ?_
    refine lv_i2l (v := t1.toInt64) hx hb dX11_held_9 rfl ?_
    refine lv_lconst (v := 0) hx hb dX11_held_10 (by decide) ?_
    refine lv_ldc2 (v := 10) hx hb hown (hts (.constantLong RX11 198 (10)) (by decide +kernel)) dX11_held_11 ?_
    refine kc_s (As := [.long t1.toInt64, .long 0, .long 10]) (rest := []) S0 (c_X11_within l D tc s.heap.size ad ct ) (va_cwS 3 hts gX11_held_X11_within rfl rfl rfl (by decide +kernel) ⟨Nat.le_of_ble_eq_true rfl, Nat.le_of_ble_eq_true rfl⟩) hK hw rfl hl.1 rfl (Nat.le_of_ble_eq_true rfl) dX11_held_14 ⟨Nat.le_of_ble_eq_true rfl, (Nat.le_of_ble_eq_true rfl)⟩ ?_
    refine kb_ifeq (tgt := 32) hx hb dX11_held_17 (by decide) (fun c_2 => ?_) (fun c_2 => ?_)
    · exact absurd hpt c_2
    · refine lv_iload_n hx hb dX11_held_20 rfl (lv_at hl 3 rfl) ?_
      refine lv_i2l (v := (2 : Int32).toInt64) hx hb dX11_held_21 rfl ?_
      refine lv_lconst (v := 0) hx hb dX11_held_22 (by decide) ?_
      refine lv_ldc2 (v := 2) hx hb hown (hts (.constantLong RX11 76 (2)) (by decide +kernel)) dX11_held_23 ?_
      refine kc_s (As := [.long ((2 : Int32).toInt64), .long 0, .long 2]) (rest := []) S0 (c_X11_within l D tc s.heap.size ad ct ) (va_cwS 3 hts gX11_held_X11_within rfl rfl rfl (by decide +kernel) ⟨Nat.le_of_ble_eq_true rfl, Nat.le_of_ble_eq_true rfl⟩) hK hw rfl hl.1 rfl (Nat.le_of_ble_eq_true rfl) dX11_held_26 ⟨Nat.le_of_ble_eq_true rfl, (Nat.le_of_ble_eq_true rfl)⟩ ?_
      refine kb_ifne (tgt := 36) hx hb dX11_held_29 (by decide) (fun c_3 => ?_) (fun c_3 => ?_)
      · refine lv_iconst (v := 0) hx hb dX11_held_36 (by decide) ?_
        refine lv_istore (lv' := [(4, .int 0), (0, .ref (ad 200)), (1, .int (nI c)), (2, .int t1), (3, .int 2)]) hx hb dX11_held_37 hl (by decide) rfl (fun ls hl => ?_)
        refine lv_iconst (v := 0) hx hb dX11_held_39 (by decide) ?_
        refine lv_istore (lv' := [(5, .int 0), (4, .int 0), (0, .ref (ad 200)), (1, .int (nI c)), (2, .int t1), (3, .int 2)]) hx hb dX11_held_40 hl (by decide) rfl (fun ls hl => ?_)
        refine lv_iconst (v := 0) hx hb dX11_held_42 (by decide) ?_
        refine lv_istore (lv' := [(6, .int 0), (5, .int 0), (4, .int 0), (0, .ref (ad 200)), (1, .int (nI c)), (2, .int t1), (3, .int 2)]) hx hb dX11_held_43 hl (by decide) rfl (fun ls hl => ?_)
        suffices lp45 : ∀ (nfu : Nat) (i a1 a2 : Nat) (ls : Array Slot), nf - i < nfu → i ≤ nf → a1 = kcn (kGv N tl c t1.toInt64) i → a2 = kcn (kGc N tl ca c t1.toInt64) i → lv_has ls 11 [(0, .ref (ad 200)), (1, .int (nI c)), (2, .int t1), (3, .int 2), (4, .int (nI a1)), (5, .int (nI a2)), (6, .int (nI i))] → W pg l en (headSpec wsX11_held ({ frames := 1, cells := 0, slots := 0, locals := 29 })).room s m (([.ref (ad 200), .int (nI c), .int t1, .int 2] : List Value).toArray) below meth cod s.heap [] 0 0 (MQ below (k2_QcV (.long (kHs t1.toInt64 (kcn (kGc N tl ca c t1.toInt64) nf) (kcn (kGv N tl c t1.toInt64) nf) (kcn (kGv N tl c t1.toInt64) nf + 1)))) (([.ref (ad 200), .int (nI c), .int t1, .int 2] : List Value).toArray) s 0 0 (fun _ => False)) (F0 m 45 ls []) by
          exact lp45 (nf - 0 + 1) 0 0 0 ls (by omega) (by omega) (by rfl) (by rfl) (by have hl9 := lv_sub hl (l' := [(0, .ref (ad 200)), (1, .int (nI c)), (2, .int t1), (3, .int 2), (4, .int 0), (5, .int 0), (6, .int 0)]) [3, 4, 5, 6, 2, 1, 0] rfl; exact hl9)
        intro n45
        induction n45 with
        | zero => intro i a1 a2 ls hfu; exact absurd hfu (Nat.not_lt_zero _)
        | succ n45 ih45 =>
          intro i a1 a2 ls hfu45 hi hp1 hp2 hl
          refine lv_iload hx hb dX11_held_45 (lv_at hl 6 rfl) ?_
          refine lv_aload_n hx hb dX11_held_47 rfl (lv_at hl 0 rfl) ?_
          refine kg_get (v := .int (nI nf)) (C := RX11) (T := TX11) (N := 27) hx hb hts hinX11 hown hK hw h0 rfl 24 (by decide) (hts (.fieldLink RX11 99 "BetMakerModel" "forecasts" "I") (by decide +kernel)) (fun _ h9 => h9) rfl dX11_held_48 ?_
          refine kn_ge i nf rfl rfl (by omega) (by omega) (tgt := 114) hx hb dX11_held_51 (by decide) (fun c_4 => ?_) (fun c_4 => ?_)
          · have ei : i = nf := by omega
            have hle := kcn_le (kGv N tl c t1.toInt64) i
            have hle2 := kcn_le (kGc N tl ca c t1.toInt64) i
            rw [← ei] at hbig
            refine lv_iload_n hx hb dX11_held_114 rfl (lv_at hl 3 rfl) ?_
            refine lv_iconst (v := 2) hx hb dX11_held_115 (by decide) ?_
            refine kn_ge 2 2 rfl rfl (by omega) (by omega) (tgt := 133) hx hb dX11_held_116 (by decide) (fun c_5 => ?_) (fun c_5 => ?_)
            · refine lv_iload hx hb dX11_held_133 (lv_at hl 4 rfl) ?_
              refine lv_bipush (v := 15) hx hb dX11_held_135 (by decide) ?_
              refine kn_le a1 15 rfl rfl (by omega) (by omega) (tgt := 144) hx hb dX11_held_137 (by decide) (fun c_6 => ?_) (fun c_6 => ?_)
              · refine lv_lconst (v := 0) hx hb dX11_held_144 (by decide) ?_
                refine lv_lstore (lv' := [(6, .long 0), (0, .ref (ad 200)), (1, .int (nI c)), (2, .int t1), (3, .int 2), (4, .int (nI a1)), (5, .int (nI a2))]) hx hb dX11_held_145 hl (by decide) rfl (fun ls hl => ?_)
                refine lv_lconst (v := 1) hx hb dX11_held_147 (by decide) ?_
                refine lv_lstore (lv' := [(8, .long 1), (6, .long 0), (0, .ref (ad 200)), (1, .int (nI c)), (2, .int t1), (3, .int 2), (4, .int (nI a1)), (5, .int (nI a2))]) hx hb dX11_held_148 hl (by decide) rfl (fun ls hl => ?_)
                refine lv_iconst (v := 0) hx hb dX11_held_150 (by decide) ?_
                refine lv_istore (lv' := [(10, .int 0), (8, .long 1), (6, .long 0), (0, .ref (ad 200)), (1, .int (nI c)), (2, .int t1), (3, .int 2), (4, .int (nI a1)), (5, .int (nI a2))]) hx hb dX11_held_151 hl (by decide) rfl (fun ls hl => ?_)
                suffices lp153 : ∀ (nfu : Nat) (j : Nat) (s1 s2 : Int64) (ls : Array Slot), a1 + 1 - j < nfu → j ≤ a1 + 1 → s1 = kHs t1.toInt64 a2 a1 j → s2 = kWs a1 j → lv_has ls 11 [(0, .ref (ad 200)), (1, .int (nI c)), (2, .int t1), (3, .int 2), (4, .int (nI a1)), (5, .int (nI a2)), (6, .long s1), (8, .long s2), (10, .int (nI j))] → W pg l en (headSpec wsX11_held ({ frames := 1, cells := 0, slots := 0, locals := 29 })).room s m (([.ref (ad 200), .int (nI c), .int t1, .int 2] : List Value).toArray) below meth cod s.heap [] 0 0 (MQ below (k2_QcV (.long (kHs t1.toInt64 (kcn (kGc N tl ca c t1.toInt64) nf) (kcn (kGv N tl c t1.toInt64) nf) (kcn (kGv N tl c t1.toInt64) nf + 1)))) (([.ref (ad 200), .int (nI c), .int t1, .int 2] : List Value).toArray) s 0 0 (fun _ => False)) (F0 m 153 ls []) by
                  exact lp153 (a1 + 1 - 0 + 1) 0 0 1 ls (by omega) (by omega) (by rfl) (by rfl) (by have hl9 := lv_sub hl (l' := [(0, .ref (ad 200)), (1, .int (nI c)), (2, .int t1), (3, .int 2), (4, .int (nI a1)), (5, .int (nI a2)), (6, .long 0), (8, .long 1), (10, .int 0)]) [3, 4, 5, 6, 7, 8, 2, 1, 0] rfl; exact hl9)
                intro n153
                induction n153 with
                | zero => intro j s1 s2 ls hfu; exact absurd hfu (Nat.not_lt_zero _)
                | succ n153 ih153 =>
                  intro j s1 s2 ls hfu153 hj hs1 hs2 hl
                  refine lv_iload hx hb dX11_held_153 (lv_at hl 8 rfl) ?_
                  refine lv_iload hx hb dX11_held_155 (lv_at hl 4 rfl) ?_
                  refine kn_gt j a1 rfl rfl (by omega) (by omega) (tgt := 224) hx hb dX11_held_157 (by decide) (fun c_7 => ?_) (fun c_7 => ?_)
                  · refine lv_lload hx hb dX11_held_224 (lv_at hl 6 rfl) ?_
                    refine W.eq (congrArg (fun z => F0 m 226 ls [.long z]) (show s1 = (kHs t1.toInt64 (kcn (kGc N tl ca c t1.toInt64) nf) (kcn (kGv N tl c t1.toInt64) nf) (kcn (kGv N tl c t1.toInt64) nf + 1)) from by rw [hs1, show j = a1 + 1 by omega, hp1, hp2, ei])) ?_
                    exact W.lret hx hb hr (fun t ht _ => ⟨rfl, ht⟩) (fun _ h => absurd h List.not_mem_nil) dX11_held_226
                  · refine lv_lload hx hb dX11_held_160 (lv_at hl 6 rfl) ?_
                    refine lv_iload hx hb dX11_held_162 (lv_at hl 8 rfl) ?_
                    refine lv_iload hx hb dX11_held_164 (lv_at hl 5 rfl) ?_
                    refine kn_lt j a2 rfl rfl (by omega) (by omega) (tgt := 197) hx hb dX11_held_166 (by decide) (fun c_8 => ?_) (fun c_8 => ?_)
                    · refine lv_lconst (v := 0) hx hb dX11_held_197 (by decide) ?_
                      refine lv_ladd hx hb dX11_held_198 ?_
                      refine lv_lstore (lv' := [(6, .long (s1 + 0)), (0, .ref (ad 200)), (1, .int (nI c)), (2, .int t1), (3, .int 2), (4, .int (nI a1)), (5, .int (nI a2)), (8, .long s2), (10, .int (nI j))]) hx hb dX11_held_199 hl (by decide) rfl (fun ls hl => ?_)
                      refine lv_lload hx hb dX11_held_201 (lv_at hl 7 rfl) ?_
                      refine lv_iload hx hb dX11_held_203 (lv_at hl 5 rfl) ?_
                      refine lv_iload hx hb dX11_held_205 (lv_at hl 8 rfl) ?_
                      refine lv_isub hx hb dX11_held_207 ?_
                      refine lv_i2l (v := ((nI a1) - (nI j)).toInt64) hx hb dX11_held_208 rfl ?_
                      refine lv_lmul hx hb dX11_held_209 ?_
                      refine lv_iload hx hb dX11_held_210 (lv_at hl 8 rfl) ?_
                      refine lv_iconst (v := 1) hx hb dX11_held_212 (by decide) ?_
                      refine lv_iadd hx hb dX11_held_213 ?_
                      refine lv_i2l (v := ((nI j) + 1).toInt64) hx hb dX11_held_214 rfl ?_
                      refine lv_ldiv hx hb dX11_held_215 (kj_ne j (by omega)) ?_
                      refine lv_lstore (lv' := [(8, .long ((s2 * (((nI a1) - (nI j)).toInt64)) / (((nI j) + 1).toInt64))), (6, .long (s1 + 0)), (0, .ref (ad 200)), (1, .int (nI c)), (2, .int t1), (3, .int 2), (4, .int (nI a1)), (5, .int (nI a2)), (10, .int (nI j))]) hx hb dX11_held_216 hl (by decide) rfl (fun ls hl => ?_)
                      refine lv_iinc (v := (nI (j + 1))) (lv' := [(10, .int (nI (j + 1))), (8, .long ((s2 * (((nI a1) - (nI j)).toInt64)) / (((nI j) + 1).toInt64))), (6, .long (s1 + 0)), (0, .ref (ad 200)), (1, .int (nI c)), (2, .int t1), (3, .int 2), (4, .int (nI a1)), (5, .int (nI a2))]) hx hb dX11_held_218 hl (k := 8) rfl (nI_1 j) (by decide) rfl (fun ls hl => ?_)
                      refine lv_goto (tgt := 153) hx hb dX11_held_221 (by decide) ?_
                      exact ih153 (j + 1) (s1 + 0) ((s2 * (((nI a1) - (nI j)).toInt64)) / (((nI j) + 1).toInt64)) ls (by omega) (by omega) (by rw [hs1, kHs, if_pos c_8]) (by rw [hs2]; rfl) (lv_sub hl [3, 4, 5, 6, 7, 8, 2, 1, 0] rfl)
                    · refine lv_lload hx hb dX11_held_169 (lv_at hl 7 rfl) ?_
                      refine lv_iload_n hx hb dX11_held_171 rfl (lv_at hl 2 rfl) ?_
                      refine lv_i2l (v := t1.toInt64) hx hb dX11_held_172 rfl ?_
                      refine lv_iload hx hb dX11_held_173 (lv_at hl 8 rfl) ?_
                      refine kc_s (As := [.long t1.toInt64, .int (nI j)]) (rest := [.long s2, .long s1]) S0 (c_X11_power l D tc s.heap.size ad ct (n0 := j) (by omega)) (va_cwS 2 hts gX11_held_X11_power rfl rfl rfl (by decide +kernel) ⟨Nat.le_of_ble_eq_true rfl, Nat.le_of_ble_eq_true rfl⟩) hK hw rfl hl.1 rfl (Nat.le_of_ble_eq_true rfl) dX11_held_175 ⟨Nat.le_of_ble_eq_true rfl, (Nat.le_of_ble_eq_true rfl)⟩ ?_
                      refine lv_lmul hx hb dX11_held_178 ?_
                      refine lv_ldc2 (v := 10) hx hb hown (hts (.constantLong RX11 198 (10)) (by decide +kernel)) dX11_held_179 ?_
                      refine lv_iload_n hx hb dX11_held_182 rfl (lv_at hl 2 rfl) ?_
                      refine lv_i2l (v := t1.toInt64) hx hb dX11_held_183 rfl ?_
                      refine lv_lsub hx hb dX11_held_184 ?_
                      refine lv_iload hx hb dX11_held_185 (lv_at hl 4 rfl) ?_
                      refine lv_iload hx hb dX11_held_187 (lv_at hl 8 rfl) ?_
                      refine lv_isub hx hb dX11_held_189 ?_
                      refine W.eq (congrArg (fun z => F0 m 190 ls (.int z :: .long (10 - t1.toInt64) :: .long (s2 * (kPw t1.toInt64 j)) :: .long s1 :: [])) (show (nI a1) - (nI j) = nI (a1 - j) from by exact pk_sub (by omega))) ?_
                      refine kc_s (As := [.long (10 - t1.toInt64), .int (nI (a1 - j))]) (rest := [.long (s2 * (kPw t1.toInt64 j)), .long s1]) S0 (c_X11_power l D tc s.heap.size ad ct (n0 := (a1 - j)) (by omega)) (va_cwS 2 hts gX11_held_X11_power rfl rfl rfl (by decide +kernel) ⟨Nat.le_of_ble_eq_true rfl, Nat.le_of_ble_eq_true rfl⟩) hK hw rfl hl.1 rfl (Nat.le_of_ble_eq_true rfl) dX11_held_190 ⟨Nat.le_of_ble_eq_true rfl, (Nat.le_of_ble_eq_true rfl)⟩ ?_
                      refine lv_lmul hx hb dX11_held_193 ?_
                      refine lv_goto (tgt := 198) hx hb dX11_held_194 (by decide) ?_
                      refine lv_ladd hx hb dX11_held_198 ?_
                      refine lv_lstore (lv' := [(6, .long (s1 + ((s2 * (kPw t1.toInt64 j)) * (kPw (10 - t1.toInt64) (a1 - j))))), (0, .ref (ad 200)), (1, .int (nI c)), (2, .int t1), (3, .int 2), (4, .int (nI a1)), (5, .int (nI a2)), (8, .long s2), (10, .int (nI j))]) hx hb dX11_held_199 hl (by decide) rfl (fun ls hl => ?_)
                      refine lv_lload hx hb dX11_held_201 (lv_at hl 7 rfl) ?_
                      refine lv_iload hx hb dX11_held_203 (lv_at hl 5 rfl) ?_
                      refine lv_iload hx hb dX11_held_205 (lv_at hl 8 rfl) ?_
                      refine lv_isub hx hb dX11_held_207 ?_
                      refine lv_i2l (v := ((nI a1) - (nI j)).toInt64) hx hb dX11_held_208 rfl ?_
                      refine lv_lmul hx hb dX11_held_209 ?_
                      refine lv_iload hx hb dX11_held_210 (lv_at hl 8 rfl) ?_
                      refine lv_iconst (v := 1) hx hb dX11_held_212 (by decide) ?_
                      refine lv_iadd hx hb dX11_held_213 ?_
                      refine lv_i2l (v := ((nI j) + 1).toInt64) hx hb dX11_held_214 rfl ?_
                      refine lv_ldiv hx hb dX11_held_215 (kj_ne j (by omega)) ?_
                      refine lv_lstore (lv' := [(8, .long ((s2 * (((nI a1) - (nI j)).toInt64)) / (((nI j) + 1).toInt64))), (6, .long (s1 + ((s2 * (kPw t1.toInt64 j)) * (kPw (10 - t1.toInt64) (a1 - j))))), (0, .ref (ad 200)), (1, .int (nI c)), (2, .int t1), (3, .int 2), (4, .int (nI a1)), (5, .int (nI a2)), (10, .int (nI j))]) hx hb dX11_held_216 hl (by decide) rfl (fun ls hl => ?_)
                      refine lv_iinc (v := (nI (j + 1))) (lv' := [(10, .int (nI (j + 1))), (8, .long ((s2 * (((nI a1) - (nI j)).toInt64)) / (((nI j) + 1).toInt64))), (6, .long (s1 + ((s2 * (kPw t1.toInt64 j)) * (kPw (10 - t1.toInt64) (a1 - j))))), (0, .ref (ad 200)), (1, .int (nI c)), (2, .int t1), (3, .int 2), (4, .int (nI a1)), (5, .int (nI a2))]) hx hb dX11_held_218 hl (k := 8) rfl (nI_1 j) (by decide) rfl (fun ls hl => ?_)
                      refine lv_goto (tgt := 153) hx hb dX11_held_221 (by decide) ?_
                      exact ih153 (j + 1) (s1 + ((s2 * (kPw t1.toInt64 j)) * (kPw (10 - t1.toInt64) (a1 - j)))) ((s2 * (((nI a1) - (nI j)).toInt64)) / (((nI j) + 1).toInt64)) ls (by omega) (by omega) (by rw [hs1, hs2, kHs, if_neg (Nat.not_lt.mpr c_8)]) (by rw [hs2]; rfl) (lv_sub hl [3, 4, 5, 6, 7, 8, 2, 1, 0] rfl)
              · exfalso; omega
            · exfalso; omega
          · refine lv_ldc2 (v := 10) hx hb hown (hts (.constantLong RX11 198 (10)) (by decide +kernel)) dX11_held_54 ?_
            refine lv_aload_n hx hb dX11_held_57 rfl (lv_at hl 0 rfl) ?_
            refine kg_get (v := .ref (ad 215)) (C := RX11) (T := TX11) (N := 27) hx hb hts hinX11 hown hK hw h0 rfl 25 (by decide) (hts (.fieldLink RX11 63 "BetMakerModel" "told" "[I") (by decide +kernel)) (fun _ h9 => h9) rfl dX11_held_58 ?_
            refine lv_bipush (v := 8) hx hb dX11_held_61 (by decide) ?_
            refine lv_iload hx hb dX11_held_63 (lv_at hl 6 rfl) ?_
            refine lv_imul hx hb dX11_held_65 ?_
            refine lv_iload_n hx hb dX11_held_66 rfl (lv_at hl 1 rfl) ?_
            refine lv_iadd hx hb dX11_held_67 ?_
            refine kg_iald hx hb hK hw h215 ((8 * i) + c) (by simp only [kn_lit, nI_add, pk_mul, nI_1]) (by omega) (by omega) dX11_held_68 ?_
            refine lv_i2l (v := (tl ((8 * i) + c)).toInt64) hx hb dX11_held_69 rfl ?_
            refine lv_lmul hx hb dX11_held_70 ?_
            refine lv_iload_n hx hb dX11_held_71 rfl (lv_at hl 2 rfl) ?_
            refine lv_i2l (v := t1.toInt64) hx hb dX11_held_72 rfl ?_
            refine lv_aload_n hx hb dX11_held_73 rfl (lv_at hl 0 rfl) ?_
            refine lv_iload hx hb dX11_held_74 (lv_at hl 6 rfl) ?_
            refine kc_v (As := [.int (nI i)]) (rest := [.long t1.toInt64, .long (10 * ((tl ((8 * i) + c)).toInt64))]) S0 (c_X11_sumOf l D tc s.heap.size ad ct (f := i) (N := N) (nt := nt) (no := no) (nf := nf) h0 h215 (by omega) (by omega)) (cwV 1 hts gX11_held_X11_sumOf rfl rfl rfl (by decide +kernel) ⟨Nat.le_of_ble_eq_true rfl, Nat.le_of_ble_eq_true rfl⟩) hK hw h0 rfl rfl hl.1 rfl (Nat.le_of_ble_eq_true rfl) dX11_held_76 ⟨Nat.le_of_ble_eq_true rfl, (Nat.le_of_ble_eq_true rfl)⟩ ?_
            refine lv_lmul hx hb dX11_held_79 ?_
            refine W.lcmp hx hb dX11_held_80 ?_
            refine kl_ne (tgt := 108) hx hb dX11_held_81 (by decide) (fun c_9 => ?_) (fun c_9 => ?_)
            · refine lv_iinc (v := (nI (i + 1))) (lv' := [(6, .int (nI (i + 1))), (0, .ref (ad 200)), (1, .int (nI c)), (2, .int t1), (3, .int 2), (4, .int (nI a1)), (5, .int (nI a2))]) hx hb dX11_held_108 hl (k := 6) rfl (nI_1 i) (by decide) rfl (fun ls hl => ?_)
              refine lv_goto (tgt := 45) hx hb dX11_held_111 (by decide) ?_
              exact ih45 (i + 1) a1 a2 ls (by omega) (by omega) (by rw [hp1]; exact kcn_f (fun q => c_9 (of_decide_eq_true q))) (by rw [hp2]; exact kcn_f (kGc_3 c_9)) (lv_sub hl [1, 2, 3, 4, 5, 6, 0] rfl)
            · refine lv_iinc (v := (nI (a1 + 1))) (lv' := [(4, .int (nI (a1 + 1))), (0, .ref (ad 200)), (1, .int (nI c)), (2, .int t1), (3, .int 2), (5, .int (nI a2)), (6, .int (nI i))]) hx hb dX11_held_84 hl (k := 4) rfl (nI_1 a1) (by decide) rfl (fun ls hl => ?_)
              refine lv_iload hx hb dX11_held_87 (lv_at hl 5 rfl) ?_
              refine lv_aload_n hx hb dX11_held_89 rfl (lv_at hl 1 rfl) ?_
              refine kg_get (v := .ref (ad 216)) (C := RX11) (T := TX11) (N := 27) hx hb hts hinX11 hown hK hw h0 rfl 26 (by decide) (hts (.fieldLink RX11 66 "BetMakerModel" "cameThen" "[I") (by decide +kernel)) (fun _ h9 => h9) rfl dX11_held_90 ?_
              refine lv_iload hx hb dX11_held_93 (lv_at hl 6 rfl) ?_
              refine kg_iald hx hb hK hw h216 i rfl (by omega) (by omega) dX11_held_95 ?_
              refine lv_iload_n hx hb dX11_held_96 rfl (lv_at hl 2 rfl) ?_
              refine lv_icmp_ne (tgt := 104) hx hb dX11_held_97 (by decide) (fun c_10 => ?_) (fun c_10 => ?_)
              · refine lv_iconst (v := 0) hx hb dX11_held_104 (by decide) ?_
                refine lv_iadd hx hb dX11_held_105 ?_
                refine lv_istore (lv' := [(5, .int ((nI a2) + 0)), (4, .int (nI (a1 + 1))), (0, .ref (ad 200)), (1, .int (nI c)), (2, .int t1), (3, .int 2), (6, .int (nI i))]) hx hb dX11_held_106 hl (by decide) rfl (fun ls hl => ?_)
                refine lv_iinc (v := (nI (i + 1))) (lv' := [(6, .int (nI (i + 1))), (5, .int ((nI a2) + 0)), (4, .int (nI (a1 + 1))), (0, .ref (ad 200)), (1, .int (nI c)), (2, .int t1), (3, .int 2)]) hx hb dX11_held_108 hl (k := 6) rfl (nI_1 i) (by decide) rfl (fun ls hl => ?_)
                refine lv_goto (tgt := 45) hx hb dX11_held_111 (by decide) ?_
                exact ih45 (i + 1) (a1 + 1) (a2 + 0) ls (by omega) (by omega) (by rw [hp1]; exact kcn_t (decide_eq_true c_9)) (by rw [hp2]; exact kcn_f (kGc_2 c_10)) (by have hl9 := lv_sub hl (l' := [(0, .ref (ad 200)), (1, .int (nI c)), (2, .int t1), (3, .int 2), (4, .int (nI (a1 + 1))), (5, .int ((nI a2) + 0)), (6, .int (nI (i + 1)))]) [3, 4, 5, 6, 2, 1, 0] rfl; have _ := c_10; rw [Int32.add_zero] at hl9; exact hl9)
              · refine lv_iconst (v := 1) hx hb dX11_held_100 (by decide) ?_
                refine lv_goto (tgt := 105) hx hb dX11_held_101 (by decide) ?_
                refine lv_iadd hx hb dX11_held_105 ?_
                refine lv_istore (lv' := [(5, .int ((nI a2) + 1)), (4, .int (nI (a1 + 1))), (0, .ref (ad 200)), (1, .int (nI c)), (2, .int t1), (3, .int 2), (6, .int (nI i))]) hx hb dX11_held_106 hl (by decide) rfl (fun ls hl => ?_)
                refine lv_iinc (v := (nI (i + 1))) (lv' := [(6, .int (nI (i + 1))), (5, .int ((nI a2) + 1)), (4, .int (nI (a1 + 1))), (0, .ref (ad 200)), (1, .int (nI c)), (2, .int t1), (3, .int 2)]) hx hb dX11_held_108 hl (k := 6) rfl (nI_1 i) (by decide) rfl (fun ls hl => ?_)
                refine lv_goto (tgt := 45) hx hb dX11_held_111 (by decide) ?_
                exact ih45 (i + 1) (a1 + 1) (a2 + 1) ls (by omega) (by omega) (by rw [hp1]; exact kcn_t (decide_eq_true c_9)) (by rw [hp2]; exact kcn_t (kGc_1 c_9 c_10)) (by have hl9 := lv_sub hl (l' := [(0, .ref (ad 200)), (1, .int (nI c)), (2, .int t1), (3, .int 2), (4, .int (nI (a1 + 1))), (5, .int ((nI a2) + 1)), (6, .int (nI (i + 1)))]) [3, 4, 5, 6, 2, 1, 0] rfl; have _ := c_10; rw [nI_1] at hl9; exact hl9)
      · exact absurd kW c_3
