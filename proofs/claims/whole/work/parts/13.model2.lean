theorem kwl3 (lo n h : Nat) (q0 : lo ≤ n) (q : n ≤ h) (hh : h < 2 ^ 31) : lN lo ≤ (nI n).toInt64 ∧ (nI n).toInt64 ≤ lN h := by
  rw [nI_l (by omega)]
  exact ⟨(lN_le (by omega) (by omega)).mpr q0, (lN_le (by omega) hh).mpr q⟩
def kBl {α : Type} (f : Nat → α) (a n : Nat) (v : Nat → α) : Nat → α := fun c => if a ≤ c ∧ c < a + n then v (c - a) else f c
theorem kBl_0 {α : Type} (f : Nat → α) (a : Nat) (v : Nat → α) : f = kBl f a 0 v := by
  funext c; rw [kBl, if_neg (by omega)]
theorem kBl_s {α : Type} (f : Nat → α) (a i : Nat) (v : Nat → α) : va_up (kBl f a i v) (a + i) (v i) = kBl f a (i + 1) v := by
  funext c
  by_cases h : c = a + i
  · subst h; rw [va_up_self, kBl, if_pos (by omega), Nat.add_sub_cancel_left]
  · rw [va_up_ne _ _ h, kBl, kBl]
    by_cases q : a ≤ c ∧ c < a + i
    · rw [if_pos q, if_pos (by omega)]
    · rw [if_neg q, if_neg (by omega)]
theorem kBl_at {α : Type} (f : Nat → α) (a i : Nat) (v : Nat → α) : kBl f a i v (a + i) = f (a + i) := by rw [kBl, if_neg (by omega)]
def kAx (f : Nat → Int64) (set x : Int32) (n : Nat) : Nat → Int64 := fun c => if c < n then f c + (x * kbit set c).toInt64 else f c
theorem kAx_0 (f : Nat → Int64) (set x : Int32) : f = kAx f set x 0 := by funext c; rw [kAx, if_neg (by omega)]
theorem kAx_s (f : Nat → Int64) (set x : Int32) (i : Nat) : va_up (kAx f set x i) i (kAx f set x i i + (x * kbit set i).toInt64) = kAx f set x (i + 1) := by
  funext c
  by_cases h : c = i
  · subst h; rw [va_up_self, kAx, kAx, if_neg (by omega), if_pos (by omega)]
  · rw [va_up_ne _ _ h, kAx, kAx]
    by_cases q : c < i
    · rw [if_pos q, if_pos (by omega)]
    · rw [if_neg q, if_neg (by omega)]
def kHx (ho : Nat → Int64) (a : Nat) (set x : Int32) (n : Nat) : Nat → Int64 := kBl ho a n (fun c => ho (a + c) + (x * kbit set c).toInt64)
theorem kHx_s (ho : Nat → Int64) (a : Nat) (set x : Int32) (i : Nat) : va_up (kHx ho a set x i) (a + i) (kHx ho a set x i (a + i) + (x * kbit set i).toInt64) = kHx ho a set x (i + 1) := by
  rw [kHx, kBl_at]; exact kBl_s ho a i _
def kPu (pu : Nat → Int64) (ho : Nat → Int64) (u : Int64) (c n : Nat) : Nat → Int64 := fun t => if t < n then pu t + u * ho (8 * t + c) else pu t
theorem kPu_0 (pu ho : Nat → Int64) (u : Int64) (c : Nat) : pu = kPu pu ho u c 0 := by funext t; rw [kPu, if_neg (by omega)]
theorem kPu_s (pu ho : Nat → Int64) (u : Int64) (c i : Nat) : va_up (kPu pu ho u c i) i (kPu pu ho u c i i + u * kFl ho 0 (8 * i) (8 * i + c)) = kPu pu ho u c (i + 1) := by
  funext t
  by_cases h : t = i
  · subst h; rw [va_up_self, kPu, kPu, if_neg (by omega), if_pos (by omega), kFl, if_neg (by omega)]
  · rw [va_up_ne _ _ h, kPu, kPu]
    by_cases q : t < i
    · rw [if_pos q, if_pos (by omega)]
    · rw [if_neg q, if_neg (by omega)]
def kHd (ho : Nat → Int64) (c : Nat) : Nat → Int64
  | 0 => 0
  | n + 1 => kHd ho c n + (if ho (8 * n + c) ≤ 0 then 0 else 1)
def kMz (v : Nat → Int64) : Nat → Int64
  | 0 => 0
  | n + 1 => if n = 0 ∨ v n < kMz v n then v n else kMz v n
theorem kMz_1 {v : Nat → Int64} {i : Nat} (hi : i < 2 ^ 31) (h : nI i = 0) : v i = kMz v (i + 1) := by
  have : i = 0 := (nI_eq hi (by omega)).mp h
  rw [kMz, if_pos (Or.inl this)]
theorem kMz_2 {v : Nat → Int64} {i : Nat} (h : ¬ kMz v i ≤ v i) : v i = kMz v (i + 1) := by rw [kMz, if_pos (Or.inr (kr_2 h))]
theorem kMz_3 {v : Nat → Int64} {i : Nat} (hi : i < 2 ^ 31) (h : ¬ nI i = 0) (h2 : kMz v i ≤ v i) : kMz v i = kMz v (i + 1) := by
  rw [kMz, if_neg (fun q => q.elim (fun q => h (by rw [q]; rfl)) (fun q => kr_4 h2 q))]
def kWr (g u : Int64) (ho : Nat → Int64) (nt N : Nat) : Int64 := kMz (fun c => g - u * su (fun t => ho (8 * t + c)) nt) N
theorem kx_sub (a b c : Int64) : a - b - c = a - (b + c) := by grind
theorem kw_m (a c : Nat) (h : a + c < 2 ^ 31) : nI (a + c) - nI a = nI c := by rw [pk_sub (by omega), Nat.add_sub_cancel_left]
theorem kw_i (t c a : Nat) : nI 8 * nI t + nI (a + c) - nI a = nI (8 * t + c) := by
  rw [pk_mul, nI_add, pk_sub (by omega)]; exact congrArg nI (by omega)
set_option maxHeartbeats 4000000 in
set_option maxRecDepth 100000 in
theorem c_X11_begin_o (l : Launch) (D : va_G) (tc : Nat → ClassId) (sz : Nat) (ad : Nat → Nat) (ct : Nat → Option va_E) {N nt no nf : Nat} {ft tr b cm da bs : Int32} {g : Int64}                 {n b1 : Int32} (h0 : ct 200 = some (.inr (11, [.int ft, .int tr, .int (nI N), .int b, .ref (ad 201), .long g, .int cm, .int da, .int (nI nt), .ref (ad 202), .ref (ad 203), .ref (ad 204), .ref (ad 205), .ref (ad 206), .ref (ad 207), .ref (ad 208), .ref (ad 209), .int (nI no), .ref (ad 210), .ref (ad 211), .ref (ad 212), .ref (ad 213), .ref (ad 214), .int bs, .int (nI nf), .ref (ad 215), .ref (ad 216)]))) (hbad : ¬ ((2 ≤ n.toInt64 ∧ n.toInt64 ≤ 8) ∧ 1 ≤ b1.toInt64 ∧ b1.toInt64 ≤ 1000)) : Met l yX11_begin wsX11_begin ({ frames := 1, cells := 0, slots := 0, locals := 29 }) (va_Pc [.ref (ad 200), .int n, .int b1] (kw_B D tc sz ad ct)) (k2_QcV (.int (-2))) 0 0 (fun _ => False) := by
  refine Met.ofW (cc := cX11_begin) (maxL := 4) (ret := (some .int)) (by decide) rfl ?_
  intro pg en s m args below meth cod s₁ B hml hv
  obtain ⟨rfl, hsz, hP0, hK⟩ := hv
  have hx := B.exec
  have hb := B.bytes
  have hr := B.returns
  have hts := atoms_spec (ws := wsX11_begin) B.pre
  have hown : s.vm.findClass RX11 = some m.cls := findClass_of_methodNamed B.named
  have hlocks := B.notSynchronized
  subst hsz
  have hw := kw_H.start hP0
  generalize kw_A ad ct s.heap.size = A at hw
  have hinX11 : ∀ w ∈ wsX110, w ∈ wsX11_begin := by decide +kernel
  have hl := lv_entry ([.ref (ad 200), .int n, .int b1]) (n := 4) (Nat.le_of_ble_eq_true rfl)
  rw [lg_entry_eq]
  generalize (lg_sl ([.ref (ad 200), .int n, .int b1]) ++ List.replicate (4 - (lg_sl ([.ref (ad 200), .int n, .int b1])).length) Slot.unset).toArray = ls at hl ⊢
  have hl : lv_has ls 4 [(0, .ref (ad 200)), (1, .int n), (2, .int b1)] := hl
  have S0 : CallFix pg m cod cX11_begin 4 s _ wsX11_begin RX11 := ⟨hx, hb, hml, hown, hts⟩
  refine lv_iload_n hx hb dX11_begin_0 rfl (lv_at hl 1 rfl) ?_
  refine lv_i2l (v := n.toInt64) hx hb dX11_begin_1 rfl ?_
  refine lv_ldc2 (v := 2) hx hb hown (hts (.constantLong RX11 76 (2)) (by decide +kernel)) dX11_begin_2 ?_
  refine lv_ldc2 (v := 8) hx hb hown (hts (.constantLong RX11 78 (8)) (by decide +kernel)) dX11_begin_5 ?_
  refine kc_s (As := [.long n.toInt64, .long 2, .long 8]) (rest := []) S0 (c_X11_within l D tc s.heap.size ad ct ) (va_cwS 3 hts gX11_begin_X11_within rfl rfl rfl (by decide +kernel) ⟨Nat.le_of_ble_eq_true rfl, Nat.le_of_ble_eq_true rfl⟩) hK hw rfl hl.1 rfl (Nat.le_of_ble_eq_true rfl) dX11_begin_8 ⟨Nat.le_of_ble_eq_true rfl, (Nat.le_of_ble_eq_true rfl)⟩ ?_
  refine kb_ifeq (tgt := 26) hx hb dX11_begin_11 (by decide) (fun c_1 => ?_) (fun c_1 => ?_)
  · refine lv_bipush (v := (-2)) hx hb dX11_begin_26 (by decide) ?_
    exact W.iret hx hb hr (fun t ht _ => ⟨rfl, ht⟩) (fun _ h => absurd h List.not_mem_nil) dX11_begin_28
  · refine lv_iload_n hx hb dX11_begin_14 rfl (lv_at hl 2 rfl) ?_
    refine lv_i2l (v := b1.toInt64) hx hb dX11_begin_15 rfl ?_
    refine lv_lconst (v := 1) hx hb dX11_begin_16 (by decide) ?_
    refine lv_ldc2 (v := 1000) hx hb hown (hts (.constantLong RX11 84 (1000)) (by decide +kernel)) dX11_begin_17 ?_
    refine kc_s (As := [.long b1.toInt64, .long 1, .long 1000]) (rest := []) S0 (c_X11_within l D tc s.heap.size ad ct ) (va_cwS 3 hts gX11_begin_X11_within rfl rfl rfl (by decide +kernel) ⟨Nat.le_of_ble_eq_true rfl, Nat.le_of_ble_eq_true rfl⟩) hK hw rfl hl.1 rfl (Nat.le_of_ble_eq_true rfl) dX11_begin_20 ⟨Nat.le_of_ble_eq_true rfl, (Nat.le_of_ble_eq_true rfl)⟩ ?_
    refine kb_ifne (tgt := 29) hx hb dX11_begin_23 (by decide) (fun c_2 => ?_) (fun c_2 => ?_)
    · exact absurd ⟨c_1, c_2⟩ hbad
    · refine lv_bipush (v := (-2)) hx hb dX11_begin_26 (by decide) ?_
      exact W.iret hx hb hr (fun t ht _ => ⟨rfl, ht⟩) (fun _ h => absurd h List.not_mem_nil) dX11_begin_28
set_option maxHeartbeats 4000000 in
set_option maxRecDepth 100000 in
theorem c_X11_begin (l : Launch) (D : va_G) (tc : Nat → ClassId) (sz : Nat) (ad : Nat → Nat) (ct : Nat → Option va_E) {N nt no nf : Nat} {ft tr b cm da bs : Int32} {g : Int64} {f : Nat → Int64}                {n1 : Nat} {b1 : Int32} (h0 : ct 200 = some (.inr (11, [.int ft, .int tr, .int (nI N), .int b, .ref (ad 201), .long g, .int cm, .int da, .int (nI nt), .ref (ad 202), .ref (ad 203), .ref (ad 204), .ref (ad 205), .ref (ad 206), .ref (ad 207), .ref (ad 208), .ref (ad 209), .int (nI no), .ref (ad 210), .ref (ad 211), .ref (ad 212), .ref (ad 213), .ref (ad 214), .int bs, .int (nI nf), .ref (ad 215), .ref (ad 216)]))) (h201 : ct 201 = some (eJ tc 8 f)) (hn1 : 2 ≤ n1) (hn8 : n1 ≤ 8) (hb1 : 1 ≤ b1.toInt64 ∧ b1.toInt64 ≤ 1000) : Met l yX11_begin wsX11_begin ({ frames := 1, cells := 0, slots := 0, locals := 29 }) (va_Pc [.ref (ad 200), .int (nI n1), .int b1] (kw_B D tc sz ad ct)) (kw_Q D ad (kw_A ad ct sz) (some (.int 1)) (kw_up (kw_up ct 200 (.inr (11, [.int ft, .int tr, .int (nI n1), .int b1, .ref (ad 201), .long 0, .int (-9), .int 0, .int (nI 0), .ref (ad 202), .ref (ad 203), .ref (ad 204), .ref (ad 205), .ref (ad 206), .ref (ad 207), .ref (ad 208), .ref (ad 209), .int (nI 0), .ref (ad 210), .ref (ad 211), .ref (ad 212), .ref (ad 213), .ref (ad 214), .int bs, .int (nI 0), .ref (ad 215), .ref (ad 216)]))) 201 (eJ tc 8 (kFl f 0 8))) 0) 0 0 (kw_A ad ct sz) := by
  refine Met.ofW (cc := cX11_begin) (maxL := 4) (ret := (some .int)) (by decide) rfl ?_
  intro pg en s m args below meth cod s₁ B hml hv
  obtain ⟨rfl, hsz, hP0, hK⟩ := hv
  have hx := B.exec
  have hb := B.bytes
  have hr := B.returns
  have hts := atoms_spec (ws := wsX11_begin) B.pre
  have hown : s.vm.findClass RX11 = some m.cls := findClass_of_methodNamed B.named
  have hlocks := B.notSynchronized
  subst hsz
  have hw := kw_H.start hP0
  generalize hAe : kw_A ad ct s.heap.size = A at hw ⊢
  have hA : ∀ q, s.heap.size ≤ q → A q := fun q h => by rw [← hAe]; exact Or.inr h
  have hinX11 : ∀ w ∈ wsX110, w ∈ wsX11_begin := by decide +kernel
  have hl := lv_entry ([.ref (ad 200), .int (nI n1), .int b1]) (n := 4) (Nat.le_of_ble_eq_true rfl)
  rw [lg_entry_eq]
  generalize (lg_sl ([.ref (ad 200), .int (nI n1), .int b1]) ++ List.replicate (4 - (lg_sl ([.ref (ad 200), .int (nI n1), .int b1])).length) Slot.unset).toArray = ls at hl ⊢
  have hl : lv_has ls 4 [(0, .ref (ad 200)), (1, .int (nI n1)), (2, .int b1)] := hl
  have S0 : CallFix pg m cod cX11_begin 4 s _ wsX11_begin RX11 := ⟨hx, hb, hml, hown, hts⟩
  have hfr : ∀ j, j ≠ 200 → j ≠ 201 → ct j = ct j := fun _ _ _ => rfl
  have kN : 2 ≤ (nI n1).toInt64 ∧ (nI n1).toInt64 ≤ 8 := kwl3 2 n1 8 hn1 hn8 (by omega)
  refine lv_iload_n hx hb dX11_begin_0 rfl (lv_at hl 1 rfl) ?_
  refine lv_i2l (v := (nI n1).toInt64) hx hb dX11_begin_1 rfl ?_
  refine lv_ldc2 (v := 2) hx hb hown (hts (.constantLong RX11 76 (2)) (by decide +kernel)) dX11_begin_2 ?_
  refine lv_ldc2 (v := 8) hx hb hown (hts (.constantLong RX11 78 (8)) (by decide +kernel)) dX11_begin_5 ?_
  refine kc_s (As := [.long ((nI n1).toInt64), .long 2, .long 8]) (rest := []) S0 (c_X11_within l D tc s.heap.size ad ct ) (va_cwS 3 hts gX11_begin_X11_within rfl rfl rfl (by decide +kernel) ⟨Nat.le_of_ble_eq_true rfl, Nat.le_of_ble_eq_true rfl⟩) hK hw rfl hl.1 rfl (Nat.le_of_ble_eq_true rfl) dX11_begin_8 ⟨Nat.le_of_ble_eq_true rfl, (Nat.le_of_ble_eq_true rfl)⟩ ?_
  refine kb_ifeq (tgt := 26) hx hb dX11_begin_11 (by decide) (fun c_1 => ?_) (fun c_1 => ?_)
  · exact absurd kN c_1
  · refine lv_iload_n hx hb dX11_begin_14 rfl (lv_at hl 2 rfl) ?_
    refine lv_i2l (v := b1.toInt64) hx hb dX11_begin_15 rfl ?_
    refine lv_lconst (v := 1) hx hb dX11_begin_16 (by decide) ?_
    refine lv_ldc2 (v := 1000) hx hb hown (hts (.constantLong RX11 84 (1000)) (by decide +kernel)) dX11_begin_17 ?_
    refine kc_s (As := [.long b1.toInt64, .long 1, .long 1000]) (rest := []) S0 (c_X11_within l D tc s.heap.size ad ct ) (va_cwS 3 hts gX11_begin_X11_within rfl rfl rfl (by decide +kernel) ⟨Nat.le_of_ble_eq_true rfl, Nat.le_of_ble_eq_true rfl⟩) hK hw rfl hl.1 rfl (Nat.le_of_ble_eq_true rfl) dX11_begin_20 ⟨Nat.le_of_ble_eq_true rfl, (Nat.le_of_ble_eq_true rfl)⟩ ?_
    refine kb_ifne (tgt := 29) hx hb dX11_begin_23 (by decide) (fun c_2 => ?_) (fun c_2 => ?_)
    · refine lv_aload_n hx hb dX11_begin_29 rfl (lv_at hl 0 rfl) ?_
      refine lv_iload_n hx hb dX11_begin_30 rfl (lv_at hl 1 rfl) ?_
      refine kg_put (v := .int (nI n1)) (ty := .int) (C := RX11) (T := TX11) (N := 27) (fs' := [.int ft, .int tr, .int (nI n1), .int b, .ref (ad 201), .long g, .int cm, .int da, .int (nI nt), .ref (ad 202), .ref (ad 203), .ref (ad 204), .ref (ad 205), .ref (ad 206), .ref (ad 207), .ref (ad 208), .ref (ad 209), .int (nI no), .ref (ad 210), .ref (ad 211), .ref (ad 212), .ref (ad 213), .ref (ad 214), .int bs, .int (nI nf), .ref (ad 215), .ref (ad 216)]) hx hb hts hinX11 tyX11 tyX11_ok nmX11 hown hK hw h0 rfl 2 (by decide) (hts (.fieldLink RX11 7 "BetMakerModel" "cases" "I") (by decide +kernel)) (fun _ h9 => h9) rfl (by decide +kernel) rfl rfl (Nat.le_of_ble_eq_true rfl) rfl dX11_begin_31 (fun H locs hw => ?_)
      obtain ⟨ct_3, ect_3⟩ : ∃ z, z = kw_up ct 200 (.inr (11, [.int ft, .int tr, .int (nI n1), .int b, .ref (ad 201), .long g, .int cm, .int da, .int (nI nt), .ref (ad 202), .ref (ad 203), .ref (ad 204), .ref (ad 205), .ref (ad 206), .ref (ad 207), .ref (ad 208), .ref (ad 209), .int (nI no), .ref (ad 210), .ref (ad 211), .ref (ad 212), .ref (ad 213), .ref (ad 214), .int bs, .int (nI nf), .ref (ad 215), .ref (ad 216)])) := ⟨_, rfl⟩
      rw [← ect_3] at hw
      have h_4 : ct_3 201 = some (eJ tc 8 f) := by rw [ect_3, kw_up_n (by decide)]; exact h201
      have h_5 : ct_3 200 = some (.inr (11, [.int ft, .int tr, .int (nI n1), .int b, .ref (ad 201), .long g, .int cm, .int da, .int (nI nt), .ref (ad 202), .ref (ad 203), .ref (ad 204), .ref (ad 205), .ref (ad 206), .ref (ad 207), .ref (ad 208), .ref (ad 209), .int (nI no), .ref (ad 210), .ref (ad 211), .ref (ad 212), .ref (ad 213), .ref (ad 214), .int bs, .int (nI nf), .ref (ad 215), .ref (ad 216)])) := by rw [ect_3]; exact kw_up_s
      have hfr_6 : ∀ j, j ≠ 200 → j ≠ 201 → ct_3 j = ct j := fun j a0 a1 => by rw [ect_3]; exact (kw_up_n a0).trans (hfr j a0 a1)
      refine lv_aload_n hx hb dX11_begin_34 rfl (lv_at hl 0 rfl) ?_
      refine lv_iload_n hx hb dX11_begin_35 rfl (lv_at hl 2 rfl) ?_
      refine kg_put (v := .int b1) (ty := .int) (C := RX11) (T := TX11) (N := 27) (fs' := [.int ft, .int tr, .int (nI n1), .int b1, .ref (ad 201), .long g, .int cm, .int da, .int (nI nt), .ref (ad 202), .ref (ad 203), .ref (ad 204), .ref (ad 205), .ref (ad 206), .ref (ad 207), .ref (ad 208), .ref (ad 209), .int (nI no), .ref (ad 210), .ref (ad 211), .ref (ad 212), .ref (ad 213), .ref (ad 214), .int bs, .int (nI nf), .ref (ad 215), .ref (ad 216)]) hx hb hts hinX11 tyX11 tyX11_ok nmX11 hown hK hw h_5 rfl 3 (by decide) (hts (.fieldLink RX11 13 "BetMakerModel" "broad" "I") (by decide +kernel)) (fun _ h9 => h9) rfl (by decide +kernel) rfl rfl (Nat.le_of_ble_eq_true rfl) rfl dX11_begin_36 (fun H locs hw => ?_)
      obtain ⟨ct_7, ect_7⟩ : ∃ z, z = kw_up ct_3 200 (.inr (11, [.int ft, .int tr, .int (nI n1), .int b1, .ref (ad 201), .long g, .int cm, .int da, .int (nI nt), .ref (ad 202), .ref (ad 203), .ref (ad 204), .ref (ad 205), .ref (ad 206), .ref (ad 207), .ref (ad 208), .ref (ad 209), .int (nI no), .ref (ad 210), .ref (ad 211), .ref (ad 212), .ref (ad 213), .ref (ad 214), .int bs, .int (nI nf), .ref (ad 215), .ref (ad 216)])) := ⟨_, rfl⟩
      rw [← ect_7] at hw
      have h_8 : ct_7 201 = some (eJ tc 8 f) := by rw [ect_7, kw_up_n (by decide)]; exact h_4
      have h_9 : ct_7 200 = some (.inr (11, [.int ft, .int tr, .int (nI n1), .int b1, .ref (ad 201), .long g, .int cm, .int da, .int (nI nt), .ref (ad 202), .ref (ad 203), .ref (ad 204), .ref (ad 205), .ref (ad 206), .ref (ad 207), .ref (ad 208), .ref (ad 209), .int (nI no), .ref (ad 210), .ref (ad 211), .ref (ad 212), .ref (ad 213), .ref (ad 214), .int bs, .int (nI nf), .ref (ad 215), .ref (ad 216)])) := by rw [ect_7]; exact kw_up_s
      have hfr_10 : ∀ j, j ≠ 200 → j ≠ 201 → ct_7 j = ct j := fun j a0 a1 => by rw [ect_7]; exact (kw_up_n a0).trans (hfr_6 j a0 a1)
      refine lv_iconst (v := 0) hx hb dX11_begin_39 (by decide) ?_
      refine lv_istore_n (lv' := [(3, .int 0), (0, .ref (ad 200)), (1, .int (nI n1)), (2, .int b1)]) hx hb dX11_begin_40 rfl hl (by decide) rfl (fun ls hl => ?_)
      suffices lp41 : ∀ (nfu : Nat) (i : Nat) (g1 : Nat → Int64) (ctL41 : Nat → Option va_E) (H : Heap) (locs : List Loc) (ls : Array Slot), 8 - i < nfu → i ≤ 8 → g1 = kFl f 0 i → ctL41 201 = some (eJ tc 8 g1) → ctL41 200 = some (.inr (11, [.int ft, .int tr, .int (nI n1), .int b1, .ref (ad 201), .long g, .int cm, .int da, .int (nI nt), .ref (ad 202), .ref (ad 203), .ref (ad 204), .ref (ad 205), .ref (ad 206), .ref (ad 207), .ref (ad 208), .ref (ad 209), .int (nI no), .ref (ad 210), .ref (ad 211), .ref (ad 212), .ref (ad 213), .ref (ad 214), .int bs, .int (nI nf), .ref (ad 215), .ref (ad 216)])) → (∀ j, j ≠ 200 → j ≠ 201 → ctL41 j = ct j) → kw_H D ad A s.heap ctL41 H locs s.heap.size → lv_has ls 4 [(0, .ref (ad 200)), (1, .int (nI n1)), (2, .int b1), (3, .int (nI i))] → W pg l en (headSpec wsX11_begin ({ frames := 1, cells := 0, slots := 0, locals := 29 })).room s m (([.ref (ad 200), .int (nI n1), .int b1] : List Value).toArray) below meth cod H locs 0 0 (MQ below (kw_Q D ad A (some (.int 1)) (kw_up (kw_up ct 200 (.inr (11, [.int ft, .int tr, .int (nI n1), .int b1, .ref (ad 201), .long 0, .int (-9), .int 0, .int (nI 0), .ref (ad 202), .ref (ad 203), .ref (ad 204), .ref (ad 205), .ref (ad 206), .ref (ad 207), .ref (ad 208), .ref (ad 209), .int (nI 0), .ref (ad 210), .ref (ad 211), .ref (ad 212), .ref (ad 213), .ref (ad 214), .int bs, .int (nI 0), .ref (ad 215), .ref (ad 216)]))) 201 (eJ tc 8 (kFl f 0 8))) 0) (([.ref (ad 200), .int (nI n1), .int b1] : List Value).toArray) s 0 0 A) (F0 m 41 ls []) by
        exact lp41 (8 - 0 + 1) 0 f _ _ _ ls (by omega) (by omega) (by exact kFl_0 f 0) h_8 h_9 hfr_10 hw (by have hl9 := lv_sub hl (l' := [(0, .ref (ad 200)), (1, .int (nI n1)), (2, .int b1), (3, .int 0)]) [1, 2, 3, 0] rfl; exact hl9)
      intro n41
      induction n41 with
      | zero => intro i g1 ctL41 H locs ls hfu; exact absurd hfu (Nat.not_lt_zero _)
      | succ n41 ih41 =>
        intro i g1 ctL41 H locs ls hfu41 hi hg h_11 h_12 hfr_13 hw hl
        refine lv_iload_n hx hb dX11_begin_41 rfl (lv_at hl 3 rfl) ?_
        refine lv_bipush (v := 8) hx hb dX11_begin_42 (by decide) ?_
        refine kn_ge i 8 rfl rfl (by omega) (by omega) (tgt := 60) hx hb dX11_begin_44 (by decide) (fun c_14 => ?_) (fun c_14 => ?_)
        · refine lv_aload_n hx hb dX11_begin_60 rfl (lv_at hl 0 rfl) ?_
          refine lv_lconst (v := 0) hx hb dX11_begin_61 (by decide) ?_
          refine kg_put (v := .long 0) (ty := .long) (C := RX11) (T := TX11) (N := 27) (fs' := [.int ft, .int tr, .int (nI n1), .int b1, .ref (ad 201), .long 0, .int cm, .int da, .int (nI nt), .ref (ad 202), .ref (ad 203), .ref (ad 204), .ref (ad 205), .ref (ad 206), .ref (ad 207), .ref (ad 208), .ref (ad 209), .int (nI no), .ref (ad 210), .ref (ad 211), .ref (ad 212), .ref (ad 213), .ref (ad 214), .int bs, .int (nI nf), .ref (ad 215), .ref (ad 216)]) hx hb hts hinX11 tyX11 tyX11_ok nmX11 hown hK hw h_12 rfl 5 (by decide) (hts (.fieldLink RX11 86 "BetMakerModel" "gain" "J") (by decide +kernel)) (fun _ h9 => h9) rfl (by decide +kernel) rfl rfl (Nat.le_of_ble_eq_true rfl) rfl dX11_begin_62 (fun H locs hw => ?_)
          obtain ⟨ct_15, ect_15⟩ : ∃ z, z = kw_up ctL41 200 (.inr (11, [.int ft, .int tr, .int (nI n1), .int b1, .ref (ad 201), .long 0, .int cm, .int da, .int (nI nt), .ref (ad 202), .ref (ad 203), .ref (ad 204), .ref (ad 205), .ref (ad 206), .ref (ad 207), .ref (ad 208), .ref (ad 209), .int (nI no), .ref (ad 210), .ref (ad 211), .ref (ad 212), .ref (ad 213), .ref (ad 214), .int bs, .int (nI nf), .ref (ad 215), .ref (ad 216)])) := ⟨_, rfl⟩
          rw [← ect_15] at hw
          have h_16 : ct_15 201 = some (eJ tc 8 g1) := by rw [ect_15, kw_up_n (by decide)]; exact h_11
          have h_17 : ct_15 200 = some (.inr (11, [.int ft, .int tr, .int (nI n1), .int b1, .ref (ad 201), .long 0, .int cm, .int da, .int (nI nt), .ref (ad 202), .ref (ad 203), .ref (ad 204), .ref (ad 205), .ref (ad 206), .ref (ad 207), .ref (ad 208), .ref (ad 209), .int (nI no), .ref (ad 210), .ref (ad 211), .ref (ad 212), .ref (ad 213), .ref (ad 214), .int bs, .int (nI nf), .ref (ad 215), .ref (ad 216)])) := by rw [ect_15]; exact kw_up_s
          have hfr_18 : ∀ j, j ≠ 200 → j ≠ 201 → ct_15 j = ct j := fun j a0 a1 => by rw [ect_15]; exact (kw_up_n a0).trans (hfr_13 j a0 a1)
          refine lv_aload_n hx hb dX11_begin_65 rfl (lv_at hl 0 rfl) ?_
          refine lv_bipush (v := (-9)) hx hb dX11_begin_66 (by decide) ?_
          refine kg_put (v := .int (-9)) (ty := .int) (C := RX11) (T := TX11) (N := 27) (fs' := [.int ft, .int tr, .int (nI n1), .int b1, .ref (ad 201), .long 0, .int (-9), .int da, .int (nI nt), .ref (ad 202), .ref (ad 203), .ref (ad 204), .ref (ad 205), .ref (ad 206), .ref (ad 207), .ref (ad 208), .ref (ad 209), .int (nI no), .ref (ad 210), .ref (ad 211), .ref (ad 212), .ref (ad 213), .ref (ad 214), .int bs, .int (nI nf), .ref (ad 215), .ref (ad 216)]) hx hb hts hinX11 tyX11 tyX11_ok nmX11 hown hK hw h_17 rfl 6 (by decide) (hts (.fieldLink RX11 20 "BetMakerModel" "came" "I") (by decide +kernel)) (fun _ h9 => h9) rfl (by decide +kernel) rfl rfl (Nat.le_of_ble_eq_true rfl) rfl dX11_begin_68 (fun H locs hw => ?_)
          obtain ⟨ct_19, ect_19⟩ : ∃ z, z = kw_up ct_15 200 (.inr (11, [.int ft, .int tr, .int (nI n1), .int b1, .ref (ad 201), .long 0, .int (-9), .int da, .int (nI nt), .ref (ad 202), .ref (ad 203), .ref (ad 204), .ref (ad 205), .ref (ad 206), .ref (ad 207), .ref (ad 208), .ref (ad 209), .int (nI no), .ref (ad 210), .ref (ad 211), .ref (ad 212), .ref (ad 213), .ref (ad 214), .int bs, .int (nI nf), .ref (ad 215), .ref (ad 216)])) := ⟨_, rfl⟩
          rw [← ect_19] at hw
          have h_20 : ct_19 201 = some (eJ tc 8 g1) := by rw [ect_19, kw_up_n (by decide)]; exact h_16
          have h_21 : ct_19 200 = some (.inr (11, [.int ft, .int tr, .int (nI n1), .int b1, .ref (ad 201), .long 0, .int (-9), .int da, .int (nI nt), .ref (ad 202), .ref (ad 203), .ref (ad 204), .ref (ad 205), .ref (ad 206), .ref (ad 207), .ref (ad 208), .ref (ad 209), .int (nI no), .ref (ad 210), .ref (ad 211), .ref (ad 212), .ref (ad 213), .ref (ad 214), .int bs, .int (nI nf), .ref (ad 215), .ref (ad 216)])) := by rw [ect_19]; exact kw_up_s
          have hfr_22 : ∀ j, j ≠ 200 → j ≠ 201 → ct_19 j = ct j := fun j a0 a1 => by rw [ect_19]; exact (kw_up_n a0).trans (hfr_18 j a0 a1)
          refine lv_aload_n hx hb dX11_begin_71 rfl (lv_at hl 0 rfl) ?_
          refine lv_iconst (v := 0) hx hb dX11_begin_72 (by decide) ?_
          refine kg_put (v := .int 0) (ty := .int) (C := RX11) (T := TX11) (N := 27) (fs' := [.int ft, .int tr, .int (nI n1), .int b1, .ref (ad 201), .long 0, .int (-9), .int 0, .int (nI nt), .ref (ad 202), .ref (ad 203), .ref (ad 204), .ref (ad 205), .ref (ad 206), .ref (ad 207), .ref (ad 208), .ref (ad 209), .int (nI no), .ref (ad 210), .ref (ad 211), .ref (ad 212), .ref (ad 213), .ref (ad 214), .int bs, .int (nI nf), .ref (ad 215), .ref (ad 216)]) hx hb hts hinX11 tyX11 tyX11_ok nmX11 hown hK hw h_21 rfl 7 (by decide) (hts (.fieldLink RX11 90 "BetMakerModel" "dealsOfAll" "I") (by decide +kernel)) (fun _ h9 => h9) rfl (by decide +kernel) rfl rfl (Nat.le_of_ble_eq_true rfl) rfl dX11_begin_73 (fun H locs hw => ?_)
          obtain ⟨ct_23, ect_23⟩ : ∃ z, z = kw_up ct_19 200 (.inr (11, [.int ft, .int tr, .int (nI n1), .int b1, .ref (ad 201), .long 0, .int (-9), .int 0, .int (nI nt), .ref (ad 202), .ref (ad 203), .ref (ad 204), .ref (ad 205), .ref (ad 206), .ref (ad 207), .ref (ad 208), .ref (ad 209), .int (nI no), .ref (ad 210), .ref (ad 211), .ref (ad 212), .ref (ad 213), .ref (ad 214), .int bs, .int (nI nf), .ref (ad 215), .ref (ad 216)])) := ⟨_, rfl⟩
          rw [← ect_23] at hw
          have h_24 : ct_23 201 = some (eJ tc 8 g1) := by rw [ect_23, kw_up_n (by decide)]; exact h_20
          have h_25 : ct_23 200 = some (.inr (11, [.int ft, .int tr, .int (nI n1), .int b1, .ref (ad 201), .long 0, .int (-9), .int 0, .int (nI nt), .ref (ad 202), .ref (ad 203), .ref (ad 204), .ref (ad 205), .ref (ad 206), .ref (ad 207), .ref (ad 208), .ref (ad 209), .int (nI no), .ref (ad 210), .ref (ad 211), .ref (ad 212), .ref (ad 213), .ref (ad 214), .int bs, .int (nI nf), .ref (ad 215), .ref (ad 216)])) := by rw [ect_23]; exact kw_up_s
          have hfr_26 : ∀ j, j ≠ 200 → j ≠ 201 → ct_23 j = ct j := fun j a0 a1 => by rw [ect_23]; exact (kw_up_n a0).trans (hfr_22 j a0 a1)
          refine lv_aload_n hx hb dX11_begin_76 rfl (lv_at hl 0 rfl) ?_
          refine lv_iconst (v := 0) hx hb dX11_begin_77 (by decide) ?_
          refine kg_put (v := .int 0) (ty := .int) (C := RX11) (T := TX11) (N := 27) (fs' := [.int ft, .int tr, .int (nI n1), .int b1, .ref (ad 201), .long 0, .int (-9), .int 0, .int 0, .ref (ad 202), .ref (ad 203), .ref (ad 204), .ref (ad 205), .ref (ad 206), .ref (ad 207), .ref (ad 208), .ref (ad 209), .int (nI no), .ref (ad 210), .ref (ad 211), .ref (ad 212), .ref (ad 213), .ref (ad 214), .int bs, .int (nI nf), .ref (ad 215), .ref (ad 216)]) hx hb hts hinX11 tyX11 tyX11_ok nmX11 hown hK hw h_25 rfl 8 (by decide) (hts (.fieldLink RX11 93 "BetMakerModel" "traders" "I") (by decide +kernel)) (fun _ h9 => h9) rfl (by decide +kernel) rfl rfl (Nat.le_of_ble_eq_true rfl) rfl dX11_begin_78 (fun H locs hw => ?_)
          obtain ⟨ct_27, ect_27⟩ : ∃ z, z = kw_up ct_23 200 (.inr (11, [.int ft, .int tr, .int (nI n1), .int b1, .ref (ad 201), .long 0, .int (-9), .int 0, .int 0, .ref (ad 202), .ref (ad 203), .ref (ad 204), .ref (ad 205), .ref (ad 206), .ref (ad 207), .ref (ad 208), .ref (ad 209), .int (nI no), .ref (ad 210), .ref (ad 211), .ref (ad 212), .ref (ad 213), .ref (ad 214), .int bs, .int (nI nf), .ref (ad 215), .ref (ad 216)])) := ⟨_, rfl⟩
          rw [← ect_27] at hw
          have h_28 : ct_27 201 = some (eJ tc 8 g1) := by rw [ect_27, kw_up_n (by decide)]; exact h_24
          have h_29 : ct_27 200 = some (.inr (11, [.int ft, .int tr, .int (nI n1), .int b1, .ref (ad 201), .long 0, .int (-9), .int 0, .int 0, .ref (ad 202), .ref (ad 203), .ref (ad 204), .ref (ad 205), .ref (ad 206), .ref (ad 207), .ref (ad 208), .ref (ad 209), .int (nI no), .ref (ad 210), .ref (ad 211), .ref (ad 212), .ref (ad 213), .ref (ad 214), .int bs, .int (nI nf), .ref (ad 215), .ref (ad 216)])) := by rw [ect_27]; exact kw_up_s
          have hfr_30 : ∀ j, j ≠ 200 → j ≠ 201 → ct_27 j = ct j := fun j a0 a1 => by rw [ect_27]; exact (kw_up_n a0).trans (hfr_26 j a0 a1)
          refine lv_aload_n hx hb dX11_begin_81 rfl (lv_at hl 0 rfl) ?_
          refine lv_iconst (v := 0) hx hb dX11_begin_82 (by decide) ?_
          refine kg_put (v := .int 0) (ty := .int) (C := RX11) (T := TX11) (N := 27) (fs' := [.int ft, .int tr, .int (nI n1), .int b1, .ref (ad 201), .long 0, .int (-9), .int 0, .int 0, .ref (ad 202), .ref (ad 203), .ref (ad 204), .ref (ad 205), .ref (ad 206), .ref (ad 207), .ref (ad 208), .ref (ad 209), .int 0, .ref (ad 210), .ref (ad 211), .ref (ad 212), .ref (ad 213), .ref (ad 214), .int bs, .int (nI nf), .ref (ad 215), .ref (ad 216)]) hx hb hts hinX11 tyX11 tyX11_ok nmX11 hown hK hw h_29 rfl 17 (by decide) (hts (.fieldLink RX11 96 "BetMakerModel" "offers" "I") (by decide +kernel)) (fun _ h9 => h9) rfl (by decide +kernel) rfl rfl (Nat.le_of_ble_eq_true rfl) rfl dX11_begin_83 (fun H locs hw => ?_)
          obtain ⟨ct_31, ect_31⟩ : ∃ z, z = kw_up ct_27 200 (.inr (11, [.int ft, .int tr, .int (nI n1), .int b1, .ref (ad 201), .long 0, .int (-9), .int 0, .int 0, .ref (ad 202), .ref (ad 203), .ref (ad 204), .ref (ad 205), .ref (ad 206), .ref (ad 207), .ref (ad 208), .ref (ad 209), .int 0, .ref (ad 210), .ref (ad 211), .ref (ad 212), .ref (ad 213), .ref (ad 214), .int bs, .int (nI nf), .ref (ad 215), .ref (ad 216)])) := ⟨_, rfl⟩
          rw [← ect_31] at hw
          have h_32 : ct_31 201 = some (eJ tc 8 g1) := by rw [ect_31, kw_up_n (by decide)]; exact h_28
          have h_33 : ct_31 200 = some (.inr (11, [.int ft, .int tr, .int (nI n1), .int b1, .ref (ad 201), .long 0, .int (-9), .int 0, .int 0, .ref (ad 202), .ref (ad 203), .ref (ad 204), .ref (ad 205), .ref (ad 206), .ref (ad 207), .ref (ad 208), .ref (ad 209), .int 0, .ref (ad 210), .ref (ad 211), .ref (ad 212), .ref (ad 213), .ref (ad 214), .int bs, .int (nI nf), .ref (ad 215), .ref (ad 216)])) := by rw [ect_31]; exact kw_up_s
          have hfr_34 : ∀ j, j ≠ 200 → j ≠ 201 → ct_31 j = ct j := fun j a0 a1 => by rw [ect_31]; exact (kw_up_n a0).trans (hfr_30 j a0 a1)
          refine lv_aload_n hx hb dX11_begin_86 rfl (lv_at hl 0 rfl) ?_
          refine lv_iconst (v := 0) hx hb dX11_begin_87 (by decide) ?_
          refine kg_put (v := .int 0) (ty := .int) (C := RX11) (T := TX11) (N := 27) (fs' := [.int ft, .int tr, .int (nI n1), .int b1, .ref (ad 201), .long 0, .int (-9), .int 0, .int 0, .ref (ad 202), .ref (ad 203), .ref (ad 204), .ref (ad 205), .ref (ad 206), .ref (ad 207), .ref (ad 208), .ref (ad 209), .int 0, .ref (ad 210), .ref (ad 211), .ref (ad 212), .ref (ad 213), .ref (ad 214), .int bs, .int 0, .ref (ad 215), .ref (ad 216)]) hx hb hts hinX11 tyX11 tyX11_ok nmX11 hown hK hw h_33 rfl 24 (by decide) (hts (.fieldLink RX11 99 "BetMakerModel" "forecasts" "I") (by decide +kernel)) (fun _ h9 => h9) rfl (by decide +kernel) rfl rfl (Nat.le_of_ble_eq_true rfl) rfl dX11_begin_88 (fun H locs hw => ?_)
          obtain ⟨ct_35, ect_35⟩ : ∃ z, z = kw_up ct_31 200 (.inr (11, [.int ft, .int tr, .int (nI n1), .int b1, .ref (ad 201), .long 0, .int (-9), .int 0, .int 0, .ref (ad 202), .ref (ad 203), .ref (ad 204), .ref (ad 205), .ref (ad 206), .ref (ad 207), .ref (ad 208), .ref (ad 209), .int 0, .ref (ad 210), .ref (ad 211), .ref (ad 212), .ref (ad 213), .ref (ad 214), .int bs, .int 0, .ref (ad 215), .ref (ad 216)])) := ⟨_, rfl⟩
          rw [← ect_35] at hw
          have h_36 : ct_35 201 = some (eJ tc 8 g1) := by rw [ect_35, kw_up_n (by decide)]; exact h_32
          have h_37 : ct_35 200 = some (.inr (11, [.int ft, .int tr, .int (nI n1), .int b1, .ref (ad 201), .long 0, .int (-9), .int 0, .int 0, .ref (ad 202), .ref (ad 203), .ref (ad 204), .ref (ad 205), .ref (ad 206), .ref (ad 207), .ref (ad 208), .ref (ad 209), .int 0, .ref (ad 210), .ref (ad 211), .ref (ad 212), .ref (ad 213), .ref (ad 214), .int bs, .int 0, .ref (ad 215), .ref (ad 216)])) := by rw [ect_35]; exact kw_up_s
          have hfr_38 : ∀ j, j ≠ 200 → j ≠ 201 → ct_35 j = ct j := fun j a0 a1 => by rw [ect_35]; exact (kw_up_n a0).trans (hfr_34 j a0 a1)
          refine lv_iconst (v := 1) hx hb dX11_begin_91 (by decide) ?_
          have hq_39 : ct_35 200 = some (.inr (11, [.int ft, .int tr, .int (nI n1), .int b1, .ref (ad 201), .long 0, .int (-9), .int 0, .int (nI 0), .ref (ad 202), .ref (ad 203), .ref (ad 204), .ref (ad 205), .ref (ad 206), .ref (ad 207), .ref (ad 208), .ref (ad 209), .int (nI 0), .ref (ad 210), .ref (ad 211), .ref (ad 212), .ref (ad 213), .ref (ad 214), .int bs, .int (nI 0), .ref (ad 215), .ref (ad 216)])) := h_37.trans (congrArg some (show (.inr (11, [.int ft, .int tr, .int (nI n1), .int b1, .ref (ad 201), .long 0, .int (-9), .int 0, .int 0, .ref (ad 202), .ref (ad 203), .ref (ad 204), .ref (ad 205), .ref (ad 206), .ref (ad 207), .ref (ad 208), .ref (ad 209), .int 0, .ref (ad 210), .ref (ad 211), .ref (ad 212), .ref (ad 213), .ref (ad 214), .int bs, .int 0, .ref (ad 215), .ref (ad 216)]) : va_E) = .inr (11, [.int ft, .int tr, .int (nI n1), .int b1, .ref (ad 201), .long 0, .int (-9), .int 0, .int (nI 0), .ref (ad 202), .ref (ad 203), .ref (ad 204), .ref (ad 205), .ref (ad 206), .ref (ad 207), .ref (ad 208), .ref (ad 209), .int (nI 0), .ref (ad 210), .ref (ad 211), .ref (ad 212), .ref (ad 213), .ref (ad 214), .int bs, .int (nI 0), .ref (ad 215), .ref (ad 216)]) from by rfl))
          have hq_40 : ct_35 201 = some (eJ tc 8 (kFl f 0 8)) := h_36.trans (congrArg some (show (eJ tc 8 g1 : va_E) = eJ tc 8 (kFl f 0 8) from by rw [hg, show i = 8 by omega]))
          have hend := kw_eq2 hq_39 hq_40 hfr_38
          rw [hend] at hw
          exact W.iret hx hb hr (fun t ht _ => ⟨rfl, by rw [ht]; exact hw.1, hw.2.2.1, hw.2.1.F ht, by rw [ht]; exact hw.2.2.2⟩) hw.2.1.2.2 dX11_begin_92
        · refine lv_aload_n hx hb dX11_begin_47 rfl (lv_at hl 0 rfl) ?_
          refine kg_get (v := .ref (ad 201)) (C := RX11) (T := TX11) (N := 27) hx hb hts hinX11 hown hK hw h_12 rfl 4 (by decide) (hts (.fieldLink RX11 16 "BetMakerModel" "sold" "[J") (by decide +kernel)) (fun _ h9 => h9) rfl dX11_begin_48 ?_
          refine lv_iload_n hx hb dX11_begin_51 rfl (lv_at hl 3 rfl) ?_
          refine lv_lconst (v := 0) hx hb dX11_begin_52 (by decide) ?_
          refine kg_last hx hb hK hw h_11 i rfl (by omega) (by omega) dX11_begin_53 (fun H locs hw => ?_)
          obtain ⟨ct_41, ect_41⟩ : ∃ z, z = kw_up ctL41 201 (eJ tc 8 (va_up g1 i 0)) := ⟨_, rfl⟩
          rw [← ect_41] at hw
          have h_42 : ct_41 200 = some (.inr (11, [.int ft, .int tr, .int (nI n1), .int b1, .ref (ad 201), .long g, .int cm, .int da, .int (nI nt), .ref (ad 202), .ref (ad 203), .ref (ad 204), .ref (ad 205), .ref (ad 206), .ref (ad 207), .ref (ad 208), .ref (ad 209), .int (nI no), .ref (ad 210), .ref (ad 211), .ref (ad 212), .ref (ad 213), .ref (ad 214), .int bs, .int (nI nf), .ref (ad 215), .ref (ad 216)])) := by rw [ect_41, kw_up_n (by decide)]; exact h_12
          have h_43 : ct_41 201 = some (eJ tc 8 (va_up g1 i 0)) := by rw [ect_41]; exact kw_up_s
          have hfr_44 : ∀ j, j ≠ 200 → j ≠ 201 → ct_41 j = ct j := fun j a0 a1 => by rw [ect_41]; exact (kw_up_n a1).trans (hfr_13 j a0 a1)
          refine lv_iinc (v := (nI (i + 1))) (lv' := [(3, .int (nI (i + 1))), (0, .ref (ad 200)), (1, .int (nI n1)), (2, .int b1)]) hx hb dX11_begin_54 hl (k := 3) rfl (nI_1 i) (by decide) rfl (fun ls hl => ?_)
          refine lv_goto (tgt := 41) hx hb dX11_begin_57 (by decide) ?_
          exact ih41 (i + 1) (va_up g1 i 0) _ _ _ ls (by omega) (by omega) (by rw [hg]; exact kFl_s f 0 i) h_43 h_42 hfr_44 hw (lv_sub hl [1, 2, 3, 0] rfl)
    · exact absurd hb1 c_2
set_option maxHeartbeats 4000000 in
set_option maxRecDepth 100000 in
theorem c_X11_trader_o (l : Launch) (D : va_G) (tc : Nat → ClassId) (sz : Nat) (ad : Nat → Nat) (ct : Nat → Option va_E) {N nt no nf : Nat} {ft tr b cm da bs : Int32} {g : Int64}                 {kind : Int32} {p1 : Int64} (h0 : ct 200 = some (.inr (11, [.int ft, .int tr, .int (nI N), .int b, .ref (ad 201), .long g, .int cm, .int da, .int (nI nt), .ref (ad 202), .ref (ad 203), .ref (ad 204), .ref (ad 205), .ref (ad 206), .ref (ad 207), .ref (ad 208), .ref (ad 209), .int (nI no), .ref (ad 210), .ref (ad 211), .ref (ad 212), .ref (ad 213), .ref (ad 214), .int bs, .int (nI nf), .ref (ad 215), .ref (ad 216)]))) (hbad : ¬ ((0 ≤ kind.toInt64 ∧ kind.toInt64 ≤ 2) ∧ 0 ≤ p1 ∧ p1 ≤ 1000000000000)) : Met l yX11_trader wsX11_trader ({ frames := 1, cells := 0, slots := 0, locals := 29 }) (va_Pc [.ref (ad 200), .int kind, .long p1] (kw_B D tc sz ad ct)) (k2_QcV (.int (-2))) 0 0 (fun _ => False) := by
  refine Met.ofW (cc := cX11_trader) (maxL := 5) (ret := (some .int)) (by decide) rfl ?_
  intro pg en s m args below meth cod s₁ B hml hv
  obtain ⟨rfl, hsz, hP0, hK⟩ := hv
  have hx := B.exec
  have hb := B.bytes
  have hr := B.returns
  have hts := atoms_spec (ws := wsX11_trader) B.pre
  have hown : s.vm.findClass RX11 = some m.cls := findClass_of_methodNamed B.named
  have hlocks := B.notSynchronized
  subst hsz
  have hw := kw_H.start hP0
  generalize kw_A ad ct s.heap.size = A at hw
  have hinX11 : ∀ w ∈ wsX110, w ∈ wsX11_trader := by decide +kernel
  have hl := lv_entry ([.ref (ad 200), .int kind, .long p1]) (n := 5) (Nat.le_of_ble_eq_true rfl)
  rw [lg_entry_eq]
  generalize (lg_sl ([.ref (ad 200), .int kind, .long p1]) ++ List.replicate (5 - (lg_sl ([.ref (ad 200), .int kind, .long p1])).length) Slot.unset).toArray = ls at hl ⊢
  have hl : lv_has ls 5 [(0, .ref (ad 200)), (1, .int kind), (2, .long p1)] := hl
  have S0 : CallFix pg m cod cX11_trader 5 s _ wsX11_trader RX11 := ⟨hx, hb, hml, hown, hts⟩
  refine lv_iload_n hx hb dX11_trader_0 rfl (lv_at hl 1 rfl) ?_
  refine lv_i2l (v := kind.toInt64) hx hb dX11_trader_1 rfl ?_
  refine lv_lconst (v := 0) hx hb dX11_trader_2 (by decide) ?_
  refine lv_ldc2 (v := 2) hx hb hown (hts (.constantLong RX11 76 (2)) (by decide +kernel)) dX11_trader_3 ?_
  refine kc_s (As := [.long kind.toInt64, .long 0, .long 2]) (rest := []) S0 (c_X11_within l D tc s.heap.size ad ct ) (va_cwS 3 hts gX11_trader_X11_within rfl rfl rfl (by decide +kernel) ⟨Nat.le_of_ble_eq_true rfl, Nat.le_of_ble_eq_true rfl⟩) hK hw rfl hl.1 rfl (Nat.le_of_ble_eq_true rfl) dX11_trader_6 ⟨Nat.le_of_ble_eq_true rfl, (Nat.le_of_ble_eq_true rfl)⟩ ?_
  refine kb_ifeq (tgt := 23) hx hb dX11_trader_9 (by decide) (fun c_1 => ?_) (fun c_1 => ?_)
  · refine lv_bipush (v := (-2)) hx hb dX11_trader_23 (by decide) ?_
    exact W.iret hx hb hr (fun t ht _ => ⟨rfl, ht⟩) (fun _ h => absurd h List.not_mem_nil) dX11_trader_25
  · refine lv_lload_n hx hb dX11_trader_12 rfl (lv_at hl 2 rfl) ?_
    refine lv_lconst (v := 0) hx hb dX11_trader_13 (by decide) ?_
    refine lv_ldc2 (v := 1000000000000) hx hb hown (hts (.constantLong RX11 124 (1000000000000)) (by decide +kernel)) dX11_trader_14 ?_
    refine kc_s (As := [.long p1, .long 0, .long 1000000000000]) (rest := []) S0 (c_X11_within l D tc s.heap.size ad ct ) (va_cwS 3 hts gX11_trader_X11_within rfl rfl rfl (by decide +kernel) ⟨Nat.le_of_ble_eq_true rfl, Nat.le_of_ble_eq_true rfl⟩) hK hw rfl hl.1 rfl (Nat.le_of_ble_eq_true rfl) dX11_trader_17 ⟨Nat.le_of_ble_eq_true rfl, (Nat.le_of_ble_eq_true rfl)⟩ ?_
    refine kb_ifne (tgt := 26) hx hb dX11_trader_20 (by decide) (fun c_2 => ?_) (fun c_2 => ?_)
    · exact absurd ⟨c_1, c_2⟩ hbad
    · refine lv_bipush (v := (-2)) hx hb dX11_trader_23 (by decide) ?_
      exact W.iret hx hb hr (fun t ht _ => ⟨rfl, ht⟩) (fun _ h => absurd h List.not_mem_nil) dX11_trader_25
set_option maxHeartbeats 4000000 in
set_option maxRecDepth 100000 in
theorem c_X11_trader_f (l : Launch) (D : va_G) (tc : Nat → ClassId) (sz : Nat) (ad : Nat → Nat) (ct : Nat → Option va_E) {N nt no nf : Nat} {ft tr b cm da bs : Int32} {g : Int64}                 {kind : Int32} {p1 : Int64} (h0 : ct 200 = some (.inr (11, [.int ft, .int tr, .int (nI N), .int b, .ref (ad 201), .long g, .int cm, .int da, .int (nI nt), .ref (ad 202), .ref (ad 203), .ref (ad 204), .ref (ad 205), .ref (ad 206), .ref (ad 207), .ref (ad 208), .ref (ad 209), .int (nI no), .ref (ad 210), .ref (ad 211), .ref (ad 212), .ref (ad 213), .ref (ad 214), .int bs, .int (nI nf), .ref (ad 215), .ref (ad 216)]))) (hk : 0 ≤ kind.toInt64 ∧ kind.toInt64 ≤ 2) (hp : 0 ≤ p1 ∧ p1 ≤ 1000000000000) (hfull : nt = 6) : Met l yX11_trader wsX11_trader ({ frames := 1, cells := 0, slots := 0, locals := 29 }) (va_Pc [.ref (ad 200), .int kind, .long p1] (kw_B D tc sz ad ct)) (k2_QcV (.int (-4))) 0 0 (fun _ => False) := by
  refine Met.ofW (cc := cX11_trader) (maxL := 5) (ret := (some .int)) (by decide) rfl ?_
  intro pg en s m args below meth cod s₁ B hml hv
  obtain ⟨rfl, hsz, hP0, hK⟩ := hv
  have hx := B.exec
  have hb := B.bytes
  have hr := B.returns
  have hts := atoms_spec (ws := wsX11_trader) B.pre
  have hown : s.vm.findClass RX11 = some m.cls := findClass_of_methodNamed B.named
  have hlocks := B.notSynchronized
  subst hsz
  have hw := kw_H.start hP0
  generalize kw_A ad ct s.heap.size = A at hw
  have hinX11 : ∀ w ∈ wsX110, w ∈ wsX11_trader := by decide +kernel
  have hl := lv_entry ([.ref (ad 200), .int kind, .long p1]) (n := 5) (Nat.le_of_ble_eq_true rfl)
  rw [lg_entry_eq]
  generalize (lg_sl ([.ref (ad 200), .int kind, .long p1]) ++ List.replicate (5 - (lg_sl ([.ref (ad 200), .int kind, .long p1])).length) Slot.unset).toArray = ls at hl ⊢
  have hl : lv_has ls 5 [(0, .ref (ad 200)), (1, .int kind), (2, .long p1)] := hl
  have S0 : CallFix pg m cod cX11_trader 5 s _ wsX11_trader RX11 := ⟨hx, hb, hml, hown, hts⟩
  refine lv_iload_n hx hb dX11_trader_0 rfl (lv_at hl 1 rfl) ?_
  refine lv_i2l (v := kind.toInt64) hx hb dX11_trader_1 rfl ?_
  refine lv_lconst (v := 0) hx hb dX11_trader_2 (by decide) ?_
  refine lv_ldc2 (v := 2) hx hb hown (hts (.constantLong RX11 76 (2)) (by decide +kernel)) dX11_trader_3 ?_
  refine kc_s (As := [.long kind.toInt64, .long 0, .long 2]) (rest := []) S0 (c_X11_within l D tc s.heap.size ad ct ) (va_cwS 3 hts gX11_trader_X11_within rfl rfl rfl (by decide +kernel) ⟨Nat.le_of_ble_eq_true rfl, Nat.le_of_ble_eq_true rfl⟩) hK hw rfl hl.1 rfl (Nat.le_of_ble_eq_true rfl) dX11_trader_6 ⟨Nat.le_of_ble_eq_true rfl, (Nat.le_of_ble_eq_true rfl)⟩ ?_
  refine kb_ifeq (tgt := 23) hx hb dX11_trader_9 (by decide) (fun c_1 => ?_) (fun c_1 => ?_)
  · exact absurd hk c_1
  · refine lv_lload_n hx hb dX11_trader_12 rfl (lv_at hl 2 rfl) ?_
    refine lv_lconst (v := 0) hx hb dX11_trader_13 (by decide) ?_
    refine lv_ldc2 (v := 1000000000000) hx hb hown (hts (.constantLong RX11 124 (1000000000000)) (by decide +kernel)) dX11_trader_14 ?_
    refine kc_s (As := [.long p1, .long 0, .long 1000000000000]) (rest := []) S0 (c_X11_within l D tc s.heap.size ad ct ) (va_cwS 3 hts gX11_trader_X11_within rfl rfl rfl (by decide +kernel) ⟨Nat.le_of_ble_eq_true rfl, Nat.le_of_ble_eq_true rfl⟩) hK hw rfl hl.1 rfl (Nat.le_of_ble_eq_true rfl) dX11_trader_17 ⟨Nat.le_of_ble_eq_true rfl, (Nat.le_of_ble_eq_true rfl)⟩ ?_
    refine kb_ifne (tgt := 26) hx hb dX11_trader_20 (by decide) (fun c_2 => ?_) (fun c_2 => ?_)
    · refine lv_aload_n hx hb dX11_trader_26 rfl (lv_at hl 0 rfl) ?_
      refine kg_get (v := .int (nI nt)) (C := RX11) (T := TX11) (N := 27) hx hb hts hinX11 hown hK hw h0 rfl 8 (by decide) (hts (.fieldLink RX11 93 "BetMakerModel" "traders" "I") (by decide +kernel)) (fun _ h9 => h9) rfl dX11_trader_27 ?_
      refine lv_bipush (v := 6) hx hb dX11_trader_30 (by decide) ?_
      refine kn_ne nt 6 rfl rfl (by omega) (by omega) (tgt := 38) hx hb dX11_trader_32 (by decide) (fun c_3 => ?_) (fun c_3 => ?_)
      · exfalso; omega
      · refine lv_bipush (v := (-4)) hx hb dX11_trader_35 (by decide) ?_
        exact W.iret hx hb hr (fun t ht _ => ⟨rfl, ht⟩) (fun _ h => absurd h List.not_mem_nil) dX11_trader_37
    · exact absurd hp c_2
set_option maxHeartbeats 4000000 in
set_option maxRecDepth 100000 in
theorem c_X11_trader (l : Launch) (D : va_G) (tc : Nat → ClassId) (sz : Nat) (ad : Nat → Nat) (ct : Nat → Option va_E) {N nt no nf : Nat} {ft tr b cm da bs : Int32} {g : Int64}  {kd : Nat → Int32} {pu : Nat → Int64} {de : Nat → Int32} {ho : Nat → Int64} {we : Nat → Int32}           {kind : Int32} {p1 : Int64} (h0 : ct 200 = some (.inr (11, [.int ft, .int tr, .int (nI N), .int b, .ref (ad 201), .long g, .int cm, .int da, .int (nI nt), .ref (ad 202), .ref (ad 203), .ref (ad 204), .ref (ad 205), .ref (ad 206), .ref (ad 207), .ref (ad 208), .ref (ad 209), .int (nI no), .ref (ad 210), .ref (ad 211), .ref (ad 212), .ref (ad 213), .ref (ad 214), .int bs, .int (nI nf), .ref (ad 215), .ref (ad 216)]))) (h202 : ct 202 = some (eI tc 6 kd)) (h203 : ct 203 = some (eJ tc 6 pu)) (h204 : ct 204 = some (eI tc 6 de)) (h205 : ct 205 = some (eJ tc 48 ho)) (h206 : ct 206 = some (eI tc 48 we)) (hk : 0 ≤ kind.toInt64 ∧ kind.toInt64 ≤ 2) (hp : 0 ≤ p1 ∧ p1 ≤ 1000000000000) (hnt : nt < 6) (hN : N ≤ 8) : Met l yX11_trader wsX11_trader ({ frames := 1, cells := 0, slots := 0, locals := 29 }) (va_Pc [.ref (ad 200), .int kind, .long p1] (kw_B D tc sz ad ct)) (kw_Q D ad (kw_A ad ct sz) (some (.int (nI nt))) (kw_up (kw_up (kw_up (kw_up (kw_up (kw_up ct 200 (.inr (11, [.int ft, .int tr, .int (nI N), .int b, .ref (ad 201), .long g, .int cm, .int da, .int (nI (nt + 1)), .ref (ad 202), .ref (ad 203), .ref (ad 204), .ref (ad 205), .ref (ad 206), .ref (ad 207), .ref (ad 208), .ref (ad 209), .int (nI no), .ref (ad 210), .ref (ad 211), .ref (ad 212), .ref (ad 213), .ref (ad 214), .int bs, .int (nI nf), .ref (ad 215), .ref (ad 216)]))) 202 (eI tc 6 (va_up kd nt kind))) 203 (eJ tc 6 (va_up pu nt p1))) 204 (eI tc 6 (va_up de nt 0))) 205 (eJ tc 48 (kBl ho (8 * nt) 8 (fun _ => 0)))) 206 (eI tc 48 (kBl we (8 * nt) 8 (fun c => if N ≤ c then 0 else 1)))) 0) 0 0 (kw_A ad ct sz) := by
  refine Met.ofW (cc := cX11_trader) (maxL := 5) (ret := (some .int)) (by decide) rfl ?_
  intro pg en s m args below meth cod s₁ B hml hv
  obtain ⟨rfl, hsz, hP0, hK⟩ := hv
  have hx := B.exec
  have hb := B.bytes
  have hr := B.returns
  have hts := atoms_spec (ws := wsX11_trader) B.pre
  have hown : s.vm.findClass RX11 = some m.cls := findClass_of_methodNamed B.named
  have hlocks := B.notSynchronized
  subst hsz
  have hw := kw_H.start hP0
  generalize hAe : kw_A ad ct s.heap.size = A at hw ⊢
  have hA : ∀ q, s.heap.size ≤ q → A q := fun q h => by rw [← hAe]; exact Or.inr h
  have hinX11 : ∀ w ∈ wsX110, w ∈ wsX11_trader := by decide +kernel
  have hl := lv_entry ([.ref (ad 200), .int kind, .long p1]) (n := 5) (Nat.le_of_ble_eq_true rfl)
  rw [lg_entry_eq]
  generalize (lg_sl ([.ref (ad 200), .int kind, .long p1]) ++ List.replicate (5 - (lg_sl ([.ref (ad 200), .int kind, .long p1])).length) Slot.unset).toArray = ls at hl ⊢
  have hl : lv_has ls 5 [(0, .ref (ad 200)), (1, .int kind), (2, .long p1)] := hl
  have S0 : CallFix pg m cod cX11_trader 5 s _ wsX11_trader RX11 := ⟨hx, hb, hml, hown, hts⟩
  have hfr : ∀ j, j ≠ 200 → j ≠ 202 → j ≠ 203 → j ≠ 204 → j ≠ 205 → j ≠ 206 → ct j = ct j := fun _ _ _ _ _ _ _ => rfl
  refine lv_iload_n hx hb dX11_trader_0 rfl (lv_at hl 1 rfl) ?_
  refine lv_i2l (v := kind.toInt64) hx hb dX11_trader_1 rfl ?_
  refine lv_lconst (v := 0) hx hb dX11_trader_2 (by decide) ?_
  refine lv_ldc2 (v := 2) hx hb hown (hts (.constantLong RX11 76 (2)) (by decide +kernel)) dX11_trader_3 ?_
  refine kc_s (As := [.long kind.toInt64, .long 0, .long 2]) (rest := []) S0 (c_X11_within l D tc s.heap.size ad ct ) (va_cwS 3 hts gX11_trader_X11_within rfl rfl rfl (by decide +kernel) ⟨Nat.le_of_ble_eq_true rfl, Nat.le_of_ble_eq_true rfl⟩) hK hw rfl hl.1 rfl (Nat.le_of_ble_eq_true rfl) dX11_trader_6 ⟨Nat.le_of_ble_eq_true rfl, (Nat.le_of_ble_eq_true rfl)⟩ ?_
  refine kb_ifeq (tgt := 23) hx hb dX11_trader_9 (by decide) (fun c_1 => ?_) (fun c_1 => ?_)
  · exact absurd hk c_1
  · refine lv_lload_n hx hb dX11_trader_12 rfl (lv_at hl 2 rfl) ?_
    refine lv_lconst (v := 0) hx hb dX11_trader_13 (by decide) ?_
    refine lv_ldc2 (v := 1000000000000) hx hb hown (hts (.constantLong RX11 124 (1000000000000)) (by decide +kernel)) dX11_trader_14 ?_
    refine kc_s (As := [.long p1, .long 0, .long 1000000000000]) (rest := []) S0 (c_X11_within l D tc s.heap.size ad ct ) (va_cwS 3 hts gX11_trader_X11_within rfl rfl rfl (by decide +kernel) ⟨Nat.le_of_ble_eq_true rfl, Nat.le_of_ble_eq_true rfl⟩) hK hw rfl hl.1 rfl (Nat.le_of_ble_eq_true rfl) dX11_trader_17 ⟨Nat.le_of_ble_eq_true rfl, (Nat.le_of_ble_eq_true rfl)⟩ ?_
    refine kb_ifne (tgt := 26) hx hb dX11_trader_20 (by decide) (fun c_2 => ?_) (fun c_2 => ?_)
    · refine lv_aload_n hx hb dX11_trader_26 rfl (lv_at hl 0 rfl) ?_
      refine kg_get (v := .int (nI nt)) (C := RX11) (T := TX11) (N := 27) hx hb hts hinX11 hown hK hw h0 rfl 8 (by decide) (hts (.fieldLink RX11 93 "BetMakerModel" "traders" "I") (by decide +kernel)) (fun _ h9 => h9) rfl dX11_trader_27 ?_
      refine lv_bipush (v := 6) hx hb dX11_trader_30 (by decide) ?_
      refine kn_ne nt 6 rfl rfl (by omega) (by omega) (tgt := 38) hx hb dX11_trader_32 (by decide) (fun c_3 => ?_) (fun c_3 => ?_)
      · refine lv_aload_n hx hb dX11_trader_38 rfl (lv_at hl 0 rfl) ?_
        refine kg_get (v := .ref (ad 202)) (C := RX11) (T := TX11) (N := 27) hx hb hts hinX11 hown hK hw h0 rfl 9 (by decide) (hts (.fieldLink RX11 23 "BetMakerModel" "kinds" "[I") (by decide +kernel)) (fun _ h9 => h9) rfl dX11_trader_39 ?_
        refine lv_aload_n hx hb dX11_trader_42 rfl (lv_at hl 0 rfl) ?_
        refine kg_get (v := .int (nI nt)) (C := RX11) (T := TX11) (N := 27) hx hb hts hinX11 hown hK hw h0 rfl 8 (by decide) (hts (.fieldLink RX11 93 "BetMakerModel" "traders" "I") (by decide +kernel)) (fun _ h9 => h9) rfl dX11_trader_43 ?_
        refine lv_iload_n hx hb dX11_trader_46 rfl (lv_at hl 1 rfl) ?_
        refine kg_iast hx hb hK hw h202 nt rfl (by omega) (by omega) dX11_trader_47 (fun H locs hw => ?_)
        obtain ⟨ct_4, ect_4⟩ : ∃ z, z = kw_up ct 202 (eI tc 6 (va_up kd nt kind)) := ⟨_, rfl⟩
        rw [← ect_4] at hw
        have h_5 : ct_4 200 = some (.inr (11, [.int ft, .int tr, .int (nI N), .int b, .ref (ad 201), .long g, .int cm, .int da, .int (nI nt), .ref (ad 202), .ref (ad 203), .ref (ad 204), .ref (ad 205), .ref (ad 206), .ref (ad 207), .ref (ad 208), .ref (ad 209), .int (nI no), .ref (ad 210), .ref (ad 211), .ref (ad 212), .ref (ad 213), .ref (ad 214), .int bs, .int (nI nf), .ref (ad 215), .ref (ad 216)])) := by rw [ect_4, kw_up_n (by decide)]; exact h0
        have h_6 : ct_4 203 = some (eJ tc 6 pu) := by rw [ect_4, kw_up_n (by decide)]; exact h203
        have h_7 : ct_4 204 = some (eI tc 6 de) := by rw [ect_4, kw_up_n (by decide)]; exact h204
        have h_8 : ct_4 205 = some (eJ tc 48 ho) := by rw [ect_4, kw_up_n (by decide)]; exact h205
        have h_9 : ct_4 206 = some (eI tc 48 we) := by rw [ect_4, kw_up_n (by decide)]; exact h206
        have h_10 : ct_4 202 = some (eI tc 6 (va_up kd nt kind)) := by rw [ect_4]; exact kw_up_s
        have hfr_11 : ∀ j, j ≠ 200 → j ≠ 202 → j ≠ 203 → j ≠ 204 → j ≠ 205 → j ≠ 206 → ct_4 j = ct j := fun j a0 a1 a2 a3 a4 a5 => by rw [ect_4]; exact (kw_up_n a1).trans (hfr j a0 a1 a2 a3 a4 a5)
        refine lv_aload_n hx hb dX11_trader_48 rfl (lv_at hl 0 rfl) ?_
        refine kg_get (v := .ref (ad 203)) (C := RX11) (T := TX11) (N := 27) hx hb hts hinX11 hown hK hw h_5 rfl 10 (by decide) (hts (.fieldLink RX11 27 "BetMakerModel" "purse" "[J") (by decide +kernel)) (fun _ h9 => h9) rfl dX11_trader_49 ?_
        refine lv_aload_n hx hb dX11_trader_52 rfl (lv_at hl 0 rfl) ?_
        refine kg_get (v := .int (nI nt)) (C := RX11) (T := TX11) (N := 27) hx hb hts hinX11 hown hK hw h_5 rfl 8 (by decide) (hts (.fieldLink RX11 93 "BetMakerModel" "traders" "I") (by decide +kernel)) (fun _ h9 => h9) rfl dX11_trader_53 ?_
        refine lv_lload_n hx hb dX11_trader_56 rfl (lv_at hl 2 rfl) ?_
        refine kg_last hx hb hK hw h_6 nt rfl (by omega) (by omega) dX11_trader_57 (fun H locs hw => ?_)
        obtain ⟨ct_12, ect_12⟩ : ∃ z, z = kw_up ct_4 203 (eJ tc 6 (va_up pu nt p1)) := ⟨_, rfl⟩
        rw [← ect_12] at hw
        have h_13 : ct_12 200 = some (.inr (11, [.int ft, .int tr, .int (nI N), .int b, .ref (ad 201), .long g, .int cm, .int da, .int (nI nt), .ref (ad 202), .ref (ad 203), .ref (ad 204), .ref (ad 205), .ref (ad 206), .ref (ad 207), .ref (ad 208), .ref (ad 209), .int (nI no), .ref (ad 210), .ref (ad 211), .ref (ad 212), .ref (ad 213), .ref (ad 214), .int bs, .int (nI nf), .ref (ad 215), .ref (ad 216)])) := by rw [ect_12, kw_up_n (by decide)]; exact h_5
        have h_14 : ct_12 204 = some (eI tc 6 de) := by rw [ect_12, kw_up_n (by decide)]; exact h_7
        have h_15 : ct_12 205 = some (eJ tc 48 ho) := by rw [ect_12, kw_up_n (by decide)]; exact h_8
        have h_16 : ct_12 206 = some (eI tc 48 we) := by rw [ect_12, kw_up_n (by decide)]; exact h_9
        have h_17 : ct_12 202 = some (eI tc 6 (va_up kd nt kind)) := by rw [ect_12, kw_up_n (by decide)]; exact h_10
        have h_18 : ct_12 203 = some (eJ tc 6 (va_up pu nt p1)) := by rw [ect_12]; exact kw_up_s
        have hfr_19 : ∀ j, j ≠ 200 → j ≠ 202 → j ≠ 203 → j ≠ 204 → j ≠ 205 → j ≠ 206 → ct_12 j = ct j := fun j a0 a1 a2 a3 a4 a5 => by rw [ect_12]; exact (kw_up_n a2).trans (hfr_11 j a0 a1 a2 a3 a4 a5)
        refine lv_aload_n hx hb dX11_trader_58 rfl (lv_at hl 0 rfl) ?_
        refine kg_get (v := .ref (ad 204)) (C := RX11) (T := TX11) (N := 27) hx hb hts hinX11 hown hK hw h_13 rfl 11 (by decide) (hts (.fieldLink RX11 30 "BetMakerModel" "deals" "[I") (by decide +kernel)) (fun _ h9 => h9) rfl dX11_trader_59 ?_
        refine lv_aload_n hx hb dX11_trader_62 rfl (lv_at hl 0 rfl) ?_
        refine kg_get (v := .int (nI nt)) (C := RX11) (T := TX11) (N := 27) hx hb hts hinX11 hown hK hw h_13 rfl 8 (by decide) (hts (.fieldLink RX11 93 "BetMakerModel" "traders" "I") (by decide +kernel)) (fun _ h9 => h9) rfl dX11_trader_63 ?_
        refine lv_iconst (v := 0) hx hb dX11_trader_66 (by decide) ?_
        refine kg_iast hx hb hK hw h_14 nt rfl (by omega) (by omega) dX11_trader_67 (fun H locs hw => ?_)
        obtain ⟨ct_20, ect_20⟩ : ∃ z, z = kw_up ct_12 204 (eI tc 6 (va_up de nt 0)) := ⟨_, rfl⟩
        rw [← ect_20] at hw
        have h_21 : ct_20 200 = some (.inr (11, [.int ft, .int tr, .int (nI N), .int b, .ref (ad 201), .long g, .int cm, .int da, .int (nI nt), .ref (ad 202), .ref (ad 203), .ref (ad 204), .ref (ad 205), .ref (ad 206), .ref (ad 207), .ref (ad 208), .ref (ad 209), .int (nI no), .ref (ad 210), .ref (ad 211), .ref (ad 212), .ref (ad 213), .ref (ad 214), .int bs, .int (nI nf), .ref (ad 215), .ref (ad 216)])) := by rw [ect_20, kw_up_n (by decide)]; exact h_13
        have h_22 : ct_20 205 = some (eJ tc 48 ho) := by rw [ect_20, kw_up_n (by decide)]; exact h_15
        have h_23 : ct_20 206 = some (eI tc 48 we) := by rw [ect_20, kw_up_n (by decide)]; exact h_16
        have h_24 : ct_20 202 = some (eI tc 6 (va_up kd nt kind)) := by rw [ect_20, kw_up_n (by decide)]; exact h_17
        have h_25 : ct_20 203 = some (eJ tc 6 (va_up pu nt p1)) := by rw [ect_20, kw_up_n (by decide)]; exact h_18
        have h_26 : ct_20 204 = some (eI tc 6 (va_up de nt 0)) := by rw [ect_20]; exact kw_up_s
        have hfr_27 : ∀ j, j ≠ 200 → j ≠ 202 → j ≠ 203 → j ≠ 204 → j ≠ 205 → j ≠ 206 → ct_20 j = ct j := fun j a0 a1 a2 a3 a4 a5 => by rw [ect_20]; exact (kw_up_n a3).trans (hfr_19 j a0 a1 a2 a3 a4 a5)
        refine lv_iconst (v := 0) hx hb dX11_trader_68 (by decide) ?_
        refine lv_istore (lv' := [(4, .int 0), (0, .ref (ad 200)), (1, .int kind), (2, .long p1)]) hx hb dX11_trader_69 hl (by decide) rfl (fun ls hl => ?_)
        suffices lp71 : ∀ (nfu : Nat) (i : Nat) (g1 : Nat → Int64) (g2 : Nat → Int32) (ctL71 : Nat → Option va_E) (H : Heap) (locs : List Loc) (ls : Array Slot), 8 - i < nfu → i ≤ 8 → g1 = kBl ho (8 * nt) i (fun _ => 0) → g2 = kBl we (8 * nt) i (fun c => if N ≤ c then 0 else 1) → ctL71 200 = some (.inr (11, [.int ft, .int tr, .int (nI N), .int b, .ref (ad 201), .long g, .int cm, .int da, .int (nI nt), .ref (ad 202), .ref (ad 203), .ref (ad 204), .ref (ad 205), .ref (ad 206), .ref (ad 207), .ref (ad 208), .ref (ad 209), .int (nI no), .ref (ad 210), .ref (ad 211), .ref (ad 212), .ref (ad 213), .ref (ad 214), .int bs, .int (nI nf), .ref (ad 215), .ref (ad 216)])) → ctL71 205 = some (eJ tc 48 g1) → ctL71 206 = some (eI tc 48 g2) → ctL71 202 = some (eI tc 6 (va_up kd nt kind)) → ctL71 203 = some (eJ tc 6 (va_up pu nt p1)) → ctL71 204 = some (eI tc 6 (va_up de nt 0)) → (∀ j, j ≠ 200 → j ≠ 202 → j ≠ 203 → j ≠ 204 → j ≠ 205 → j ≠ 206 → ctL71 j = ct j) → kw_H D ad A s.heap ctL71 H locs s.heap.size → lv_has ls 5 [(0, .ref (ad 200)), (1, .int kind), (2, .long p1), (4, .int (nI i))] → W pg l en (headSpec wsX11_trader ({ frames := 1, cells := 0, slots := 0, locals := 29 })).room s m (([.ref (ad 200), .int kind, .long p1] : List Value).toArray) below meth cod H locs 0 0 (MQ below (kw_Q D ad A (some (.int (nI nt))) (kw_up (kw_up (kw_up (kw_up (kw_up (kw_up ct 200 (.inr (11, [.int ft, .int tr, .int (nI N), .int b, .ref (ad 201), .long g, .int cm, .int da, .int (nI (nt + 1)), .ref (ad 202), .ref (ad 203), .ref (ad 204), .ref (ad 205), .ref (ad 206), .ref (ad 207), .ref (ad 208), .ref (ad 209), .int (nI no), .ref (ad 210), .ref (ad 211), .ref (ad 212), .ref (ad 213), .ref (ad 214), .int bs, .int (nI nf), .ref (ad 215), .ref (ad 216)]))) 202 (eI tc 6 (va_up kd nt kind))) 203 (eJ tc 6 (va_up pu nt p1))) 204 (eI tc 6 (va_up de nt 0))) 205 (eJ tc 48 (kBl ho (8 * nt) 8 (fun _ => 0)))) 206 (eI tc 48 (kBl we (8 * nt) 8 (fun c => if N ≤ c then 0 else 1)))) 0) (([.ref (ad 200), .int kind, .long p1] : List Value).toArray) s 0 0 A) (F0 m 71 ls []) by
          exact lp71 (8 - 0 + 1) 0 ho we _ _ _ ls (by omega) (by omega) (by exact kBl_0 _ _ _) (by exact kBl_0 _ _ _) h_21 h_22 h_23 h_24 h_25 h_26 hfr_27 hw (by have hl9 := lv_sub hl (l' := [(0, .ref (ad 200)), (1, .int kind), (2, .long p1), (4, .int 0)]) [1, 2, 3, 0] rfl; exact hl9)
        intro n71
        induction n71 with
        | zero => intro i g1 g2 ctL71 H locs ls hfu; exact absurd hfu (Nat.not_lt_zero _)
        | succ n71 ih71 =>
          intro i g1 g2 ctL71 H locs ls hfu71 hi hg hq h_28 h_29 h_30 h_31 h_32 h_33 hfr_34 hw hl
          refine lv_iload hx hb dX11_trader_71 (lv_at hl 3 rfl) ?_
          refine lv_bipush (v := 8) hx hb dX11_trader_73 (by decide) ?_
          refine kn_ge i 8 rfl rfl (by omega) (by omega) (tgt := 129) hx hb dX11_trader_75 (by decide) (fun c_35 => ?_) (fun c_35 => ?_)
          · refine lv_aload_n hx hb dX11_trader_129 rfl (lv_at hl 0 rfl) ?_
            refine lv_dup hx hb dX11_trader_130 rfl ?_
            refine kg_get (v := .int (nI nt)) (C := RX11) (T := TX11) (N := 27) hx hb hts hinX11 hown hK hw h_28 rfl 8 (by decide) (hts (.fieldLink RX11 93 "BetMakerModel" "traders" "I") (by decide +kernel)) (fun _ h9 => h9) rfl dX11_trader_131 ?_
            refine lv_iconst (v := 1) hx hb dX11_trader_134 (by decide) ?_
            refine lv_iadd hx hb dX11_trader_135 ?_
            refine kg_put (v := .int ((nI nt) + 1)) (ty := .int) (C := RX11) (T := TX11) (N := 27) (fs' := [.int ft, .int tr, .int (nI N), .int b, .ref (ad 201), .long g, .int cm, .int da, .int ((nI nt) + 1), .ref (ad 202), .ref (ad 203), .ref (ad 204), .ref (ad 205), .ref (ad 206), .ref (ad 207), .ref (ad 208), .ref (ad 209), .int (nI no), .ref (ad 210), .ref (ad 211), .ref (ad 212), .ref (ad 213), .ref (ad 214), .int bs, .int (nI nf), .ref (ad 215), .ref (ad 216)]) hx hb hts hinX11 tyX11 tyX11_ok nmX11 hown hK hw h_28 rfl 8 (by decide) (hts (.fieldLink RX11 93 "BetMakerModel" "traders" "I") (by decide +kernel)) (fun _ h9 => h9) rfl (by decide +kernel) rfl rfl (Nat.le_of_ble_eq_true rfl) rfl dX11_trader_136 (fun H locs hw => ?_)
            obtain ⟨ct_36, ect_36⟩ : ∃ z, z = kw_up ctL71 200 (.inr (11, [.int ft, .int tr, .int (nI N), .int b, .ref (ad 201), .long g, .int cm, .int da, .int ((nI nt) + 1), .ref (ad 202), .ref (ad 203), .ref (ad 204), .ref (ad 205), .ref (ad 206), .ref (ad 207), .ref (ad 208), .ref (ad 209), .int (nI no), .ref (ad 210), .ref (ad 211), .ref (ad 212), .ref (ad 213), .ref (ad 214), .int bs, .int (nI nf), .ref (ad 215), .ref (ad 216)])) := ⟨_, rfl⟩
            rw [← ect_36] at hw
            have h_37 : ct_36 205 = some (eJ tc 48 g1) := by rw [ect_36, kw_up_n (by decide)]; exact h_29
            have h_38 : ct_36 206 = some (eI tc 48 g2) := by rw [ect_36, kw_up_n (by decide)]; exact h_30
            have h_39 : ct_36 202 = some (eI tc 6 (va_up kd nt kind)) := by rw [ect_36, kw_up_n (by decide)]; exact h_31
            have h_40 : ct_36 203 = some (eJ tc 6 (va_up pu nt p1)) := by rw [ect_36, kw_up_n (by decide)]; exact h_32
            have h_41 : ct_36 204 = some (eI tc 6 (va_up de nt 0)) := by rw [ect_36, kw_up_n (by decide)]; exact h_33
            have h_42 : ct_36 200 = some (.inr (11, [.int ft, .int tr, .int (nI N), .int b, .ref (ad 201), .long g, .int cm, .int da, .int ((nI nt) + 1), .ref (ad 202), .ref (ad 203), .ref (ad 204), .ref (ad 205), .ref (ad 206), .ref (ad 207), .ref (ad 208), .ref (ad 209), .int (nI no), .ref (ad 210), .ref (ad 211), .ref (ad 212), .ref (ad 213), .ref (ad 214), .int bs, .int (nI nf), .ref (ad 215), .ref (ad 216)])) := by rw [ect_36]; exact kw_up_s
            have hfr_43 : ∀ j, j ≠ 200 → j ≠ 202 → j ≠ 203 → j ≠ 204 → j ≠ 205 → j ≠ 206 → ct_36 j = ct j := fun j a0 a1 a2 a3 a4 a5 => by rw [ect_36]; exact (kw_up_n a0).trans (hfr_34 j a0 a1 a2 a3 a4 a5)
            refine lv_aload_n hx hb dX11_trader_139 rfl (lv_at hl 0 rfl) ?_
            refine kg_get (v := .int ((nI nt) + 1)) (C := RX11) (T := TX11) (N := 27) hx hb hts hinX11 hown hK hw h_42 rfl 8 (by decide) (hts (.fieldLink RX11 93 "BetMakerModel" "traders" "I") (by decide +kernel)) (fun _ h9 => h9) rfl dX11_trader_140 ?_
            refine lv_iconst (v := 1) hx hb dX11_trader_143 (by decide) ?_
            refine lv_isub hx hb dX11_trader_144 ?_
            refine W.eq (congrArg (fun z => F0 m 145 ls [.int z]) (show (((nI nt) + 1) - 1) = (nI nt) from by exact Int32.add_sub_cancel _ _)) ?_
            have hq_44 : ct_36 200 = some (.inr (11, [.int ft, .int tr, .int (nI N), .int b, .ref (ad 201), .long g, .int cm, .int da, .int (nI (nt + 1)), .ref (ad 202), .ref (ad 203), .ref (ad 204), .ref (ad 205), .ref (ad 206), .ref (ad 207), .ref (ad 208), .ref (ad 209), .int (nI no), .ref (ad 210), .ref (ad 211), .ref (ad 212), .ref (ad 213), .ref (ad 214), .int bs, .int (nI nf), .ref (ad 215), .ref (ad 216)])) := h_42.trans (congrArg some (show (.inr (11, [.int ft, .int tr, .int (nI N), .int b, .ref (ad 201), .long g, .int cm, .int da, .int ((nI nt) + 1), .ref (ad 202), .ref (ad 203), .ref (ad 204), .ref (ad 205), .ref (ad 206), .ref (ad 207), .ref (ad 208), .ref (ad 209), .int (nI no), .ref (ad 210), .ref (ad 211), .ref (ad 212), .ref (ad 213), .ref (ad 214), .int bs, .int (nI nf), .ref (ad 215), .ref (ad 216)]) : va_E) = .inr (11, [.int ft, .int tr, .int (nI N), .int b, .ref (ad 201), .long g, .int cm, .int da, .int (nI (nt + 1)), .ref (ad 202), .ref (ad 203), .ref (ad 204), .ref (ad 205), .ref (ad 206), .ref (ad 207), .ref (ad 208), .ref (ad 209), .int (nI no), .ref (ad 210), .ref (ad 211), .ref (ad 212), .ref (ad 213), .ref (ad 214), .int bs, .int (nI nf), .ref (ad 215), .ref (ad 216)]) from by rw [← nI_1]))
            have hq_45 := h_39
            have hq_46 := h_40
            have hq_47 := h_41
            have hq_48 : ct_36 205 = some (eJ tc 48 (kBl ho (8 * nt) 8 (fun _ => 0))) := h_37.trans (congrArg some (show (eJ tc 48 g1 : va_E) = eJ tc 48 (kBl ho (8 * nt) 8 (fun _ => 0)) from by rw [hg, show i = 8 by omega]))
            have hq_49 : ct_36 206 = some (eI tc 48 (kBl we (8 * nt) 8 (fun c => if N ≤ c then 0 else 1))) := h_38.trans (congrArg some (show (eI tc 48 g2 : va_E) = eI tc 48 (kBl we (8 * nt) 8 (fun c => if N ≤ c then 0 else 1)) from by rw [hq, show i = 8 by omega]))
            have hend := kw_eq6 hq_44 hq_45 hq_46 hq_47 hq_48 hq_49 hfr_43
            rw [hend] at hw
            exact W.iret hx hb hr (fun t ht _ => ⟨rfl, by rw [ht]; exact hw.1, hw.2.2.1, hw.2.1.F ht, by rw [ht]; exact hw.2.2.2⟩) hw.2.1.2.2 dX11_trader_145
          · refine lv_aload_n hx hb dX11_trader_78 rfl (lv_at hl 0 rfl) ?_
            refine kg_get (v := .ref (ad 205)) (C := RX11) (T := TX11) (N := 27) hx hb hts hinX11 hown hK hw h_28 rfl 12 (by decide) (hts (.fieldLink RX11 33 "BetMakerModel" "holds" "[J") (by decide +kernel)) (fun _ h9 => h9) rfl dX11_trader_79 ?_
            refine lv_bipush (v := 8) hx hb dX11_trader_82 (by decide) ?_
            refine lv_aload_n hx hb dX11_trader_84 rfl (lv_at hl 0 rfl) ?_
            refine kg_get (v := .int (nI nt)) (C := RX11) (T := TX11) (N := 27) hx hb hts hinX11 hown hK hw h_28 rfl 8 (by decide) (hts (.fieldLink RX11 93 "BetMakerModel" "traders" "I") (by decide +kernel)) (fun _ h9 => h9) rfl dX11_trader_85 ?_
            refine lv_imul hx hb dX11_trader_88 ?_
            refine lv_iload hx hb dX11_trader_89 (lv_at hl 3 rfl) ?_
            refine lv_iadd hx hb dX11_trader_91 ?_
            refine lv_lconst (v := 0) hx hb dX11_trader_92 (by decide) ?_
            refine kg_last hx hb hK hw h_29 ((8 * nt) + i) (by simp only [kn_lit, nI_add, pk_mul, nI_1]) (by omega) (by omega) dX11_trader_93 (fun H locs hw => ?_)
            obtain ⟨ct_50, ect_50⟩ : ∃ z, z = kw_up ctL71 205 (eJ tc 48 (va_up g1 ((8 * nt) + i) 0)) := ⟨_, rfl⟩
            rw [← ect_50] at hw
            have h_51 : ct_50 200 = some (.inr (11, [.int ft, .int tr, .int (nI N), .int b, .ref (ad 201), .long g, .int cm, .int da, .int (nI nt), .ref (ad 202), .ref (ad 203), .ref (ad 204), .ref (ad 205), .ref (ad 206), .ref (ad 207), .ref (ad 208), .ref (ad 209), .int (nI no), .ref (ad 210), .ref (ad 211), .ref (ad 212), .ref (ad 213), .ref (ad 214), .int bs, .int (nI nf), .ref (ad 215), .ref (ad 216)])) := by rw [ect_50, kw_up_n (by decide)]; exact h_28
            have h_52 : ct_50 206 = some (eI tc 48 g2) := by rw [ect_50, kw_up_n (by decide)]; exact h_30
            have h_53 : ct_50 202 = some (eI tc 6 (va_up kd nt kind)) := by rw [ect_50, kw_up_n (by decide)]; exact h_31
            have h_54 : ct_50 203 = some (eJ tc 6 (va_up pu nt p1)) := by rw [ect_50, kw_up_n (by decide)]; exact h_32
            have h_55 : ct_50 204 = some (eI tc 6 (va_up de nt 0)) := by rw [ect_50, kw_up_n (by decide)]; exact h_33
            have h_56 : ct_50 205 = some (eJ tc 48 (va_up g1 ((8 * nt) + i) 0)) := by rw [ect_50]; exact kw_up_s
            have hfr_57 : ∀ j, j ≠ 200 → j ≠ 202 → j ≠ 203 → j ≠ 204 → j ≠ 205 → j ≠ 206 → ct_50 j = ct j := fun j a0 a1 a2 a3 a4 a5 => by rw [ect_50]; exact (kw_up_n a4).trans (hfr_34 j a0 a1 a2 a3 a4 a5)
            refine lv_aload_n hx hb dX11_trader_94 rfl (lv_at hl 0 rfl) ?_
            refine kg_get (v := .ref (ad 206)) (C := RX11) (T := TX11) (N := 27) hx hb hts hinX11 hown hK hw h_51 rfl 13 (by decide) (hts (.fieldLink RX11 36 "BetMakerModel" "weight" "[I") (by decide +kernel)) (fun _ h9 => h9) rfl dX11_trader_95 ?_
            refine lv_bipush (v := 8) hx hb dX11_trader_98 (by decide) ?_
            refine lv_aload_n hx hb dX11_trader_100 rfl (lv_at hl 0 rfl) ?_
            refine kg_get (v := .int (nI nt)) (C := RX11) (T := TX11) (N := 27) hx hb hts hinX11 hown hK hw h_51 rfl 8 (by decide) (hts (.fieldLink RX11 93 "BetMakerModel" "traders" "I") (by decide +kernel)) (fun _ h9 => h9) rfl dX11_trader_101 ?_
            refine lv_imul hx hb dX11_trader_104 ?_
            refine lv_iload hx hb dX11_trader_105 (lv_at hl 3 rfl) ?_
            refine lv_iadd hx hb dX11_trader_107 ?_
            refine lv_iload hx hb dX11_trader_108 (lv_at hl 3 rfl) ?_
            refine lv_aload_n hx hb dX11_trader_110 rfl (lv_at hl 0 rfl) ?_
            refine kg_get (v := .int (nI N)) (C := RX11) (T := TX11) (N := 27) hx hb hts hinX11 hown hK hw h_51 rfl 2 (by decide) (hts (.fieldLink RX11 7 "BetMakerModel" "cases" "I") (by decide +kernel)) (fun _ h9 => h9) rfl dX11_trader_111 ?_
            refine kn_ge i N rfl rfl (by omega) (by omega) (tgt := 121) hx hb dX11_trader_114 (by decide) (fun c_58 => ?_) (fun c_58 => ?_)
            · refine lv_iconst (v := 0) hx hb dX11_trader_121 (by decide) ?_
              refine kg_iast hx hb hK hw h_52 ((8 * nt) + i) (by simp only [kn_lit, nI_add, pk_mul, nI_1]) (by omega) (by omega) dX11_trader_122 (fun H locs hw => ?_)
              obtain ⟨ct_59, ect_59⟩ : ∃ z, z = kw_up ct_50 206 (eI tc 48 (va_up g2 ((8 * nt) + i) 0)) := ⟨_, rfl⟩
              rw [← ect_59] at hw
              have h_60 : ct_59 200 = some (.inr (11, [.int ft, .int tr, .int (nI N), .int b, .ref (ad 201), .long g, .int cm, .int da, .int (nI nt), .ref (ad 202), .ref (ad 203), .ref (ad 204), .ref (ad 205), .ref (ad 206), .ref (ad 207), .ref (ad 208), .ref (ad 209), .int (nI no), .ref (ad 210), .ref (ad 211), .ref (ad 212), .ref (ad 213), .ref (ad 214), .int bs, .int (nI nf), .ref (ad 215), .ref (ad 216)])) := by rw [ect_59, kw_up_n (by decide)]; exact h_51
              have h_61 : ct_59 202 = some (eI tc 6 (va_up kd nt kind)) := by rw [ect_59, kw_up_n (by decide)]; exact h_53
              have h_62 : ct_59 203 = some (eJ tc 6 (va_up pu nt p1)) := by rw [ect_59, kw_up_n (by decide)]; exact h_54
              have h_63 : ct_59 204 = some (eI tc 6 (va_up de nt 0)) := by rw [ect_59, kw_up_n (by decide)]; exact h_55
              have h_64 : ct_59 205 = some (eJ tc 48 (va_up g1 ((8 * nt) + i) 0)) := by rw [ect_59, kw_up_n (by decide)]; exact h_56
              have h_65 : ct_59 206 = some (eI tc 48 (va_up g2 ((8 * nt) + i) 0)) := by rw [ect_59]; exact kw_up_s
              have hfr_66 : ∀ j, j ≠ 200 → j ≠ 202 → j ≠ 203 → j ≠ 204 → j ≠ 205 → j ≠ 206 → ct_59 j = ct j := fun j a0 a1 a2 a3 a4 a5 => by rw [ect_59]; exact (kw_up_n a5).trans (hfr_57 j a0 a1 a2 a3 a4 a5)
              refine lv_iinc (v := (nI (i + 1))) (lv' := [(4, .int (nI (i + 1))), (0, .ref (ad 200)), (1, .int kind), (2, .long p1)]) hx hb dX11_trader_123 hl (k := 3) rfl (nI_1 i) (by decide) rfl (fun ls hl => ?_)
              refine lv_goto (tgt := 71) hx hb dX11_trader_126 (by decide) ?_
              exact ih71 (i + 1) (va_up g1 ((8 * nt) + i) 0) (va_up g2 ((8 * nt) + i) 0) _ _ _ ls (by omega) (by omega) (by rw [hg]; exact kBl_s ho (8 * nt) i (fun _ => 0)) (by rw [hq, ← kBl_s]; exact congrArg _ (if_pos c_58).symm) h_60 h_64 h_65 h_61 h_62 h_63 hfr_66 hw (lv_sub hl [1, 2, 3, 0] rfl)
            · refine lv_iconst (v := 1) hx hb dX11_trader_117 (by decide) ?_
              refine lv_goto (tgt := 122) hx hb dX11_trader_118 (by decide) ?_
              refine kg_iast hx hb hK hw h_52 ((8 * nt) + i) (by simp only [kn_lit, nI_add, pk_mul, nI_1]) (by omega) (by omega) dX11_trader_122 (fun H locs hw => ?_)
              obtain ⟨ct_67, ect_67⟩ : ∃ z, z = kw_up ct_50 206 (eI tc 48 (va_up g2 ((8 * nt) + i) 1)) := ⟨_, rfl⟩
              rw [← ect_67] at hw
              have h_68 : ct_67 200 = some (.inr (11, [.int ft, .int tr, .int (nI N), .int b, .ref (ad 201), .long g, .int cm, .int da, .int (nI nt), .ref (ad 202), .ref (ad 203), .ref (ad 204), .ref (ad 205), .ref (ad 206), .ref (ad 207), .ref (ad 208), .ref (ad 209), .int (nI no), .ref (ad 210), .ref (ad 211), .ref (ad 212), .ref (ad 213), .ref (ad 214), .int bs, .int (nI nf), .ref (ad 215), .ref (ad 216)])) := by rw [ect_67, kw_up_n (by decide)]; exact h_51
              have h_69 : ct_67 202 = some (eI tc 6 (va_up kd nt kind)) := by rw [ect_67, kw_up_n (by decide)]; exact h_53
              have h_70 : ct_67 203 = some (eJ tc 6 (va_up pu nt p1)) := by rw [ect_67, kw_up_n (by decide)]; exact h_54
              have h_71 : ct_67 204 = some (eI tc 6 (va_up de nt 0)) := by rw [ect_67, kw_up_n (by decide)]; exact h_55
              have h_72 : ct_67 205 = some (eJ tc 48 (va_up g1 ((8 * nt) + i) 0)) := by rw [ect_67, kw_up_n (by decide)]; exact h_56
              have h_73 : ct_67 206 = some (eI tc 48 (va_up g2 ((8 * nt) + i) 1)) := by rw [ect_67]; exact kw_up_s
              have hfr_74 : ∀ j, j ≠ 200 → j ≠ 202 → j ≠ 203 → j ≠ 204 → j ≠ 205 → j ≠ 206 → ct_67 j = ct j := fun j a0 a1 a2 a3 a4 a5 => by rw [ect_67]; exact (kw_up_n a5).trans (hfr_57 j a0 a1 a2 a3 a4 a5)
              refine lv_iinc (v := (nI (i + 1))) (lv' := [(4, .int (nI (i + 1))), (0, .ref (ad 200)), (1, .int kind), (2, .long p1)]) hx hb dX11_trader_123 hl (k := 3) rfl (nI_1 i) (by decide) rfl (fun ls hl => ?_)
              refine lv_goto (tgt := 71) hx hb dX11_trader_126 (by decide) ?_
              exact ih71 (i + 1) (va_up g1 ((8 * nt) + i) 0) (va_up g2 ((8 * nt) + i) 1) _ _ _ ls (by omega) (by omega) (by rw [hg]; exact kBl_s ho (8 * nt) i (fun _ => 0)) (by rw [hq, ← kBl_s]; exact congrArg _ (if_neg (Nat.not_le.mpr c_58)).symm) h_68 h_72 h_73 h_69 h_70 h_71 hfr_74 hw (lv_sub hl [1, 2, 3, 0] rfl)
      · exfalso; omega
    · exact absurd hp c_2
set_option maxHeartbeats 4000000 in
set_option maxRecDepth 100000 in
theorem c_X11_deal_u (l : Launch) (D : va_G) (tc : Nat → ClassId) (sz : Nat) (ad : Nat → Nat) (ct : Nat → Option va_E) {N nt no nf : Nat} {ft tr b cm da bs : Int32} {g : Int64}                 {t set x : Int32} (h0 : ct 200 = some (.inr (11, [.int ft, .int tr, .int (nI N), .int b, .ref (ad 201), .long g, .int cm, .int da, .int (nI nt), .ref (ad 202), .ref (ad 203), .ref (ad 204), .ref (ad 205), .ref (ad 206), .ref (ad 207), .ref (ad 208), .ref (ad 209), .int (nI no), .ref (ad 210), .ref (ad 211), .ref (ad 212), .ref (ad 213), .ref (ad 214), .int bs, .int (nI nf), .ref (ad 215), .ref (ad 216)]))) (ht : ¬ (0 ≤ t ∧ t < nI nt)) : Met l yX11_deal wsX11_deal ({ frames := 5, cells := 0, slots := 0, locals := 146 }) (va_Pc [.ref (ad 200), .int t, .int set, .int x] (kw_B D tc sz ad ct)) (k2_QcV (.int (-1))) 0 0 (fun _ => False) := by
  refine Met.ofW (cc := cX11_deal) (maxL := 8) (ret := (some .int)) (by decide) rfl ?_
  intro pg en s m args below meth cod s₁ B hml hv
  obtain ⟨rfl, hsz, hP0, hK⟩ := hv
  have hx := B.exec
  have hb := B.bytes
  have hr := B.returns
  have hts := atoms_spec (ws := wsX11_deal) B.pre
  have hown : s.vm.findClass RX11 = some m.cls := findClass_of_methodNamed B.named
  have hlocks := B.notSynchronized
  subst hsz
  have hw := kw_H.start hP0
  generalize kw_A ad ct s.heap.size = A at hw
  have hinX11 : ∀ w ∈ wsX110, w ∈ wsX11_deal := by decide +kernel
  have hl := lv_entry ([.ref (ad 200), .int t, .int set, .int x]) (n := 8) (Nat.le_of_ble_eq_true rfl)
  rw [lg_entry_eq]
  generalize (lg_sl ([.ref (ad 200), .int t, .int set, .int x]) ++ List.replicate (8 - (lg_sl ([.ref (ad 200), .int t, .int set, .int x])).length) Slot.unset).toArray = ls at hl ⊢
  have hl : lv_has ls 8 [(0, .ref (ad 200)), (1, .int t), (2, .int set), (3, .int x)] := hl
  have S0 : CallFix pg m cod cX11_deal 8 s _ wsX11_deal RX11 := ⟨hx, hb, hml, hown, hts⟩
  refine lv_aload_n hx hb dX11_deal_0 rfl (lv_at hl 0 rfl) ?_
  refine lv_iload_n hx hb dX11_deal_1 rfl (lv_at hl 1 rfl) ?_
  refine lv_iload_n hx hb dX11_deal_2 rfl (lv_at hl 2 rfl) ?_
  refine lv_iload_n hx hb dX11_deal_3 rfl (lv_at hl 3 rfl) ?_
  refine kc_v (As := [.int t, .int set, .int x]) (rest := []) S0 (c_X11_barred_u l D tc s.heap.size ad ct (N := N) (nt := nt) (no := no) (nf := nf) h0 ht) (cwV 3 hts gX11_deal_X11_barred rfl rfl rfl (by decide +kernel) ⟨Nat.le_of_ble_eq_true rfl, Nat.le_of_ble_eq_true rfl⟩) hK hw h0 rfl rfl hl.1 rfl (Nat.le_of_ble_eq_true rfl) dX11_deal_4 ⟨Nat.le_of_ble_eq_true rfl, (Nat.le_of_ble_eq_true rfl)⟩ ?_
  refine lv_istore (lv' := [(4, .int (-1)), (0, .ref (ad 200)), (1, .int t), (2, .int set), (3, .int x)]) hx hb dX11_deal_7 hl (by decide) rfl (fun ls hl => ?_)
  refine lv_iload hx hb dX11_deal_9 (lv_at hl 0 rfl) ?_
  refine lv_if_eq (tgt := 30) hx hb dX11_deal_11 (by decide) (fun c_1 => ?_) (fun c_1 => ?_)
  · exact absurd c_1 (by decide)
  · refine lv_iload hx hb dX11_deal_14 (lv_at hl 0 rfl) ?_
    refine lv_if_ge (tgt := 24) hx hb dX11_deal_16 (by decide) (fun c_2 => ?_) (fun c_2 => ?_)
    · exact absurd c_2 (by decide)
    · refine lv_iload hx hb dX11_deal_19 (lv_at hl 0 rfl) ?_
      refine lv_goto (tgt := 29) hx hb dX11_deal_21 (by decide) ?_
      exact W.iret hx hb hr (fun t ht _ => ⟨rfl, ht⟩) (fun _ h => absurd h List.not_mem_nil) dX11_deal_29
set_option maxHeartbeats 4000000 in
set_option maxRecDepth 100000 in
theorem c_X11_deal_o (l : Launch) (D : va_G) (tc : Nat → ClassId) (sz : Nat) (ad : Nat → Nat) (ct : Nat → Option va_E) {N nt no nf : Nat} {ft tr b cm da bs : Int32} {g : Int64}                 {t set x : Int32} (h0 : ct 200 = some (.inr (11, [.int ft, .int tr, .int (nI N), .int b, .ref (ad 201), .long g, .int cm, .int da, .int (nI nt), .ref (ad 202), .ref (ad 203), .ref (ad 204), .ref (ad 205), .ref (ad 206), .ref (ad 207), .ref (ad 208), .ref (ad 209), .int (nI no), .ref (ad 210), .ref (ad 211), .ref (ad 212), .ref (ad 213), .ref (ad 214), .int bs, .int (nI nf), .ref (ad 215), .ref (ad 216)]))) (ht : 0 ≤ t ∧ t < nI nt) (hbad : ¬ ((1 ≤ set.toInt64 ∧ set.toInt64 ≤ 1 <<< ((nI N).toInt64 &&& 63) - 2) ∧ ¬ x = 0 ∧ ((-1000) ≤ x.toInt64 ∧ x.toInt64 ≤ 1000))) : Met l yX11_deal wsX11_deal ({ frames := 5, cells := 0, slots := 0, locals := 146 }) (va_Pc [.ref (ad 200), .int t, .int set, .int x] (kw_B D tc sz ad ct)) (k2_QcV (.int (-2))) 0 0 (fun _ => False) := by
  refine Met.ofW (cc := cX11_deal) (maxL := 8) (ret := (some .int)) (by decide) rfl ?_
  intro pg en s m args below meth cod s₁ B hml hv
  obtain ⟨rfl, hsz, hP0, hK⟩ := hv
  have hx := B.exec
  have hb := B.bytes
  have hr := B.returns
  have hts := atoms_spec (ws := wsX11_deal) B.pre
  have hown : s.vm.findClass RX11 = some m.cls := findClass_of_methodNamed B.named
  have hlocks := B.notSynchronized
  subst hsz
  have hw := kw_H.start hP0
  generalize kw_A ad ct s.heap.size = A at hw
  have hinX11 : ∀ w ∈ wsX110, w ∈ wsX11_deal := by decide +kernel
  have hl := lv_entry ([.ref (ad 200), .int t, .int set, .int x]) (n := 8) (Nat.le_of_ble_eq_true rfl)
  rw [lg_entry_eq]
  generalize (lg_sl ([.ref (ad 200), .int t, .int set, .int x]) ++ List.replicate (8 - (lg_sl ([.ref (ad 200), .int t, .int set, .int x])).length) Slot.unset).toArray = ls at hl ⊢
  have hl : lv_has ls 8 [(0, .ref (ad 200)), (1, .int t), (2, .int set), (3, .int x)] := hl
  have S0 : CallFix pg m cod cX11_deal 8 s _ wsX11_deal RX11 := ⟨hx, hb, hml, hown, hts⟩
  refine lv_aload_n hx hb dX11_deal_0 rfl (lv_at hl 0 rfl) ?_
  refine lv_iload_n hx hb dX11_deal_1 rfl (lv_at hl 1 rfl) ?_
  refine lv_iload_n hx hb dX11_deal_2 rfl (lv_at hl 2 rfl) ?_
  refine lv_iload_n hx hb dX11_deal_3 rfl (lv_at hl 3 rfl) ?_
  refine kc_v (As := [.int t, .int set, .int x]) (rest := []) S0 (c_X11_barred_o l D tc s.heap.size ad ct (N := N) (nt := nt) (no := no) (nf := nf) h0 ht hbad) (cwV 3 hts gX11_deal_X11_barred rfl rfl rfl (by decide +kernel) ⟨Nat.le_of_ble_eq_true rfl, Nat.le_of_ble_eq_true rfl⟩) hK hw h0 rfl rfl hl.1 rfl (Nat.le_of_ble_eq_true rfl) dX11_deal_4 ⟨Nat.le_of_ble_eq_true rfl, (Nat.le_of_ble_eq_true rfl)⟩ ?_
  refine lv_istore (lv' := [(4, .int (-2)), (0, .ref (ad 200)), (1, .int t), (2, .int set), (3, .int x)]) hx hb dX11_deal_7 hl (by decide) rfl (fun ls hl => ?_)
  refine lv_iload hx hb dX11_deal_9 (lv_at hl 0 rfl) ?_
  refine lv_if_eq (tgt := 30) hx hb dX11_deal_11 (by decide) (fun c_1 => ?_) (fun c_1 => ?_)
  · exact absurd c_1 (by decide)
  · refine lv_iload hx hb dX11_deal_14 (lv_at hl 0 rfl) ?_
    refine lv_if_ge (tgt := 24) hx hb dX11_deal_16 (by decide) (fun c_2 => ?_) (fun c_2 => ?_)
    · exact absurd c_2 (by decide)
    · refine lv_iload hx hb dX11_deal_19 (lv_at hl 0 rfl) ?_
      refine lv_goto (tgt := 29) hx hb dX11_deal_21 (by decide) ?_
      exact W.iret hx hb hr (fun t ht _ => ⟨rfl, ht⟩) (fun _ h => absurd h List.not_mem_nil) dX11_deal_29
set_option maxHeartbeats 4000000 in
set_option maxRecDepth 100000 in
theorem c_X11_deal_s (l : Launch) (D : va_G) (tc : Nat → ClassId) (sz : Nat) (ad : Nat → Nat) (ct : Nat → Option va_E) {N nt no nf : Nat} {ft tr b cm da bs : Int32} {g : Int64}                 {t set x : Int32} (h0 : ct 200 = some (.inr (11, [.int ft, .int tr, .int (nI N), .int b, .ref (ad 201), .long g, .int cm, .int da, .int (nI nt), .ref (ad 202), .ref (ad 203), .ref (ad 204), .ref (ad 205), .ref (ad 206), .ref (ad 207), .ref (ad 208), .ref (ad 209), .int (nI no), .ref (ad 210), .ref (ad 211), .ref (ad 212), .ref (ad 213), .ref (ad 214), .int bs, .int (nI nf), .ref (ad 215), .ref (ad 216)]))) (ht : 0 ≤ t ∧ t < nI nt) (hs : 1 ≤ set.toInt64 ∧ set.toInt64 ≤ 1 <<< ((nI N).toInt64 &&& 63) - 2) (hx1 : ¬ x = 0 ∧ ((-1000) ≤ x.toInt64 ∧ x.toInt64 ≤ 1000)) (hm : ¬ cm = (-9)) : Met l yX11_deal wsX11_deal ({ frames := 5, cells := 0, slots := 0, locals := 146 }) (va_Pc [.ref (ad 200), .int t, .int set, .int x] (kw_B D tc sz ad ct)) (k2_QcV (.int (-3))) 0 0 (fun _ => False) := by
  refine Met.ofW (cc := cX11_deal) (maxL := 8) (ret := (some .int)) (by decide) rfl ?_
  intro pg en s m args below meth cod s₁ B hml hv
  obtain ⟨rfl, hsz, hP0, hK⟩ := hv
  have hx := B.exec
  have hb := B.bytes
  have hr := B.returns
  have hts := atoms_spec (ws := wsX11_deal) B.pre
  have hown : s.vm.findClass RX11 = some m.cls := findClass_of_methodNamed B.named
  have hlocks := B.notSynchronized
  subst hsz
  have hw := kw_H.start hP0
  generalize kw_A ad ct s.heap.size = A at hw
  have hinX11 : ∀ w ∈ wsX110, w ∈ wsX11_deal := by decide +kernel
  have hl := lv_entry ([.ref (ad 200), .int t, .int set, .int x]) (n := 8) (Nat.le_of_ble_eq_true rfl)
  rw [lg_entry_eq]
  generalize (lg_sl ([.ref (ad 200), .int t, .int set, .int x]) ++ List.replicate (8 - (lg_sl ([.ref (ad 200), .int t, .int set, .int x])).length) Slot.unset).toArray = ls at hl ⊢
  have hl : lv_has ls 8 [(0, .ref (ad 200)), (1, .int t), (2, .int set), (3, .int x)] := hl
  have S0 : CallFix pg m cod cX11_deal 8 s _ wsX11_deal RX11 := ⟨hx, hb, hml, hown, hts⟩
  refine lv_aload_n hx hb dX11_deal_0 rfl (lv_at hl 0 rfl) ?_
  refine lv_iload_n hx hb dX11_deal_1 rfl (lv_at hl 1 rfl) ?_
  refine lv_iload_n hx hb dX11_deal_2 rfl (lv_at hl 2 rfl) ?_
  refine lv_iload_n hx hb dX11_deal_3 rfl (lv_at hl 3 rfl) ?_
  refine kc_v (As := [.int t, .int set, .int x]) (rest := []) S0 (c_X11_barred_s l D tc s.heap.size ad ct (N := N) (nt := nt) (no := no) (nf := nf) h0 ht hs hx1 hm) (cwV 3 hts gX11_deal_X11_barred rfl rfl rfl (by decide +kernel) ⟨Nat.le_of_ble_eq_true rfl, Nat.le_of_ble_eq_true rfl⟩) hK hw h0 rfl rfl hl.1 rfl (Nat.le_of_ble_eq_true rfl) dX11_deal_4 ⟨Nat.le_of_ble_eq_true rfl, (Nat.le_of_ble_eq_true rfl)⟩ ?_
  refine lv_istore (lv' := [(4, .int (-3)), (0, .ref (ad 200)), (1, .int t), (2, .int set), (3, .int x)]) hx hb dX11_deal_7 hl (by decide) rfl (fun ls hl => ?_)
  refine lv_iload hx hb dX11_deal_9 (lv_at hl 0 rfl) ?_
  refine lv_if_eq (tgt := 30) hx hb dX11_deal_11 (by decide) (fun c_1 => ?_) (fun c_1 => ?_)
  · exact absurd c_1 (by decide)
  · refine lv_iload hx hb dX11_deal_14 (lv_at hl 0 rfl) ?_
    refine lv_if_ge (tgt := 24) hx hb dX11_deal_16 (by decide) (fun c_2 => ?_) (fun c_2 => ?_)
    · exact absurd c_2 (by decide)
    · refine lv_iload hx hb dX11_deal_19 (lv_at hl 0 rfl) ?_
      refine lv_goto (tgt := 29) hx hb dX11_deal_21 (by decide) ?_
      exact W.iret hx hb hr (fun t ht _ => ⟨rfl, ht⟩) (fun _ h => absurd h List.not_mem_nil) dX11_deal_29
set_option maxHeartbeats 4000000 in
set_option maxRecDepth 100000 in
theorem c_X11_deal_w (l : Launch) (D : va_G) (tc : Nat → ClassId) (sz : Nat) (ad : Nat → Nat) (ct : Nat → Option va_E) {N nt no nf : Nat} {ft tr b cm da bs : Int32} {g : Int64} {f : Nat → Int64}  {pu : Nat → Int64}  {ho : Nat → Int64}            {t : Nat} {set x : Int32} (h0 : ct 200 = some (.inr (11, [.int ft, .int tr, .int (nI N), .int b, .ref (ad 201), .long g, .int cm, .int da, .int (nI nt), .ref (ad 202), .ref (ad 203), .ref (ad 204), .ref (ad 205), .ref (ad 206), .ref (ad 207), .ref (ad 208), .ref (ad 209), .int (nI no), .ref (ad 210), .ref (ad 211), .ref (ad 212), .ref (ad 213), .ref (ad 214), .int bs, .int (nI nf), .ref (ad 215), .ref (ad 216)]))) (h201 : ct 201 = some (eJ tc 8 f)) (h203 : ct 203 = some (eJ tc 6 pu)) (h205 : ct 205 = some (eJ tc 48 ho)) (ht : t < nt) (hnt : nt ≤ 6) (hN : N ≤ 8) (hN2 : 2 ≤ N) (hs : 1 ≤ set.toInt64 ∧ set.toInt64 ≤ 1 <<< ((nI N).toInt64 &&& 63) - 2) (hx1 : ¬ x = 0 ∧ ((-1000) ≤ x.toInt64 ∧ x.toInt64 ≤ 1000)) (hm : cm = (-9)) (hy : ¬ (kWy b N f set x.toInt64 (pu t) (fun c => ho (8 * t + c)) = 0)) (hy2 : 0 ≤ kWy b N f set x.toInt64 (pu t) (fun c => ho (8 * t + c))) : Met l yX11_deal wsX11_deal ({ frames := 5, cells := 0, slots := 0, locals := 146 }) (va_Pc [.ref (ad 200), .int (nI t), .int set, .int x] (kw_B D tc sz ad ct)) (k2_QcV (.int ((-20) - kWy b N f set x.toInt64 (pu t) (fun c => ho (8 * t + c))))) 0 0 (fun _ => False) := by
  refine Met.ofW (cc := cX11_deal) (maxL := 8) (ret := (some .int)) (by decide) rfl ?_
  intro pg en s m args below meth cod s₁ B hml hv
  obtain ⟨rfl, hsz, hP0, hK⟩ := hv
  have hx := B.exec
  have hb := B.bytes
  have hr := B.returns
  have hts := atoms_spec (ws := wsX11_deal) B.pre
  have hown : s.vm.findClass RX11 = some m.cls := findClass_of_methodNamed B.named
  have hlocks := B.notSynchronized
  subst hsz
  have hw := kw_H.start hP0
  generalize kw_A ad ct s.heap.size = A at hw
  have hinX11 : ∀ w ∈ wsX110, w ∈ wsX11_deal := by decide +kernel
  have hl := lv_entry ([.ref (ad 200), .int (nI t), .int set, .int x]) (n := 8) (Nat.le_of_ble_eq_true rfl)
  rw [lg_entry_eq]
  generalize (lg_sl ([.ref (ad 200), .int (nI t), .int set, .int x]) ++ List.replicate (8 - (lg_sl ([.ref (ad 200), .int (nI t), .int set, .int x])).length) Slot.unset).toArray = ls at hl ⊢
  have hl : lv_has ls 8 [(0, .ref (ad 200)), (1, .int (nI t)), (2, .int set), (3, .int x)] := hl
  have S0 : CallFix pg m cod cX11_deal 8 s _ wsX11_deal RX11 := ⟨hx, hb, hml, hown, hts⟩
  refine lv_aload_n hx hb dX11_deal_0 rfl (lv_at hl 0 rfl) ?_
  refine lv_iload_n hx hb dX11_deal_1 rfl (lv_at hl 1 rfl) ?_
  refine lv_iload_n hx hb dX11_deal_2 rfl (lv_at hl 2 rfl) ?_
  refine lv_iload_n hx hb dX11_deal_3 rfl (lv_at hl 3 rfl) ?_
  refine kc_v (As := [.int (nI t), .int set, .int x]) (rest := []) S0 (c_X11_barred l D tc s.heap.size ad ct (t := t) (N := N) (nt := nt) (no := no) (nf := nf) h0 h201 h203 h205 ht hnt (by omega) (by omega) hs hx1 hm) (cwV 3 hts gX11_deal_X11_barred rfl rfl rfl (by decide +kernel) ⟨Nat.le_of_ble_eq_true rfl, Nat.le_of_ble_eq_true rfl⟩) hK hw h0 rfl rfl hl.1 rfl (Nat.le_of_ble_eq_true rfl) dX11_deal_4 ⟨Nat.le_of_ble_eq_true rfl, (Nat.le_of_ble_eq_true rfl)⟩ ?_
  refine lv_istore (lv' := [(4, .int (kWy b N f set x.toInt64 (pu t) (fun c => ho (8 * t + c)))), (0, .ref (ad 200)), (1, .int (nI t)), (2, .int set), (3, .int x)]) hx hb dX11_deal_7 hl (by decide) rfl (fun ls hl => ?_)
  refine lv_iload hx hb dX11_deal_9 (lv_at hl 0 rfl) ?_
  refine lv_if_eq (tgt := 30) hx hb dX11_deal_11 (by decide) (fun c_1 => ?_) (fun c_1 => ?_)
  · exact absurd c_1 hy
  · refine lv_iload hx hb dX11_deal_14 (lv_at hl 0 rfl) ?_
    refine lv_if_ge (tgt := 24) hx hb dX11_deal_16 (by decide) (fun c_2 => ?_) (fun c_2 => ?_)
    · refine lv_bipush (v := (-20)) hx hb dX11_deal_24 (by decide) ?_
      refine lv_iload hx hb dX11_deal_26 (lv_at hl 0 rfl) ?_
      refine lv_isub hx hb dX11_deal_28 ?_
      refine W.eq (congrArg (fun z => F0 m 29 ls [.int z]) (show ((-20) - (kWy b N f set x.toInt64 (pu t) (fun c => ho (8 * t + c)))) = ((-20) - kWy b N f set x.toInt64 (pu t) (fun c => ho (8 * t + c))) from by rfl)) ?_
      exact W.iret hx hb hr (fun t ht _ => ⟨rfl, ht⟩) (fun _ h => absurd h List.not_mem_nil) dX11_deal_29
    · exact absurd hy2 c_2
set_option maxHeartbeats 4000000 in
set_option maxRecDepth 100000 in
theorem c_X11_deal (l : Launch) (D : va_G) (tc : Nat → ClassId) (sz : Nat) (ad : Nat → Nat) (ct : Nat → Option va_E) {N nt no nf : Nat} {ft tr b cm da bs : Int32} {g : Int64} {f : Nat → Int64}  {pu : Nat → Int64} {de : Nat → Int32} {ho : Nat → Int64}            {t : Nat} {set x : Int32} (h0 : ct 200 = some (.inr (11, [.int ft, .int tr, .int (nI N), .int b, .ref (ad 201), .long g, .int cm, .int da, .int (nI nt), .ref (ad 202), .ref (ad 203), .ref (ad 204), .ref (ad 205), .ref (ad 206), .ref (ad 207), .ref (ad 208), .ref (ad 209), .int (nI no), .ref (ad 210), .ref (ad 211), .ref (ad 212), .ref (ad 213), .ref (ad 214), .int bs, .int (nI nf), .ref (ad 215), .ref (ad 216)]))) (h201 : ct 201 = some (eJ tc 8 f)) (h203 : ct 203 = some (eJ tc 6 pu)) (h204 : ct 204 = some (eI tc 6 de)) (h205 : ct 205 = some (eJ tc 48 ho)) (ht : t < nt) (hnt : nt ≤ 6) (hN : N ≤ 8) (hN2 : 2 ≤ N) (hs : 1 ≤ set.toInt64 ∧ set.toInt64 ≤ 1 <<< ((nI N).toInt64 &&& 63) - 2) (hx1 : ¬ x = 0 ∧ ((-1000) ≤ x.toInt64 ∧ x.toInt64 ≤ 1000)) (hm : cm = (-9)) (hy : kWy b N f set x.toInt64 (pu t) (fun c => ho (8 * t + c)) = 0) : Met l yX11_deal wsX11_deal ({ frames := 5, cells := 0, slots := 0, locals := 146 }) (va_Pc [.ref (ad 200), .int (nI t), .int set, .int x] (kw_B D tc sz ad ct)) (kw_Q D ad (kw_A ad ct sz) (some (.int (de t + 1))) (kw_up (kw_up (kw_up (kw_up (kw_up ct 200 (.inr (11, [.int ft, .int tr, .int (nI N), .int b, .ref (ad 201), .long (g + kPd b N f set x.toInt64), .int cm, .int (da + 1), .int (nI nt), .ref (ad 202), .ref (ad 203), .ref (ad 204), .ref (ad 205), .ref (ad 206), .ref (ad 207), .ref (ad 208), .ref (ad 209), .int (nI no), .ref (ad 210), .ref (ad 211), .ref (ad 212), .ref (ad 213), .ref (ad 214), .int bs, .int (nI nf), .ref (ad 215), .ref (ad 216)]))) 201 (eJ tc 8 (kAx f set x N))) 203 (eJ tc 6 (va_up pu t (pu t - kPd b N f set x.toInt64)))) 204 (eI tc 6 (va_up de t (de t + 1)))) 205 (eJ tc 48 (kHx ho (8 * t) set x N))) 0) 0 0 (kw_A ad ct sz) := by
  refine Met.ofW (cc := cX11_deal) (maxL := 8) (ret := (some .int)) (by decide) rfl ?_
  intro pg en s m args below meth cod s₁ B hml hv
  obtain ⟨rfl, hsz, hP0, hK⟩ := hv
  have hx := B.exec
  have hb := B.bytes
  have hr := B.returns
  have hts := atoms_spec (ws := wsX11_deal) B.pre
  have hown : s.vm.findClass RX11 = some m.cls := findClass_of_methodNamed B.named
  have hlocks := B.notSynchronized
  subst hsz
  have hw := kw_H.start hP0
  generalize hAe : kw_A ad ct s.heap.size = A at hw ⊢
  have hA : ∀ q, s.heap.size ≤ q → A q := fun q h => by rw [← hAe]; exact Or.inr h
  have hinX11 : ∀ w ∈ wsX110, w ∈ wsX11_deal := by decide +kernel
  have hl := lv_entry ([.ref (ad 200), .int (nI t), .int set, .int x]) (n := 8) (Nat.le_of_ble_eq_true rfl)
  rw [lg_entry_eq]
  generalize (lg_sl ([.ref (ad 200), .int (nI t), .int set, .int x]) ++ List.replicate (8 - (lg_sl ([.ref (ad 200), .int (nI t), .int set, .int x])).length) Slot.unset).toArray = ls at hl ⊢
  have hl : lv_has ls 8 [(0, .ref (ad 200)), (1, .int (nI t)), (2, .int set), (3, .int x)] := hl
  have S0 : CallFix pg m cod cX11_deal 8 s _ wsX11_deal RX11 := ⟨hx, hb, hml, hown, hts⟩
  have hfr : ∀ j, j ≠ 200 → j ≠ 201 → j ≠ 203 → j ≠ 204 → j ≠ 205 → ct j = ct j := fun _ _ _ _ _ _ => rfl
  refine lv_aload_n hx hb dX11_deal_0 rfl (lv_at hl 0 rfl) ?_
  refine lv_iload_n hx hb dX11_deal_1 rfl (lv_at hl 1 rfl) ?_
  refine lv_iload_n hx hb dX11_deal_2 rfl (lv_at hl 2 rfl) ?_
  refine lv_iload_n hx hb dX11_deal_3 rfl (lv_at hl 3 rfl) ?_
  refine kc_v (As := [.int (nI t), .int set, .int x]) (rest := []) S0 (c_X11_barred l D tc s.heap.size ad ct (t := t) (N := N) (nt := nt) (no := no) (nf := nf) h0 h201 h203 h205 ht hnt (by omega) (by omega) hs hx1 hm) (cwV 3 hts gX11_deal_X11_barred rfl rfl rfl (by decide +kernel) ⟨Nat.le_of_ble_eq_true rfl, Nat.le_of_ble_eq_true rfl⟩) hK hw h0 rfl rfl hl.1 rfl (Nat.le_of_ble_eq_true rfl) dX11_deal_4 ⟨Nat.le_of_ble_eq_true rfl, (Nat.le_of_ble_eq_true rfl)⟩ ?_
  refine lv_istore (lv' := [(4, .int (kWy b N f set x.toInt64 (pu t) (fun c => ho (8 * t + c)))), (0, .ref (ad 200)), (1, .int (nI t)), (2, .int set), (3, .int x)]) hx hb dX11_deal_7 hl (by decide) rfl (fun ls hl => ?_)
  refine lv_iload hx hb dX11_deal_9 (lv_at hl 0 rfl) ?_
  refine lv_if_eq (tgt := 30) hx hb dX11_deal_11 (by decide) (fun c_1 => ?_) (fun c_1 => ?_)
  · refine lv_aload_n hx hb dX11_deal_30 rfl (lv_at hl 1 rfl) ?_
    refine lv_iload_n hx hb dX11_deal_31 rfl (lv_at hl 3 rfl) ?_
    refine lv_iload_n hx hb dX11_deal_32 rfl (lv_at hl 4 rfl) ?_
    refine lv_i2l (v := x.toInt64) hx hb dX11_deal_33 rfl ?_
    refine kc_v (As := [.int set, .long x.toInt64]) (rest := []) S0 (c_X11_paid l D tc s.heap.size ad ct (N := N) (nt := nt) (no := no) (nf := nf) h0 h201 (by omega)) (cwV 2 hts gX11_deal_X11_paid rfl rfl rfl (by decide +kernel) ⟨Nat.le_of_ble_eq_true rfl, Nat.le_of_ble_eq_true rfl⟩) hK hw h0 rfl rfl hl.1 rfl (Nat.le_of_ble_eq_true rfl) dX11_deal_34 ⟨Nat.le_of_ble_eq_true rfl, (Nat.le_of_ble_eq_true rfl)⟩ ?_
    refine lv_lstore (lv' := [(5, .long (kPd b N f set x.toInt64)), (4, .int (kWy b N f set x.toInt64 (pu t) (fun c => ho (8 * t + c)))), (0, .ref (ad 200)), (1, .int (nI t)), (2, .int set), (3, .int x)]) hx hb dX11_deal_37 hl (by decide) rfl (fun ls hl => ?_)
    refine lv_aload_n hx hb dX11_deal_39 rfl (lv_at hl 2 rfl) ?_
    refine kg_get (v := .ref (ad 203)) (C := RX11) (T := TX11) (N := 27) hx hb hts hinX11 hown hK hw h0 rfl 10 (by decide) (hts (.fieldLink RX11 27 "BetMakerModel" "purse" "[J") (by decide +kernel)) (fun _ h9 => h9) rfl dX11_deal_40 ?_
    refine lv_iload_n hx hb dX11_deal_43 rfl (lv_at hl 3 rfl) ?_
    refine lv_dup2_11 hx hb dX11_deal_44 rfl rfl ?_
    refine kg_lald hx hb hK hw h203 t rfl (by omega) (by omega) dX11_deal_45 ?_
    refine lv_lload hx hb dX11_deal_46 (lv_at hl 0 rfl) ?_
    refine lv_lsub hx hb dX11_deal_48 ?_
    refine kg_last hx hb hK hw h203 t rfl (by omega) (by omega) dX11_deal_49 (fun H locs hw => ?_)
    obtain ⟨ct_2, ect_2⟩ : ∃ z, z = kw_up ct 203 (eJ tc 6 (va_up pu t ((pu t) - (kPd b N f set x.toInt64)))) := ⟨_, rfl⟩
    rw [← ect_2] at hw
    have h_3 : ct_2 200 = some (.inr (11, [.int ft, .int tr, .int (nI N), .int b, .ref (ad 201), .long g, .int cm, .int da, .int (nI nt), .ref (ad 202), .ref (ad 203), .ref (ad 204), .ref (ad 205), .ref (ad 206), .ref (ad 207), .ref (ad 208), .ref (ad 209), .int (nI no), .ref (ad 210), .ref (ad 211), .ref (ad 212), .ref (ad 213), .ref (ad 214), .int bs, .int (nI nf), .ref (ad 215), .ref (ad 216)])) := by rw [ect_2, kw_up_n (by decide)]; exact h0
    have h_4 : ct_2 201 = some (eJ tc 8 f) := by rw [ect_2, kw_up_n (by decide)]; exact h201
    have h_5 : ct_2 204 = some (eI tc 6 de) := by rw [ect_2, kw_up_n (by decide)]; exact h204
    have h_6 : ct_2 205 = some (eJ tc 48 ho) := by rw [ect_2, kw_up_n (by decide)]; exact h205
    have h_7 : ct_2 203 = some (eJ tc 6 (va_up pu t ((pu t) - (kPd b N f set x.toInt64)))) := by rw [ect_2]; exact kw_up_s
    have hfr_8 : ∀ j, j ≠ 200 → j ≠ 201 → j ≠ 203 → j ≠ 204 → j ≠ 205 → ct_2 j = ct j := fun j a0 a1 a2 a3 a4 => by rw [ect_2]; exact (kw_up_n a2).trans (hfr j a0 a1 a2 a3 a4)
    refine lv_aload_n hx hb dX11_deal_50 rfl (lv_at hl 2 rfl) ?_
    refine lv_dup hx hb dX11_deal_51 rfl ?_
    refine kg_get (v := .long g) (C := RX11) (T := TX11) (N := 27) hx hb hts hinX11 hown hK hw h_3 rfl 5 (by decide) (hts (.fieldLink RX11 86 "BetMakerModel" "gain" "J") (by decide +kernel)) (fun _ h9 => h9) rfl dX11_deal_52 ?_
    refine lv_lload hx hb dX11_deal_55 (lv_at hl 0 rfl) ?_
    refine lv_ladd hx hb dX11_deal_57 ?_
    refine kg_put (v := .long (g + (kPd b N f set x.toInt64))) (ty := .long) (C := RX11) (T := TX11) (N := 27) (fs' := [.int ft, .int tr, .int (nI N), .int b, .ref (ad 201), .long (g + (kPd b N f set x.toInt64)), .int cm, .int da, .int (nI nt), .ref (ad 202), .ref (ad 203), .ref (ad 204), .ref (ad 205), .ref (ad 206), .ref (ad 207), .ref (ad 208), .ref (ad 209), .int (nI no), .ref (ad 210), .ref (ad 211), .ref (ad 212), .ref (ad 213), .ref (ad 214), .int bs, .int (nI nf), .ref (ad 215), .ref (ad 216)]) hx hb hts hinX11 tyX11 tyX11_ok nmX11 hown hK hw h_3 rfl 5 (by decide) (hts (.fieldLink RX11 86 "BetMakerModel" "gain" "J") (by decide +kernel)) (fun _ h9 => h9) rfl (by decide +kernel) rfl rfl (Nat.le_of_ble_eq_true rfl) rfl dX11_deal_58 (fun H locs hw => ?_)
    obtain ⟨ct_9, ect_9⟩ : ∃ z, z = kw_up ct_2 200 (.inr (11, [.int ft, .int tr, .int (nI N), .int b, .ref (ad 201), .long (g + (kPd b N f set x.toInt64)), .int cm, .int da, .int (nI nt), .ref (ad 202), .ref (ad 203), .ref (ad 204), .ref (ad 205), .ref (ad 206), .ref (ad 207), .ref (ad 208), .ref (ad 209), .int (nI no), .ref (ad 210), .ref (ad 211), .ref (ad 212), .ref (ad 213), .ref (ad 214), .int bs, .int (nI nf), .ref (ad 215), .ref (ad 216)])) := ⟨_, rfl⟩
    rw [← ect_9] at hw
    have h_10 : ct_9 201 = some (eJ tc 8 f) := by rw [ect_9, kw_up_n (by decide)]; exact h_4
    have h_11 : ct_9 204 = some (eI tc 6 de) := by rw [ect_9, kw_up_n (by decide)]; exact h_5
    have h_12 : ct_9 205 = some (eJ tc 48 ho) := by rw [ect_9, kw_up_n (by decide)]; exact h_6
    have h_13 : ct_9 203 = some (eJ tc 6 (va_up pu t ((pu t) - (kPd b N f set x.toInt64)))) := by rw [ect_9, kw_up_n (by decide)]; exact h_7
    have h_14 : ct_9 200 = some (.inr (11, [.int ft, .int tr, .int (nI N), .int b, .ref (ad 201), .long (g + (kPd b N f set x.toInt64)), .int cm, .int da, .int (nI nt), .ref (ad 202), .ref (ad 203), .ref (ad 204), .ref (ad 205), .ref (ad 206), .ref (ad 207), .ref (ad 208), .ref (ad 209), .int (nI no), .ref (ad 210), .ref (ad 211), .ref (ad 212), .ref (ad 213), .ref (ad 214), .int bs, .int (nI nf), .ref (ad 215), .ref (ad 216)])) := by rw [ect_9]; exact kw_up_s
    have hfr_15 : ∀ j, j ≠ 200 → j ≠ 201 → j ≠ 203 → j ≠ 204 → j ≠ 205 → ct_9 j = ct j := fun j a0 a1 a2 a3 a4 => by rw [ect_9]; exact (kw_up_n a0).trans (hfr_8 j a0 a1 a2 a3 a4)
    refine lv_iconst (v := 0) hx hb dX11_deal_61 (by decide) ?_
    refine lv_istore (lv' := [(7, .int 0), (5, .long (kPd b N f set x.toInt64)), (4, .int (kWy b N f set x.toInt64 (pu t) (fun c => ho (8 * t + c)))), (0, .ref (ad 200)), (1, .int (nI t)), (2, .int set), (3, .int x)]) hx hb dX11_deal_62 hl (by decide) rfl (fun ls hl => ?_)
    suffices lp64 : ∀ (nfu : Nat) (i : Nat) (g1 g2 : Nat → Int64) (ctL64 : Nat → Option va_E) (H : Heap) (locs : List Loc) (ls : Array Slot), N - i < nfu → i ≤ N → g1 = kAx f set x i → g2 = kHx ho (8 * t) set x i → ctL64 201 = some (eJ tc 8 g1) → ctL64 204 = some (eI tc 6 de) → ctL64 205 = some (eJ tc 48 g2) → ctL64 203 = some (eJ tc 6 (va_up pu t ((pu t) - (kPd b N f set x.toInt64)))) → ctL64 200 = some (.inr (11, [.int ft, .int tr, .int (nI N), .int b, .ref (ad 201), .long (g + (kPd b N f set x.toInt64)), .int cm, .int da, .int (nI nt), .ref (ad 202), .ref (ad 203), .ref (ad 204), .ref (ad 205), .ref (ad 206), .ref (ad 207), .ref (ad 208), .ref (ad 209), .int (nI no), .ref (ad 210), .ref (ad 211), .ref (ad 212), .ref (ad 213), .ref (ad 214), .int bs, .int (nI nf), .ref (ad 215), .ref (ad 216)])) → (∀ j, j ≠ 200 → j ≠ 201 → j ≠ 203 → j ≠ 204 → j ≠ 205 → ctL64 j = ct j) → kw_H D ad A s.heap ctL64 H locs s.heap.size → lv_has ls 8 [(0, .ref (ad 200)), (1, .int (nI t)), (2, .int set), (3, .int x), (7, .int (nI i))] → W pg l en (headSpec wsX11_deal ({ frames := 5, cells := 0, slots := 0, locals := 146 })).room s m (([.ref (ad 200), .int (nI t), .int set, .int x] : List Value).toArray) below meth cod H locs 0 0 (MQ below (kw_Q D ad A (some (.int (de t + 1))) (kw_up (kw_up (kw_up (kw_up (kw_up ct 200 (.inr (11, [.int ft, .int tr, .int (nI N), .int b, .ref (ad 201), .long (g + kPd b N f set x.toInt64), .int cm, .int (da + 1), .int (nI nt), .ref (ad 202), .ref (ad 203), .ref (ad 204), .ref (ad 205), .ref (ad 206), .ref (ad 207), .ref (ad 208), .ref (ad 209), .int (nI no), .ref (ad 210), .ref (ad 211), .ref (ad 212), .ref (ad 213), .ref (ad 214), .int bs, .int (nI nf), .ref (ad 215), .ref (ad 216)]))) 201 (eJ tc 8 (kAx f set x N))) 203 (eJ tc 6 (va_up pu t (pu t - kPd b N f set x.toInt64)))) 204 (eI tc 6 (va_up de t (de t + 1)))) 205 (eJ tc 48 (kHx ho (8 * t) set x N))) 0) (([.ref (ad 200), .int (nI t), .int set, .int x] : List Value).toArray) s 0 0 A) (F0 m 64 ls []) by
      exact lp64 (N - 0 + 1) 0 f ho _ _ _ ls (by omega) (by omega) (by exact kAx_0 f set x) (by exact kBl_0 _ _ _) h_10 h_11 h_12 h_13 h_14 hfr_15 hw (by have hl9 := lv_sub hl (l' := [(0, .ref (ad 200)), (1, .int (nI t)), (2, .int set), (3, .int x), (7, .int 0)]) [3, 4, 5, 6, 0] rfl; exact hl9)
    intro n64
    induction n64 with
    | zero => intro i g1 g2 ctL64 H locs ls hfu; exact absurd hfu (Nat.not_lt_zero _)
    | succ n64 ih64 =>
      intro i g1 g2 ctL64 H locs ls hfu64 hi hg hq h_16 h_17 h_18 h_19 h_20 hfr_21 hw hl
      refine lv_iload hx hb dX11_deal_64 (lv_at hl 4 rfl) ?_
      refine lv_aload_n hx hb dX11_deal_66 rfl (lv_at hl 0 rfl) ?_
      refine kg_get (v := .int (nI N)) (C := RX11) (T := TX11) (N := 27) hx hb hts hinX11 hown hK hw h_20 rfl 2 (by decide) (hts (.fieldLink RX11 7 "BetMakerModel" "cases" "I") (by decide +kernel)) (fun _ h9 => h9) rfl dX11_deal_67 ?_
      refine kn_ge i N rfl rfl (by omega) (by omega) (tgt := 122) hx hb dX11_deal_70 (by decide) (fun c_22 => ?_) (fun c_22 => ?_)
      · refine lv_aload_n hx hb dX11_deal_122 rfl (lv_at hl 0 rfl) ?_
        refine kg_get (v := .ref (ad 204)) (C := RX11) (T := TX11) (N := 27) hx hb hts hinX11 hown hK hw h_20 rfl 11 (by decide) (hts (.fieldLink RX11 30 "BetMakerModel" "deals" "[I") (by decide +kernel)) (fun _ h9 => h9) rfl dX11_deal_123 ?_
        refine lv_iload_n hx hb dX11_deal_126 rfl (lv_at hl 1 rfl) ?_
        refine lv_dup2_11 hx hb dX11_deal_127 rfl rfl ?_
        refine kg_iald hx hb hK hw h_17 t rfl (by omega) (by omega) dX11_deal_128 ?_
        refine lv_iconst (v := 1) hx hb dX11_deal_129 (by decide) ?_
        refine lv_iadd hx hb dX11_deal_130 ?_
        refine kg_iast hx hb hK hw h_17 t rfl (by omega) (by omega) dX11_deal_131 (fun H locs hw => ?_)
        obtain ⟨ct_23, ect_23⟩ : ∃ z, z = kw_up ctL64 204 (eI tc 6 (va_up de t ((de t) + 1))) := ⟨_, rfl⟩
        rw [← ect_23] at hw
        have h_24 : ct_23 201 = some (eJ tc 8 g1) := by rw [ect_23, kw_up_n (by decide)]; exact h_16
        have h_25 : ct_23 205 = some (eJ tc 48 g2) := by rw [ect_23, kw_up_n (by decide)]; exact h_18
        have h_26 : ct_23 203 = some (eJ tc 6 (va_up pu t ((pu t) - (kPd b N f set x.toInt64)))) := by rw [ect_23, kw_up_n (by decide)]; exact h_19
        have h_27 : ct_23 200 = some (.inr (11, [.int ft, .int tr, .int (nI N), .int b, .ref (ad 201), .long (g + (kPd b N f set x.toInt64)), .int cm, .int da, .int (nI nt), .ref (ad 202), .ref (ad 203), .ref (ad 204), .ref (ad 205), .ref (ad 206), .ref (ad 207), .ref (ad 208), .ref (ad 209), .int (nI no), .ref (ad 210), .ref (ad 211), .ref (ad 212), .ref (ad 213), .ref (ad 214), .int bs, .int (nI nf), .ref (ad 215), .ref (ad 216)])) := by rw [ect_23, kw_up_n (by decide)]; exact h_20
        have h_28 : ct_23 204 = some (eI tc 6 (va_up de t ((de t) + 1))) := by rw [ect_23]; exact kw_up_s
        have hfr_29 : ∀ j, j ≠ 200 → j ≠ 201 → j ≠ 203 → j ≠ 204 → j ≠ 205 → ct_23 j = ct j := fun j a0 a1 a2 a3 a4 => by rw [ect_23]; exact (kw_up_n a3).trans (hfr_21 j a0 a1 a2 a3 a4)
        refine lv_aload_n hx hb dX11_deal_132 rfl (lv_at hl 0 rfl) ?_
        refine lv_dup hx hb dX11_deal_133 rfl ?_
        refine kg_get (v := .int da) (C := RX11) (T := TX11) (N := 27) hx hb hts hinX11 hown hK hw h_27 rfl 7 (by decide) (hts (.fieldLink RX11 90 "BetMakerModel" "dealsOfAll" "I") (by decide +kernel)) (fun _ h9 => h9) rfl dX11_deal_134 ?_
        refine lv_iconst (v := 1) hx hb dX11_deal_137 (by decide) ?_
        refine lv_iadd hx hb dX11_deal_138 ?_
        refine kg_put (v := .int (da + 1)) (ty := .int) (C := RX11) (T := TX11) (N := 27) (fs' := [.int ft, .int tr, .int (nI N), .int b, .ref (ad 201), .long (g + (kPd b N f set x.toInt64)), .int cm, .int (da + 1), .int (nI nt), .ref (ad 202), .ref (ad 203), .ref (ad 204), .ref (ad 205), .ref (ad 206), .ref (ad 207), .ref (ad 208), .ref (ad 209), .int (nI no), .ref (ad 210), .ref (ad 211), .ref (ad 212), .ref (ad 213), .ref (ad 214), .int bs, .int (nI nf), .ref (ad 215), .ref (ad 216)]) hx hb hts hinX11 tyX11 tyX11_ok nmX11 hown hK hw h_27 rfl 7 (by decide) (hts (.fieldLink RX11 90 "BetMakerModel" "dealsOfAll" "I") (by decide +kernel)) (fun _ h9 => h9) rfl (by decide +kernel) rfl rfl (Nat.le_of_ble_eq_true rfl) rfl dX11_deal_139 (fun H locs hw => ?_)
        obtain ⟨ct_30, ect_30⟩ : ∃ z, z = kw_up ct_23 200 (.inr (11, [.int ft, .int tr, .int (nI N), .int b, .ref (ad 201), .long (g + (kPd b N f set x.toInt64)), .int cm, .int (da + 1), .int (nI nt), .ref (ad 202), .ref (ad 203), .ref (ad 204), .ref (ad 205), .ref (ad 206), .ref (ad 207), .ref (ad 208), .ref (ad 209), .int (nI no), .ref (ad 210), .ref (ad 211), .ref (ad 212), .ref (ad 213), .ref (ad 214), .int bs, .int (nI nf), .ref (ad 215), .ref (ad 216)])) := ⟨_, rfl⟩
        rw [← ect_30] at hw
        have h_31 : ct_30 201 = some (eJ tc 8 g1) := by rw [ect_30, kw_up_n (by decide)]; exact h_24
        have h_32 : ct_30 205 = some (eJ tc 48 g2) := by rw [ect_30, kw_up_n (by decide)]; exact h_25
        have h_33 : ct_30 203 = some (eJ tc 6 (va_up pu t ((pu t) - (kPd b N f set x.toInt64)))) := by rw [ect_30, kw_up_n (by decide)]; exact h_26
        have h_34 : ct_30 204 = some (eI tc 6 (va_up de t ((de t) + 1))) := by rw [ect_30, kw_up_n (by decide)]; exact h_28
        have h_35 : ct_30 200 = some (.inr (11, [.int ft, .int tr, .int (nI N), .int b, .ref (ad 201), .long (g + (kPd b N f set x.toInt64)), .int cm, .int (da + 1), .int (nI nt), .ref (ad 202), .ref (ad 203), .ref (ad 204), .ref (ad 205), .ref (ad 206), .ref (ad 207), .ref (ad 208), .ref (ad 209), .int (nI no), .ref (ad 210), .ref (ad 211), .ref (ad 212), .ref (ad 213), .ref (ad 214), .int bs, .int (nI nf), .ref (ad 215), .ref (ad 216)])) := by rw [ect_30]; exact kw_up_s
        have hfr_36 : ∀ j, j ≠ 200 → j ≠ 201 → j ≠ 203 → j ≠ 204 → j ≠ 205 → ct_30 j = ct j := fun j a0 a1 a2 a3 a4 => by rw [ect_30]; exact (kw_up_n a0).trans (hfr_29 j a0 a1 a2 a3 a4)
        refine lv_aload_n hx hb dX11_deal_142 rfl (lv_at hl 0 rfl) ?_
        refine kg_get (v := .ref (ad 204)) (C := RX11) (T := TX11) (N := 27) hx hb hts hinX11 hown hK hw h_35 rfl 11 (by decide) (hts (.fieldLink RX11 30 "BetMakerModel" "deals" "[I") (by decide +kernel)) (fun _ h9 => h9) rfl dX11_deal_143 ?_
        refine lv_iload_n hx hb dX11_deal_146 rfl (lv_at hl 1 rfl) ?_
        refine kg_iald hx hb hK hw h_34 t rfl (by omega) (by omega) dX11_deal_147 ?_
        refine W.eq (congrArg (fun z => F0 m 148 ls [.int z]) (show ((va_up de t ((de t) + 1)) t) = (de t + 1) from by exact va_up_self _ _ _)) ?_
        have hq_37 : ct_30 200 = some (.inr (11, [.int ft, .int tr, .int (nI N), .int b, .ref (ad 201), .long (g + kPd b N f set x.toInt64), .int cm, .int (da + 1), .int (nI nt), .ref (ad 202), .ref (ad 203), .ref (ad 204), .ref (ad 205), .ref (ad 206), .ref (ad 207), .ref (ad 208), .ref (ad 209), .int (nI no), .ref (ad 210), .ref (ad 211), .ref (ad 212), .ref (ad 213), .ref (ad 214), .int bs, .int (nI nf), .ref (ad 215), .ref (ad 216)])) := h_35.trans (congrArg some (show (.inr (11, [.int ft, .int tr, .int (nI N), .int b, .ref (ad 201), .long (g + (kPd b N f set x.toInt64)), .int cm, .int (da + 1), .int (nI nt), .ref (ad 202), .ref (ad 203), .ref (ad 204), .ref (ad 205), .ref (ad 206), .ref (ad 207), .ref (ad 208), .ref (ad 209), .int (nI no), .ref (ad 210), .ref (ad 211), .ref (ad 212), .ref (ad 213), .ref (ad 214), .int bs, .int (nI nf), .ref (ad 215), .ref (ad 216)]) : va_E) = .inr (11, [.int ft, .int tr, .int (nI N), .int b, .ref (ad 201), .long (g + kPd b N f set x.toInt64), .int cm, .int (da + 1), .int (nI nt), .ref (ad 202), .ref (ad 203), .ref (ad 204), .ref (ad 205), .ref (ad 206), .ref (ad 207), .ref (ad 208), .ref (ad 209), .int (nI no), .ref (ad 210), .ref (ad 211), .ref (ad 212), .ref (ad 213), .ref (ad 214), .int bs, .int (nI nf), .ref (ad 215), .ref (ad 216)]) from by rfl))
        have hq_38 : ct_30 201 = some (eJ tc 8 (kAx f set x N)) := h_31.trans (congrArg some (show (eJ tc 8 g1 : va_E) = eJ tc 8 (kAx f set x N) from by rw [hg, show i = N by omega]))
        have hq_39 : ct_30 203 = some (eJ tc 6 (va_up pu t (pu t - kPd b N f set x.toInt64))) := h_33.trans (congrArg some (show (eJ tc 6 (va_up pu t ((pu t) - (kPd b N f set x.toInt64))) : va_E) = eJ tc 6 (va_up pu t (pu t - kPd b N f set x.toInt64)) from by rfl))
        have hq_40 : ct_30 204 = some (eI tc 6 (va_up de t (de t + 1))) := h_34.trans (congrArg some (show (eI tc 6 (va_up de t ((de t) + 1)) : va_E) = eI tc 6 (va_up de t (de t + 1)) from by rfl))
        have hq_41 : ct_30 205 = some (eJ tc 48 (kHx ho (8 * t) set x N)) := h_32.trans (congrArg some (show (eJ tc 48 g2 : va_E) = eJ tc 48 (kHx ho (8 * t) set x N) from by rw [hq, show i = N by omega]))
        have hend := kw_eq5 hq_37 hq_38 hq_39 hq_40 hq_41 hfr_36
        rw [hend] at hw
        exact W.iret hx hb hr (fun t ht _ => ⟨rfl, by rw [ht]; exact hw.1, hw.2.2.1, hw.2.1.F ht, by rw [ht]; exact hw.2.2.2⟩) hw.2.1.2.2 dX11_deal_148
      · refine lv_aload_n hx hb dX11_deal_73 rfl (lv_at hl 0 rfl) ?_
        refine kg_get (v := .ref (ad 201)) (C := RX11) (T := TX11) (N := 27) hx hb hts hinX11 hown hK hw h_20 rfl 4 (by decide) (hts (.fieldLink RX11 16 "BetMakerModel" "sold" "[J") (by decide +kernel)) (fun _ h9 => h9) rfl dX11_deal_74 ?_
        refine lv_iload hx hb dX11_deal_77 (lv_at hl 4 rfl) ?_
        refine lv_dup2_11 hx hb dX11_deal_79 rfl rfl ?_
        refine kg_lald hx hb hK hw h_16 i rfl (by omega) (by omega) dX11_deal_80 ?_
        refine lv_iload_n hx hb dX11_deal_81 rfl (lv_at hl 3 rfl) ?_
        refine lv_iload_n hx hb dX11_deal_82 rfl (lv_at hl 2 rfl) ?_
        refine lv_iload hx hb dX11_deal_83 (lv_at hl 4 rfl) ?_
        refine kc_s (As := [.int set, .int (nI i)]) (rest := [.int x, .long (g1 i), .int (nI i), .ref (ad 201)]) S0 (c_X11_in l D tc s.heap.size ad ctL64 (c := i) ) (va_cwS 2 hts gX11_deal_X11_in rfl rfl rfl (by decide +kernel) ⟨Nat.le_of_ble_eq_true rfl, Nat.le_of_ble_eq_true rfl⟩) hK hw rfl hl.1 rfl (Nat.le_of_ble_eq_true rfl) dX11_deal_85 ⟨Nat.le_of_ble_eq_true rfl, (Nat.le_of_ble_eq_true rfl)⟩ ?_
        refine lv_imul hx hb dX11_deal_88 ?_
        refine lv_i2l (v := (x * (kbit set i)).toInt64) hx hb dX11_deal_89 rfl ?_
        refine lv_ladd hx hb dX11_deal_90 ?_
        refine kg_last hx hb hK hw h_16 i rfl (by omega) (by omega) dX11_deal_91 (fun H locs hw => ?_)
        obtain ⟨ct_42, ect_42⟩ : ∃ z, z = kw_up ctL64 201 (eJ tc 8 (va_up g1 i ((g1 i) + ((x * (kbit set i)).toInt64)))) := ⟨_, rfl⟩
        rw [← ect_42] at hw
        have h_43 : ct_42 204 = some (eI tc 6 de) := by rw [ect_42, kw_up_n (by decide)]; exact h_17
        have h_44 : ct_42 205 = some (eJ tc 48 g2) := by rw [ect_42, kw_up_n (by decide)]; exact h_18
        have h_45 : ct_42 203 = some (eJ tc 6 (va_up pu t ((pu t) - (kPd b N f set x.toInt64)))) := by rw [ect_42, kw_up_n (by decide)]; exact h_19
        have h_46 : ct_42 200 = some (.inr (11, [.int ft, .int tr, .int (nI N), .int b, .ref (ad 201), .long (g + (kPd b N f set x.toInt64)), .int cm, .int da, .int (nI nt), .ref (ad 202), .ref (ad 203), .ref (ad 204), .ref (ad 205), .ref (ad 206), .ref (ad 207), .ref (ad 208), .ref (ad 209), .int (nI no), .ref (ad 210), .ref (ad 211), .ref (ad 212), .ref (ad 213), .ref (ad 214), .int bs, .int (nI nf), .ref (ad 215), .ref (ad 216)])) := by rw [ect_42, kw_up_n (by decide)]; exact h_20
        have h_47 : ct_42 201 = some (eJ tc 8 (va_up g1 i ((g1 i) + ((x * (kbit set i)).toInt64)))) := by rw [ect_42]; exact kw_up_s
        have hfr_48 : ∀ j, j ≠ 200 → j ≠ 201 → j ≠ 203 → j ≠ 204 → j ≠ 205 → ct_42 j = ct j := fun j a0 a1 a2 a3 a4 => by rw [ect_42]; exact (kw_up_n a1).trans (hfr_21 j a0 a1 a2 a3 a4)
        refine lv_aload_n hx hb dX11_deal_92 rfl (lv_at hl 0 rfl) ?_
        refine kg_get (v := .ref (ad 205)) (C := RX11) (T := TX11) (N := 27) hx hb hts hinX11 hown hK hw h_46 rfl 12 (by decide) (hts (.fieldLink RX11 33 "BetMakerModel" "holds" "[J") (by decide +kernel)) (fun _ h9 => h9) rfl dX11_deal_93 ?_
        refine lv_bipush (v := 8) hx hb dX11_deal_96 (by decide) ?_
        refine lv_iload_n hx hb dX11_deal_98 rfl (lv_at hl 1 rfl) ?_
        refine lv_imul hx hb dX11_deal_99 ?_
        refine lv_iload hx hb dX11_deal_100 (lv_at hl 4 rfl) ?_
        refine lv_iadd hx hb dX11_deal_102 ?_
        refine lv_dup2_11 hx hb dX11_deal_103 rfl rfl ?_
        refine kg_lald hx hb hK hw h_44 ((8 * t) + i) (by simp only [kn_lit, nI_add, pk_mul, nI_1]) (by omega) (by omega) dX11_deal_104 ?_
        refine lv_iload_n hx hb dX11_deal_105 rfl (lv_at hl 3 rfl) ?_
        refine lv_iload_n hx hb dX11_deal_106 rfl (lv_at hl 2 rfl) ?_
        refine lv_iload hx hb dX11_deal_107 (lv_at hl 4 rfl) ?_
        refine kc_s (As := [.int set, .int (nI i)]) (rest := [.int x, .long (g2 ((8 * t) + i)), .int ((8 * (nI t)) + (nI i)), .ref (ad 205)]) S0 (c_X11_in l D tc s.heap.size ad ct_42 (c := i) ) (va_cwS 2 hts gX11_deal_X11_in rfl rfl rfl (by decide +kernel) ⟨Nat.le_of_ble_eq_true rfl, Nat.le_of_ble_eq_true rfl⟩) hK hw rfl hl.1 rfl (Nat.le_of_ble_eq_true rfl) dX11_deal_109 ⟨Nat.le_of_ble_eq_true rfl, (Nat.le_of_ble_eq_true rfl)⟩ ?_
        refine lv_imul hx hb dX11_deal_112 ?_
        refine lv_i2l (v := (x * (kbit set i)).toInt64) hx hb dX11_deal_113 rfl ?_
        refine lv_ladd hx hb dX11_deal_114 ?_
        refine kg_last hx hb hK hw h_44 ((8 * t) + i) (by simp only [kn_lit, nI_add, pk_mul, nI_1]) (by omega) (by omega) dX11_deal_115 (fun H locs hw => ?_)
        obtain ⟨ct_49, ect_49⟩ : ∃ z, z = kw_up ct_42 205 (eJ tc 48 (va_up g2 ((8 * t) + i) ((g2 ((8 * t) + i)) + ((x * (kbit set i)).toInt64)))) := ⟨_, rfl⟩
        rw [← ect_49] at hw
        have h_50 : ct_49 204 = some (eI tc 6 de) := by rw [ect_49, kw_up_n (by decide)]; exact h_43
        have h_51 : ct_49 203 = some (eJ tc 6 (va_up pu t ((pu t) - (kPd b N f set x.toInt64)))) := by rw [ect_49, kw_up_n (by decide)]; exact h_45
        have h_52 : ct_49 200 = some (.inr (11, [.int ft, .int tr, .int (nI N), .int b, .ref (ad 201), .long (g + (kPd b N f set x.toInt64)), .int cm, .int da, .int (nI nt), .ref (ad 202), .ref (ad 203), .ref (ad 204), .ref (ad 205), .ref (ad 206), .ref (ad 207), .ref (ad 208), .ref (ad 209), .int (nI no), .ref (ad 210), .ref (ad 211), .ref (ad 212), .ref (ad 213), .ref (ad 214), .int bs, .int (nI nf), .ref (ad 215), .ref (ad 216)])) := by rw [ect_49, kw_up_n (by decide)]; exact h_46
        have h_53 : ct_49 201 = some (eJ tc 8 (va_up g1 i ((g1 i) + ((x * (kbit set i)).toInt64)))) := by rw [ect_49, kw_up_n (by decide)]; exact h_47
        have h_54 : ct_49 205 = some (eJ tc 48 (va_up g2 ((8 * t) + i) ((g2 ((8 * t) + i)) + ((x * (kbit set i)).toInt64)))) := by rw [ect_49]; exact kw_up_s
        have hfr_55 : ∀ j, j ≠ 200 → j ≠ 201 → j ≠ 203 → j ≠ 204 → j ≠ 205 → ct_49 j = ct j := fun j a0 a1 a2 a3 a4 => by rw [ect_49]; exact (kw_up_n a4).trans (hfr_48 j a0 a1 a2 a3 a4)
        refine lv_iinc (v := (nI (i + 1))) (lv' := [(7, .int (nI (i + 1))), (0, .ref (ad 200)), (1, .int (nI t)), (2, .int set), (3, .int x)]) hx hb dX11_deal_116 hl (k := 4) rfl (nI_1 i) (by decide) rfl (fun ls hl => ?_)
        refine lv_goto (tgt := 64) hx hb dX11_deal_119 (by decide) ?_
        exact ih64 (i + 1) (va_up g1 i ((g1 i) + ((x * (kbit set i)).toInt64))) (va_up g2 ((8 * t) + i) ((g2 ((8 * t) + i)) + ((x * (kbit set i)).toInt64))) _ _ _ ls (by omega) (by omega) (by rw [hg]; exact kAx_s f set x i) (by rw [hq]; exact kHx_s ho (8 * t) set x i) h_53 h_50 h_54 h_51 h_52 hfr_55 hw (lv_sub hl [1, 2, 3, 4, 0] rfl)
  · exact absurd hy c_1
set_option maxHeartbeats 4000000 in
set_option maxRecDepth 100000 in
theorem c_X11_comes_u (l : Launch) (D : va_G) (tc : Nat → ClassId) (sz : Nat) (ad : Nat → Nat) (ct : Nat → Option va_E) {N nt no nf : Nat} {ft tr b cm da bs : Int32} {g : Int64}                 {c : Int32} (h0 : ct 200 = some (.inr (11, [.int ft, .int tr, .int (nI N), .int b, .ref (ad 201), .long g, .int cm, .int da, .int (nI nt), .ref (ad 202), .ref (ad 203), .ref (ad 204), .ref (ad 205), .ref (ad 206), .ref (ad 207), .ref (ad 208), .ref (ad 209), .int (nI no), .ref (ad 210), .ref (ad 211), .ref (ad 212), .ref (ad 213), .ref (ad 214), .int bs, .int (nI nf), .ref (ad 215), .ref (ad 216)]))) (hc : ¬ (0 ≤ c ∧ c < nI N)) : Met l yX11_comes wsX11_comes ({ frames := 1, cells := 0, slots := 0, locals := 25 }) (va_Pc [.ref (ad 200), .int c] (kw_B D tc sz ad ct)) (k2_QcV (.int (-1))) 0 0 (fun _ => False) := by
  refine Met.ofW (cc := cX11_comes) (maxL := 6) (ret := (some .int)) (by decide) rfl ?_
  intro pg en s m args below meth cod s₁ B hml hv
  obtain ⟨rfl, hsz, hP0, hK⟩ := hv
  have hx := B.exec
  have hb := B.bytes
  have hr := B.returns
  have hts := atoms_spec (ws := wsX11_comes) B.pre
  have hown : s.vm.findClass RX11 = some m.cls := findClass_of_methodNamed B.named
  have hlocks := B.notSynchronized
  subst hsz
  have hw := kw_H.start hP0
  generalize kw_A ad ct s.heap.size = A at hw
  have hinX11 : ∀ w ∈ wsX110, w ∈ wsX11_comes := by decide +kernel
  have hl := lv_entry ([.ref (ad 200), .int c]) (n := 6) (Nat.le_of_ble_eq_true rfl)
  rw [lg_entry_eq]
  generalize (lg_sl ([.ref (ad 200), .int c]) ++ List.replicate (6 - (lg_sl ([.ref (ad 200), .int c])).length) Slot.unset).toArray = ls at hl ⊢
  have hl : lv_has ls 6 [(0, .ref (ad 200)), (1, .int c)] := hl
  have S0 : CallFix pg m cod cX11_comes 6 s _ wsX11_comes RX11 := ⟨hx, hb, hml, hown, hts⟩
  refine lv_aload_n hx hb dX11_comes_0 rfl (lv_at hl 0 rfl) ?_
  refine lv_iload_n hx hb dX11_comes_1 rfl (lv_at hl 1 rfl) ?_
  refine kc_v (As := [.int c]) (rest := []) S0 (c_X11_isCase l D tc s.heap.size ad ct (N := N) (nt := nt) (no := no) (nf := nf) h0) (cwV 1 hts gX11_comes_X11_isCase rfl rfl rfl (by decide +kernel) ⟨Nat.le_of_ble_eq_true rfl, Nat.le_of_ble_eq_true rfl⟩) hK hw h0 rfl rfl hl.1 rfl (Nat.le_of_ble_eq_true rfl) dX11_comes_2 ⟨Nat.le_of_ble_eq_true rfl, (Nat.le_of_ble_eq_true rfl)⟩ ?_
  refine kb_ifne (tgt := 10) hx hb dX11_comes_5 (by decide) (fun c_1 => ?_) (fun c_1 => ?_)
  · exact absurd c_1 hc
  · refine lv_iconst (v := (-1)) hx hb dX11_comes_8 (by decide) ?_
    exact W.iret hx hb hr (fun t ht _ => ⟨rfl, ht⟩) (fun _ h => absurd h List.not_mem_nil) dX11_comes_9
set_option maxHeartbeats 4000000 in
set_option maxRecDepth 100000 in
theorem c_X11_comes_s (l : Launch) (D : va_G) (tc : Nat → ClassId) (sz : Nat) (ad : Nat → Nat) (ct : Nat → Option va_E) {N nt no nf : Nat} {ft tr b cm da bs : Int32} {g : Int64}                 {c : Int32} (h0 : ct 200 = some (.inr (11, [.int ft, .int tr, .int (nI N), .int b, .ref (ad 201), .long g, .int cm, .int da, .int (nI nt), .ref (ad 202), .ref (ad 203), .ref (ad 204), .ref (ad 205), .ref (ad 206), .ref (ad 207), .ref (ad 208), .ref (ad 209), .int (nI no), .ref (ad 210), .ref (ad 211), .ref (ad 212), .ref (ad 213), .ref (ad 214), .int bs, .int (nI nf), .ref (ad 215), .ref (ad 216)]))) (hc : 0 ≤ c ∧ c < nI N) (hm : ¬ cm = (-9)) : Met l yX11_comes wsX11_comes ({ frames := 1, cells := 0, slots := 0, locals := 25 }) (va_Pc [.ref (ad 200), .int c] (kw_B D tc sz ad ct)) (k2_QcV (.int (-3))) 0 0 (fun _ => False) := by
  refine Met.ofW (cc := cX11_comes) (maxL := 6) (ret := (some .int)) (by decide) rfl ?_
  intro pg en s m args below meth cod s₁ B hml hv
  obtain ⟨rfl, hsz, hP0, hK⟩ := hv
  have hx := B.exec
  have hb := B.bytes
  have hr := B.returns
  have hts := atoms_spec (ws := wsX11_comes) B.pre
  have hown : s.vm.findClass RX11 = some m.cls := findClass_of_methodNamed B.named
  have hlocks := B.notSynchronized
  subst hsz
  have hw := kw_H.start hP0
  generalize kw_A ad ct s.heap.size = A at hw
  have hinX11 : ∀ w ∈ wsX110, w ∈ wsX11_comes := by decide +kernel
  have hl := lv_entry ([.ref (ad 200), .int c]) (n := 6) (Nat.le_of_ble_eq_true rfl)
  rw [lg_entry_eq]
  generalize (lg_sl ([.ref (ad 200), .int c]) ++ List.replicate (6 - (lg_sl ([.ref (ad 200), .int c])).length) Slot.unset).toArray = ls at hl ⊢
  have hl : lv_has ls 6 [(0, .ref (ad 200)), (1, .int c)] := hl
  have S0 : CallFix pg m cod cX11_comes 6 s _ wsX11_comes RX11 := ⟨hx, hb, hml, hown, hts⟩
  refine lv_aload_n hx hb dX11_comes_0 rfl (lv_at hl 0 rfl) ?_
  refine lv_iload_n hx hb dX11_comes_1 rfl (lv_at hl 1 rfl) ?_
  refine kc_v (As := [.int c]) (rest := []) S0 (c_X11_isCase l D tc s.heap.size ad ct (N := N) (nt := nt) (no := no) (nf := nf) h0) (cwV 1 hts gX11_comes_X11_isCase rfl rfl rfl (by decide +kernel) ⟨Nat.le_of_ble_eq_true rfl, Nat.le_of_ble_eq_true rfl⟩) hK hw h0 rfl rfl hl.1 rfl (Nat.le_of_ble_eq_true rfl) dX11_comes_2 ⟨Nat.le_of_ble_eq_true rfl, (Nat.le_of_ble_eq_true rfl)⟩ ?_
  refine kb_ifne (tgt := 10) hx hb dX11_comes_5 (by decide) (fun c_1 => ?_) (fun c_1 => ?_)
  · refine lv_aload_n hx hb dX11_comes_10 rfl (lv_at hl 0 rfl) ?_
    refine kg_get (v := .int cm) (C := RX11) (T := TX11) (N := 27) hx hb hts hinX11 hown hK hw h0 rfl 6 (by decide) (hts (.fieldLink RX11 20 "BetMakerModel" "came" "I") (by decide +kernel)) (fun _ h9 => h9) rfl dX11_comes_11 ?_
    refine lv_bipush (v := (-9)) hx hb dX11_comes_14 (by decide) ?_
    refine lv_icmp_eq (tgt := 22) hx hb dX11_comes_16 (by decide) (fun c_2 => ?_) (fun c_2 => ?_)
    · exact absurd c_2 hm
    · refine lv_bipush (v := (-3)) hx hb dX11_comes_19 (by decide) ?_
      exact W.iret hx hb hr (fun t ht _ => ⟨rfl, ht⟩) (fun _ h => absurd h List.not_mem_nil) dX11_comes_21
  · exact absurd hc c_1
set_option maxHeartbeats 4000000 in
set_option maxRecDepth 100000 in
theorem c_X11_comes (l : Launch) (D : va_G) (tc : Nat → ClassId) (sz : Nat) (ad : Nat → Nat) (ct : Nat → Option va_E) {N nt no nf : Nat} {ft tr b cm da bs : Int32} {g : Int64}   {pu : Nat → Int64}  {ho : Nat → Int64}            {c : Nat} (h0 : ct 200 = some (.inr (11, [.int ft, .int tr, .int (nI N), .int b, .ref (ad 201), .long g, .int cm, .int da, .int (nI nt), .ref (ad 202), .ref (ad 203), .ref (ad 204), .ref (ad 205), .ref (ad 206), .ref (ad 207), .ref (ad 208), .ref (ad 209), .int (nI no), .ref (ad 210), .ref (ad 211), .ref (ad 212), .ref (ad 213), .ref (ad 214), .int bs, .int (nI nf), .ref (ad 215), .ref (ad 216)]))) (h203 : ct 203 = some (eJ tc 6 pu)) (h205 : ct 205 = some (eJ tc 48 ho)) (hc : c < N) (hN : N ≤ 8) (hnt : nt ≤ 6) (hm : cm = (-9)) : Met l yX11_comes wsX11_comes ({ frames := 1, cells := 0, slots := 0, locals := 25 }) (va_Pc [.ref (ad 200), .int (nI c)] (kw_B D tc sz ad ct)) (kw_Q D ad (kw_A ad ct sz) (some (.int 1)) (kw_up (kw_up (kw_up ct 200 (.inr (11, [.int ft, .int tr, .int (nI N), .int b, .ref (ad 201), .long (g - su (fun t => kU b N * ho (8 * t + c)) nt), .int (nI c), .int da, .int (nI nt), .ref (ad 202), .ref (ad 203), .ref (ad 204), .ref (ad 205), .ref (ad 206), .ref (ad 207), .ref (ad 208), .ref (ad 209), .int (nI no), .ref (ad 210), .ref (ad 211), .ref (ad 212), .ref (ad 213), .ref (ad 214), .int bs, .int (nI nf), .ref (ad 215), .ref (ad 216)]))) 203 (eJ tc 6 (kPu pu ho (kU b N) c nt))) 205 (eJ tc 48 (kFl ho 0 (8 * nt)))) 0) 0 0 (kw_A ad ct sz) := by
  refine Met.ofW (cc := cX11_comes) (maxL := 6) (ret := (some .int)) (by decide) rfl ?_
  intro pg en s m args below meth cod s₁ B hml hv
  obtain ⟨rfl, hsz, hP0, hK⟩ := hv
  have hx := B.exec
  have hb := B.bytes
  have hr := B.returns
  have hts := atoms_spec (ws := wsX11_comes) B.pre
  have hown : s.vm.findClass RX11 = some m.cls := findClass_of_methodNamed B.named
  have hlocks := B.notSynchronized
  subst hsz
  have hw := kw_H.start hP0
  generalize hAe : kw_A ad ct s.heap.size = A at hw ⊢
  have hA : ∀ q, s.heap.size ≤ q → A q := fun q h => by rw [← hAe]; exact Or.inr h
  have hinX11 : ∀ w ∈ wsX110, w ∈ wsX11_comes := by decide +kernel
  have hl := lv_entry ([.ref (ad 200), .int (nI c)]) (n := 6) (Nat.le_of_ble_eq_true rfl)
  rw [lg_entry_eq]
  generalize (lg_sl ([.ref (ad 200), .int (nI c)]) ++ List.replicate (6 - (lg_sl ([.ref (ad 200), .int (nI c)])).length) Slot.unset).toArray = ls at hl ⊢
  have hl : lv_has ls 6 [(0, .ref (ad 200)), (1, .int (nI c))] := hl
  have S0 : CallFix pg m cod cX11_comes 6 s _ wsX11_comes RX11 := ⟨hx, hb, hml, hown, hts⟩
  have hfr : ∀ j, j ≠ 200 → j ≠ 203 → j ≠ 205 → ct j = ct j := fun _ _ _ _ => rfl
  have kC : 0 ≤ nI c ∧ nI c < nI N := ⟨nI_pos' (by omega), nI_lt hc (by omega)⟩
  refine lv_aload_n hx hb dX11_comes_0 rfl (lv_at hl 0 rfl) ?_
  refine lv_iload_n hx hb dX11_comes_1 rfl (lv_at hl 1 rfl) ?_
  refine kc_v (As := [.int (nI c)]) (rest := []) S0 (c_X11_isCase l D tc s.heap.size ad ct (N := N) (nt := nt) (no := no) (nf := nf) h0) (cwV 1 hts gX11_comes_X11_isCase rfl rfl rfl (by decide +kernel) ⟨Nat.le_of_ble_eq_true rfl, Nat.le_of_ble_eq_true rfl⟩) hK hw h0 rfl rfl hl.1 rfl (Nat.le_of_ble_eq_true rfl) dX11_comes_2 ⟨Nat.le_of_ble_eq_true rfl, (Nat.le_of_ble_eq_true rfl)⟩ ?_
  refine kb_ifne (tgt := 10) hx hb dX11_comes_5 (by decide) (fun c_1 => ?_) (fun c_1 => ?_)
  · refine lv_aload_n hx hb dX11_comes_10 rfl (lv_at hl 0 rfl) ?_
    refine kg_get (v := .int cm) (C := RX11) (T := TX11) (N := 27) hx hb hts hinX11 hown hK hw h0 rfl 6 (by decide) (hts (.fieldLink RX11 20 "BetMakerModel" "came" "I") (by decide +kernel)) (fun _ h9 => h9) rfl dX11_comes_11 ?_
    refine lv_bipush (v := (-9)) hx hb dX11_comes_14 (by decide) ?_
    refine lv_icmp_eq (tgt := 22) hx hb dX11_comes_16 (by decide) (fun c_2 => ?_) (fun c_2 => ?_)
    · refine lv_aload_n hx hb dX11_comes_22 rfl (lv_at hl 0 rfl) ?_
      refine lv_iload_n hx hb dX11_comes_23 rfl (lv_at hl 1 rfl) ?_
      refine kg_put (v := .int (nI c)) (ty := .int) (C := RX11) (T := TX11) (N := 27) (fs' := [.int ft, .int tr, .int (nI N), .int b, .ref (ad 201), .long g, .int (nI c), .int da, .int (nI nt), .ref (ad 202), .ref (ad 203), .ref (ad 204), .ref (ad 205), .ref (ad 206), .ref (ad 207), .ref (ad 208), .ref (ad 209), .int (nI no), .ref (ad 210), .ref (ad 211), .ref (ad 212), .ref (ad 213), .ref (ad 214), .int bs, .int (nI nf), .ref (ad 215), .ref (ad 216)]) hx hb hts hinX11 tyX11 tyX11_ok nmX11 hown hK hw h0 rfl 6 (by decide) (hts (.fieldLink RX11 20 "BetMakerModel" "came" "I") (by decide +kernel)) (fun _ h9 => h9) rfl (by decide +kernel) rfl rfl (Nat.le_of_ble_eq_true rfl) rfl dX11_comes_24 (fun H locs hw => ?_)
      obtain ⟨ct_3, ect_3⟩ : ∃ z, z = kw_up ct 200 (.inr (11, [.int ft, .int tr, .int (nI N), .int b, .ref (ad 201), .long g, .int (nI c), .int da, .int (nI nt), .ref (ad 202), .ref (ad 203), .ref (ad 204), .ref (ad 205), .ref (ad 206), .ref (ad 207), .ref (ad 208), .ref (ad 209), .int (nI no), .ref (ad 210), .ref (ad 211), .ref (ad 212), .ref (ad 213), .ref (ad 214), .int bs, .int (nI nf), .ref (ad 215), .ref (ad 216)])) := ⟨_, rfl⟩
      rw [← ect_3] at hw
      have h_4 : ct_3 203 = some (eJ tc 6 pu) := by rw [ect_3, kw_up_n (by decide)]; exact h203
      have h_5 : ct_3 205 = some (eJ tc 48 ho) := by rw [ect_3, kw_up_n (by decide)]; exact h205
      have h_6 : ct_3 200 = some (.inr (11, [.int ft, .int tr, .int (nI N), .int b, .ref (ad 201), .long g, .int (nI c), .int da, .int (nI nt), .ref (ad 202), .ref (ad 203), .ref (ad 204), .ref (ad 205), .ref (ad 206), .ref (ad 207), .ref (ad 208), .ref (ad 209), .int (nI no), .ref (ad 210), .ref (ad 211), .ref (ad 212), .ref (ad 213), .ref (ad 214), .int bs, .int (nI nf), .ref (ad 215), .ref (ad 216)])) := by rw [ect_3]; exact kw_up_s
      have hfr_7 : ∀ j, j ≠ 200 → j ≠ 203 → j ≠ 205 → ct_3 j = ct j := fun j a0 a1 a2 => by rw [ect_3]; exact (kw_up_n a0).trans (hfr j a0 a1 a2)
      refine lv_iconst (v := 0) hx hb dX11_comes_27 (by decide) ?_
      refine lv_istore_n (lv' := [(2, .int 0), (0, .ref (ad 200)), (1, .int (nI c))]) hx hb dX11_comes_28 rfl hl (by decide) rfl (fun ls hl => ?_)
      suffices lp29 : ∀ (nfu : Nat) (i : Nat) (p1 h1 : Nat → Int64) (g1 : Int64) (ctL29 : Nat → Option va_E) (H : Heap) (locs : List Loc) (ls : Array Slot), nt - i < nfu → i ≤ nt → p1 = kPu pu ho (kU b N) c i → h1 = kFl ho 0 (8 * i) → g1 = g - su (fun t => kU b N * ho (8 * t + c)) i → ctL29 203 = some (eJ tc 6 p1) → ctL29 205 = some (eJ tc 48 h1) → ctL29 200 = some (.inr (11, [.int ft, .int tr, .int (nI N), .int b, .ref (ad 201), .long g1, .int (nI c), .int da, .int (nI nt), .ref (ad 202), .ref (ad 203), .ref (ad 204), .ref (ad 205), .ref (ad 206), .ref (ad 207), .ref (ad 208), .ref (ad 209), .int (nI no), .ref (ad 210), .ref (ad 211), .ref (ad 212), .ref (ad 213), .ref (ad 214), .int bs, .int (nI nf), .ref (ad 215), .ref (ad 216)])) → (∀ j, j ≠ 200 → j ≠ 203 → j ≠ 205 → ctL29 j = ct j) → kw_H D ad A s.heap ctL29 H locs s.heap.size → lv_has ls 6 [(0, .ref (ad 200)), (1, .int (nI c)), (2, .int (nI i))] → W pg l en (headSpec wsX11_comes ({ frames := 1, cells := 0, slots := 0, locals := 25 })).room s m (([.ref (ad 200), .int (nI c)] : List Value).toArray) below meth cod H locs 0 0 (MQ below (kw_Q D ad A (some (.int 1)) (kw_up (kw_up (kw_up ct 200 (.inr (11, [.int ft, .int tr, .int (nI N), .int b, .ref (ad 201), .long (g - su (fun t => kU b N * ho (8 * t + c)) nt), .int (nI c), .int da, .int (nI nt), .ref (ad 202), .ref (ad 203), .ref (ad 204), .ref (ad 205), .ref (ad 206), .ref (ad 207), .ref (ad 208), .ref (ad 209), .int (nI no), .ref (ad 210), .ref (ad 211), .ref (ad 212), .ref (ad 213), .ref (ad 214), .int bs, .int (nI nf), .ref (ad 215), .ref (ad 216)]))) 203 (eJ tc 6 (kPu pu ho (kU b N) c nt))) 205 (eJ tc 48 (kFl ho 0 (8 * nt)))) 0) (([.ref (ad 200), .int (nI c)] : List Value).toArray) s 0 0 A) (F0 m 29 ls []) by
        exact lp29 (nt - 0 + 1) 0 pu ho g _ _ _ ls (by omega) (by omega) (by exact kPu_0 _ _ _ _) (by exact kFl_0 _ _) (by exact (Int64.sub_zero _).symm) h_4 h_5 h_6 hfr_7 hw (by have hl9 := lv_sub hl (l' := [(0, .ref (ad 200)), (1, .int (nI c)), (2, .int 0)]) [1, 2, 0] rfl; exact hl9)
      intro n29
      induction n29 with
      | zero => intro i p1 h1 g1 ctL29 H locs ls hfu; exact absurd hfu (Nat.not_lt_zero _)
      | succ n29 ih29 =>
        intro i p1 h1 g1 ctL29 H locs ls hfu29 hi hpp hh hg h_8 h_9 h_10 hfr_11 hw hl
        refine lv_iload_n hx hb dX11_comes_29 rfl (lv_at hl 2 rfl) ?_
        refine lv_aload_n hx hb dX11_comes_30 rfl (lv_at hl 0 rfl) ?_
        refine kg_get (v := .int (nI nt)) (C := RX11) (T := TX11) (N := 27) hx hb hts hinX11 hown hK hw h_10 rfl 8 (by decide) (hts (.fieldLink RX11 93 "BetMakerModel" "traders" "I") (by decide +kernel)) (fun _ h9 => h9) rfl dX11_comes_31 ?_
        refine kn_ge i nt rfl rfl (by omega) (by omega) (tgt := 109) hx hb dX11_comes_34 (by decide) (fun c_12 => ?_) (fun c_12 => ?_)
        · refine lv_iconst (v := 1) hx hb dX11_comes_109 (by decide) ?_
          have hq_13 : ctL29 200 = some (.inr (11, [.int ft, .int tr, .int (nI N), .int b, .ref (ad 201), .long (g - su (fun t => kU b N * ho (8 * t + c)) nt), .int (nI c), .int da, .int (nI nt), .ref (ad 202), .ref (ad 203), .ref (ad 204), .ref (ad 205), .ref (ad 206), .ref (ad 207), .ref (ad 208), .ref (ad 209), .int (nI no), .ref (ad 210), .ref (ad 211), .ref (ad 212), .ref (ad 213), .ref (ad 214), .int bs, .int (nI nf), .ref (ad 215), .ref (ad 216)])) := h_10.trans (congrArg some (show (.inr (11, [.int ft, .int tr, .int (nI N), .int b, .ref (ad 201), .long g1, .int (nI c), .int da, .int (nI nt), .ref (ad 202), .ref (ad 203), .ref (ad 204), .ref (ad 205), .ref (ad 206), .ref (ad 207), .ref (ad 208), .ref (ad 209), .int (nI no), .ref (ad 210), .ref (ad 211), .ref (ad 212), .ref (ad 213), .ref (ad 214), .int bs, .int (nI nf), .ref (ad 215), .ref (ad 216)]) : va_E) = .inr (11, [.int ft, .int tr, .int (nI N), .int b, .ref (ad 201), .long (g - su (fun t => kU b N * ho (8 * t + c)) nt), .int (nI c), .int da, .int (nI nt), .ref (ad 202), .ref (ad 203), .ref (ad 204), .ref (ad 205), .ref (ad 206), .ref (ad 207), .ref (ad 208), .ref (ad 209), .int (nI no), .ref (ad 210), .ref (ad 211), .ref (ad 212), .ref (ad 213), .ref (ad 214), .int bs, .int (nI nf), .ref (ad 215), .ref (ad 216)]) from by rw [hg, show i = nt by omega]))
          have hq_14 : ctL29 203 = some (eJ tc 6 (kPu pu ho (kU b N) c nt)) := h_8.trans (congrArg some (show (eJ tc 6 p1 : va_E) = eJ tc 6 (kPu pu ho (kU b N) c nt) from by rw [hpp, show i = nt by omega]))
          have hq_15 : ctL29 205 = some (eJ tc 48 (kFl ho 0 (8 * nt))) := h_9.trans (congrArg some (show (eJ tc 48 h1 : va_E) = eJ tc 48 (kFl ho 0 (8 * nt)) from by rw [hh, show i = nt by omega]))
          have hend := kw_eq3 hq_13 hq_14 hq_15 hfr_11
          rw [hend] at hw
          exact W.iret hx hb hr (fun t ht _ => ⟨rfl, by rw [ht]; exact hw.1, hw.2.2.1, hw.2.1.F ht, by rw [ht]; exact hw.2.2.2⟩) hw.2.1.2.2 dX11_comes_110
        · refine lv_aload_n hx hb dX11_comes_37 rfl (lv_at hl 0 rfl) ?_
          refine kc_v (As := []) (rest := []) S0 (c_X11_grains l D tc s.heap.size ad ctL29 (N := N) (nt := nt) (no := no) (nf := nf) h_10) (cwV 0 hts gX11_comes_X11_grains rfl rfl rfl (by decide +kernel) ⟨Nat.le_of_ble_eq_true rfl, Nat.le_of_ble_eq_true rfl⟩) hK hw h_10 rfl rfl hl.1 rfl (Nat.le_of_ble_eq_true rfl) dX11_comes_38 ⟨Nat.le_of_ble_eq_true rfl, (Nat.le_of_ble_eq_true rfl)⟩ ?_
          refine lv_aload_n hx hb dX11_comes_41 rfl (lv_at hl 0 rfl) ?_
          refine kg_get (v := .ref (ad 205)) (C := RX11) (T := TX11) (N := 27) hx hb hts hinX11 hown hK hw h_10 rfl 12 (by decide) (hts (.fieldLink RX11 33 "BetMakerModel" "holds" "[J") (by decide +kernel)) (fun _ h9 => h9) rfl dX11_comes_42 ?_
          refine lv_bipush (v := 8) hx hb dX11_comes_45 (by decide) ?_
          refine lv_iload_n hx hb dX11_comes_47 rfl (lv_at hl 2 rfl) ?_
          refine lv_imul hx hb dX11_comes_48 ?_
          refine lv_iload_n hx hb dX11_comes_49 rfl (lv_at hl 1 rfl) ?_
          refine lv_iadd hx hb dX11_comes_50 ?_
          refine kg_lald hx hb hK hw h_9 ((8 * i) + c) (by simp only [kn_lit, nI_add, pk_mul, nI_1]) (by omega) (by omega) dX11_comes_51 ?_
          refine lv_lmul hx hb dX11_comes_52 ?_
          refine lv_lstore_n (lv' := [(3, .long ((kU b N) * (h1 ((8 * i) + c)))), (0, .ref (ad 200)), (1, .int (nI c)), (2, .int (nI i))]) hx hb dX11_comes_53 rfl hl (by decide) rfl (fun ls hl => ?_)
          refine lv_aload_n hx hb dX11_comes_54 rfl (lv_at hl 1 rfl) ?_
          refine kg_get (v := .ref (ad 203)) (C := RX11) (T := TX11) (N := 27) hx hb hts hinX11 hown hK hw h_10 rfl 10 (by decide) (hts (.fieldLink RX11 27 "BetMakerModel" "purse" "[J") (by decide +kernel)) (fun _ h9 => h9) rfl dX11_comes_55 ?_
          refine lv_iload_n hx hb dX11_comes_58 rfl (lv_at hl 3 rfl) ?_
          refine lv_dup2_11 hx hb dX11_comes_59 rfl rfl ?_
          refine kg_lald hx hb hK hw h_8 i rfl (by omega) (by omega) dX11_comes_60 ?_
          refine lv_lload_n hx hb dX11_comes_61 rfl (lv_at hl 0 rfl) ?_
          refine lv_ladd hx hb dX11_comes_62 ?_
          refine kg_last hx hb hK hw h_8 i rfl (by omega) (by omega) dX11_comes_63 (fun H locs hw => ?_)
          obtain ⟨ct_16, ect_16⟩ : ∃ z, z = kw_up ctL29 203 (eJ tc 6 (va_up p1 i ((p1 i) + ((kU b N) * (h1 ((8 * i) + c)))))) := ⟨_, rfl⟩
          rw [← ect_16] at hw
          have h_17 : ct_16 205 = some (eJ tc 48 h1) := by rw [ect_16, kw_up_n (by decide)]; exact h_9
          have h_18 : ct_16 200 = some (.inr (11, [.int ft, .int tr, .int (nI N), .int b, .ref (ad 201), .long g1, .int (nI c), .int da, .int (nI nt), .ref (ad 202), .ref (ad 203), .ref (ad 204), .ref (ad 205), .ref (ad 206), .ref (ad 207), .ref (ad 208), .ref (ad 209), .int (nI no), .ref (ad 210), .ref (ad 211), .ref (ad 212), .ref (ad 213), .ref (ad 214), .int bs, .int (nI nf), .ref (ad 215), .ref (ad 216)])) := by rw [ect_16, kw_up_n (by decide)]; exact h_10
          have h_19 : ct_16 203 = some (eJ tc 6 (va_up p1 i ((p1 i) + ((kU b N) * (h1 ((8 * i) + c)))))) := by rw [ect_16]; exact kw_up_s
          have hfr_20 : ∀ j, j ≠ 200 → j ≠ 203 → j ≠ 205 → ct_16 j = ct j := fun j a0 a1 a2 => by rw [ect_16]; exact (kw_up_n a1).trans (hfr_11 j a0 a1 a2)
          refine lv_aload_n hx hb dX11_comes_64 rfl (lv_at hl 1 rfl) ?_
          refine lv_dup hx hb dX11_comes_65 rfl ?_
          refine kg_get (v := .long g1) (C := RX11) (T := TX11) (N := 27) hx hb hts hinX11 hown hK hw h_18 rfl 5 (by decide) (hts (.fieldLink RX11 86 "BetMakerModel" "gain" "J") (by decide +kernel)) (fun _ h9 => h9) rfl dX11_comes_66 ?_
          refine lv_lload_n hx hb dX11_comes_69 rfl (lv_at hl 0 rfl) ?_
          refine lv_lsub hx hb dX11_comes_70 ?_
          refine kg_put (v := .long (g1 - ((kU b N) * (h1 ((8 * i) + c))))) (ty := .long) (C := RX11) (T := TX11) (N := 27) (fs' := [.int ft, .int tr, .int (nI N), .int b, .ref (ad 201), .long (g1 - ((kU b N) * (h1 ((8 * i) + c)))), .int (nI c), .int da, .int (nI nt), .ref (ad 202), .ref (ad 203), .ref (ad 204), .ref (ad 205), .ref (ad 206), .ref (ad 207), .ref (ad 208), .ref (ad 209), .int (nI no), .ref (ad 210), .ref (ad 211), .ref (ad 212), .ref (ad 213), .ref (ad 214), .int bs, .int (nI nf), .ref (ad 215), .ref (ad 216)]) hx hb hts hinX11 tyX11 tyX11_ok nmX11 hown hK hw h_18 rfl 5 (by decide) (hts (.fieldLink RX11 86 "BetMakerModel" "gain" "J") (by decide +kernel)) (fun _ h9 => h9) rfl (by decide +kernel) rfl rfl (Nat.le_of_ble_eq_true rfl) rfl dX11_comes_71 (fun H locs hw => ?_)
          obtain ⟨ct_21, ect_21⟩ : ∃ z, z = kw_up ct_16 200 (.inr (11, [.int ft, .int tr, .int (nI N), .int b, .ref (ad 201), .long (g1 - ((kU b N) * (h1 ((8 * i) + c)))), .int (nI c), .int da, .int (nI nt), .ref (ad 202), .ref (ad 203), .ref (ad 204), .ref (ad 205), .ref (ad 206), .ref (ad 207), .ref (ad 208), .ref (ad 209), .int (nI no), .ref (ad 210), .ref (ad 211), .ref (ad 212), .ref (ad 213), .ref (ad 214), .int bs, .int (nI nf), .ref (ad 215), .ref (ad 216)])) := ⟨_, rfl⟩
          rw [← ect_21] at hw
          have h_22 : ct_21 205 = some (eJ tc 48 h1) := by rw [ect_21, kw_up_n (by decide)]; exact h_17
          have h_23 : ct_21 203 = some (eJ tc 6 (va_up p1 i ((p1 i) + ((kU b N) * (h1 ((8 * i) + c)))))) := by rw [ect_21, kw_up_n (by decide)]; exact h_19
          have h_24 : ct_21 200 = some (.inr (11, [.int ft, .int tr, .int (nI N), .int b, .ref (ad 201), .long (g1 - ((kU b N) * (h1 ((8 * i) + c)))), .int (nI c), .int da, .int (nI nt), .ref (ad 202), .ref (ad 203), .ref (ad 204), .ref (ad 205), .ref (ad 206), .ref (ad 207), .ref (ad 208), .ref (ad 209), .int (nI no), .ref (ad 210), .ref (ad 211), .ref (ad 212), .ref (ad 213), .ref (ad 214), .int bs, .int (nI nf), .ref (ad 215), .ref (ad 216)])) := by rw [ect_21]; exact kw_up_s
          have hfr_25 : ∀ j, j ≠ 200 → j ≠ 203 → j ≠ 205 → ct_21 j = ct j := fun j a0 a1 a2 => by rw [ect_21]; exact (kw_up_n a0).trans (hfr_20 j a0 a1 a2)
          refine lv_iconst (v := 0) hx hb dX11_comes_74 (by decide) ?_
          refine lv_istore (lv' := [(5, .int 0), (3, .long ((kU b N) * (h1 ((8 * i) + c)))), (0, .ref (ad 200)), (1, .int (nI c)), (2, .int (nI i))]) hx hb dX11_comes_75 hl (by decide) rfl (fun ls hl => ?_)
          suffices lp77 : ∀ (nfu : Nat) (j : Nat) (h2 : Nat → Int64) (ctL77 : Nat → Option va_E) (H : Heap) (locs : List Loc) (ls : Array Slot), 8 - j < nfu → j ≤ 8 → h2 = kFl ho 0 (8 * i + j) → ctL77 205 = some (eJ tc 48 h2) → ctL77 203 = some (eJ tc 6 (va_up p1 i ((p1 i) + ((kU b N) * (h1 ((8 * i) + c)))))) → ctL77 200 = some (.inr (11, [.int ft, .int tr, .int (nI N), .int b, .ref (ad 201), .long (g1 - ((kU b N) * (h1 ((8 * i) + c)))), .int (nI c), .int da, .int (nI nt), .ref (ad 202), .ref (ad 203), .ref (ad 204), .ref (ad 205), .ref (ad 206), .ref (ad 207), .ref (ad 208), .ref (ad 209), .int (nI no), .ref (ad 210), .ref (ad 211), .ref (ad 212), .ref (ad 213), .ref (ad 214), .int bs, .int (nI nf), .ref (ad 215), .ref (ad 216)])) → (∀ j, j ≠ 200 → j ≠ 203 → j ≠ 205 → ctL77 j = ct j) → kw_H D ad A s.heap ctL77 H locs s.heap.size → lv_has ls 6 [(0, .ref (ad 200)), (1, .int (nI c)), (2, .int (nI i)), (3, .long (kU b N * h1 (8 * i + c))), (5, .int (nI j))] → W pg l en (headSpec wsX11_comes ({ frames := 1, cells := 0, slots := 0, locals := 25 })).room s m (([.ref (ad 200), .int (nI c)] : List Value).toArray) below meth cod H locs 0 0 (MQ below (kw_Q D ad A (some (.int 1)) (kw_up (kw_up (kw_up ct 200 (.inr (11, [.int ft, .int tr, .int (nI N), .int b, .ref (ad 201), .long (g - su (fun t => kU b N * ho (8 * t + c)) nt), .int (nI c), .int da, .int (nI nt), .ref (ad 202), .ref (ad 203), .ref (ad 204), .ref (ad 205), .ref (ad 206), .ref (ad 207), .ref (ad 208), .ref (ad 209), .int (nI no), .ref (ad 210), .ref (ad 211), .ref (ad 212), .ref (ad 213), .ref (ad 214), .int bs, .int (nI nf), .ref (ad 215), .ref (ad 216)]))) 203 (eJ tc 6 (kPu pu ho (kU b N) c nt))) 205 (eJ tc 48 (kFl ho 0 (8 * nt)))) 0) (([.ref (ad 200), .int (nI c)] : List Value).toArray) s 0 0 A) (F0 m 77 ls []) by
            exact lp77 (8 - 0 + 1) 0 h1 _ _ _ ls (by omega) (by omega) (by exact hh) h_22 h_23 h_24 hfr_25 hw (by have hl9 := lv_sub hl (l' := [(0, .ref (ad 200)), (1, .int (nI c)), (2, .int (nI i)), (3, .long ((kU b N) * (h1 ((8 * i) + c)))), (5, .int 0)]) [2, 3, 4, 1, 0] rfl; exact hl9)
          intro n77
          induction n77 with
          | zero => intro j h2 ctL77 H locs ls hfu; exact absurd hfu (Nat.not_lt_zero _)
          | succ n77 ih77 =>
            intro j h2 ctL77 H locs ls hfu77 hj hk h_26 h_27 h_28 hfr_29 hw hl
            refine lv_iload hx hb dX11_comes_77 (lv_at hl 4 rfl) ?_
            refine lv_bipush (v := 8) hx hb dX11_comes_79 (by decide) ?_
            refine kn_ge j 8 rfl rfl (by omega) (by omega) (tgt := 103) hx hb dX11_comes_81 (by decide) (fun c_30 => ?_) (fun c_30 => ?_)
            · refine lv_iinc (v := (nI (i + 1))) (lv' := [(2, .int (nI (i + 1))), (0, .ref (ad 200)), (1, .int (nI c)), (3, .long (kU b N * h1 (8 * i + c))), (5, .int (nI j))]) hx hb dX11_comes_103 hl (k := 2) rfl (nI_1 i) (by decide) rfl (fun ls hl => ?_)
              refine lv_goto (tgt := 29) hx hb dX11_comes_106 (by decide) ?_
              exact ih29 (i + 1) (va_up p1 i ((p1 i) + ((kU b N) * (h1 ((8 * i) + c))))) h2 (g1 - ((kU b N) * (h1 ((8 * i) + c)))) _ _ _ ls (by omega) (by omega) (by rw [hpp, hh]; exact kPu_s pu ho (kU b N) c i) (by rw [hk, show j = 8 by omega]; exact congrArg _ (by omega)) (by rw [hg, hh, kFl, if_neg (by omega), su]; exact kx_sub _ _ _) h_27 h_26 h_28 hfr_29 hw (lv_sub hl [1, 2, 0] rfl)
            · refine lv_aload_n hx hb dX11_comes_84 rfl (lv_at hl 0 rfl) ?_
              refine kg_get (v := .ref (ad 205)) (C := RX11) (T := TX11) (N := 27) hx hb hts hinX11 hown hK hw h_28 rfl 12 (by decide) (hts (.fieldLink RX11 33 "BetMakerModel" "holds" "[J") (by decide +kernel)) (fun _ h9 => h9) rfl dX11_comes_85 ?_
              refine lv_bipush (v := 8) hx hb dX11_comes_88 (by decide) ?_
              refine lv_iload_n hx hb dX11_comes_90 rfl (lv_at hl 2 rfl) ?_
              refine lv_imul hx hb dX11_comes_91 ?_
              refine lv_iload hx hb dX11_comes_92 (lv_at hl 4 rfl) ?_
              refine lv_iadd hx hb dX11_comes_94 ?_
              refine lv_lconst (v := 0) hx hb dX11_comes_95 (by decide) ?_
              refine kg_last hx hb hK hw h_26 ((8 * i) + j) (by simp only [kn_lit, nI_add, pk_mul, nI_1]) (by omega) (by omega) dX11_comes_96 (fun H locs hw => ?_)
              obtain ⟨ct_31, ect_31⟩ : ∃ z, z = kw_up ctL77 205 (eJ tc 48 (va_up h2 ((8 * i) + j) 0)) := ⟨_, rfl⟩
              rw [← ect_31] at hw
              have h_32 : ct_31 203 = some (eJ tc 6 (va_up p1 i ((p1 i) + ((kU b N) * (h1 ((8 * i) + c)))))) := by rw [ect_31, kw_up_n (by decide)]; exact h_27
              have h_33 : ct_31 200 = some (.inr (11, [.int ft, .int tr, .int (nI N), .int b, .ref (ad 201), .long (g1 - ((kU b N) * (h1 ((8 * i) + c)))), .int (nI c), .int da, .int (nI nt), .ref (ad 202), .ref (ad 203), .ref (ad 204), .ref (ad 205), .ref (ad 206), .ref (ad 207), .ref (ad 208), .ref (ad 209), .int (nI no), .ref (ad 210), .ref (ad 211), .ref (ad 212), .ref (ad 213), .ref (ad 214), .int bs, .int (nI nf), .ref (ad 215), .ref (ad 216)])) := by rw [ect_31, kw_up_n (by decide)]; exact h_28
              have h_34 : ct_31 205 = some (eJ tc 48 (va_up h2 ((8 * i) + j) 0)) := by rw [ect_31]; exact kw_up_s
              have hfr_35 : ∀ j, j ≠ 200 → j ≠ 203 → j ≠ 205 → ct_31 j = ct j := fun j a0 a1 a2 => by rw [ect_31]; exact (kw_up_n a2).trans (hfr_29 j a0 a1 a2)
              refine lv_iinc (v := (nI (j + 1))) (lv' := [(5, .int (nI (j + 1))), (0, .ref (ad 200)), (1, .int (nI c)), (2, .int (nI i)), (3, .long (kU b N * h1 (8 * i + c)))]) hx hb dX11_comes_97 hl (k := 4) rfl (nI_1 j) (by decide) rfl (fun ls hl => ?_)
              refine lv_goto (tgt := 77) hx hb dX11_comes_100 (by decide) ?_
              exact ih77 (j + 1) (va_up h2 ((8 * i) + j) 0) _ _ _ ls (by omega) (by omega) (by rw [hk]; exact kFl_s ho 0 (8 * i + j)) h_34 h_32 h_33 hfr_35 hw (lv_sub hl [1, 2, 3, 4, 0] rfl)
    · exact absurd hm c_2
  · exact absurd kC c_1
set_option maxHeartbeats 4000000 in
set_option maxRecDepth 100000 in
theorem c_X11_about_n (l : Launch) (D : va_G) (tc : Nat → ClassId) (sz : Nat) (ad : Nat → Nat) (ct : Nat → Option va_E) {N nt no nf : Nat} {ft tr b cm da bs : Int32} {g : Int64}                 {c what : Int32} (h0 : ct 200 = some (.inr (11, [.int ft, .int tr, .int (nI N), .int b, .ref (ad 201), .long g, .int cm, .int da, .int (nI nt), .ref (ad 202), .ref (ad 203), .ref (ad 204), .ref (ad 205), .ref (ad 206), .ref (ad 207), .ref (ad 208), .ref (ad 209), .int (nI no), .ref (ad 210), .ref (ad 211), .ref (ad 212), .ref (ad 213), .ref (ad 214), .int bs, .int (nI nf), .ref (ad 215), .ref (ad 216)]))) (hc : ¬ (0 ≤ c ∧ c < nI N)) : Met l yX11_about wsX11_about ({ frames := 2, cells := 0, slots := 0, locals := 52 }) (va_Pc [.ref (ad 200), .int c, .int what] (kw_B D tc sz ad ct)) (k2_QcV (.long (-9223372036854775808))) 0 0 (fun _ => False) := by
  refine Met.ofW (cc := cX11_about) (maxL := 6) (ret := (some .long)) (by decide) rfl ?_
  intro pg en s m args below meth cod s₁ B hml hv
  obtain ⟨rfl, hsz, hP0, hK⟩ := hv
  have hx := B.exec
  have hb := B.bytes
  have hr := B.returns
  have hts := atoms_spec (ws := wsX11_about) B.pre
  have hown : s.vm.findClass RX11 = some m.cls := findClass_of_methodNamed B.named
  have hlocks := B.notSynchronized
  subst hsz
  have hw := kw_H.start hP0
  generalize kw_A ad ct s.heap.size = A at hw
  have hinX11 : ∀ w ∈ wsX110, w ∈ wsX11_about := by decide +kernel
  have hl := lv_entry ([.ref (ad 200), .int c, .int what]) (n := 6) (Nat.le_of_ble_eq_true rfl)
  rw [lg_entry_eq]
  generalize (lg_sl ([.ref (ad 200), .int c, .int what]) ++ List.replicate (6 - (lg_sl ([.ref (ad 200), .int c, .int what])).length) Slot.unset).toArray = ls at hl ⊢
  have hl : lv_has ls 6 [(0, .ref (ad 200)), (1, .int c), (2, .int what)] := hl
  have S0 : CallFix pg m cod cX11_about 6 s _ wsX11_about RX11 := ⟨hx, hb, hml, hown, hts⟩
  refine lv_aload_n hx hb dX11_about_0 rfl (lv_at hl 0 rfl) ?_
  refine lv_iload_n hx hb dX11_about_1 rfl (lv_at hl 1 rfl) ?_
  refine kc_v (As := [.int c]) (rest := []) S0 (c_X11_isCase l D tc s.heap.size ad ct (N := N) (nt := nt) (no := no) (nf := nf) h0) (cwV 1 hts gX11_about_X11_isCase rfl rfl rfl (by decide +kernel) ⟨Nat.le_of_ble_eq_true rfl, Nat.le_of_ble_eq_true rfl⟩) hK hw h0 rfl rfl hl.1 rfl (Nat.le_of_ble_eq_true rfl) dX11_about_2 ⟨Nat.le_of_ble_eq_true rfl, (Nat.le_of_ble_eq_true rfl)⟩ ?_
  refine kb_ifne (tgt := 12) hx hb dX11_about_5 (by decide) (fun c_1 => ?_) (fun c_1 => ?_)
  · exact absurd c_1 hc
  · refine lv_ldc2 (v := (-9223372036854775808)) hx hb hown (hts (.constantLong RX11 72 (-9223372036854775808)) (by decide +kernel)) dX11_about_8 ?_
    exact W.lret hx hb hr (fun t ht _ => ⟨rfl, ht⟩) (fun _ h => absurd h List.not_mem_nil) dX11_about_11
set_option maxHeartbeats 4000000 in
set_option maxRecDepth 100000 in
theorem c_X11_about_d (l : Launch) (D : va_G) (tc : Nat → ClassId) (sz : Nat) (ad : Nat → Nat) (ct : Nat → Option va_E) {N nt no nf : Nat} {ft tr b cm da bs : Int32} {g : Int64}                 {c what : Int32} (h0 : ct 200 = some (.inr (11, [.int ft, .int tr, .int (nI N), .int b, .ref (ad 201), .long g, .int cm, .int da, .int (nI nt), .ref (ad 202), .ref (ad 203), .ref (ad 204), .ref (ad 205), .ref (ad 206), .ref (ad 207), .ref (ad 208), .ref (ad 209), .int (nI no), .ref (ad 210), .ref (ad 211), .ref (ad 212), .ref (ad 213), .ref (ad 214), .int bs, .int (nI nf), .ref (ad 215), .ref (ad 216)]))) (hc : 0 ≤ c ∧ c < nI N) (w0 : ¬ what = 0) (w1 : ¬ what = 1) (w2 : ¬ what = 2) : Met l yX11_about wsX11_about ({ frames := 2, cells := 0, slots := 0, locals := 52 }) (va_Pc [.ref (ad 200), .int c, .int what] (kw_B D tc sz ad ct)) (k2_QcV (.long (-9223372036854775808))) 0 0 (fun _ => False) := by
  refine Met.ofW (cc := cX11_about) (maxL := 6) (ret := (some .long)) (by decide) rfl ?_
  intro pg en s m args below meth cod s₁ B hml hv
  obtain ⟨rfl, hsz, hP0, hK⟩ := hv
  have hx := B.exec
  have hb := B.bytes
  have hr := B.returns
  have hts := atoms_spec (ws := wsX11_about) B.pre
  have hown : s.vm.findClass RX11 = some m.cls := findClass_of_methodNamed B.named
  have hlocks := B.notSynchronized
  subst hsz
  have hw := kw_H.start hP0
  generalize kw_A ad ct s.heap.size = A at hw
  have hinX11 : ∀ w ∈ wsX110, w ∈ wsX11_about := by decide +kernel
  have hl := lv_entry ([.ref (ad 200), .int c, .int what]) (n := 6) (Nat.le_of_ble_eq_true rfl)
  rw [lg_entry_eq]
  generalize (lg_sl ([.ref (ad 200), .int c, .int what]) ++ List.replicate (6 - (lg_sl ([.ref (ad 200), .int c, .int what])).length) Slot.unset).toArray = ls at hl ⊢
  have hl : lv_has ls 6 [(0, .ref (ad 200)), (1, .int c), (2, .int what)] := hl
  have S0 : CallFix pg m cod cX11_about 6 s _ wsX11_about RX11 := ⟨hx, hb, hml, hown, hts⟩
  refine lv_aload_n hx hb dX11_about_0 rfl (lv_at hl 0 rfl) ?_
  refine lv_iload_n hx hb dX11_about_1 rfl (lv_at hl 1 rfl) ?_
  refine kc_v (As := [.int c]) (rest := []) S0 (c_X11_isCase l D tc s.heap.size ad ct (N := N) (nt := nt) (no := no) (nf := nf) h0) (cwV 1 hts gX11_about_X11_isCase rfl rfl rfl (by decide +kernel) ⟨Nat.le_of_ble_eq_true rfl, Nat.le_of_ble_eq_true rfl⟩) hK hw h0 rfl rfl hl.1 rfl (Nat.le_of_ble_eq_true rfl) dX11_about_2 ⟨Nat.le_of_ble_eq_true rfl, (Nat.le_of_ble_eq_true rfl)⟩ ?_
  refine kb_ifne (tgt := 12) hx hb dX11_about_5 (by decide) (fun c_1 => ?_) (fun c_1 => ?_)
  · refine lv_iload_n hx hb dX11_about_12 rfl (lv_at hl 2 rfl) ?_
    refine lv_tableOut (tgt := 100) hx hb dX11_about_13 (by have q0 := lv_neT w0 (a := 0) (by decide); have q1 := lv_neT w1 (a := 1) (by decide); have q2 := lv_neT w2 (a := 2) (by decide); omega) (by decide) ?_
    refine lv_ldc2 (v := (-9223372036854775808)) hx hb hown (hts (.constantLong RX11 72 (-9223372036854775808)) (by decide +kernel)) dX11_about_100 ?_
    exact W.lret hx hb hr (fun t ht _ => ⟨rfl, ht⟩) (fun _ h => absurd h List.not_mem_nil) dX11_about_103
  · exact absurd hc c_1
set_option maxHeartbeats 4000000 in
set_option maxRecDepth 100000 in
theorem c_X11_about_0 (l : Launch) (D : va_G) (tc : Nat → ClassId) (sz : Nat) (ad : Nat → Nat) (ct : Nat → Option va_E) {N nt no nf : Nat} {ft tr b cm da bs : Int32} {g : Int64} {f : Nat → Int64}                {c : Nat} (h0 : ct 200 = some (.inr (11, [.int ft, .int tr, .int (nI N), .int b, .ref (ad 201), .long g, .int cm, .int da, .int (nI nt), .ref (ad 202), .ref (ad 203), .ref (ad 204), .ref (ad 205), .ref (ad 206), .ref (ad 207), .ref (ad 208), .ref (ad 209), .int (nI no), .ref (ad 210), .ref (ad 211), .ref (ad 212), .ref (ad 213), .ref (ad 214), .int bs, .int (nI nf), .ref (ad 215), .ref (ad 216)]))) (h201 : ct 201 = some (eJ tc 8 f)) (hc : c < N) (hN : N ≤ 8) : Met l yX11_about wsX11_about ({ frames := 2, cells := 0, slots := 0, locals := 52 }) (va_Pc [.ref (ad 200), .int (nI c), .int 0] (kw_B D tc sz ad ct)) (k2_QcV (.long (f c))) 0 0 (fun _ => False) := by
  refine Met.ofW (cc := cX11_about) (maxL := 6) (ret := (some .long)) (by decide) rfl ?_
  intro pg en s m args below meth cod s₁ B hml hv
  obtain ⟨rfl, hsz, hP0, hK⟩ := hv
  have hx := B.exec
  have hb := B.bytes
  have hr := B.returns
  have hts := atoms_spec (ws := wsX11_about) B.pre
  have hown : s.vm.findClass RX11 = some m.cls := findClass_of_methodNamed B.named
  have hlocks := B.notSynchronized
  subst hsz
  have hw := kw_H.start hP0
  generalize kw_A ad ct s.heap.size = A at hw
  have hinX11 : ∀ w ∈ wsX110, w ∈ wsX11_about := by decide +kernel
  have hl := lv_entry ([.ref (ad 200), .int (nI c), .int 0]) (n := 6) (Nat.le_of_ble_eq_true rfl)
  rw [lg_entry_eq]
  generalize (lg_sl ([.ref (ad 200), .int (nI c), .int 0]) ++ List.replicate (6 - (lg_sl ([.ref (ad 200), .int (nI c), .int 0])).length) Slot.unset).toArray = ls at hl ⊢
  have hl : lv_has ls 6 [(0, .ref (ad 200)), (1, .int (nI c)), (2, .int 0)] := hl
  have S0 : CallFix pg m cod cX11_about 6 s _ wsX11_about RX11 := ⟨hx, hb, hml, hown, hts⟩
  have kC : 0 ≤ nI c ∧ nI c < nI N := ⟨nI_pos' (by omega), nI_lt hc (by omega)⟩
  refine lv_aload_n hx hb dX11_about_0 rfl (lv_at hl 0 rfl) ?_
  refine lv_iload_n hx hb dX11_about_1 rfl (lv_at hl 1 rfl) ?_
  refine kc_v (As := [.int (nI c)]) (rest := []) S0 (c_X11_isCase l D tc s.heap.size ad ct (N := N) (nt := nt) (no := no) (nf := nf) h0) (cwV 1 hts gX11_about_X11_isCase rfl rfl rfl (by decide +kernel) ⟨Nat.le_of_ble_eq_true rfl, Nat.le_of_ble_eq_true rfl⟩) hK hw h0 rfl rfl hl.1 rfl (Nat.le_of_ble_eq_true rfl) dX11_about_2 ⟨Nat.le_of_ble_eq_true rfl, (Nat.le_of_ble_eq_true rfl)⟩ ?_
  refine kb_ifne (tgt := 12) hx hb dX11_about_5 (by decide) (fun c_1 => ?_) (fun c_1 => ?_)
  · refine lv_iload_n hx hb dX11_about_12 rfl (lv_at hl 2 rfl) ?_
    refine lv_tableIn (off := 27) (tgt := 40) hx hb dX11_about_13 (by decide) (by decide) (by decide) (by decide) ?_
    refine lv_aload_n hx hb dX11_about_40 rfl (lv_at hl 0 rfl) ?_
    refine kg_get (v := .ref (ad 201)) (C := RX11) (T := TX11) (N := 27) hx hb hts hinX11 hown hK hw h0 rfl 4 (by decide) (hts (.fieldLink RX11 16 "BetMakerModel" "sold" "[J") (by decide +kernel)) (fun _ h9 => h9) rfl dX11_about_41 ?_
    refine lv_iload_n hx hb dX11_about_44 rfl (lv_at hl 1 rfl) ?_
    refine kg_lald hx hb hK hw h201 c rfl (by omega) (by omega) dX11_about_45 ?_
    exact W.lret hx hb hr (fun t ht _ => ⟨rfl, ht⟩) (fun _ h => absurd h List.not_mem_nil) dX11_about_46
  · exact absurd kC c_1
set_option maxHeartbeats 4000000 in
set_option maxRecDepth 100000 in
theorem c_X11_about_1 (l : Launch) (D : va_G) (tc : Nat → ClassId) (sz : Nat) (ad : Nat → Nat) (ct : Nat → Option va_E) {N nt no nf : Nat} {ft tr b cm da bs : Int32} {g : Int64} {f : Nat → Int64}                {c : Nat} (h0 : ct 200 = some (.inr (11, [.int ft, .int tr, .int (nI N), .int b, .ref (ad 201), .long g, .int cm, .int da, .int (nI nt), .ref (ad 202), .ref (ad 203), .ref (ad 204), .ref (ad 205), .ref (ad 206), .ref (ad 207), .ref (ad 208), .ref (ad 209), .int (nI no), .ref (ad 210), .ref (ad 211), .ref (ad 212), .ref (ad 213), .ref (ad 214), .int bs, .int (nI nf), .ref (ad 215), .ref (ad 216)]))) (h201 : ct 201 = some (eJ tc 8 f)) (hc : c < N) (hN : N ≤ 8) : Met l yX11_about wsX11_about ({ frames := 2, cells := 0, slots := 0, locals := 52 }) (va_Pc [.ref (ad 200), .int (nI c), .int 1] (kw_B D tc sz ad ct)) (k2_QcV (.long (kPr b N f (su f N) c))) 0 0 (fun _ => False) := by
  refine Met.ofW (cc := cX11_about) (maxL := 6) (ret := (some .long)) (by decide) rfl ?_
  intro pg en s m args below meth cod s₁ B hml hv
  obtain ⟨rfl, hsz, hP0, hK⟩ := hv
  have hx := B.exec
  have hb := B.bytes
  have hr := B.returns
  have hts := atoms_spec (ws := wsX11_about) B.pre
  have hown : s.vm.findClass RX11 = some m.cls := findClass_of_methodNamed B.named
  have hlocks := B.notSynchronized
  subst hsz
  have hw := kw_H.start hP0
  generalize kw_A ad ct s.heap.size = A at hw
  have hinX11 : ∀ w ∈ wsX110, w ∈ wsX11_about := by decide +kernel
  have hl := lv_entry ([.ref (ad 200), .int (nI c), .int 1]) (n := 6) (Nat.le_of_ble_eq_true rfl)
  rw [lg_entry_eq]
  generalize (lg_sl ([.ref (ad 200), .int (nI c), .int 1]) ++ List.replicate (6 - (lg_sl ([.ref (ad 200), .int (nI c), .int 1])).length) Slot.unset).toArray = ls at hl ⊢
  have hl : lv_has ls 6 [(0, .ref (ad 200)), (1, .int (nI c)), (2, .int 1)] := hl
  have S0 : CallFix pg m cod cX11_about 6 s _ wsX11_about RX11 := ⟨hx, hb, hml, hown, hts⟩
  have kC : 0 ≤ nI c ∧ nI c < nI N := ⟨nI_pos' (by omega), nI_lt hc (by omega)⟩
  refine lv_aload_n hx hb dX11_about_0 rfl (lv_at hl 0 rfl) ?_
  refine lv_iload_n hx hb dX11_about_1 rfl (lv_at hl 1 rfl) ?_
  refine kc_v (As := [.int (nI c)]) (rest := []) S0 (c_X11_isCase l D tc s.heap.size ad ct (N := N) (nt := nt) (no := no) (nf := nf) h0) (cwV 1 hts gX11_about_X11_isCase rfl rfl rfl (by decide +kernel) ⟨Nat.le_of_ble_eq_true rfl, Nat.le_of_ble_eq_true rfl⟩) hK hw h0 rfl rfl hl.1 rfl (Nat.le_of_ble_eq_true rfl) dX11_about_2 ⟨Nat.le_of_ble_eq_true rfl, (Nat.le_of_ble_eq_true rfl)⟩ ?_
  refine kb_ifne (tgt := 12) hx hb dX11_about_5 (by decide) (fun c_1 => ?_) (fun c_1 => ?_)
  · refine lv_iload_n hx hb dX11_about_12 rfl (lv_at hl 2 rfl) ?_
    refine lv_tableIn (off := 34) (tgt := 47) hx hb dX11_about_13 (by decide) (by decide) (by decide) (by decide) ?_
    refine lv_aload_n hx hb dX11_about_47 rfl (lv_at hl 0 rfl) ?_
    refine lv_iload_n hx hb dX11_about_48 rfl (lv_at hl 1 rfl) ?_
    refine kc_v (As := [.int (nI c)]) (rest := []) S0 (c_X11_priceOf l D tc s.heap.size ad ct (c := c) (N := N) (nt := nt) (no := no) (nf := nf) h0 h201 (by omega) (by omega)) (cwV 1 hts gX11_about_X11_priceOf rfl rfl rfl (by decide +kernel) ⟨Nat.le_of_ble_eq_true rfl, Nat.le_of_ble_eq_true rfl⟩) hK hw h0 rfl rfl hl.1 rfl (Nat.le_of_ble_eq_true rfl) dX11_about_49 ⟨Nat.le_of_ble_eq_true rfl, (Nat.le_of_ble_eq_true rfl)⟩ ?_
    exact W.lret hx hb hr (fun t ht _ => ⟨rfl, ht⟩) (fun _ h => absurd h List.not_mem_nil) dX11_about_52
  · exact absurd kC c_1
set_option maxHeartbeats 4000000 in
set_option maxRecDepth 100000 in
theorem c_X11_about_2 (l : Launch) (D : va_G) (tc : Nat → ClassId) (sz : Nat) (ad : Nat → Nat) (ct : Nat → Option va_E) {N nt no nf : Nat} {ft tr b cm da bs : Int32} {g : Int64}     {ho : Nat → Int64}            {c : Nat} (h0 : ct 200 = some (.inr (11, [.int ft, .int tr, .int (nI N), .int b, .ref (ad 201), .long g, .int cm, .int da, .int (nI nt), .ref (ad 202), .ref (ad 203), .ref (ad 204), .ref (ad 205), .ref (ad 206), .ref (ad 207), .ref (ad 208), .ref (ad 209), .int (nI no), .ref (ad 210), .ref (ad 211), .ref (ad 212), .ref (ad 213), .ref (ad 214), .int bs, .int (nI nf), .ref (ad 215), .ref (ad 216)]))) (h205 : ct 205 = some (eJ tc 48 ho)) (hc : c < N) (hN : N ≤ 8) (hnt : nt ≤ 6) : Met l yX11_about wsX11_about ({ frames := 2, cells := 0, slots := 0, locals := 52 }) (va_Pc [.ref (ad 200), .int (nI c), .int 2] (kw_B D tc sz ad ct)) (k2_QcV (.long (kHd ho c nt))) 0 0 (fun _ => False) := by
  refine Met.ofW (cc := cX11_about) (maxL := 6) (ret := (some .long)) (by decide) rfl ?_
  intro pg en s m args below meth cod s₁ B hml hv
  obtain ⟨rfl, hsz, hP0, hK⟩ := hv
  have hx := B.exec
  have hb := B.bytes
  have hr := B.returns
  have hts := atoms_spec (ws := wsX11_about) B.pre
  have hown : s.vm.findClass RX11 = some m.cls := findClass_of_methodNamed B.named
  have hlocks := B.notSynchronized
  subst hsz
  have hw := kw_H.start hP0
  generalize kw_A ad ct s.heap.size = A at hw
  have hinX11 : ∀ w ∈ wsX110, w ∈ wsX11_about := by decide +kernel
  have hl := lv_entry ([.ref (ad 200), .int (nI c), .int 2]) (n := 6) (Nat.le_of_ble_eq_true rfl)
  rw [lg_entry_eq]
  generalize (lg_sl ([.ref (ad 200), .int (nI c), .int 2]) ++ List.replicate (6 - (lg_sl ([.ref (ad 200), .int (nI c), .int 2])).length) Slot.unset).toArray = ls at hl ⊢
  have hl : lv_has ls 6 [(0, .ref (ad 200)), (1, .int (nI c)), (2, .int 2)] := hl
  have S0 : CallFix pg m cod cX11_about 6 s _ wsX11_about RX11 := ⟨hx, hb, hml, hown, hts⟩
  have kC : 0 ≤ nI c ∧ nI c < nI N := ⟨nI_pos' (by omega), nI_lt hc (by omega)⟩
  refine lv_aload_n hx hb dX11_about_0 rfl (lv_at hl 0 rfl) ?_
  refine lv_iload_n hx hb dX11_about_1 rfl (lv_at hl 1 rfl) ?_
  refine kc_v (As := [.int (nI c)]) (rest := []) S0 (c_X11_isCase l D tc s.heap.size ad ct (N := N) (nt := nt) (no := no) (nf := nf) h0) (cwV 1 hts gX11_about_X11_isCase rfl rfl rfl (by decide +kernel) ⟨Nat.le_of_ble_eq_true rfl, Nat.le_of_ble_eq_true rfl⟩) hK hw h0 rfl rfl hl.1 rfl (Nat.le_of_ble_eq_true rfl) dX11_about_2 ⟨Nat.le_of_ble_eq_true rfl, (Nat.le_of_ble_eq_true rfl)⟩ ?_
  refine kb_ifne (tgt := 12) hx hb dX11_about_5 (by decide) (fun c_1 => ?_) (fun c_1 => ?_)
  · refine lv_iload_n hx hb dX11_about_12 rfl (lv_at hl 2 rfl) ?_
    refine lv_tableIn (off := 40) (tgt := 53) hx hb dX11_about_13 (by decide) (by decide) (by decide) (by decide) ?_
    refine lv_lconst (v := 0) hx hb dX11_about_53 (by decide) ?_
    refine lv_lstore_n (lv' := [(3, .long 0), (0, .ref (ad 200)), (1, .int (nI c)), (2, .int 2)]) hx hb dX11_about_54 rfl hl (by decide) rfl (fun ls hl => ?_)
    refine lv_iconst (v := 0) hx hb dX11_about_55 (by decide) ?_
    refine lv_istore (lv' := [(5, .int 0), (3, .long 0), (0, .ref (ad 200)), (1, .int (nI c)), (2, .int 2)]) hx hb dX11_about_56 hl (by decide) rfl (fun ls hl => ?_)
    suffices lp58 : ∀ (nfu : Nat) (i : Nat) (acc : Int64) (ls : Array Slot), nt - i < nfu → i ≤ nt → acc = kHd ho c i → lv_has ls 6 [(0, .ref (ad 200)), (1, .int (nI c)), (3, .long acc), (5, .int (nI i))] → W pg l en (headSpec wsX11_about ({ frames := 2, cells := 0, slots := 0, locals := 52 })).room s m (([.ref (ad 200), .int (nI c), .int 2] : List Value).toArray) below meth cod s.heap [] 0 0 (MQ below (k2_QcV (.long (kHd ho c nt))) (([.ref (ad 200), .int (nI c), .int 2] : List Value).toArray) s 0 0 (fun _ => False)) (F0 m 58 ls []) by
      exact lp58 (nt - 0 + 1) 0 0 ls (by omega) (by omega) (by rfl) (by have hl9 := lv_sub hl (l' := [(0, .ref (ad 200)), (1, .int (nI c)), (3, .long 0), (5, .int 0)]) [2, 3, 1, 0] rfl; exact hl9)
    intro n58
    induction n58 with
    | zero => intro i acc ls hfu; exact absurd hfu (Nat.not_lt_zero _)
    | succ n58 ih58 =>
      intro i acc ls hfu58 hi ha hl
      refine lv_iload hx hb dX11_about_58 (lv_at hl 3 rfl) ?_
      refine lv_aload_n hx hb dX11_about_60 rfl (lv_at hl 0 rfl) ?_
      refine kg_get (v := .int (nI nt)) (C := RX11) (T := TX11) (N := 27) hx hb hts hinX11 hown hK hw h0 rfl 8 (by decide) (hts (.fieldLink RX11 93 "BetMakerModel" "traders" "I") (by decide +kernel)) (fun _ h9 => h9) rfl dX11_about_61 ?_
      refine kn_ge i nt rfl rfl (by omega) (by omega) (tgt := 98) hx hb dX11_about_64 (by decide) (fun c_2 => ?_) (fun c_2 => ?_)
      · refine lv_lload_n hx hb dX11_about_98 rfl (lv_at hl 2 rfl) ?_
        refine W.eq (congrArg (fun z => F0 m 99 ls [.long z]) (show acc = (kHd ho c nt) from by rw [ha, show i = nt by omega])) ?_
        exact W.lret hx hb hr (fun t ht _ => ⟨rfl, ht⟩) (fun _ h => absurd h List.not_mem_nil) dX11_about_99
      · refine lv_lload_n hx hb dX11_about_67 rfl (lv_at hl 2 rfl) ?_
        refine lv_aload_n hx hb dX11_about_68 rfl (lv_at hl 0 rfl) ?_
        refine kg_get (v := .ref (ad 205)) (C := RX11) (T := TX11) (N := 27) hx hb hts hinX11 hown hK hw h0 rfl 12 (by decide) (hts (.fieldLink RX11 33 "BetMakerModel" "holds" "[J") (by decide +kernel)) (fun _ h9 => h9) rfl dX11_about_69 ?_
        refine lv_bipush (v := 8) hx hb dX11_about_72 (by decide) ?_
        refine lv_iload hx hb dX11_about_74 (lv_at hl 3 rfl) ?_
        refine lv_imul hx hb dX11_about_76 ?_
        refine lv_iload_n hx hb dX11_about_77 rfl (lv_at hl 1 rfl) ?_
        refine lv_iadd hx hb dX11_about_78 ?_
        refine kg_lald hx hb hK hw h205 ((8 * i) + c) (by simp only [kn_lit, nI_add, pk_mul, nI_1]) (by omega) (by omega) dX11_about_79 ?_
        refine lv_lconst (v := 0) hx hb dX11_about_80 (by decide) ?_
        refine W.lcmp hx hb dX11_about_81 ?_
        refine kl_le (tgt := 89) hx hb dX11_about_82 (by decide) (fun c_3 => ?_) (fun c_3 => ?_)
        · refine lv_lconst (v := 0) hx hb dX11_about_89 (by decide) ?_
          refine lv_ladd hx hb dX11_about_90 ?_
          refine lv_lstore_n (lv' := [(3, .long (acc + 0)), (0, .ref (ad 200)), (1, .int (nI c)), (5, .int (nI i))]) hx hb dX11_about_91 rfl hl (by decide) rfl (fun ls hl => ?_)
          refine lv_iinc (v := (nI (i + 1))) (lv' := [(5, .int (nI (i + 1))), (3, .long (acc + 0)), (0, .ref (ad 200)), (1, .int (nI c))]) hx hb dX11_about_92 hl (k := 3) rfl (nI_1 i) (by decide) rfl (fun ls hl => ?_)
          refine lv_goto (tgt := 58) hx hb dX11_about_95 (by decide) ?_
          exact ih58 (i + 1) (acc + 0) ls (by omega) (by omega) (by rw [ha, kHd, if_pos c_3]) (lv_sub hl [2, 3, 1, 0] rfl)
        · refine lv_lconst (v := 1) hx hb dX11_about_85 (by decide) ?_
          refine lv_goto (tgt := 90) hx hb dX11_about_86 (by decide) ?_
          refine lv_ladd hx hb dX11_about_90 ?_
          refine lv_lstore_n (lv' := [(3, .long (acc + 1)), (0, .ref (ad 200)), (1, .int (nI c)), (5, .int (nI i))]) hx hb dX11_about_91 rfl hl (by decide) rfl (fun ls hl => ?_)
          refine lv_iinc (v := (nI (i + 1))) (lv' := [(5, .int (nI (i + 1))), (3, .long (acc + 1)), (0, .ref (ad 200)), (1, .int (nI c))]) hx hb dX11_about_92 hl (k := 3) rfl (nI_1 i) (by decide) rfl (fun ls hl => ?_)
          refine lv_goto (tgt := 58) hx hb dX11_about_95 (by decide) ?_
          exact ih58 (i + 1) (acc + 1) ls (by omega) (by omega) (by rw [ha, kHd, if_neg c_3]) (lv_sub hl [2, 3, 1, 0] rfl)
  · exact absurd kC c_1
set_option maxHeartbeats 4000000 in
set_option maxRecDepth 100000 in
theorem c_X11_worst (l : Launch) (D : va_G) (tc : Nat → ClassId) (sz : Nat) (ad : Nat → Nat) (ct : Nat → Option va_E) {N nt no nf : Nat} {ft tr b cm da bs : Int32} {g : Int64}     {ho : Nat → Int64}             (h0 : ct 200 = some (.inr (11, [.int ft, .int tr, .int (nI N), .int b, .ref (ad 201), .long g, .int cm, .int da, .int (nI nt), .ref (ad 202), .ref (ad 203), .ref (ad 204), .ref (ad 205), .ref (ad 206), .ref (ad 207), .ref (ad 208), .ref (ad 209), .int (nI no), .ref (ad 210), .ref (ad 211), .ref (ad 212), .ref (ad 213), .ref (ad 214), .int bs, .int (nI nf), .ref (ad 215), .ref (ad 216)]))) (h205 : ct 205 = some (eJ tc 48 ho)) (hN : N ≤ 8) (hnt : nt ≤ 6) : Met l yX11_worst wsX11_worst ({ frames := 1, cells := 0, slots := 0, locals := 24 }) (va_Pc [.ref (ad 200)] (kw_B D tc sz ad ct)) (k2_QcV (.long (kWr g (kU b N) ho nt N))) 0 0 (fun _ => False) := by
  refine Met.ofW (cc := cX11_worst) (maxL := 8) (ret := (some .long)) (by decide) rfl ?_
  intro pg en s m args below meth cod s₁ B hml hv
  obtain ⟨rfl, hsz, hP0, hK⟩ := hv
  have hx := B.exec
  have hb := B.bytes
  have hr := B.returns
  have hts := atoms_spec (ws := wsX11_worst) B.pre
  have hown : s.vm.findClass RX11 = some m.cls := findClass_of_methodNamed B.named
  have hlocks := B.notSynchronized
  subst hsz
  have hw := kw_H.start hP0
  generalize kw_A ad ct s.heap.size = A at hw
  have hinX11 : ∀ w ∈ wsX110, w ∈ wsX11_worst := by decide +kernel
  have hl := lv_entry ([.ref (ad 200)]) (n := 8) (Nat.le_of_ble_eq_true rfl)
  rw [lg_entry_eq]
  generalize (lg_sl ([.ref (ad 200)]) ++ List.replicate (8 - (lg_sl ([.ref (ad 200)])).length) Slot.unset).toArray = ls at hl ⊢
  have hl : lv_has ls 8 [(0, .ref (ad 200))] := hl
  have S0 : CallFix pg m cod cX11_worst 8 s _ wsX11_worst RX11 := ⟨hx, hb, hml, hown, hts⟩
  refine lv_lconst (v := 0) hx hb dX11_worst_0 (by decide) ?_
  refine lv_lstore_n (lv' := [(1, .long 0), (0, .ref (ad 200))]) hx hb dX11_worst_1 rfl hl (by decide) rfl (fun ls hl => ?_)
  refine lv_iconst (v := 0) hx hb dX11_worst_2 (by decide) ?_
  refine lv_istore_n (lv' := [(3, .int 0), (1, .long 0), (0, .ref (ad 200))]) hx hb dX11_worst_3 rfl hl (by decide) rfl (fun ls hl => ?_)
  suffices lp4 : ∀ (nfu : Nat) (i : Nat) (acc : Int64) (ls : Array Slot), N - i < nfu → i ≤ N → acc = kMz (fun c => g - kU b N * su (fun t => ho (8 * t + c)) nt) i → lv_has ls 8 [(0, .ref (ad 200)), (1, .long acc), (3, .int (nI i))] → W pg l en (headSpec wsX11_worst ({ frames := 1, cells := 0, slots := 0, locals := 24 })).room s m (([.ref (ad 200)] : List Value).toArray) below meth cod s.heap [] 0 0 (MQ below (k2_QcV (.long (kWr g (kU b N) ho nt N))) (([.ref (ad 200)] : List Value).toArray) s 0 0 (fun _ => False)) (F0 m 4 ls []) by
    exact lp4 (N - 0 + 1) 0 0 ls (by omega) (by omega) (by rfl) (by have hl9 := lv_sub hl (l' := [(0, .ref (ad 200)), (1, .long 0), (3, .int 0)]) [2, 1, 0] rfl; exact hl9)
  intro n4
  induction n4 with
  | zero => intro i acc ls hfu; exact absurd hfu (Nat.not_lt_zero _)
  | succ n4 ih4 =>
    intro i acc ls hfu4 hi ha hl
    refine lv_iload_n hx hb dX11_worst_4 rfl (lv_at hl 2 rfl) ?_
    refine lv_aload_n hx hb dX11_worst_5 rfl (lv_at hl 0 rfl) ?_
    refine kg_get (v := .int (nI N)) (C := RX11) (T := TX11) (N := 27) hx hb hts hinX11 hown hK hw h0 rfl 2 (by decide) (hts (.fieldLink RX11 7 "BetMakerModel" "cases" "I") (by decide +kernel)) (fun _ h9 => h9) rfl dX11_worst_6 ?_
    refine kn_ge i N rfl rfl (by omega) (by omega) (tgt := 88) hx hb dX11_worst_9 (by decide) (fun c_1 => ?_) (fun c_1 => ?_)
    · refine lv_lload_n hx hb dX11_worst_88 rfl (lv_at hl 1 rfl) ?_
      refine W.eq (congrArg (fun z => F0 m 89 ls [.long z]) (show acc = (kWr g (kU b N) ho nt N) from by rw [ha, show i = N by omega]; rfl)) ?_
      exact W.lret hx hb hr (fun t ht _ => ⟨rfl, ht⟩) (fun _ h => absurd h List.not_mem_nil) dX11_worst_89
    · refine lv_lconst (v := 0) hx hb dX11_worst_12 (by decide) ?_
      refine lv_lstore (lv' := [(4, .long 0), (0, .ref (ad 200)), (1, .long acc), (3, .int (nI i))]) hx hb dX11_worst_13 hl (by decide) rfl (fun ls hl => ?_)
      refine lv_iconst (v := 0) hx hb dX11_worst_15 (by decide) ?_
      refine lv_istore (lv' := [(6, .int 0), (4, .long 0), (0, .ref (ad 200)), (1, .long acc), (3, .int (nI i))]) hx hb dX11_worst_16 hl (by decide) rfl (fun ls hl => ?_)
      suffices lp18 : ∀ (nfu : Nat) (j : Nat) (a2 : Int64) (ls : Array Slot), nt - j < nfu → j ≤ nt → a2 = su (fun t => ho (8 * t + i)) j → lv_has ls 8 [(0, .ref (ad 200)), (1, .long acc), (3, .int (nI i)), (4, .long a2), (6, .int (nI j))] → W pg l en (headSpec wsX11_worst ({ frames := 1, cells := 0, slots := 0, locals := 24 })).room s m (([.ref (ad 200)] : List Value).toArray) below meth cod s.heap [] 0 0 (MQ below (k2_QcV (.long (kWr g (kU b N) ho nt N))) (([.ref (ad 200)] : List Value).toArray) s 0 0 (fun _ => False)) (F0 m 18 ls []) by
        exact lp18 (nt - 0 + 1) 0 0 ls (by omega) (by omega) (by rfl) (by have hl9 := lv_sub hl (l' := [(0, .ref (ad 200)), (1, .long acc), (3, .int (nI i)), (4, .long 0), (6, .int 0)]) [2, 3, 4, 1, 0] rfl; exact hl9)
      intro n18
      induction n18 with
      | zero => intro j a2 ls hfu; exact absurd hfu (Nat.not_lt_zero _)
      | succ n18 ih18 =>
        intro j a2 ls hfu18 hj hb2 hl
        refine lv_iload hx hb dX11_worst_18 (lv_at hl 4 rfl) ?_
        refine lv_aload_n hx hb dX11_worst_20 rfl (lv_at hl 0 rfl) ?_
        refine kg_get (v := .int (nI nt)) (C := RX11) (T := TX11) (N := 27) hx hb hts hinX11 hown hK hw h0 rfl 8 (by decide) (hts (.fieldLink RX11 93 "BetMakerModel" "traders" "I") (by decide +kernel)) (fun _ h9 => h9) rfl dX11_worst_21 ?_
        refine kn_ge j nt rfl rfl (by omega) (by omega) (tgt := 50) hx hb dX11_worst_24 (by decide) (fun c_2 => ?_) (fun c_2 => ?_)
        · refine lv_aload_n hx hb dX11_worst_50 rfl (lv_at hl 0 rfl) ?_
          refine kg_get (v := .long g) (C := RX11) (T := TX11) (N := 27) hx hb hts hinX11 hown hK hw h0 rfl 5 (by decide) (hts (.fieldLink RX11 86 "BetMakerModel" "gain" "J") (by decide +kernel)) (fun _ h9 => h9) rfl dX11_worst_51 ?_
          refine lv_aload_n hx hb dX11_worst_54 rfl (lv_at hl 0 rfl) ?_
          refine kc_v (As := []) (rest := [.long g]) S0 (c_X11_grains l D tc s.heap.size ad ct (N := N) (nt := nt) (no := no) (nf := nf) h0) (cwV 0 hts gX11_worst_X11_grains rfl rfl rfl (by decide +kernel) ⟨Nat.le_of_ble_eq_true rfl, Nat.le_of_ble_eq_true rfl⟩) hK hw h0 rfl rfl hl.1 rfl (Nat.le_of_ble_eq_true rfl) dX11_worst_55 ⟨Nat.le_of_ble_eq_true rfl, (Nat.le_of_ble_eq_true rfl)⟩ ?_
          refine lv_lload hx hb dX11_worst_58 (lv_at hl 3 rfl) ?_
          refine lv_lmul hx hb dX11_worst_60 ?_
          refine lv_lsub hx hb dX11_worst_61 ?_
          refine lv_lstore (lv' := [(6, .long (g - ((kU b N) * a2))), (0, .ref (ad 200)), (1, .long acc), (3, .int (nI i)), (4, .long a2)]) hx hb dX11_worst_62 hl (by decide) rfl (fun ls hl => ?_)
          refine lv_iload_n hx hb dX11_worst_64 rfl (lv_at hl 3 rfl) ?_
          refine lv_if_eq (tgt := 75) hx hb dX11_worst_65 (by decide) (fun c_3 => ?_) (fun c_3 => ?_)
          · refine lv_lload hx hb dX11_worst_75 (lv_at hl 0 rfl) ?_
            refine lv_goto (tgt := 81) hx hb dX11_worst_77 (by decide) ?_
            refine lv_lstore_n (lv' := [(1, .long (g - ((kU b N) * a2))), (6, .long (g - ((kU b N) * a2))), (0, .ref (ad 200)), (3, .int (nI i)), (4, .long a2)]) hx hb dX11_worst_81 rfl hl (by decide) rfl (fun ls hl => ?_)
            refine lv_iinc (v := (nI (i + 1))) (lv' := [(3, .int (nI (i + 1))), (1, .long (g - ((kU b N) * a2))), (6, .long (g - ((kU b N) * a2))), (0, .ref (ad 200)), (4, .long a2)]) hx hb dX11_worst_82 hl (k := 3) rfl (nI_1 i) (by decide) rfl (fun ls hl => ?_)
            refine lv_goto (tgt := 4) hx hb dX11_worst_85 (by decide) ?_
            exact ih4 (i + 1) (g - ((kU b N) * a2)) ls (by omega) (by omega) (by rw [hb2, show j = nt by omega]; exact kMz_1 (v := fun c => g - kU b N * su (fun t => ho (8 * t + c)) nt) (by omega) c_3) (lv_sub hl [3, 1, 0] rfl)
          · refine lv_lload hx hb dX11_worst_68 (lv_at hl 0 rfl) ?_
            refine lv_lload_n hx hb dX11_worst_70 rfl (lv_at hl 2 rfl) ?_
            refine W.lcmp hx hb dX11_worst_71 ?_
            refine kl_ge (tgt := 80) hx hb dX11_worst_72 (by decide) (fun c_4 => ?_) (fun c_4 => ?_)
            · refine lv_lload_n hx hb dX11_worst_80 rfl (lv_at hl 2 rfl) ?_
              refine lv_lstore_n (lv' := [(1, .long acc), (6, .long (g - ((kU b N) * a2))), (0, .ref (ad 200)), (3, .int (nI i)), (4, .long a2)]) hx hb dX11_worst_81 rfl hl (by decide) rfl (fun ls hl => ?_)
              refine lv_iinc (v := (nI (i + 1))) (lv' := [(3, .int (nI (i + 1))), (1, .long acc), (6, .long (g - ((kU b N) * a2))), (0, .ref (ad 200)), (4, .long a2)]) hx hb dX11_worst_82 hl (k := 3) rfl (nI_1 i) (by decide) rfl (fun ls hl => ?_)
              refine lv_goto (tgt := 4) hx hb dX11_worst_85 (by decide) ?_
              exact ih4 (i + 1) acc ls (by omega) (by omega) (by rw [ha, hb2, show j = nt by omega] at c_4; rw [ha]; exact kMz_3 (v := fun c => g - kU b N * su (fun t => ho (8 * t + c)) nt) (by omega) c_3 c_4) (lv_sub hl [3, 1, 0] rfl)
            · refine lv_lload hx hb dX11_worst_75 (lv_at hl 0 rfl) ?_
              refine lv_goto (tgt := 81) hx hb dX11_worst_77 (by decide) ?_
              refine lv_lstore_n (lv' := [(1, .long (g - ((kU b N) * a2))), (6, .long (g - ((kU b N) * a2))), (0, .ref (ad 200)), (3, .int (nI i)), (4, .long a2)]) hx hb dX11_worst_81 rfl hl (by decide) rfl (fun ls hl => ?_)
              refine lv_iinc (v := (nI (i + 1))) (lv' := [(3, .int (nI (i + 1))), (1, .long (g - ((kU b N) * a2))), (6, .long (g - ((kU b N) * a2))), (0, .ref (ad 200)), (4, .long a2)]) hx hb dX11_worst_82 hl (k := 3) rfl (nI_1 i) (by decide) rfl (fun ls hl => ?_)
              refine lv_goto (tgt := 4) hx hb dX11_worst_85 (by decide) ?_
              exact ih4 (i + 1) (g - ((kU b N) * a2)) ls (by omega) (by omega) (by rw [ha, hb2, show j = nt by omega] at c_4; rw [hb2, show j = nt by omega]; exact kMz_2 (v := fun c => g - kU b N * su (fun t => ho (8 * t + c)) nt) c_4) (lv_sub hl [3, 1, 0] rfl)
        · refine lv_lload hx hb dX11_worst_27 (lv_at hl 3 rfl) ?_
          refine lv_aload_n hx hb dX11_worst_29 rfl (lv_at hl 0 rfl) ?_
          refine kg_get (v := .ref (ad 205)) (C := RX11) (T := TX11) (N := 27) hx hb hts hinX11 hown hK hw h0 rfl 12 (by decide) (hts (.fieldLink RX11 33 "BetMakerModel" "holds" "[J") (by decide +kernel)) (fun _ h9 => h9) rfl dX11_worst_30 ?_
          refine lv_bipush (v := 8) hx hb dX11_worst_33 (by decide) ?_
          refine lv_iload hx hb dX11_worst_35 (lv_at hl 4 rfl) ?_
          refine lv_imul hx hb dX11_worst_37 ?_
          refine lv_iload_n hx hb dX11_worst_38 rfl (lv_at hl 2 rfl) ?_
          refine lv_iadd hx hb dX11_worst_39 ?_
          refine kg_lald hx hb hK hw h205 ((8 * j) + i) (by simp only [kn_lit, nI_add, pk_mul, nI_1]) (by omega) (by omega) dX11_worst_40 ?_
          refine lv_ladd hx hb dX11_worst_41 ?_
          refine lv_lstore (lv' := [(4, .long (a2 + (ho ((8 * j) + i)))), (0, .ref (ad 200)), (1, .long acc), (3, .int (nI i)), (6, .int (nI j))]) hx hb dX11_worst_42 hl (by decide) rfl (fun ls hl => ?_)
          refine lv_iinc (v := (nI (j + 1))) (lv' := [(6, .int (nI (j + 1))), (4, .long (a2 + (ho ((8 * j) + i)))), (0, .ref (ad 200)), (1, .long acc), (3, .int (nI i))]) hx hb dX11_worst_44 hl (k := 4) rfl (nI_1 j) (by decide) rfl (fun ls hl => ?_)
          refine lv_goto (tgt := 18) hx hb dX11_worst_47 (by decide) ?_
          exact ih18 (j + 1) (a2 + (ho ((8 * j) + i))) ls (by omega) (by omega) (by rw [hb2]; rfl) (lv_sub hl [2, 3, 4, 1, 0] rfl)
set_option maxHeartbeats 4000000 in
set_option maxRecDepth 100000 in
theorem c_X11_maker_0 (l : Launch) (D : va_G) (tc : Nat → ClassId) (sz : Nat) (ad : Nat → Nat) (ct : Nat → Option va_E) {N nt no nf : Nat} {ft tr b cm da bs : Int32} {g : Int64} {f : Nat → Int64}                 (h0 : ct 200 = some (.inr (11, [.int ft, .int tr, .int (nI N), .int b, .ref (ad 201), .long g, .int cm, .int da, .int (nI nt), .ref (ad 202), .ref (ad 203), .ref (ad 204), .ref (ad 205), .ref (ad 206), .ref (ad 207), .ref (ad 208), .ref (ad 209), .int (nI no), .ref (ad 210), .ref (ad 211), .ref (ad 212), .ref (ad 213), .ref (ad 214), .int bs, .int (nI nf), .ref (ad 215), .ref (ad 216)]))) (h201 : ct 201 = some (eJ tc 8 f)) (hN : N ≤ 8) : Met l yX11_maker wsX11_maker ({ frames := 2, cells := 0, slots := 0, locals := 59 }) (va_Pc [.ref (ad 200), .int 0] (kw_B D tc sz ad ct)) (k2_QcV (.long (kLv b N f 0 0))) 0 0 (fun _ => False) := by
  refine Met.ofW (cc := cX11_maker) (maxL := 2) (ret := (some .long)) (by decide) rfl ?_
  intro pg en s m args below meth cod s₁ B hml hv
  obtain ⟨rfl, hsz, hP0, hK⟩ := hv
  have hx := B.exec
  have hb := B.bytes
  have hr := B.returns
  have hts := atoms_spec (ws := wsX11_maker) B.pre
  have hown : s.vm.findClass RX11 = some m.cls := findClass_of_methodNamed B.named
  have hlocks := B.notSynchronized
  subst hsz
  have hw := kw_H.start hP0
  generalize kw_A ad ct s.heap.size = A at hw
  have hinX11 : ∀ w ∈ wsX110, w ∈ wsX11_maker := by decide +kernel
  have hl := lv_entry ([.ref (ad 200), .int 0]) (n := 2) (Nat.le_of_ble_eq_true rfl)
  rw [lg_entry_eq]
  generalize (lg_sl ([.ref (ad 200), .int 0]) ++ List.replicate (2 - (lg_sl ([.ref (ad 200), .int 0])).length) Slot.unset).toArray = ls at hl ⊢
  have hl : lv_has ls 2 [(0, .ref (ad 200)), (1, .int 0)] := hl
  have S0 : CallFix pg m cod cX11_maker 2 s _ wsX11_maker RX11 := ⟨hx, hb, hml, hown, hts⟩
  refine lv_iload_n hx hb dX11_maker_0 rfl (lv_at hl 1 rfl) ?_
  refine lv_tableIn (off := 35) (tgt := 36) hx hb dX11_maker_1 (by decide) (by decide) (by decide) (by decide) ?_
  refine lv_aload_n hx hb dX11_maker_36 rfl (lv_at hl 0 rfl) ?_
  refine lv_iconst (v := 0) hx hb dX11_maker_37 (by decide) ?_
  refine lv_lconst (v := 0) hx hb dX11_maker_38 (by decide) ?_
  refine kc_v (As := [.int 0, .long 0]) (rest := []) S0 (c_X11_levelWith l D tc s.heap.size ad ct (N := N) (nt := nt) (no := no) (nf := nf) h0 h201 (by omega)) (cwV 2 hts gX11_maker_X11_levelWith rfl rfl rfl (by decide +kernel) ⟨Nat.le_of_ble_eq_true rfl, Nat.le_of_ble_eq_true rfl⟩) hK hw h0 rfl rfl hl.1 rfl (Nat.le_of_ble_eq_true rfl) dX11_maker_39 ⟨Nat.le_of_ble_eq_true rfl, (Nat.le_of_ble_eq_true rfl)⟩ ?_
  exact W.lret hx hb hr (fun t ht _ => ⟨rfl, ht⟩) (fun _ h => absurd h List.not_mem_nil) dX11_maker_42
set_option maxHeartbeats 4000000 in
set_option maxRecDepth 100000 in
theorem c_X11_maker_1 (l : Launch) (D : va_G) (tc : Nat → ClassId) (sz : Nat) (ad : Nat → Nat) (ct : Nat → Option va_E) {N nt no nf : Nat} {ft tr b cm da bs : Int32} {g : Int64}                  (h0 : ct 200 = some (.inr (11, [.int ft, .int tr, .int (nI N), .int b, .ref (ad 201), .long g, .int cm, .int da, .int (nI nt), .ref (ad 202), .ref (ad 203), .ref (ad 204), .ref (ad 205), .ref (ad 206), .ref (ad 207), .ref (ad 208), .ref (ad 209), .int (nI no), .ref (ad 210), .ref (ad 211), .ref (ad 212), .ref (ad 213), .ref (ad 214), .int bs, .int (nI nf), .ref (ad 215), .ref (ad 216)]))) : Met l yX11_maker wsX11_maker ({ frames := 2, cells := 0, slots := 0, locals := 59 }) (va_Pc [.ref (ad 200), .int 1] (kw_B D tc sz ad ct)) (k2_QcV (.long g)) 0 0 (fun _ => False) := by
  refine Met.ofW (cc := cX11_maker) (maxL := 2) (ret := (some .long)) (by decide) rfl ?_
  intro pg en s m args below meth cod s₁ B hml hv
  obtain ⟨rfl, hsz, hP0, hK⟩ := hv
  have hx := B.exec
  have hb := B.bytes
  have hr := B.returns
  have hts := atoms_spec (ws := wsX11_maker) B.pre
  have hown : s.vm.findClass RX11 = some m.cls := findClass_of_methodNamed B.named
  have hlocks := B.notSynchronized
  subst hsz
  have hw := kw_H.start hP0
  generalize kw_A ad ct s.heap.size = A at hw
  have hinX11 : ∀ w ∈ wsX110, w ∈ wsX11_maker := by decide +kernel
  have hl := lv_entry ([.ref (ad 200), .int 1]) (n := 2) (Nat.le_of_ble_eq_true rfl)
  rw [lg_entry_eq]
  generalize (lg_sl ([.ref (ad 200), .int 1]) ++ List.replicate (2 - (lg_sl ([.ref (ad 200), .int 1])).length) Slot.unset).toArray = ls at hl ⊢
  have hl : lv_has ls 2 [(0, .ref (ad 200)), (1, .int 1)] := hl
  have S0 : CallFix pg m cod cX11_maker 2 s _ wsX11_maker RX11 := ⟨hx, hb, hml, hown, hts⟩
  refine lv_iload_n hx hb dX11_maker_0 rfl (lv_at hl 1 rfl) ?_
  refine lv_tableIn (off := 42) (tgt := 43) hx hb dX11_maker_1 (by decide) (by decide) (by decide) (by decide) ?_
  refine lv_aload_n hx hb dX11_maker_43 rfl (lv_at hl 0 rfl) ?_
  refine kg_get (v := .long g) (C := RX11) (T := TX11) (N := 27) hx hb hts hinX11 hown hK hw h0 rfl 5 (by decide) (hts (.fieldLink RX11 86 "BetMakerModel" "gain" "J") (by decide +kernel)) (fun _ h9 => h9) rfl dX11_maker_44 ?_
  exact W.lret hx hb hr (fun t ht _ => ⟨rfl, ht⟩) (fun _ h => absurd h List.not_mem_nil) dX11_maker_47
set_option maxHeartbeats 4000000 in
set_option maxRecDepth 100000 in
theorem c_X11_maker_2c (l : Launch) (D : va_G) (tc : Nat → ClassId) (sz : Nat) (ad : Nat → Nat) (ct : Nat → Option va_E) {N nt no nf : Nat} {ft tr b cm da bs : Int32} {g : Int64}                  (h0 : ct 200 = some (.inr (11, [.int ft, .int tr, .int (nI N), .int b, .ref (ad 201), .long g, .int cm, .int da, .int (nI nt), .ref (ad 202), .ref (ad 203), .ref (ad 204), .ref (ad 205), .ref (ad 206), .ref (ad 207), .ref (ad 208), .ref (ad 209), .int (nI no), .ref (ad 210), .ref (ad 211), .ref (ad 212), .ref (ad 213), .ref (ad 214), .int bs, .int (nI nf), .ref (ad 215), .ref (ad 216)]))) (hm : ¬ cm = (-9)) : Met l yX11_maker wsX11_maker ({ frames := 2, cells := 0, slots := 0, locals := 59 }) (va_Pc [.ref (ad 200), .int 2] (kw_B D tc sz ad ct)) (k2_QcV (.long g)) 0 0 (fun _ => False) := by
  refine Met.ofW (cc := cX11_maker) (maxL := 2) (ret := (some .long)) (by decide) rfl ?_
  intro pg en s m args below meth cod s₁ B hml hv
  obtain ⟨rfl, hsz, hP0, hK⟩ := hv
  have hx := B.exec
  have hb := B.bytes
  have hr := B.returns
  have hts := atoms_spec (ws := wsX11_maker) B.pre
  have hown : s.vm.findClass RX11 = some m.cls := findClass_of_methodNamed B.named
  have hlocks := B.notSynchronized
  subst hsz
  have hw := kw_H.start hP0
  generalize kw_A ad ct s.heap.size = A at hw
  have hinX11 : ∀ w ∈ wsX110, w ∈ wsX11_maker := by decide +kernel
  have hl := lv_entry ([.ref (ad 200), .int 2]) (n := 2) (Nat.le_of_ble_eq_true rfl)
  rw [lg_entry_eq]
  generalize (lg_sl ([.ref (ad 200), .int 2]) ++ List.replicate (2 - (lg_sl ([.ref (ad 200), .int 2])).length) Slot.unset).toArray = ls at hl ⊢
  have hl : lv_has ls 2 [(0, .ref (ad 200)), (1, .int 2)] := hl
  have S0 : CallFix pg m cod cX11_maker 2 s _ wsX11_maker RX11 := ⟨hx, hb, hml, hown, hts⟩
  refine lv_iload_n hx hb dX11_maker_0 rfl (lv_at hl 1 rfl) ?_
  refine lv_tableIn (off := 47) (tgt := 48) hx hb dX11_maker_1 (by decide) (by decide) (by decide) (by decide) ?_
  refine lv_aload_n hx hb dX11_maker_48 rfl (lv_at hl 0 rfl) ?_
  refine kg_get (v := .int cm) (C := RX11) (T := TX11) (N := 27) hx hb hts hinX11 hown hK hw h0 rfl 6 (by decide) (hts (.fieldLink RX11 20 "BetMakerModel" "came" "I") (by decide +kernel)) (fun _ h9 => h9) rfl dX11_maker_49 ?_
  refine lv_bipush (v := (-9)) hx hb dX11_maker_52 (by decide) ?_
  refine lv_icmp_eq (tgt := 64) hx hb dX11_maker_54 (by decide) (fun c_1 => ?_) (fun c_1 => ?_)
  · exact absurd c_1 hm
  · refine lv_aload_n hx hb dX11_maker_57 rfl (lv_at hl 0 rfl) ?_
    refine kg_get (v := .long g) (C := RX11) (T := TX11) (N := 27) hx hb hts hinX11 hown hK hw h0 rfl 5 (by decide) (hts (.fieldLink RX11 86 "BetMakerModel" "gain" "J") (by decide +kernel)) (fun _ h9 => h9) rfl dX11_maker_58 ?_
    refine lv_goto (tgt := 68) hx hb dX11_maker_61 (by decide) ?_
    exact W.lret hx hb hr (fun t ht _ => ⟨rfl, ht⟩) (fun _ h => absurd h List.not_mem_nil) dX11_maker_68
set_option maxHeartbeats 4000000 in
set_option maxRecDepth 100000 in
theorem c_X11_maker_2 (l : Launch) (D : va_G) (tc : Nat → ClassId) (sz : Nat) (ad : Nat → Nat) (ct : Nat → Option va_E) {N nt no nf : Nat} {ft tr b cm da bs : Int32} {g : Int64}     {ho : Nat → Int64}             (h0 : ct 200 = some (.inr (11, [.int ft, .int tr, .int (nI N), .int b, .ref (ad 201), .long g, .int cm, .int da, .int (nI nt), .ref (ad 202), .ref (ad 203), .ref (ad 204), .ref (ad 205), .ref (ad 206), .ref (ad 207), .ref (ad 208), .ref (ad 209), .int (nI no), .ref (ad 210), .ref (ad 211), .ref (ad 212), .ref (ad 213), .ref (ad 214), .int bs, .int (nI nf), .ref (ad 215), .ref (ad 216)]))) (h205 : ct 205 = some (eJ tc 48 ho)) (hm : cm = (-9)) (hN : N ≤ 8) (hnt : nt ≤ 6) : Met l yX11_maker wsX11_maker ({ frames := 2, cells := 0, slots := 0, locals := 59 }) (va_Pc [.ref (ad 200), .int 2] (kw_B D tc sz ad ct)) (k2_QcV (.long (kWr g (kU b N) ho nt N))) 0 0 (fun _ => False) := by
  refine Met.ofW (cc := cX11_maker) (maxL := 2) (ret := (some .long)) (by decide) rfl ?_
  intro pg en s m args below meth cod s₁ B hml hv
  obtain ⟨rfl, hsz, hP0, hK⟩ := hv
  have hx := B.exec
  have hb := B.bytes
  have hr := B.returns
  have hts := atoms_spec (ws := wsX11_maker) B.pre
  have hown : s.vm.findClass RX11 = some m.cls := findClass_of_methodNamed B.named
  have hlocks := B.notSynchronized
  subst hsz
  have hw := kw_H.start hP0
  generalize kw_A ad ct s.heap.size = A at hw
  have hinX11 : ∀ w ∈ wsX110, w ∈ wsX11_maker := by decide +kernel
  have hl := lv_entry ([.ref (ad 200), .int 2]) (n := 2) (Nat.le_of_ble_eq_true rfl)
  rw [lg_entry_eq]
  generalize (lg_sl ([.ref (ad 200), .int 2]) ++ List.replicate (2 - (lg_sl ([.ref (ad 200), .int 2])).length) Slot.unset).toArray = ls at hl ⊢
  have hl : lv_has ls 2 [(0, .ref (ad 200)), (1, .int 2)] := hl
  have S0 : CallFix pg m cod cX11_maker 2 s _ wsX11_maker RX11 := ⟨hx, hb, hml, hown, hts⟩
  refine lv_iload_n hx hb dX11_maker_0 rfl (lv_at hl 1 rfl) ?_
  refine lv_tableIn (off := 47) (tgt := 48) hx hb dX11_maker_1 (by decide) (by decide) (by decide) (by decide) ?_
  refine lv_aload_n hx hb dX11_maker_48 rfl (lv_at hl 0 rfl) ?_
  refine kg_get (v := .int cm) (C := RX11) (T := TX11) (N := 27) hx hb hts hinX11 hown hK hw h0 rfl 6 (by decide) (hts (.fieldLink RX11 20 "BetMakerModel" "came" "I") (by decide +kernel)) (fun _ h9 => h9) rfl dX11_maker_49 ?_
  refine lv_bipush (v := (-9)) hx hb dX11_maker_52 (by decide) ?_
  refine lv_icmp_eq (tgt := 64) hx hb dX11_maker_54 (by decide) (fun c_1 => ?_) (fun c_1 => ?_)
  · refine lv_aload_n hx hb dX11_maker_64 rfl (lv_at hl 0 rfl) ?_
    refine kc_v (As := []) (rest := []) S0 (c_X11_worst l D tc s.heap.size ad ct (N := N) (nt := nt) (no := no) (nf := nf) h0 h205 (by omega) (by omega)) (cwV 0 hts gX11_maker_X11_worst rfl rfl rfl (by decide +kernel) ⟨Nat.le_of_ble_eq_true rfl, Nat.le_of_ble_eq_true rfl⟩) hK hw h0 rfl rfl hl.1 rfl (Nat.le_of_ble_eq_true rfl) dX11_maker_65 ⟨Nat.le_of_ble_eq_true rfl, (Nat.le_of_ble_eq_true rfl)⟩ ?_
    exact W.lret hx hb hr (fun t ht _ => ⟨rfl, ht⟩) (fun _ h => absurd h List.not_mem_nil) dX11_maker_68
  · exact absurd hm c_1
set_option maxHeartbeats 4000000 in
set_option maxRecDepth 100000 in
theorem c_X11_maker_3 (l : Launch) (D : va_G) (tc : Nat → ClassId) (sz : Nat) (ad : Nat → Nat) (ct : Nat → Option va_E) {N nt no nf : Nat} {ft tr b cm da bs : Int32} {g : Int64}                  (h0 : ct 200 = some (.inr (11, [.int ft, .int tr, .int (nI N), .int b, .ref (ad 201), .long g, .int cm, .int da, .int (nI nt), .ref (ad 202), .ref (ad 203), .ref (ad 204), .ref (ad 205), .ref (ad 206), .ref (ad 207), .ref (ad 208), .ref (ad 209), .int (nI no), .ref (ad 210), .ref (ad 211), .ref (ad 212), .ref (ad 213), .ref (ad 214), .int bs, .int (nI nf), .ref (ad 215), .ref (ad 216)]))) : Met l yX11_maker wsX11_maker ({ frames := 2, cells := 0, slots := 0, locals := 59 }) (va_Pc [.ref (ad 200), .int 3] (kw_B D tc sz ad ct)) (k2_QcV (.long (kU b N))) 0 0 (fun _ => False) := by
  refine Met.ofW (cc := cX11_maker) (maxL := 2) (ret := (some .long)) (by decide) rfl ?_
  intro pg en s m args below meth cod s₁ B hml hv
  obtain ⟨rfl, hsz, hP0, hK⟩ := hv
  have hx := B.exec
  have hb := B.bytes
  have hr := B.returns
  have hts := atoms_spec (ws := wsX11_maker) B.pre
  have hown : s.vm.findClass RX11 = some m.cls := findClass_of_methodNamed B.named
  have hlocks := B.notSynchronized
  subst hsz
  have hw := kw_H.start hP0
  generalize kw_A ad ct s.heap.size = A at hw
  have hinX11 : ∀ w ∈ wsX110, w ∈ wsX11_maker := by decide +kernel
  have hl := lv_entry ([.ref (ad 200), .int 3]) (n := 2) (Nat.le_of_ble_eq_true rfl)
  rw [lg_entry_eq]
  generalize (lg_sl ([.ref (ad 200), .int 3]) ++ List.replicate (2 - (lg_sl ([.ref (ad 200), .int 3])).length) Slot.unset).toArray = ls at hl ⊢
  have hl : lv_has ls 2 [(0, .ref (ad 200)), (1, .int 3)] := hl
  have S0 : CallFix pg m cod cX11_maker 2 s _ wsX11_maker RX11 := ⟨hx, hb, hml, hown, hts⟩
  refine lv_iload_n hx hb dX11_maker_0 rfl (lv_at hl 1 rfl) ?_
  refine lv_tableIn (off := 68) (tgt := 69) hx hb dX11_maker_1 (by decide) (by decide) (by decide) (by decide) ?_
  refine lv_aload_n hx hb dX11_maker_69 rfl (lv_at hl 0 rfl) ?_
  refine kc_v (As := []) (rest := []) S0 (c_X11_grains l D tc s.heap.size ad ct (N := N) (nt := nt) (no := no) (nf := nf) h0) (cwV 0 hts gX11_maker_X11_grains rfl rfl rfl (by decide +kernel) ⟨Nat.le_of_ble_eq_true rfl, Nat.le_of_ble_eq_true rfl⟩) hK hw h0 rfl rfl hl.1 rfl (Nat.le_of_ble_eq_true rfl) dX11_maker_70 ⟨Nat.le_of_ble_eq_true rfl, (Nat.le_of_ble_eq_true rfl)⟩ ?_
  exact W.lret hx hb hr (fun t ht _ => ⟨rfl, ht⟩) (fun _ h => absurd h List.not_mem_nil) dX11_maker_73
set_option maxHeartbeats 4000000 in
set_option maxRecDepth 100000 in
theorem c_X11_maker_4 (l : Launch) (D : va_G) (tc : Nat → ClassId) (sz : Nat) (ad : Nat → Nat) (ct : Nat → Option va_E) {N nt no nf : Nat} {ft tr b cm da bs : Int32} {g : Int64}                  (h0 : ct 200 = some (.inr (11, [.int ft, .int tr, .int (nI N), .int b, .ref (ad 201), .long g, .int cm, .int da, .int (nI nt), .ref (ad 202), .ref (ad 203), .ref (ad 204), .ref (ad 205), .ref (ad 206), .ref (ad 207), .ref (ad 208), .ref (ad 209), .int (nI no), .ref (ad 210), .ref (ad 211), .ref (ad 212), .ref (ad 213), .ref (ad 214), .int bs, .int (nI nf), .ref (ad 215), .ref (ad 216)]))) : Met l yX11_maker wsX11_maker ({ frames := 2, cells := 0, slots := 0, locals := 59 }) (va_Pc [.ref (ad 200), .int 4] (kw_B D tc sz ad ct)) (k2_QcV (.long cm.toInt64)) 0 0 (fun _ => False) := by
  refine Met.ofW (cc := cX11_maker) (maxL := 2) (ret := (some .long)) (by decide) rfl ?_
  intro pg en s m args below meth cod s₁ B hml hv
  obtain ⟨rfl, hsz, hP0, hK⟩ := hv
  have hx := B.exec
  have hb := B.bytes
  have hr := B.returns
  have hts := atoms_spec (ws := wsX11_maker) B.pre
  have hown : s.vm.findClass RX11 = some m.cls := findClass_of_methodNamed B.named
  have hlocks := B.notSynchronized
  subst hsz
  have hw := kw_H.start hP0
  generalize kw_A ad ct s.heap.size = A at hw
  have hinX11 : ∀ w ∈ wsX110, w ∈ wsX11_maker := by decide +kernel
  have hl := lv_entry ([.ref (ad 200), .int 4]) (n := 2) (Nat.le_of_ble_eq_true rfl)
  rw [lg_entry_eq]
  generalize (lg_sl ([.ref (ad 200), .int 4]) ++ List.replicate (2 - (lg_sl ([.ref (ad 200), .int 4])).length) Slot.unset).toArray = ls at hl ⊢
  have hl : lv_has ls 2 [(0, .ref (ad 200)), (1, .int 4)] := hl
  have S0 : CallFix pg m cod cX11_maker 2 s _ wsX11_maker RX11 := ⟨hx, hb, hml, hown, hts⟩
  refine lv_iload_n hx hb dX11_maker_0 rfl (lv_at hl 1 rfl) ?_
  refine lv_tableIn (off := 73) (tgt := 74) hx hb dX11_maker_1 (by decide) (by decide) (by decide) (by decide) ?_
  refine lv_aload_n hx hb dX11_maker_74 rfl (lv_at hl 0 rfl) ?_
  refine kg_get (v := .int cm) (C := RX11) (T := TX11) (N := 27) hx hb hts hinX11 hown hK hw h0 rfl 6 (by decide) (hts (.fieldLink RX11 20 "BetMakerModel" "came" "I") (by decide +kernel)) (fun _ h9 => h9) rfl dX11_maker_75 ?_
  refine lv_i2l (v := cm.toInt64) hx hb dX11_maker_78 rfl ?_
  exact W.lret hx hb hr (fun t ht _ => ⟨rfl, ht⟩) (fun _ h => absurd h List.not_mem_nil) dX11_maker_79
set_option maxHeartbeats 4000000 in
set_option maxRecDepth 100000 in
theorem c_X11_maker_d (l : Launch) (D : va_G) (tc : Nat → ClassId) (sz : Nat) (ad : Nat → Nat) (ct : Nat → Option va_E) {N nt no nf : Nat} {ft tr b cm da bs : Int32} {g : Int64}                 {what : Int32} (h0 : ct 200 = some (.inr (11, [.int ft, .int tr, .int (nI N), .int b, .ref (ad 201), .long g, .int cm, .int da, .int (nI nt), .ref (ad 202), .ref (ad 203), .ref (ad 204), .ref (ad 205), .ref (ad 206), .ref (ad 207), .ref (ad 208), .ref (ad 209), .int (nI no), .ref (ad 210), .ref (ad 211), .ref (ad 212), .ref (ad 213), .ref (ad 214), .int bs, .int (nI nf), .ref (ad 215), .ref (ad 216)]))) (w0 : ¬ what = 0) (w1 : ¬ what = 1) (w2 : ¬ what = 2) (w3 : ¬ what = 3) (w4 : ¬ what = 4) : Met l yX11_maker wsX11_maker ({ frames := 2, cells := 0, slots := 0, locals := 59 }) (va_Pc [.ref (ad 200), .int what] (kw_B D tc sz ad ct)) (k2_QcV (.long (-9223372036854775808))) 0 0 (fun _ => False) := by
  refine Met.ofW (cc := cX11_maker) (maxL := 2) (ret := (some .long)) (by decide) rfl ?_
  intro pg en s m args below meth cod s₁ B hml hv
  obtain ⟨rfl, hsz, hP0, hK⟩ := hv
  have hx := B.exec
  have hb := B.bytes
  have hr := B.returns
  have hts := atoms_spec (ws := wsX11_maker) B.pre
  have hown : s.vm.findClass RX11 = some m.cls := findClass_of_methodNamed B.named
  have hlocks := B.notSynchronized
  subst hsz
  have hw := kw_H.start hP0
  generalize kw_A ad ct s.heap.size = A at hw
  have hinX11 : ∀ w ∈ wsX110, w ∈ wsX11_maker := by decide +kernel
  have hl := lv_entry ([.ref (ad 200), .int what]) (n := 2) (Nat.le_of_ble_eq_true rfl)
  rw [lg_entry_eq]
  generalize (lg_sl ([.ref (ad 200), .int what]) ++ List.replicate (2 - (lg_sl ([.ref (ad 200), .int what])).length) Slot.unset).toArray = ls at hl ⊢
  have hl : lv_has ls 2 [(0, .ref (ad 200)), (1, .int what)] := hl
  have S0 : CallFix pg m cod cX11_maker 2 s _ wsX11_maker RX11 := ⟨hx, hb, hml, hown, hts⟩
  refine lv_iload_n hx hb dX11_maker_0 rfl (lv_at hl 1 rfl) ?_
  refine lv_tableOut (tgt := 80) hx hb dX11_maker_1 (by have q0 := lv_neT w0 (a := 0) (by decide); have q1 := lv_neT w1 (a := 1) (by decide); have q2 := lv_neT w2 (a := 2) (by decide); have q3 := lv_neT w3 (a := 3) (by decide); have q4 := lv_neT w4 (a := 4) (by decide); omega) (by decide) ?_
  refine lv_ldc2 (v := (-9223372036854775808)) hx hb hown (hts (.constantLong RX11 72 (-9223372036854775808)) (by decide +kernel)) dX11_maker_80 ?_
  exact W.lret hx hb hr (fun t ht _ => ⟨rfl, ht⟩) (fun _ h => absurd h List.not_mem_nil) dX11_maker_83
set_option maxHeartbeats 4000000 in
set_option maxRecDepth 100000 in
theorem c_X11_of_n (l : Launch) (D : va_G) (tc : Nat → ClassId) (sz : Nat) (ad : Nat → Nat) (ct : Nat → Option va_E) {N nt no nf : Nat} {ft tr b cm da bs : Int32} {g : Int64}                 {t what : Int32} (h0 : ct 200 = some (.inr (11, [.int ft, .int tr, .int (nI N), .int b, .ref (ad 201), .long g, .int cm, .int da, .int (nI nt), .ref (ad 202), .ref (ad 203), .ref (ad 204), .ref (ad 205), .ref (ad 206), .ref (ad 207), .ref (ad 208), .ref (ad 209), .int (nI no), .ref (ad 210), .ref (ad 211), .ref (ad 212), .ref (ad 213), .ref (ad 214), .int bs, .int (nI nf), .ref (ad 215), .ref (ad 216)]))) (ht : ¬ (0 ≤ t ∧ t < nI nt)) : Met l yX11_of wsX11_of ({ frames := 2, cells := 0, slots := 0, locals := 58 }) (va_Pc [.ref (ad 200), .int t, .int what] (kw_B D tc sz ad ct)) (k2_QcV (.long (-9223372036854775808))) 0 0 (fun _ => False) := by
  refine Met.ofW (cc := cX11_of) (maxL := 3) (ret := (some .long)) (by decide) rfl ?_
  intro pg en s m args below meth cod s₁ B hml hv
  obtain ⟨rfl, hsz, hP0, hK⟩ := hv
  have hx := B.exec
  have hb := B.bytes
  have hr := B.returns
  have hts := atoms_spec (ws := wsX11_of) B.pre
  have hown : s.vm.findClass RX11 = some m.cls := findClass_of_methodNamed B.named
  have hlocks := B.notSynchronized
  subst hsz
  have hw := kw_H.start hP0
  generalize kw_A ad ct s.heap.size = A at hw
  have hinX11 : ∀ w ∈ wsX110, w ∈ wsX11_of := by decide +kernel
  have hl := lv_entry ([.ref (ad 200), .int t, .int what]) (n := 3) (Nat.le_of_ble_eq_true rfl)
  rw [lg_entry_eq]
  generalize (lg_sl ([.ref (ad 200), .int t, .int what]) ++ List.replicate (3 - (lg_sl ([.ref (ad 200), .int t, .int what])).length) Slot.unset).toArray = ls at hl ⊢
  have hl : lv_has ls 3 [(0, .ref (ad 200)), (1, .int t), (2, .int what)] := hl
  have S0 : CallFix pg m cod cX11_of 3 s _ wsX11_of RX11 := ⟨hx, hb, hml, hown, hts⟩
  refine lv_aload_n hx hb dX11_of_0 rfl (lv_at hl 0 rfl) ?_
  refine lv_iload_n hx hb dX11_of_1 rfl (lv_at hl 1 rfl) ?_
  refine kc_v (As := [.int t]) (rest := []) S0 (c_X11_isTrader l D tc s.heap.size ad ct (N := N) (nt := nt) (no := no) (nf := nf) h0) (cwV 1 hts gX11_of_X11_isTrader rfl rfl rfl (by decide +kernel) ⟨Nat.le_of_ble_eq_true rfl, Nat.le_of_ble_eq_true rfl⟩) hK hw h0 rfl rfl hl.1 rfl (Nat.le_of_ble_eq_true rfl) dX11_of_2 ⟨Nat.le_of_ble_eq_true rfl, (Nat.le_of_ble_eq_true rfl)⟩ ?_
  refine kb_ifne (tgt := 12) hx hb dX11_of_5 (by decide) (fun c_1 => ?_) (fun c_1 => ?_)
  · exact absurd c_1 ht
  · refine lv_ldc2 (v := (-9223372036854775808)) hx hb hown (hts (.constantLong RX11 72 (-9223372036854775808)) (by decide +kernel)) dX11_of_8 ?_
    exact W.lret hx hb hr (fun t ht _ => ⟨rfl, ht⟩) (fun _ h => absurd h List.not_mem_nil) dX11_of_11
set_option maxHeartbeats 4000000 in
set_option maxRecDepth 100000 in
theorem c_X11_of_d (l : Launch) (D : va_G) (tc : Nat → ClassId) (sz : Nat) (ad : Nat → Nat) (ct : Nat → Option va_E) {N nt no nf : Nat} {ft tr b cm da bs : Int32} {g : Int64}                 {t what : Int32} (h0 : ct 200 = some (.inr (11, [.int ft, .int tr, .int (nI N), .int b, .ref (ad 201), .long g, .int cm, .int da, .int (nI nt), .ref (ad 202), .ref (ad 203), .ref (ad 204), .ref (ad 205), .ref (ad 206), .ref (ad 207), .ref (ad 208), .ref (ad 209), .int (nI no), .ref (ad 210), .ref (ad 211), .ref (ad 212), .ref (ad 213), .ref (ad 214), .int bs, .int (nI nf), .ref (ad 215), .ref (ad 216)]))) (ht : 0 ≤ t ∧ t < nI nt) (wa : ¬ (0 ≤ what - 10 ∧ what - 10 < nI N)) (wb : ¬ (0 ≤ what - 20 ∧ what - 20 < nI N)) (w0 : ¬ what = 0) (w1 : ¬ what = 1) (w2 : ¬ what = 2) (w3 : ¬ what = 3) (w4 : ¬ what = 4) : Met l yX11_of wsX11_of ({ frames := 2, cells := 0, slots := 0, locals := 58 }) (va_Pc [.ref (ad 200), .int t, .int what] (kw_B D tc sz ad ct)) (k2_QcV (.long (-9223372036854775808))) 0 0 (fun _ => False) := by
  refine Met.ofW (cc := cX11_of) (maxL := 3) (ret := (some .long)) (by decide) rfl ?_
  intro pg en s m args below meth cod s₁ B hml hv
  obtain ⟨rfl, hsz, hP0, hK⟩ := hv
  have hx := B.exec
  have hb := B.bytes
  have hr := B.returns
  have hts := atoms_spec (ws := wsX11_of) B.pre
  have hown : s.vm.findClass RX11 = some m.cls := findClass_of_methodNamed B.named
  have hlocks := B.notSynchronized
  subst hsz
  have hw := kw_H.start hP0
  generalize kw_A ad ct s.heap.size = A at hw
  have hinX11 : ∀ w ∈ wsX110, w ∈ wsX11_of := by decide +kernel
  have hl := lv_entry ([.ref (ad 200), .int t, .int what]) (n := 3) (Nat.le_of_ble_eq_true rfl)
  rw [lg_entry_eq]
  generalize (lg_sl ([.ref (ad 200), .int t, .int what]) ++ List.replicate (3 - (lg_sl ([.ref (ad 200), .int t, .int what])).length) Slot.unset).toArray = ls at hl ⊢
  have hl : lv_has ls 3 [(0, .ref (ad 200)), (1, .int t), (2, .int what)] := hl
  have S0 : CallFix pg m cod cX11_of 3 s _ wsX11_of RX11 := ⟨hx, hb, hml, hown, hts⟩
  refine lv_aload_n hx hb dX11_of_0 rfl (lv_at hl 0 rfl) ?_
  refine lv_iload_n hx hb dX11_of_1 rfl (lv_at hl 1 rfl) ?_
  refine kc_v (As := [.int t]) (rest := []) S0 (c_X11_isTrader l D tc s.heap.size ad ct (N := N) (nt := nt) (no := no) (nf := nf) h0) (cwV 1 hts gX11_of_X11_isTrader rfl rfl rfl (by decide +kernel) ⟨Nat.le_of_ble_eq_true rfl, Nat.le_of_ble_eq_true rfl⟩) hK hw h0 rfl rfl hl.1 rfl (Nat.le_of_ble_eq_true rfl) dX11_of_2 ⟨Nat.le_of_ble_eq_true rfl, (Nat.le_of_ble_eq_true rfl)⟩ ?_
  refine kb_ifne (tgt := 12) hx hb dX11_of_5 (by decide) (fun c_1 => ?_) (fun c_1 => ?_)
  · refine lv_aload_n hx hb dX11_of_12 rfl (lv_at hl 0 rfl) ?_
    refine lv_iload_n hx hb dX11_of_13 rfl (lv_at hl 2 rfl) ?_
    refine lv_bipush (v := 10) hx hb dX11_of_14 (by decide) ?_
    refine lv_isub hx hb dX11_of_16 ?_
    refine kc_v (As := [.int (what - 10)]) (rest := []) S0 (c_X11_isCase l D tc s.heap.size ad ct (N := N) (nt := nt) (no := no) (nf := nf) h0) (cwV 1 hts gX11_of_X11_isCase rfl rfl rfl (by decide +kernel) ⟨Nat.le_of_ble_eq_true rfl, Nat.le_of_ble_eq_true rfl⟩) hK hw h0 rfl rfl hl.1 rfl (Nat.le_of_ble_eq_true rfl) dX11_of_17 ⟨Nat.le_of_ble_eq_true rfl, (Nat.le_of_ble_eq_true rfl)⟩ ?_
    refine kb_ifeq (tgt := 38) hx hb dX11_of_20 (by decide) (fun c_2 => ?_) (fun c_2 => ?_)
    · refine lv_aload_n hx hb dX11_of_38 rfl (lv_at hl 0 rfl) ?_
      refine lv_iload_n hx hb dX11_of_39 rfl (lv_at hl 2 rfl) ?_
      refine lv_bipush (v := 20) hx hb dX11_of_40 (by decide) ?_
      refine lv_isub hx hb dX11_of_42 ?_
      refine kc_v (As := [.int (what - 20)]) (rest := []) S0 (c_X11_isCase l D tc s.heap.size ad ct (N := N) (nt := nt) (no := no) (nf := nf) h0) (cwV 1 hts gX11_of_X11_isCase rfl rfl rfl (by decide +kernel) ⟨Nat.le_of_ble_eq_true rfl, Nat.le_of_ble_eq_true rfl⟩) hK hw h0 rfl rfl hl.1 rfl (Nat.le_of_ble_eq_true rfl) dX11_of_43 ⟨Nat.le_of_ble_eq_true rfl, (Nat.le_of_ble_eq_true rfl)⟩ ?_
      refine kb_ifeq (tgt := 65) hx hb dX11_of_46 (by decide) (fun c_3 => ?_) (fun c_3 => ?_)
      · refine lv_iload_n hx hb dX11_of_65 rfl (lv_at hl 2 rfl) ?_
        refine lv_tableOut (tgt := 138) hx hb dX11_of_66 (by have q0 := lv_neT w0 (a := 0) (by decide); have q1 := lv_neT w1 (a := 1) (by decide); have q2 := lv_neT w2 (a := 2) (by decide); have q3 := lv_neT w3 (a := 3) (by decide); have q4 := lv_neT w4 (a := 4) (by decide); omega) (by decide) ?_
        refine lv_ldc2 (v := (-9223372036854775808)) hx hb hown (hts (.constantLong RX11 72 (-9223372036854775808)) (by decide +kernel)) dX11_of_138 ?_
        exact W.lret hx hb hr (fun t ht _ => ⟨rfl, ht⟩) (fun _ h => absurd h List.not_mem_nil) dX11_of_141
      · exact absurd c_3 wb
    · exact absurd c_2 wa
  · exact absurd ht c_1
set_option maxHeartbeats 4000000 in
set_option maxRecDepth 100000 in
theorem c_X11_of_h (l : Launch) (D : va_G) (tc : Nat → ClassId) (sz : Nat) (ad : Nat → Nat) (ct : Nat → Option va_E) {N nt no nf : Nat} {ft tr b cm da bs : Int32} {g : Int64}     {ho : Nat → Int64}            {t c : Nat} (h0 : ct 200 = some (.inr (11, [.int ft, .int tr, .int (nI N), .int b, .ref (ad 201), .long g, .int cm, .int da, .int (nI nt), .ref (ad 202), .ref (ad 203), .ref (ad 204), .ref (ad 205), .ref (ad 206), .ref (ad 207), .ref (ad 208), .ref (ad 209), .int (nI no), .ref (ad 210), .ref (ad 211), .ref (ad 212), .ref (ad 213), .ref (ad 214), .int bs, .int (nI nf), .ref (ad 215), .ref (ad 216)]))) (h205 : ct 205 = some (eJ tc 48 ho)) (ht : t < nt) (hnt : nt ≤ 6) (hc : c < N) (hN : N ≤ 8) : Met l yX11_of wsX11_of ({ frames := 2, cells := 0, slots := 0, locals := 58 }) (va_Pc [.ref (ad 200), .int (nI t), .int (nI (10 + c))] (kw_B D tc sz ad ct)) (k2_QcV (.long (ho (8 * t + c)))) 0 0 (fun _ => False) := by
  refine Met.ofW (cc := cX11_of) (maxL := 3) (ret := (some .long)) (by decide) rfl ?_
  intro pg en s m args below meth cod s₁ B hml hv
  obtain ⟨rfl, hsz, hP0, hK⟩ := hv
  have hx := B.exec
  have hb := B.bytes
  have hr := B.returns
  have hts := atoms_spec (ws := wsX11_of) B.pre
  have hown : s.vm.findClass RX11 = some m.cls := findClass_of_methodNamed B.named
  have hlocks := B.notSynchronized
  subst hsz
  have hw := kw_H.start hP0
  generalize kw_A ad ct s.heap.size = A at hw
  have hinX11 : ∀ w ∈ wsX110, w ∈ wsX11_of := by decide +kernel
  have hl := lv_entry ([.ref (ad 200), .int (nI t), .int (nI (10 + c))]) (n := 3) (Nat.le_of_ble_eq_true rfl)
  rw [lg_entry_eq]
  generalize (lg_sl ([.ref (ad 200), .int (nI t), .int (nI (10 + c))]) ++ List.replicate (3 - (lg_sl ([.ref (ad 200), .int (nI t), .int (nI (10 + c))])).length) Slot.unset).toArray = ls at hl ⊢
  have hl : lv_has ls 3 [(0, .ref (ad 200)), (1, .int (nI t)), (2, .int (nI (10 + c)))] := hl
  have S0 : CallFix pg m cod cX11_of 3 s _ wsX11_of RX11 := ⟨hx, hb, hml, hown, hts⟩
  have kT : 0 ≤ nI t ∧ nI t < nI nt := ⟨nI_pos' (by omega), nI_lt ht (by omega)⟩
  have kA : 0 ≤ nI (10 + c) - 10 ∧ nI (10 + c) - 10 < nI N := by rw [show nI (10 + c) - 10 = nI c from kw_m 10 c (by omega)]; exact ⟨nI_pos' (by omega), nI_lt hc (by omega)⟩
  refine lv_aload_n hx hb dX11_of_0 rfl (lv_at hl 0 rfl) ?_
  refine lv_iload_n hx hb dX11_of_1 rfl (lv_at hl 1 rfl) ?_
  refine kc_v (As := [.int (nI t)]) (rest := []) S0 (c_X11_isTrader l D tc s.heap.size ad ct (N := N) (nt := nt) (no := no) (nf := nf) h0) (cwV 1 hts gX11_of_X11_isTrader rfl rfl rfl (by decide +kernel) ⟨Nat.le_of_ble_eq_true rfl, Nat.le_of_ble_eq_true rfl⟩) hK hw h0 rfl rfl hl.1 rfl (Nat.le_of_ble_eq_true rfl) dX11_of_2 ⟨Nat.le_of_ble_eq_true rfl, (Nat.le_of_ble_eq_true rfl)⟩ ?_
  refine kb_ifne (tgt := 12) hx hb dX11_of_5 (by decide) (fun c_1 => ?_) (fun c_1 => ?_)
  · refine lv_aload_n hx hb dX11_of_12 rfl (lv_at hl 0 rfl) ?_
    refine lv_iload_n hx hb dX11_of_13 rfl (lv_at hl 2 rfl) ?_
    refine lv_bipush (v := 10) hx hb dX11_of_14 (by decide) ?_
    refine lv_isub hx hb dX11_of_16 ?_
    refine kc_v (As := [.int ((nI (10 + c)) - 10)]) (rest := []) S0 (c_X11_isCase l D tc s.heap.size ad ct (N := N) (nt := nt) (no := no) (nf := nf) h0) (cwV 1 hts gX11_of_X11_isCase rfl rfl rfl (by decide +kernel) ⟨Nat.le_of_ble_eq_true rfl, Nat.le_of_ble_eq_true rfl⟩) hK hw h0 rfl rfl hl.1 rfl (Nat.le_of_ble_eq_true rfl) dX11_of_17 ⟨Nat.le_of_ble_eq_true rfl, (Nat.le_of_ble_eq_true rfl)⟩ ?_
    refine kb_ifeq (tgt := 38) hx hb dX11_of_20 (by decide) (fun c_2 => ?_) (fun c_2 => ?_)
    · exact absurd kA c_2
    · refine lv_aload_n hx hb dX11_of_23 rfl (lv_at hl 0 rfl) ?_
      refine kg_get (v := .ref (ad 205)) (C := RX11) (T := TX11) (N := 27) hx hb hts hinX11 hown hK hw h0 rfl 12 (by decide) (hts (.fieldLink RX11 33 "BetMakerModel" "holds" "[J") (by decide +kernel)) (fun _ h9 => h9) rfl dX11_of_24 ?_
      refine lv_bipush (v := 8) hx hb dX11_of_27 (by decide) ?_
      refine lv_iload_n hx hb dX11_of_29 rfl (lv_at hl 1 rfl) ?_
      refine lv_imul hx hb dX11_of_30 ?_
      refine lv_iload_n hx hb dX11_of_31 rfl (lv_at hl 2 rfl) ?_
      refine lv_iadd hx hb dX11_of_32 ?_
      refine lv_bipush (v := 10) hx hb dX11_of_33 (by decide) ?_
      refine lv_isub hx hb dX11_of_35 ?_
      refine W.eq (congrArg (fun z => F0 m 36 ls (.int z :: .ref (ad 205) :: [])) (show ((8 * (nI t)) + (nI (10 + c))) - 10 = nI (8 * t + c) from by exact kw_i t c 10)) ?_
      refine kg_lald hx hb hK hw h205 (8 * t + c) rfl (by omega) (by omega) dX11_of_36 ?_
      exact W.lret hx hb hr (fun t ht _ => ⟨rfl, ht⟩) (fun _ h => absurd h List.not_mem_nil) dX11_of_37
  · exact absurd kT c_1
set_option maxHeartbeats 4000000 in
set_option maxRecDepth 100000 in
theorem c_X11_of_w (l : Launch) (D : va_G) (tc : Nat → ClassId) (sz : Nat) (ad : Nat → Nat) (ct : Nat → Option va_E) {N nt no nf : Nat} {ft tr b cm da bs : Int32} {g : Int64}      {we : Nat → Int32}           {t c : Nat} (h0 : ct 200 = some (.inr (11, [.int ft, .int tr, .int (nI N), .int b, .ref (ad 201), .long g, .int cm, .int da, .int (nI nt), .ref (ad 202), .ref (ad 203), .ref (ad 204), .ref (ad 205), .ref (ad 206), .ref (ad 207), .ref (ad 208), .ref (ad 209), .int (nI no), .ref (ad 210), .ref (ad 211), .ref (ad 212), .ref (ad 213), .ref (ad 214), .int bs, .int (nI nf), .ref (ad 215), .ref (ad 216)]))) (h206 : ct 206 = some (eI tc 48 we)) (ht : t < nt) (hnt : nt ≤ 6) (hc : c < N) (hN : N ≤ 8) : Met l yX11_of wsX11_of ({ frames := 2, cells := 0, slots := 0, locals := 58 }) (va_Pc [.ref (ad 200), .int (nI t), .int (nI (20 + c))] (kw_B D tc sz ad ct)) (k2_QcV (.long ((we (8 * t + c)).toInt64))) 0 0 (fun _ => False) := by
  refine Met.ofW (cc := cX11_of) (maxL := 3) (ret := (some .long)) (by decide) rfl ?_
  intro pg en s m args below meth cod s₁ B hml hv
  obtain ⟨rfl, hsz, hP0, hK⟩ := hv
  have hx := B.exec
  have hb := B.bytes
  have hr := B.returns
  have hts := atoms_spec (ws := wsX11_of) B.pre
  have hown : s.vm.findClass RX11 = some m.cls := findClass_of_methodNamed B.named
  have hlocks := B.notSynchronized
  subst hsz
  have hw := kw_H.start hP0
  generalize kw_A ad ct s.heap.size = A at hw
  have hinX11 : ∀ w ∈ wsX110, w ∈ wsX11_of := by decide +kernel
  have hl := lv_entry ([.ref (ad 200), .int (nI t), .int (nI (20 + c))]) (n := 3) (Nat.le_of_ble_eq_true rfl)
  rw [lg_entry_eq]
  generalize (lg_sl ([.ref (ad 200), .int (nI t), .int (nI (20 + c))]) ++ List.replicate (3 - (lg_sl ([.ref (ad 200), .int (nI t), .int (nI (20 + c))])).length) Slot.unset).toArray = ls at hl ⊢
  have hl : lv_has ls 3 [(0, .ref (ad 200)), (1, .int (nI t)), (2, .int (nI (20 + c)))] := hl
  have S0 : CallFix pg m cod cX11_of 3 s _ wsX11_of RX11 := ⟨hx, hb, hml, hown, hts⟩
  have kT : 0 ≤ nI t ∧ nI t < nI nt := ⟨nI_pos' (by omega), nI_lt ht (by omega)⟩
  have kA : ¬ (0 ≤ nI (20 + c) - 10 ∧ nI (20 + c) - 10 < nI N) := by rw [show nI (20 + c) - 10 = nI (10 + c) from (by rw [show (20 + c) = 10 + (10 + c) by omega]; exact kw_m 10 (10 + c) (by omega))]; exact fun q => nI_nlt (a := 10 + c) (b := N) (by omega) (by omega) q.2
  have kB : 0 ≤ nI (20 + c) - 20 ∧ nI (20 + c) - 20 < nI N := by rw [show nI (20 + c) - 20 = nI c from kw_m 20 c (by omega)]; exact ⟨nI_pos' (by omega), nI_lt hc (by omega)⟩
  refine lv_aload_n hx hb dX11_of_0 rfl (lv_at hl 0 rfl) ?_
  refine lv_iload_n hx hb dX11_of_1 rfl (lv_at hl 1 rfl) ?_
  refine kc_v (As := [.int (nI t)]) (rest := []) S0 (c_X11_isTrader l D tc s.heap.size ad ct (N := N) (nt := nt) (no := no) (nf := nf) h0) (cwV 1 hts gX11_of_X11_isTrader rfl rfl rfl (by decide +kernel) ⟨Nat.le_of_ble_eq_true rfl, Nat.le_of_ble_eq_true rfl⟩) hK hw h0 rfl rfl hl.1 rfl (Nat.le_of_ble_eq_true rfl) dX11_of_2 ⟨Nat.le_of_ble_eq_true rfl, (Nat.le_of_ble_eq_true rfl)⟩ ?_
  refine kb_ifne (tgt := 12) hx hb dX11_of_5 (by decide) (fun c_1 => ?_) (fun c_1 => ?_)
  · refine lv_aload_n hx hb dX11_of_12 rfl (lv_at hl 0 rfl) ?_
    refine lv_iload_n hx hb dX11_of_13 rfl (lv_at hl 2 rfl) ?_
    refine lv_bipush (v := 10) hx hb dX11_of_14 (by decide) ?_
    refine lv_isub hx hb dX11_of_16 ?_
    refine kc_v (As := [.int ((nI (20 + c)) - 10)]) (rest := []) S0 (c_X11_isCase l D tc s.heap.size ad ct (N := N) (nt := nt) (no := no) (nf := nf) h0) (cwV 1 hts gX11_of_X11_isCase rfl rfl rfl (by decide +kernel) ⟨Nat.le_of_ble_eq_true rfl, Nat.le_of_ble_eq_true rfl⟩) hK hw h0 rfl rfl hl.1 rfl (Nat.le_of_ble_eq_true rfl) dX11_of_17 ⟨Nat.le_of_ble_eq_true rfl, (Nat.le_of_ble_eq_true rfl)⟩ ?_
    refine kb_ifeq (tgt := 38) hx hb dX11_of_20 (by decide) (fun c_2 => ?_) (fun c_2 => ?_)
    · refine lv_aload_n hx hb dX11_of_38 rfl (lv_at hl 0 rfl) ?_
      refine lv_iload_n hx hb dX11_of_39 rfl (lv_at hl 2 rfl) ?_
      refine lv_bipush (v := 20) hx hb dX11_of_40 (by decide) ?_
      refine lv_isub hx hb dX11_of_42 ?_
      refine kc_v (As := [.int ((nI (20 + c)) - 20)]) (rest := []) S0 (c_X11_isCase l D tc s.heap.size ad ct (N := N) (nt := nt) (no := no) (nf := nf) h0) (cwV 1 hts gX11_of_X11_isCase rfl rfl rfl (by decide +kernel) ⟨Nat.le_of_ble_eq_true rfl, Nat.le_of_ble_eq_true rfl⟩) hK hw h0 rfl rfl hl.1 rfl (Nat.le_of_ble_eq_true rfl) dX11_of_43 ⟨Nat.le_of_ble_eq_true rfl, (Nat.le_of_ble_eq_true rfl)⟩ ?_
      refine kb_ifeq (tgt := 65) hx hb dX11_of_46 (by decide) (fun c_3 => ?_) (fun c_3 => ?_)
      · exact absurd kB c_3
      · refine lv_aload_n hx hb dX11_of_49 rfl (lv_at hl 0 rfl) ?_
        refine kg_get (v := .ref (ad 206)) (C := RX11) (T := TX11) (N := 27) hx hb hts hinX11 hown hK hw h0 rfl 13 (by decide) (hts (.fieldLink RX11 36 "BetMakerModel" "weight" "[I") (by decide +kernel)) (fun _ h9 => h9) rfl dX11_of_50 ?_
        refine lv_bipush (v := 8) hx hb dX11_of_53 (by decide) ?_
        refine lv_iload_n hx hb dX11_of_55 rfl (lv_at hl 1 rfl) ?_
        refine lv_imul hx hb dX11_of_56 ?_
        refine lv_iload_n hx hb dX11_of_57 rfl (lv_at hl 2 rfl) ?_
        refine lv_iadd hx hb dX11_of_58 ?_
        refine lv_bipush (v := 20) hx hb dX11_of_59 (by decide) ?_
        refine lv_isub hx hb dX11_of_61 ?_
        refine W.eq (congrArg (fun z => F0 m 62 ls (.int z :: .ref (ad 206) :: [])) (show ((8 * (nI t)) + (nI (20 + c))) - 20 = nI (8 * t + c) from by exact kw_i t c 20)) ?_
        refine kg_iald hx hb hK hw h206 (8 * t + c) rfl (by omega) (by omega) dX11_of_62 ?_
        refine lv_i2l (v := (we (8 * t + c)).toInt64) hx hb dX11_of_63 rfl ?_
        exact W.lret hx hb hr (fun t ht _ => ⟨rfl, ht⟩) (fun _ h => absurd h List.not_mem_nil) dX11_of_64
    · exact absurd c_2 kA
  · exact absurd kT c_1
set_option maxHeartbeats 4000000 in
set_option maxRecDepth 100000 in
theorem c_X11_of_0 (l : Launch) (D : va_G) (tc : Nat → ClassId) (sz : Nat) (ad : Nat → Nat) (ct : Nat → Option va_E) {N nt no nf : Nat} {ft tr b cm da bs : Int32} {g : Int64}   {pu : Nat → Int64}              {t : Nat} (h0 : ct 200 = some (.inr (11, [.int ft, .int tr, .int (nI N), .int b, .ref (ad 201), .long g, .int cm, .int da, .int (nI nt), .ref (ad 202), .ref (ad 203), .ref (ad 204), .ref (ad 205), .ref (ad 206), .ref (ad 207), .ref (ad 208), .ref (ad 209), .int (nI no), .ref (ad 210), .ref (ad 211), .ref (ad 212), .ref (ad 213), .ref (ad 214), .int bs, .int (nI nf), .ref (ad 215), .ref (ad 216)]))) (h203 : ct 203 = some (eJ tc 6 pu)) (ht : t < nt) (hnt : nt ≤ 6) (hN : N ≤ 8) : Met l yX11_of wsX11_of ({ frames := 2, cells := 0, slots := 0, locals := 58 }) (va_Pc [.ref (ad 200), .int (nI t), .int 0] (kw_B D tc sz ad ct)) (k2_QcV (.long (pu t))) 0 0 (fun _ => False) := by
  refine Met.ofW (cc := cX11_of) (maxL := 3) (ret := (some .long)) (by decide) rfl ?_
  intro pg en s m args below meth cod s₁ B hml hv
  obtain ⟨rfl, hsz, hP0, hK⟩ := hv
  have hx := B.exec
  have hb := B.bytes
  have hr := B.returns
  have hts := atoms_spec (ws := wsX11_of) B.pre
  have hown : s.vm.findClass RX11 = some m.cls := findClass_of_methodNamed B.named
  have hlocks := B.notSynchronized
  subst hsz
  have hw := kw_H.start hP0
  generalize kw_A ad ct s.heap.size = A at hw
  have hinX11 : ∀ w ∈ wsX110, w ∈ wsX11_of := by decide +kernel
  have hl := lv_entry ([.ref (ad 200), .int (nI t), .int 0]) (n := 3) (Nat.le_of_ble_eq_true rfl)
  rw [lg_entry_eq]
  generalize (lg_sl ([.ref (ad 200), .int (nI t), .int 0]) ++ List.replicate (3 - (lg_sl ([.ref (ad 200), .int (nI t), .int 0])).length) Slot.unset).toArray = ls at hl ⊢
  have hl : lv_has ls 3 [(0, .ref (ad 200)), (1, .int (nI t)), (2, .int 0)] := hl
  have S0 : CallFix pg m cod cX11_of 3 s _ wsX11_of RX11 := ⟨hx, hb, hml, hown, hts⟩
  have kT : 0 ≤ nI t ∧ nI t < nI nt := ⟨nI_pos' (by omega), nI_lt ht (by omega)⟩
  have kA10 : ¬ ((0 : Int32) ≤ 0 - 10 ∧ 0 - 10 < nI N) := fun q => absurd q.1 (by decide)
  have kA20 : ¬ ((0 : Int32) ≤ 0 - 20 ∧ 0 - 20 < nI N) := fun q => absurd q.1 (by decide)
  refine lv_aload_n hx hb dX11_of_0 rfl (lv_at hl 0 rfl) ?_
  refine lv_iload_n hx hb dX11_of_1 rfl (lv_at hl 1 rfl) ?_
  refine kc_v (As := [.int (nI t)]) (rest := []) S0 (c_X11_isTrader l D tc s.heap.size ad ct (N := N) (nt := nt) (no := no) (nf := nf) h0) (cwV 1 hts gX11_of_X11_isTrader rfl rfl rfl (by decide +kernel) ⟨Nat.le_of_ble_eq_true rfl, Nat.le_of_ble_eq_true rfl⟩) hK hw h0 rfl rfl hl.1 rfl (Nat.le_of_ble_eq_true rfl) dX11_of_2 ⟨Nat.le_of_ble_eq_true rfl, (Nat.le_of_ble_eq_true rfl)⟩ ?_
  refine kb_ifne (tgt := 12) hx hb dX11_of_5 (by decide) (fun c_1 => ?_) (fun c_1 => ?_)
  · refine lv_aload_n hx hb dX11_of_12 rfl (lv_at hl 0 rfl) ?_
    refine lv_iload_n hx hb dX11_of_13 rfl (lv_at hl 2 rfl) ?_
    refine lv_bipush (v := 10) hx hb dX11_of_14 (by decide) ?_
    refine lv_isub hx hb dX11_of_16 ?_
    refine kc_v (As := [.int (0 - 10)]) (rest := []) S0 (c_X11_isCase l D tc s.heap.size ad ct (N := N) (nt := nt) (no := no) (nf := nf) h0) (cwV 1 hts gX11_of_X11_isCase rfl rfl rfl (by decide +kernel) ⟨Nat.le_of_ble_eq_true rfl, Nat.le_of_ble_eq_true rfl⟩) hK hw h0 rfl rfl hl.1 rfl (Nat.le_of_ble_eq_true rfl) dX11_of_17 ⟨Nat.le_of_ble_eq_true rfl, (Nat.le_of_ble_eq_true rfl)⟩ ?_
    refine kb_ifeq (tgt := 38) hx hb dX11_of_20 (by decide) (fun c_2 => ?_) (fun c_2 => ?_)
    · refine lv_aload_n hx hb dX11_of_38 rfl (lv_at hl 0 rfl) ?_
      refine lv_iload_n hx hb dX11_of_39 rfl (lv_at hl 2 rfl) ?_
      refine lv_bipush (v := 20) hx hb dX11_of_40 (by decide) ?_
      refine lv_isub hx hb dX11_of_42 ?_
      refine kc_v (As := [.int (0 - 20)]) (rest := []) S0 (c_X11_isCase l D tc s.heap.size ad ct (N := N) (nt := nt) (no := no) (nf := nf) h0) (cwV 1 hts gX11_of_X11_isCase rfl rfl rfl (by decide +kernel) ⟨Nat.le_of_ble_eq_true rfl, Nat.le_of_ble_eq_true rfl⟩) hK hw h0 rfl rfl hl.1 rfl (Nat.le_of_ble_eq_true rfl) dX11_of_43 ⟨Nat.le_of_ble_eq_true rfl, (Nat.le_of_ble_eq_true rfl)⟩ ?_
      refine kb_ifeq (tgt := 65) hx hb dX11_of_46 (by decide) (fun c_3 => ?_) (fun c_3 => ?_)
      · refine lv_iload_n hx hb dX11_of_65 rfl (lv_at hl 2 rfl) ?_
        refine lv_tableIn (off := 34) (tgt := 100) hx hb dX11_of_66 (by decide) (by decide) (by decide) (by decide) ?_
        refine lv_aload_n hx hb dX11_of_100 rfl (lv_at hl 0 rfl) ?_
        refine kg_get (v := .ref (ad 203)) (C := RX11) (T := TX11) (N := 27) hx hb hts hinX11 hown hK hw h0 rfl 10 (by decide) (hts (.fieldLink RX11 27 "BetMakerModel" "purse" "[J") (by decide +kernel)) (fun _ h9 => h9) rfl dX11_of_101 ?_
        refine lv_iload_n hx hb dX11_of_104 rfl (lv_at hl 1 rfl) ?_
        refine kg_lald hx hb hK hw h203 t rfl (by omega) (by omega) dX11_of_105 ?_
        exact W.lret hx hb hr (fun t ht _ => ⟨rfl, ht⟩) (fun _ h => absurd h List.not_mem_nil) dX11_of_106
      · exact absurd c_3 kA20
    · exact absurd c_2 kA10
  · exact absurd kT c_1
set_option maxHeartbeats 4000000 in
set_option maxRecDepth 100000 in
theorem c_X11_of_1 (l : Launch) (D : va_G) (tc : Nat → ClassId) (sz : Nat) (ad : Nat → Nat) (ct : Nat → Option va_E) {N nt no nf : Nat} {ft tr b cm da bs : Int32} {g : Int64}     {ho : Nat → Int64}            {t : Nat} (h0 : ct 200 = some (.inr (11, [.int ft, .int tr, .int (nI N), .int b, .ref (ad 201), .long g, .int cm, .int da, .int (nI nt), .ref (ad 202), .ref (ad 203), .ref (ad 204), .ref (ad 205), .ref (ad 206), .ref (ad 207), .ref (ad 208), .ref (ad 209), .int (nI no), .ref (ad 210), .ref (ad 211), .ref (ad 212), .ref (ad 213), .ref (ad 214), .int bs, .int (nI nf), .ref (ad 215), .ref (ad 216)]))) (h205 : ct 205 = some (eJ tc 48 ho)) (ht : t < nt) (hnt : nt ≤ 6) (hN : N ≤ 8) (hN2 : 2 ≤ N) : Met l yX11_of wsX11_of ({ frames := 2, cells := 0, slots := 0, locals := 58 }) (va_Pc [.ref (ad 200), .int (nI t), .int 1] (kw_B D tc sz ad ct)) (k2_QcV (.long (kLw (fun c => ho (8 * t + c)) 0 0 (N - 1)))) 0 0 (fun _ => False) := by
  refine Met.ofW (cc := cX11_of) (maxL := 3) (ret := (some .long)) (by decide) rfl ?_
  intro pg en s m args below meth cod s₁ B hml hv
  obtain ⟨rfl, hsz, hP0, hK⟩ := hv
  have hx := B.exec
  have hb := B.bytes
  have hr := B.returns
  have hts := atoms_spec (ws := wsX11_of) B.pre
  have hown : s.vm.findClass RX11 = some m.cls := findClass_of_methodNamed B.named
  have hlocks := B.notSynchronized
  subst hsz
  have hw := kw_H.start hP0
  generalize kw_A ad ct s.heap.size = A at hw
  have hinX11 : ∀ w ∈ wsX110, w ∈ wsX11_of := by decide +kernel
  have hl := lv_entry ([.ref (ad 200), .int (nI t), .int 1]) (n := 3) (Nat.le_of_ble_eq_true rfl)
  rw [lg_entry_eq]
  generalize (lg_sl ([.ref (ad 200), .int (nI t), .int 1]) ++ List.replicate (3 - (lg_sl ([.ref (ad 200), .int (nI t), .int 1])).length) Slot.unset).toArray = ls at hl ⊢
  have hl : lv_has ls 3 [(0, .ref (ad 200)), (1, .int (nI t)), (2, .int 1)] := hl
  have S0 : CallFix pg m cod cX11_of 3 s _ wsX11_of RX11 := ⟨hx, hb, hml, hown, hts⟩
  have kT : 0 ≤ nI t ∧ nI t < nI nt := ⟨nI_pos' (by omega), nI_lt ht (by omega)⟩
  have kA10 : ¬ ((0 : Int32) ≤ 1 - 10 ∧ 1 - 10 < nI N) := fun q => absurd q.1 (by decide)
  have kA20 : ¬ ((0 : Int32) ≤ 1 - 20 ∧ 1 - 20 < nI N) := fun q => absurd q.1 (by decide)
  refine lv_aload_n hx hb dX11_of_0 rfl (lv_at hl 0 rfl) ?_
  refine lv_iload_n hx hb dX11_of_1 rfl (lv_at hl 1 rfl) ?_
  refine kc_v (As := [.int (nI t)]) (rest := []) S0 (c_X11_isTrader l D tc s.heap.size ad ct (N := N) (nt := nt) (no := no) (nf := nf) h0) (cwV 1 hts gX11_of_X11_isTrader rfl rfl rfl (by decide +kernel) ⟨Nat.le_of_ble_eq_true rfl, Nat.le_of_ble_eq_true rfl⟩) hK hw h0 rfl rfl hl.1 rfl (Nat.le_of_ble_eq_true rfl) dX11_of_2 ⟨Nat.le_of_ble_eq_true rfl, (Nat.le_of_ble_eq_true rfl)⟩ ?_
  refine kb_ifne (tgt := 12) hx hb dX11_of_5 (by decide) (fun c_1 => ?_) (fun c_1 => ?_)
  · refine lv_aload_n hx hb dX11_of_12 rfl (lv_at hl 0 rfl) ?_
    refine lv_iload_n hx hb dX11_of_13 rfl (lv_at hl 2 rfl) ?_
    refine lv_bipush (v := 10) hx hb dX11_of_14 (by decide) ?_
    refine lv_isub hx hb dX11_of_16 ?_
    refine kc_v (As := [.int (1 - 10)]) (rest := []) S0 (c_X11_isCase l D tc s.heap.size ad ct (N := N) (nt := nt) (no := no) (nf := nf) h0) (cwV 1 hts gX11_of_X11_isCase rfl rfl rfl (by decide +kernel) ⟨Nat.le_of_ble_eq_true rfl, Nat.le_of_ble_eq_true rfl⟩) hK hw h0 rfl rfl hl.1 rfl (Nat.le_of_ble_eq_true rfl) dX11_of_17 ⟨Nat.le_of_ble_eq_true rfl, (Nat.le_of_ble_eq_true rfl)⟩ ?_
    refine kb_ifeq (tgt := 38) hx hb dX11_of_20 (by decide) (fun c_2 => ?_) (fun c_2 => ?_)
    · refine lv_aload_n hx hb dX11_of_38 rfl (lv_at hl 0 rfl) ?_
      refine lv_iload_n hx hb dX11_of_39 rfl (lv_at hl 2 rfl) ?_
      refine lv_bipush (v := 20) hx hb dX11_of_40 (by decide) ?_
      refine lv_isub hx hb dX11_of_42 ?_
      refine kc_v (As := [.int (1 - 20)]) (rest := []) S0 (c_X11_isCase l D tc s.heap.size ad ct (N := N) (nt := nt) (no := no) (nf := nf) h0) (cwV 1 hts gX11_of_X11_isCase rfl rfl rfl (by decide +kernel) ⟨Nat.le_of_ble_eq_true rfl, Nat.le_of_ble_eq_true rfl⟩) hK hw h0 rfl rfl hl.1 rfl (Nat.le_of_ble_eq_true rfl) dX11_of_43 ⟨Nat.le_of_ble_eq_true rfl, (Nat.le_of_ble_eq_true rfl)⟩ ?_
      refine kb_ifeq (tgt := 65) hx hb dX11_of_46 (by decide) (fun c_3 => ?_) (fun c_3 => ?_)
      · refine lv_iload_n hx hb dX11_of_65 rfl (lv_at hl 2 rfl) ?_
        refine lv_tableIn (off := 41) (tgt := 107) hx hb dX11_of_66 (by decide) (by decide) (by decide) (by decide) ?_
        refine lv_aload_n hx hb dX11_of_107 rfl (lv_at hl 0 rfl) ?_
        refine lv_iload_n hx hb dX11_of_108 rfl (lv_at hl 1 rfl) ?_
        refine lv_iconst (v := 0) hx hb dX11_of_109 (by decide) ?_
        refine lv_lconst (v := 0) hx hb dX11_of_110 (by decide) ?_
        refine kc_v (As := [.int (nI t), .int 0, .long 0]) (rest := []) S0 (c_X11_leastWith l D tc s.heap.size ad ct (t := t) (N := N) (nt := nt) (no := no) (nf := nf) h0 h205 (by omega) (by omega) (by omega)) (cwV 3 hts gX11_of_X11_leastWith rfl rfl rfl (by decide +kernel) ⟨Nat.le_of_ble_eq_true rfl, Nat.le_of_ble_eq_true rfl⟩) hK hw h0 rfl rfl hl.1 rfl (Nat.le_of_ble_eq_true rfl) dX11_of_111 ⟨Nat.le_of_ble_eq_true rfl, (Nat.le_of_ble_eq_true rfl)⟩ ?_
        exact W.lret hx hb hr (fun t ht _ => ⟨rfl, ht⟩) (fun _ h => absurd h List.not_mem_nil) dX11_of_114
      · exact absurd c_3 kA20
    · exact absurd c_2 kA10
  · exact absurd kT c_1
set_option maxHeartbeats 4000000 in
set_option maxRecDepth 100000 in
theorem c_X11_of_2 (l : Launch) (D : va_G) (tc : Nat → ClassId) (sz : Nat) (ad : Nat → Nat) (ct : Nat → Option va_E) {N nt no nf : Nat} {ft tr b cm da bs : Int32} {g : Int64}    {de : Nat → Int32}             {t : Nat} (h0 : ct 200 = some (.inr (11, [.int ft, .int tr, .int (nI N), .int b, .ref (ad 201), .long g, .int cm, .int da, .int (nI nt), .ref (ad 202), .ref (ad 203), .ref (ad 204), .ref (ad 205), .ref (ad 206), .ref (ad 207), .ref (ad 208), .ref (ad 209), .int (nI no), .ref (ad 210), .ref (ad 211), .ref (ad 212), .ref (ad 213), .ref (ad 214), .int bs, .int (nI nf), .ref (ad 215), .ref (ad 216)]))) (h204 : ct 204 = some (eI tc 6 de)) (ht : t < nt) (hnt : nt ≤ 6) (hN : N ≤ 8) : Met l yX11_of wsX11_of ({ frames := 2, cells := 0, slots := 0, locals := 58 }) (va_Pc [.ref (ad 200), .int (nI t), .int 2] (kw_B D tc sz ad ct)) (k2_QcV (.long ((de t).toInt64))) 0 0 (fun _ => False) := by
  refine Met.ofW (cc := cX11_of) (maxL := 3) (ret := (some .long)) (by decide) rfl ?_
  intro pg en s m args below meth cod s₁ B hml hv
  obtain ⟨rfl, hsz, hP0, hK⟩ := hv
  have hx := B.exec
  have hb := B.bytes
  have hr := B.returns
  have hts := atoms_spec (ws := wsX11_of) B.pre
  have hown : s.vm.findClass RX11 = some m.cls := findClass_of_methodNamed B.named
  have hlocks := B.notSynchronized
  subst hsz
  have hw := kw_H.start hP0
  generalize kw_A ad ct s.heap.size = A at hw
  have hinX11 : ∀ w ∈ wsX110, w ∈ wsX11_of := by decide +kernel
  have hl := lv_entry ([.ref (ad 200), .int (nI t), .int 2]) (n := 3) (Nat.le_of_ble_eq_true rfl)
  rw [lg_entry_eq]
  generalize (lg_sl ([.ref (ad 200), .int (nI t), .int 2]) ++ List.replicate (3 - (lg_sl ([.ref (ad 200), .int (nI t), .int 2])).length) Slot.unset).toArray = ls at hl ⊢
  have hl : lv_has ls 3 [(0, .ref (ad 200)), (1, .int (nI t)), (2, .int 2)] := hl
  have S0 : CallFix pg m cod cX11_of 3 s _ wsX11_of RX11 := ⟨hx, hb, hml, hown, hts⟩
  have kT : 0 ≤ nI t ∧ nI t < nI nt := ⟨nI_pos' (by omega), nI_lt ht (by omega)⟩
  have kA10 : ¬ ((0 : Int32) ≤ 2 - 10 ∧ 2 - 10 < nI N) := fun q => absurd q.1 (by decide)
  have kA20 : ¬ ((0 : Int32) ≤ 2 - 20 ∧ 2 - 20 < nI N) := fun q => absurd q.1 (by decide)
  refine lv_aload_n hx hb dX11_of_0 rfl (lv_at hl 0 rfl) ?_
  refine lv_iload_n hx hb dX11_of_1 rfl (lv_at hl 1 rfl) ?_
  refine kc_v (As := [.int (nI t)]) (rest := []) S0 (c_X11_isTrader l D tc s.heap.size ad ct (N := N) (nt := nt) (no := no) (nf := nf) h0) (cwV 1 hts gX11_of_X11_isTrader rfl rfl rfl (by decide +kernel) ⟨Nat.le_of_ble_eq_true rfl, Nat.le_of_ble_eq_true rfl⟩) hK hw h0 rfl rfl hl.1 rfl (Nat.le_of_ble_eq_true rfl) dX11_of_2 ⟨Nat.le_of_ble_eq_true rfl, (Nat.le_of_ble_eq_true rfl)⟩ ?_
  refine kb_ifne (tgt := 12) hx hb dX11_of_5 (by decide) (fun c_1 => ?_) (fun c_1 => ?_)
  · refine lv_aload_n hx hb dX11_of_12 rfl (lv_at hl 0 rfl) ?_
    refine lv_iload_n hx hb dX11_of_13 rfl (lv_at hl 2 rfl) ?_
    refine lv_bipush (v := 10) hx hb dX11_of_14 (by decide) ?_
    refine lv_isub hx hb dX11_of_16 ?_
    refine kc_v (As := [.int (2 - 10)]) (rest := []) S0 (c_X11_isCase l D tc s.heap.size ad ct (N := N) (nt := nt) (no := no) (nf := nf) h0) (cwV 1 hts gX11_of_X11_isCase rfl rfl rfl (by decide +kernel) ⟨Nat.le_of_ble_eq_true rfl, Nat.le_of_ble_eq_true rfl⟩) hK hw h0 rfl rfl hl.1 rfl (Nat.le_of_ble_eq_true rfl) dX11_of_17 ⟨Nat.le_of_ble_eq_true rfl, (Nat.le_of_ble_eq_true rfl)⟩ ?_
    refine kb_ifeq (tgt := 38) hx hb dX11_of_20 (by decide) (fun c_2 => ?_) (fun c_2 => ?_)
    · refine lv_aload_n hx hb dX11_of_38 rfl (lv_at hl 0 rfl) ?_
      refine lv_iload_n hx hb dX11_of_39 rfl (lv_at hl 2 rfl) ?_
      refine lv_bipush (v := 20) hx hb dX11_of_40 (by decide) ?_
      refine lv_isub hx hb dX11_of_42 ?_
      refine kc_v (As := [.int (2 - 20)]) (rest := []) S0 (c_X11_isCase l D tc s.heap.size ad ct (N := N) (nt := nt) (no := no) (nf := nf) h0) (cwV 1 hts gX11_of_X11_isCase rfl rfl rfl (by decide +kernel) ⟨Nat.le_of_ble_eq_true rfl, Nat.le_of_ble_eq_true rfl⟩) hK hw h0 rfl rfl hl.1 rfl (Nat.le_of_ble_eq_true rfl) dX11_of_43 ⟨Nat.le_of_ble_eq_true rfl, (Nat.le_of_ble_eq_true rfl)⟩ ?_
      refine kb_ifeq (tgt := 65) hx hb dX11_of_46 (by decide) (fun c_3 => ?_) (fun c_3 => ?_)
      · refine lv_iload_n hx hb dX11_of_65 rfl (lv_at hl 2 rfl) ?_
        refine lv_tableIn (off := 49) (tgt := 115) hx hb dX11_of_66 (by decide) (by decide) (by decide) (by decide) ?_
        refine lv_aload_n hx hb dX11_of_115 rfl (lv_at hl 0 rfl) ?_
        refine kg_get (v := .ref (ad 204)) (C := RX11) (T := TX11) (N := 27) hx hb hts hinX11 hown hK hw h0 rfl 11 (by decide) (hts (.fieldLink RX11 30 "BetMakerModel" "deals" "[I") (by decide +kernel)) (fun _ h9 => h9) rfl dX11_of_116 ?_
        refine lv_iload_n hx hb dX11_of_119 rfl (lv_at hl 1 rfl) ?_
        refine kg_iald hx hb hK hw h204 t rfl (by omega) (by omega) dX11_of_120 ?_
        refine lv_i2l (v := (de t).toInt64) hx hb dX11_of_121 rfl ?_
        exact W.lret hx hb hr (fun t ht _ => ⟨rfl, ht⟩) (fun _ h => absurd h List.not_mem_nil) dX11_of_122
      · exact absurd c_3 kA20
    · exact absurd c_2 kA10
  · exact absurd kT c_1
set_option maxHeartbeats 4000000 in
set_option maxRecDepth 100000 in
theorem c_X11_of_3 (l : Launch) (D : va_G) (tc : Nat → ClassId) (sz : Nat) (ad : Nat → Nat) (ct : Nat → Option va_E) {N nt no nf : Nat} {ft tr b cm da bs : Int32} {g : Int64}  {kd : Nat → Int32}               {t : Nat} (h0 : ct 200 = some (.inr (11, [.int ft, .int tr, .int (nI N), .int b, .ref (ad 201), .long g, .int cm, .int da, .int (nI nt), .ref (ad 202), .ref (ad 203), .ref (ad 204), .ref (ad 205), .ref (ad 206), .ref (ad 207), .ref (ad 208), .ref (ad 209), .int (nI no), .ref (ad 210), .ref (ad 211), .ref (ad 212), .ref (ad 213), .ref (ad 214), .int bs, .int (nI nf), .ref (ad 215), .ref (ad 216)]))) (h202 : ct 202 = some (eI tc 6 kd)) (ht : t < nt) (hnt : nt ≤ 6) (hN : N ≤ 8) : Met l yX11_of wsX11_of ({ frames := 2, cells := 0, slots := 0, locals := 58 }) (va_Pc [.ref (ad 200), .int (nI t), .int 3] (kw_B D tc sz ad ct)) (k2_QcV (.long ((kd t).toInt64))) 0 0 (fun _ => False) := by
  refine Met.ofW (cc := cX11_of) (maxL := 3) (ret := (some .long)) (by decide) rfl ?_
  intro pg en s m args below meth cod s₁ B hml hv
  obtain ⟨rfl, hsz, hP0, hK⟩ := hv
  have hx := B.exec
  have hb := B.bytes
  have hr := B.returns
  have hts := atoms_spec (ws := wsX11_of) B.pre
  have hown : s.vm.findClass RX11 = some m.cls := findClass_of_methodNamed B.named
  have hlocks := B.notSynchronized
  subst hsz
  have hw := kw_H.start hP0
  generalize kw_A ad ct s.heap.size = A at hw
  have hinX11 : ∀ w ∈ wsX110, w ∈ wsX11_of := by decide +kernel
  have hl := lv_entry ([.ref (ad 200), .int (nI t), .int 3]) (n := 3) (Nat.le_of_ble_eq_true rfl)
  rw [lg_entry_eq]
  generalize (lg_sl ([.ref (ad 200), .int (nI t), .int 3]) ++ List.replicate (3 - (lg_sl ([.ref (ad 200), .int (nI t), .int 3])).length) Slot.unset).toArray = ls at hl ⊢
  have hl : lv_has ls 3 [(0, .ref (ad 200)), (1, .int (nI t)), (2, .int 3)] := hl
  have S0 : CallFix pg m cod cX11_of 3 s _ wsX11_of RX11 := ⟨hx, hb, hml, hown, hts⟩
  have kT : 0 ≤ nI t ∧ nI t < nI nt := ⟨nI_pos' (by omega), nI_lt ht (by omega)⟩
  have kA10 : ¬ ((0 : Int32) ≤ 3 - 10 ∧ 3 - 10 < nI N) := fun q => absurd q.1 (by decide)
  have kA20 : ¬ ((0 : Int32) ≤ 3 - 20 ∧ 3 - 20 < nI N) := fun q => absurd q.1 (by decide)
  refine lv_aload_n hx hb dX11_of_0 rfl (lv_at hl 0 rfl) ?_
  refine lv_iload_n hx hb dX11_of_1 rfl (lv_at hl 1 rfl) ?_
  refine kc_v (As := [.int (nI t)]) (rest := []) S0 (c_X11_isTrader l D tc s.heap.size ad ct (N := N) (nt := nt) (no := no) (nf := nf) h0) (cwV 1 hts gX11_of_X11_isTrader rfl rfl rfl (by decide +kernel) ⟨Nat.le_of_ble_eq_true rfl, Nat.le_of_ble_eq_true rfl⟩) hK hw h0 rfl rfl hl.1 rfl (Nat.le_of_ble_eq_true rfl) dX11_of_2 ⟨Nat.le_of_ble_eq_true rfl, (Nat.le_of_ble_eq_true rfl)⟩ ?_
  refine kb_ifne (tgt := 12) hx hb dX11_of_5 (by decide) (fun c_1 => ?_) (fun c_1 => ?_)
  · refine lv_aload_n hx hb dX11_of_12 rfl (lv_at hl 0 rfl) ?_
    refine lv_iload_n hx hb dX11_of_13 rfl (lv_at hl 2 rfl) ?_
    refine lv_bipush (v := 10) hx hb dX11_of_14 (by decide) ?_
    refine lv_isub hx hb dX11_of_16 ?_
    refine kc_v (As := [.int (3 - 10)]) (rest := []) S0 (c_X11_isCase l D tc s.heap.size ad ct (N := N) (nt := nt) (no := no) (nf := nf) h0) (cwV 1 hts gX11_of_X11_isCase rfl rfl rfl (by decide +kernel) ⟨Nat.le_of_ble_eq_true rfl, Nat.le_of_ble_eq_true rfl⟩) hK hw h0 rfl rfl hl.1 rfl (Nat.le_of_ble_eq_true rfl) dX11_of_17 ⟨Nat.le_of_ble_eq_true rfl, (Nat.le_of_ble_eq_true rfl)⟩ ?_
    refine kb_ifeq (tgt := 38) hx hb dX11_of_20 (by decide) (fun c_2 => ?_) (fun c_2 => ?_)
    · refine lv_aload_n hx hb dX11_of_38 rfl (lv_at hl 0 rfl) ?_
      refine lv_iload_n hx hb dX11_of_39 rfl (lv_at hl 2 rfl) ?_
      refine lv_bipush (v := 20) hx hb dX11_of_40 (by decide) ?_
      refine lv_isub hx hb dX11_of_42 ?_
      refine kc_v (As := [.int (3 - 20)]) (rest := []) S0 (c_X11_isCase l D tc s.heap.size ad ct (N := N) (nt := nt) (no := no) (nf := nf) h0) (cwV 1 hts gX11_of_X11_isCase rfl rfl rfl (by decide +kernel) ⟨Nat.le_of_ble_eq_true rfl, Nat.le_of_ble_eq_true rfl⟩) hK hw h0 rfl rfl hl.1 rfl (Nat.le_of_ble_eq_true rfl) dX11_of_43 ⟨Nat.le_of_ble_eq_true rfl, (Nat.le_of_ble_eq_true rfl)⟩ ?_
      refine kb_ifeq (tgt := 65) hx hb dX11_of_46 (by decide) (fun c_3 => ?_) (fun c_3 => ?_)
      · refine lv_iload_n hx hb dX11_of_65 rfl (lv_at hl 2 rfl) ?_
        refine lv_tableIn (off := 57) (tgt := 123) hx hb dX11_of_66 (by decide) (by decide) (by decide) (by decide) ?_
        refine lv_aload_n hx hb dX11_of_123 rfl (lv_at hl 0 rfl) ?_
        refine kg_get (v := .ref (ad 202)) (C := RX11) (T := TX11) (N := 27) hx hb hts hinX11 hown hK hw h0 rfl 9 (by decide) (hts (.fieldLink RX11 23 "BetMakerModel" "kinds" "[I") (by decide +kernel)) (fun _ h9 => h9) rfl dX11_of_124 ?_
        refine lv_iload_n hx hb dX11_of_127 rfl (lv_at hl 1 rfl) ?_
        refine kg_iald hx hb hK hw h202 t rfl (by omega) (by omega) dX11_of_128 ?_
        refine lv_i2l (v := (kd t).toInt64) hx hb dX11_of_129 rfl ?_
        exact W.lret hx hb hr (fun t ht _ => ⟨rfl, ht⟩) (fun _ h => absurd h List.not_mem_nil) dX11_of_130
      · exact absurd c_3 kA20
    · exact absurd c_2 kA10
  · exact absurd kT c_1
set_option maxHeartbeats 4000000 in
set_option maxRecDepth 100000 in
theorem c_X11_of_4 (l : Launch) (D : va_G) (tc : Nat → ClassId) (sz : Nat) (ad : Nat → Nat) (ct : Nat → Option va_E) {N nt no nf : Nat} {ft tr b cm da bs : Int32} {g : Int64}      {we : Nat → Int32}           {t : Nat} (h0 : ct 200 = some (.inr (11, [.int ft, .int tr, .int (nI N), .int b, .ref (ad 201), .long g, .int cm, .int da, .int (nI nt), .ref (ad 202), .ref (ad 203), .ref (ad 204), .ref (ad 205), .ref (ad 206), .ref (ad 207), .ref (ad 208), .ref (ad 209), .int (nI no), .ref (ad 210), .ref (ad 211), .ref (ad 212), .ref (ad 213), .ref (ad 214), .int bs, .int (nI nf), .ref (ad 215), .ref (ad 216)]))) (h206 : ct 206 = some (eI tc 48 we)) (ht : t < nt) (hnt : nt ≤ 6) (hN : N ≤ 8) : Met l yX11_of wsX11_of ({ frames := 2, cells := 0, slots := 0, locals := 58 }) (va_Pc [.ref (ad 200), .int (nI t), .int 4] (kw_B D tc sz ad ct)) (k2_QcV (.long ((sw (fun c => we (8 * t + c)) N).toInt64))) 0 0 (fun _ => False) := by
  refine Met.ofW (cc := cX11_of) (maxL := 3) (ret := (some .long)) (by decide) rfl ?_
  intro pg en s m args below meth cod s₁ B hml hv
  obtain ⟨rfl, hsz, hP0, hK⟩ := hv
  have hx := B.exec
  have hb := B.bytes
  have hr := B.returns
  have hts := atoms_spec (ws := wsX11_of) B.pre
  have hown : s.vm.findClass RX11 = some m.cls := findClass_of_methodNamed B.named
  have hlocks := B.notSynchronized
  subst hsz
  have hw := kw_H.start hP0
  generalize kw_A ad ct s.heap.size = A at hw
  have hinX11 : ∀ w ∈ wsX110, w ∈ wsX11_of := by decide +kernel
  have hl := lv_entry ([.ref (ad 200), .int (nI t), .int 4]) (n := 3) (Nat.le_of_ble_eq_true rfl)
  rw [lg_entry_eq]
  generalize (lg_sl ([.ref (ad 200), .int (nI t), .int 4]) ++ List.replicate (3 - (lg_sl ([.ref (ad 200), .int (nI t), .int 4])).length) Slot.unset).toArray = ls at hl ⊢
  have hl : lv_has ls 3 [(0, .ref (ad 200)), (1, .int (nI t)), (2, .int 4)] := hl
  have S0 : CallFix pg m cod cX11_of 3 s _ wsX11_of RX11 := ⟨hx, hb, hml, hown, hts⟩
  have kT : 0 ≤ nI t ∧ nI t < nI nt := ⟨nI_pos' (by omega), nI_lt ht (by omega)⟩
  have kA10 : ¬ ((0 : Int32) ≤ 4 - 10 ∧ 4 - 10 < nI N) := fun q => absurd q.1 (by decide)
  have kA20 : ¬ ((0 : Int32) ≤ 4 - 20 ∧ 4 - 20 < nI N) := fun q => absurd q.1 (by decide)
  refine lv_aload_n hx hb dX11_of_0 rfl (lv_at hl 0 rfl) ?_
  refine lv_iload_n hx hb dX11_of_1 rfl (lv_at hl 1 rfl) ?_
  refine kc_v (As := [.int (nI t)]) (rest := []) S0 (c_X11_isTrader l D tc s.heap.size ad ct (N := N) (nt := nt) (no := no) (nf := nf) h0) (cwV 1 hts gX11_of_X11_isTrader rfl rfl rfl (by decide +kernel) ⟨Nat.le_of_ble_eq_true rfl, Nat.le_of_ble_eq_true rfl⟩) hK hw h0 rfl rfl hl.1 rfl (Nat.le_of_ble_eq_true rfl) dX11_of_2 ⟨Nat.le_of_ble_eq_true rfl, (Nat.le_of_ble_eq_true rfl)⟩ ?_
  refine kb_ifne (tgt := 12) hx hb dX11_of_5 (by decide) (fun c_1 => ?_) (fun c_1 => ?_)
  · refine lv_aload_n hx hb dX11_of_12 rfl (lv_at hl 0 rfl) ?_
    refine lv_iload_n hx hb dX11_of_13 rfl (lv_at hl 2 rfl) ?_
    refine lv_bipush (v := 10) hx hb dX11_of_14 (by decide) ?_
    refine lv_isub hx hb dX11_of_16 ?_
    refine kc_v (As := [.int (4 - 10)]) (rest := []) S0 (c_X11_isCase l D tc s.heap.size ad ct (N := N) (nt := nt) (no := no) (nf := nf) h0) (cwV 1 hts gX11_of_X11_isCase rfl rfl rfl (by decide +kernel) ⟨Nat.le_of_ble_eq_true rfl, Nat.le_of_ble_eq_true rfl⟩) hK hw h0 rfl rfl hl.1 rfl (Nat.le_of_ble_eq_true rfl) dX11_of_17 ⟨Nat.le_of_ble_eq_true rfl, (Nat.le_of_ble_eq_true rfl)⟩ ?_
    refine kb_ifeq (tgt := 38) hx hb dX11_of_20 (by decide) (fun c_2 => ?_) (fun c_2 => ?_)
    · refine lv_aload_n hx hb dX11_of_38 rfl (lv_at hl 0 rfl) ?_
      refine lv_iload_n hx hb dX11_of_39 rfl (lv_at hl 2 rfl) ?_
      refine lv_bipush (v := 20) hx hb dX11_of_40 (by decide) ?_
      refine lv_isub hx hb dX11_of_42 ?_
      refine kc_v (As := [.int (4 - 20)]) (rest := []) S0 (c_X11_isCase l D tc s.heap.size ad ct (N := N) (nt := nt) (no := no) (nf := nf) h0) (cwV 1 hts gX11_of_X11_isCase rfl rfl rfl (by decide +kernel) ⟨Nat.le_of_ble_eq_true rfl, Nat.le_of_ble_eq_true rfl⟩) hK hw h0 rfl rfl hl.1 rfl (Nat.le_of_ble_eq_true rfl) dX11_of_43 ⟨Nat.le_of_ble_eq_true rfl, (Nat.le_of_ble_eq_true rfl)⟩ ?_
      refine kb_ifeq (tgt := 65) hx hb dX11_of_46 (by decide) (fun c_3 => ?_) (fun c_3 => ?_)
      · refine lv_iload_n hx hb dX11_of_65 rfl (lv_at hl 2 rfl) ?_
        refine lv_tableIn (off := 65) (tgt := 131) hx hb dX11_of_66 (by decide) (by decide) (by decide) (by decide) ?_
        refine lv_aload_n hx hb dX11_of_131 rfl (lv_at hl 0 rfl) ?_
        refine lv_iload_n hx hb dX11_of_132 rfl (lv_at hl 1 rfl) ?_
        refine kc_v (As := [.int (nI t)]) (rest := []) S0 (c_X11_believed l D tc s.heap.size ad ct (t := t) (N := N) (nt := nt) (no := no) (nf := nf) h0 h206 (by omega) (by omega)) (cwV 1 hts gX11_of_X11_believed rfl rfl rfl (by decide +kernel) ⟨Nat.le_of_ble_eq_true rfl, Nat.le_of_ble_eq_true rfl⟩) hK hw h0 rfl rfl hl.1 rfl (Nat.le_of_ble_eq_true rfl) dX11_of_133 ⟨Nat.le_of_ble_eq_true rfl, (Nat.le_of_ble_eq_true rfl)⟩ ?_
        refine lv_i2l (v := (sw (fun c => we (8 * t + c)) N).toInt64) hx hb dX11_of_136 rfl ?_
        exact W.lret hx hb hr (fun t ht _ => ⟨rfl, ht⟩) (fun _ h => absurd h List.not_mem_nil) dX11_of_137
      · exact absurd c_3 kA20
    · exact absurd c_2 kA10
  · exact absurd kT c_1
set_option maxHeartbeats 4000000 in
set_option maxRecDepth 100000 in
theorem c_X11_believe_u (l : Launch) (D : va_G) (tc : Nat → ClassId) (sz : Nat) (ad : Nat → Nat) (ct : Nat → Option va_E) {N nt no nf : Nat} {ft tr b cm da bs : Int32} {g : Int64}                 {t c v : Int32} (h0 : ct 200 = some (.inr (11, [.int ft, .int tr, .int (nI N), .int b, .ref (ad 201), .long g, .int cm, .int da, .int (nI nt), .ref (ad 202), .ref (ad 203), .ref (ad 204), .ref (ad 205), .ref (ad 206), .ref (ad 207), .ref (ad 208), .ref (ad 209), .int (nI no), .ref (ad 210), .ref (ad 211), .ref (ad 212), .ref (ad 213), .ref (ad 214), .int bs, .int (nI nf), .ref (ad 215), .ref (ad 216)]))) (hbad : ¬ ((0 ≤ t ∧ t < nI nt) ∧ 0 ≤ c ∧ c < nI N)) : Met l yX11_believe wsX11_believe ({ frames := 1, cells := 0, slots := 0, locals := 29 }) (va_Pc [.ref (ad 200), .int t, .int c, .int v] (kw_B D tc sz ad ct)) (k2_QcV (.int (-1))) 0 0 (fun _ => False) := by
  refine Met.ofW (cc := cX11_believe) (maxL := 5) (ret := (some .int)) (by decide) rfl ?_
  intro pg en s m args below meth cod s₁ B hml hv
  obtain ⟨rfl, hsz, hP0, hK⟩ := hv
  have hx := B.exec
  have hb := B.bytes
  have hr := B.returns
  have hts := atoms_spec (ws := wsX11_believe) B.pre
  have hown : s.vm.findClass RX11 = some m.cls := findClass_of_methodNamed B.named
  have hlocks := B.notSynchronized
  subst hsz
  have hw := kw_H.start hP0
  generalize kw_A ad ct s.heap.size = A at hw
  have hinX11 : ∀ w ∈ wsX110, w ∈ wsX11_believe := by decide +kernel
  have hl := lv_entry ([.ref (ad 200), .int t, .int c, .int v]) (n := 5) (Nat.le_of_ble_eq_true rfl)
  rw [lg_entry_eq]
  generalize (lg_sl ([.ref (ad 200), .int t, .int c, .int v]) ++ List.replicate (5 - (lg_sl ([.ref (ad 200), .int t, .int c, .int v])).length) Slot.unset).toArray = ls at hl ⊢
  have hl : lv_has ls 5 [(0, .ref (ad 200)), (1, .int t), (2, .int c), (3, .int v)] := hl
  have S0 : CallFix pg m cod cX11_believe 5 s _ wsX11_believe RX11 := ⟨hx, hb, hml, hown, hts⟩
  refine lv_aload_n hx hb dX11_believe_0 rfl (lv_at hl 0 rfl) ?_
  refine lv_iload_n hx hb dX11_believe_1 rfl (lv_at hl 1 rfl) ?_
  refine kc_v (As := [.int t]) (rest := []) S0 (c_X11_isTrader l D tc s.heap.size ad ct (N := N) (nt := nt) (no := no) (nf := nf) h0) (cwV 1 hts gX11_believe_X11_isTrader rfl rfl rfl (by decide +kernel) ⟨Nat.le_of_ble_eq_true rfl, Nat.le_of_ble_eq_true rfl⟩) hK hw h0 rfl rfl hl.1 rfl (Nat.le_of_ble_eq_true rfl) dX11_believe_2 ⟨Nat.le_of_ble_eq_true rfl, (Nat.le_of_ble_eq_true rfl)⟩ ?_
  refine kb_ifeq (tgt := 16) hx hb dX11_believe_5 (by decide) (fun c_1 => ?_) (fun c_1 => ?_)
  · refine lv_iconst (v := (-1)) hx hb dX11_believe_16 (by decide) ?_
    exact W.iret hx hb hr (fun t ht _ => ⟨rfl, ht⟩) (fun _ h => absurd h List.not_mem_nil) dX11_believe_17
  · refine lv_aload_n hx hb dX11_believe_8 rfl (lv_at hl 0 rfl) ?_
    refine lv_iload_n hx hb dX11_believe_9 rfl (lv_at hl 2 rfl) ?_
    refine kc_v (As := [.int c]) (rest := []) S0 (c_X11_isCase l D tc s.heap.size ad ct (N := N) (nt := nt) (no := no) (nf := nf) h0) (cwV 1 hts gX11_believe_X11_isCase rfl rfl rfl (by decide +kernel) ⟨Nat.le_of_ble_eq_true rfl, Nat.le_of_ble_eq_true rfl⟩) hK hw h0 rfl rfl hl.1 rfl (Nat.le_of_ble_eq_true rfl) dX11_believe_10 ⟨Nat.le_of_ble_eq_true rfl, (Nat.le_of_ble_eq_true rfl)⟩ ?_
    refine kb_ifne (tgt := 18) hx hb dX11_believe_13 (by decide) (fun c_2 => ?_) (fun c_2 => ?_)
    · exact absurd ⟨c_1, c_2⟩ hbad
    · refine lv_iconst (v := (-1)) hx hb dX11_believe_16 (by decide) ?_
      exact W.iret hx hb hr (fun t ht _ => ⟨rfl, ht⟩) (fun _ h => absurd h List.not_mem_nil) dX11_believe_17
set_option maxHeartbeats 4000000 in
set_option maxRecDepth 100000 in
theorem c_X11_believe_o (l : Launch) (D : va_G) (tc : Nat → ClassId) (sz : Nat) (ad : Nat → Nat) (ct : Nat → Option va_E) {N nt no nf : Nat} {ft tr b cm da bs : Int32} {g : Int64}                 {t c v : Int32} (h0 : ct 200 = some (.inr (11, [.int ft, .int tr, .int (nI N), .int b, .ref (ad 201), .long g, .int cm, .int da, .int (nI nt), .ref (ad 202), .ref (ad 203), .ref (ad 204), .ref (ad 205), .ref (ad 206), .ref (ad 207), .ref (ad 208), .ref (ad 209), .int (nI no), .ref (ad 210), .ref (ad 211), .ref (ad 212), .ref (ad 213), .ref (ad 214), .int bs, .int (nI nf), .ref (ad 215), .ref (ad 216)]))) (ht : 0 ≤ t ∧ t < nI nt) (hc : 0 ≤ c ∧ c < nI N) (hv : ¬ (0 ≤ v.toInt64 ∧ v.toInt64 ≤ 100)) : Met l yX11_believe wsX11_believe ({ frames := 1, cells := 0, slots := 0, locals := 29 }) (va_Pc [.ref (ad 200), .int t, .int c, .int v] (kw_B D tc sz ad ct)) (k2_QcV (.int (-2))) 0 0 (fun _ => False) := by
  refine Met.ofW (cc := cX11_believe) (maxL := 5) (ret := (some .int)) (by decide) rfl ?_
  intro pg en s m args below meth cod s₁ B hml hv
  obtain ⟨rfl, hsz, hP0, hK⟩ := hv
  have hx := B.exec
  have hb := B.bytes
  have hr := B.returns
  have hts := atoms_spec (ws := wsX11_believe) B.pre
  have hown : s.vm.findClass RX11 = some m.cls := findClass_of_methodNamed B.named
  have hlocks := B.notSynchronized
  subst hsz
  have hw := kw_H.start hP0
  generalize kw_A ad ct s.heap.size = A at hw
  have hinX11 : ∀ w ∈ wsX110, w ∈ wsX11_believe := by decide +kernel
  have hl := lv_entry ([.ref (ad 200), .int t, .int c, .int v]) (n := 5) (Nat.le_of_ble_eq_true rfl)
  rw [lg_entry_eq]
  generalize (lg_sl ([.ref (ad 200), .int t, .int c, .int v]) ++ List.replicate (5 - (lg_sl ([.ref (ad 200), .int t, .int c, .int v])).length) Slot.unset).toArray = ls at hl ⊢
  have hl : lv_has ls 5 [(0, .ref (ad 200)), (1, .int t), (2, .int c), (3, .int v)] := hl
  have S0 : CallFix pg m cod cX11_believe 5 s _ wsX11_believe RX11 := ⟨hx, hb, hml, hown, hts⟩
  refine lv_aload_n hx hb dX11_believe_0 rfl (lv_at hl 0 rfl) ?_
  refine lv_iload_n hx hb dX11_believe_1 rfl (lv_at hl 1 rfl) ?_
  refine kc_v (As := [.int t]) (rest := []) S0 (c_X11_isTrader l D tc s.heap.size ad ct (N := N) (nt := nt) (no := no) (nf := nf) h0) (cwV 1 hts gX11_believe_X11_isTrader rfl rfl rfl (by decide +kernel) ⟨Nat.le_of_ble_eq_true rfl, Nat.le_of_ble_eq_true rfl⟩) hK hw h0 rfl rfl hl.1 rfl (Nat.le_of_ble_eq_true rfl) dX11_believe_2 ⟨Nat.le_of_ble_eq_true rfl, (Nat.le_of_ble_eq_true rfl)⟩ ?_
  refine kb_ifeq (tgt := 16) hx hb dX11_believe_5 (by decide) (fun c_1 => ?_) (fun c_1 => ?_)
  · exact absurd ht c_1
  · refine lv_aload_n hx hb dX11_believe_8 rfl (lv_at hl 0 rfl) ?_
    refine lv_iload_n hx hb dX11_believe_9 rfl (lv_at hl 2 rfl) ?_
    refine kc_v (As := [.int c]) (rest := []) S0 (c_X11_isCase l D tc s.heap.size ad ct (N := N) (nt := nt) (no := no) (nf := nf) h0) (cwV 1 hts gX11_believe_X11_isCase rfl rfl rfl (by decide +kernel) ⟨Nat.le_of_ble_eq_true rfl, Nat.le_of_ble_eq_true rfl⟩) hK hw h0 rfl rfl hl.1 rfl (Nat.le_of_ble_eq_true rfl) dX11_believe_10 ⟨Nat.le_of_ble_eq_true rfl, (Nat.le_of_ble_eq_true rfl)⟩ ?_
    refine kb_ifne (tgt := 18) hx hb dX11_believe_13 (by decide) (fun c_2 => ?_) (fun c_2 => ?_)
    · refine lv_iload_n hx hb dX11_believe_18 rfl (lv_at hl 3 rfl) ?_
      refine lv_i2l (v := v.toInt64) hx hb dX11_believe_19 rfl ?_
      refine lv_lconst (v := 0) hx hb dX11_believe_20 (by decide) ?_
      refine lv_ldc2 (v := 100) hx hb hown (hts (.constantLong RX11 160 (100)) (by decide +kernel)) dX11_believe_21 ?_
      refine kc_s (As := [.long v.toInt64, .long 0, .long 100]) (rest := []) S0 (c_X11_within l D tc s.heap.size ad ct ) (va_cwS 3 hts gX11_believe_X11_within rfl rfl rfl (by decide +kernel) ⟨Nat.le_of_ble_eq_true rfl, Nat.le_of_ble_eq_true rfl⟩) hK hw rfl hl.1 rfl (Nat.le_of_ble_eq_true rfl) dX11_believe_24 ⟨Nat.le_of_ble_eq_true rfl, (Nat.le_of_ble_eq_true rfl)⟩ ?_
      refine kb_ifne (tgt := 33) hx hb dX11_believe_27 (by decide) (fun c_3 => ?_) (fun c_3 => ?_)
      · exact absurd c_3 hv
      · refine lv_bipush (v := (-2)) hx hb dX11_believe_30 (by decide) ?_
        exact W.iret hx hb hr (fun t ht _ => ⟨rfl, ht⟩) (fun _ h => absurd h List.not_mem_nil) dX11_believe_32
    · exact absurd hc c_2
set_option maxHeartbeats 4000000 in
set_option maxRecDepth 100000 in
theorem c_X11_believe_s (l : Launch) (D : va_G) (tc : Nat → ClassId) (sz : Nat) (ad : Nat → Nat) (ct : Nat → Option va_E) {N nt no nf : Nat} {ft tr b cm da bs : Int32} {g : Int64}      {we : Nat → Int32}           {t c : Nat} {v : Int32} (h0 : ct 200 = some (.inr (11, [.int ft, .int tr, .int (nI N), .int b, .ref (ad 201), .long g, .int cm, .int da, .int (nI nt), .ref (ad 202), .ref (ad 203), .ref (ad 204), .ref (ad 205), .ref (ad 206), .ref (ad 207), .ref (ad 208), .ref (ad 209), .int (nI no), .ref (ad 210), .ref (ad 211), .ref (ad 212), .ref (ad 213), .ref (ad 214), .int bs, .int (nI nf), .ref (ad 215), .ref (ad 216)]))) (h206 : ct 206 = some (eI tc 48 we)) (ht : t < nt) (hnt : nt ≤ 6) (hc : c < N) (hN : N ≤ 8) (hv : 0 ≤ v.toInt64 ∧ v.toInt64 ≤ 100) (hz : sw (fun c => we (8 * t + c)) N - we (8 * t + c) + v = 0) : Met l yX11_believe wsX11_believe ({ frames := 1, cells := 0, slots := 0, locals := 29 }) (va_Pc [.ref (ad 200), .int (nI t), .int (nI c), .int v] (kw_B D tc sz ad ct)) (k2_QcV (.int (-3))) 0 0 (fun _ => False) := by
  refine Met.ofW (cc := cX11_believe) (maxL := 5) (ret := (some .int)) (by decide) rfl ?_
  intro pg en s m args below meth cod s₁ B hml hv
  obtain ⟨rfl, hsz, hP0, hK⟩ := hv
  have hx := B.exec
  have hb := B.bytes
  have hr := B.returns
  have hts := atoms_spec (ws := wsX11_believe) B.pre
  have hown : s.vm.findClass RX11 = some m.cls := findClass_of_methodNamed B.named
  have hlocks := B.notSynchronized
  subst hsz
  have hw := kw_H.start hP0
  generalize kw_A ad ct s.heap.size = A at hw
  have hinX11 : ∀ w ∈ wsX110, w ∈ wsX11_believe := by decide +kernel
  have hl := lv_entry ([.ref (ad 200), .int (nI t), .int (nI c), .int v]) (n := 5) (Nat.le_of_ble_eq_true rfl)
  rw [lg_entry_eq]
  generalize (lg_sl ([.ref (ad 200), .int (nI t), .int (nI c), .int v]) ++ List.replicate (5 - (lg_sl ([.ref (ad 200), .int (nI t), .int (nI c), .int v])).length) Slot.unset).toArray = ls at hl ⊢
  have hl : lv_has ls 5 [(0, .ref (ad 200)), (1, .int (nI t)), (2, .int (nI c)), (3, .int v)] := hl
  have S0 : CallFix pg m cod cX11_believe 5 s _ wsX11_believe RX11 := ⟨hx, hb, hml, hown, hts⟩
  have kT : 0 ≤ nI t ∧ nI t < nI nt := ⟨nI_pos' (by omega), nI_lt ht (by omega)⟩
  have kC : 0 ≤ nI c ∧ nI c < nI N := ⟨nI_pos' (by omega), nI_lt hc (by omega)⟩
  refine lv_aload_n hx hb dX11_believe_0 rfl (lv_at hl 0 rfl) ?_
  refine lv_iload_n hx hb dX11_believe_1 rfl (lv_at hl 1 rfl) ?_
  refine kc_v (As := [.int (nI t)]) (rest := []) S0 (c_X11_isTrader l D tc s.heap.size ad ct (N := N) (nt := nt) (no := no) (nf := nf) h0) (cwV 1 hts gX11_believe_X11_isTrader rfl rfl rfl (by decide +kernel) ⟨Nat.le_of_ble_eq_true rfl, Nat.le_of_ble_eq_true rfl⟩) hK hw h0 rfl rfl hl.1 rfl (Nat.le_of_ble_eq_true rfl) dX11_believe_2 ⟨Nat.le_of_ble_eq_true rfl, (Nat.le_of_ble_eq_true rfl)⟩ ?_
  refine kb_ifeq (tgt := 16) hx hb dX11_believe_5 (by decide) (fun c_1 => ?_) (fun c_1 => ?_)
  · exact absurd kT c_1
  · refine lv_aload_n hx hb dX11_believe_8 rfl (lv_at hl 0 rfl) ?_
    refine lv_iload_n hx hb dX11_believe_9 rfl (lv_at hl 2 rfl) ?_
    refine kc_v (As := [.int (nI c)]) (rest := []) S0 (c_X11_isCase l D tc s.heap.size ad ct (N := N) (nt := nt) (no := no) (nf := nf) h0) (cwV 1 hts gX11_believe_X11_isCase rfl rfl rfl (by decide +kernel) ⟨Nat.le_of_ble_eq_true rfl, Nat.le_of_ble_eq_true rfl⟩) hK hw h0 rfl rfl hl.1 rfl (Nat.le_of_ble_eq_true rfl) dX11_believe_10 ⟨Nat.le_of_ble_eq_true rfl, (Nat.le_of_ble_eq_true rfl)⟩ ?_
    refine kb_ifne (tgt := 18) hx hb dX11_believe_13 (by decide) (fun c_2 => ?_) (fun c_2 => ?_)
    · refine lv_iload_n hx hb dX11_believe_18 rfl (lv_at hl 3 rfl) ?_
      refine lv_i2l (v := v.toInt64) hx hb dX11_believe_19 rfl ?_
      refine lv_lconst (v := 0) hx hb dX11_believe_20 (by decide) ?_
      refine lv_ldc2 (v := 100) hx hb hown (hts (.constantLong RX11 160 (100)) (by decide +kernel)) dX11_believe_21 ?_
      refine kc_s (As := [.long v.toInt64, .long 0, .long 100]) (rest := []) S0 (c_X11_within l D tc s.heap.size ad ct ) (va_cwS 3 hts gX11_believe_X11_within rfl rfl rfl (by decide +kernel) ⟨Nat.le_of_ble_eq_true rfl, Nat.le_of_ble_eq_true rfl⟩) hK hw rfl hl.1 rfl (Nat.le_of_ble_eq_true rfl) dX11_believe_24 ⟨Nat.le_of_ble_eq_true rfl, (Nat.le_of_ble_eq_true rfl)⟩ ?_
      refine kb_ifne (tgt := 33) hx hb dX11_believe_27 (by decide) (fun c_3 => ?_) (fun c_3 => ?_)
      · refine lv_aload_n hx hb dX11_believe_33 rfl (lv_at hl 0 rfl) ?_
        refine kg_get (v := .ref (ad 206)) (C := RX11) (T := TX11) (N := 27) hx hb hts hinX11 hown hK hw h0 rfl 13 (by decide) (hts (.fieldLink RX11 36 "BetMakerModel" "weight" "[I") (by decide +kernel)) (fun _ h9 => h9) rfl dX11_believe_34 ?_
        refine lv_bipush (v := 8) hx hb dX11_believe_37 (by decide) ?_
        refine lv_iload_n hx hb dX11_believe_39 rfl (lv_at hl 1 rfl) ?_
        refine lv_imul hx hb dX11_believe_40 ?_
        refine lv_iload_n hx hb dX11_believe_41 rfl (lv_at hl 2 rfl) ?_
        refine lv_iadd hx hb dX11_believe_42 ?_
        refine kg_iald hx hb hK hw h206 ((8 * t) + c) (by simp only [kn_lit, nI_add, pk_mul, nI_1]) (by omega) (by omega) dX11_believe_43 ?_
        refine lv_istore (lv' := [(4, .int (we ((8 * t) + c))), (0, .ref (ad 200)), (1, .int (nI t)), (2, .int (nI c)), (3, .int v)]) hx hb dX11_believe_44 hl (by decide) rfl (fun ls hl => ?_)
        refine lv_aload_n hx hb dX11_believe_46 rfl (lv_at hl 1 rfl) ?_
        refine lv_iload_n hx hb dX11_believe_47 rfl (lv_at hl 2 rfl) ?_
        refine kc_v (As := [.int (nI t)]) (rest := []) S0 (c_X11_believed l D tc s.heap.size ad ct (t := t) (N := N) (nt := nt) (no := no) (nf := nf) h0 h206 (by omega) (by omega)) (cwV 1 hts gX11_believe_X11_believed rfl rfl rfl (by decide +kernel) ⟨Nat.le_of_ble_eq_true rfl, Nat.le_of_ble_eq_true rfl⟩) hK hw h0 rfl rfl hl.1 rfl (Nat.le_of_ble_eq_true rfl) dX11_believe_48 ⟨Nat.le_of_ble_eq_true rfl, (Nat.le_of_ble_eq_true rfl)⟩ ?_
        refine lv_iload hx hb dX11_believe_51 (lv_at hl 0 rfl) ?_
        refine lv_isub hx hb dX11_believe_53 ?_
        refine lv_iload_n hx hb dX11_believe_54 rfl (lv_at hl 4 rfl) ?_
        refine lv_iadd hx hb dX11_believe_55 ?_
        refine lv_if_ne (tgt := 62) hx hb dX11_believe_56 (by decide) (fun c_4 => ?_) (fun c_4 => ?_)
        · exact absurd hz c_4
        · refine lv_bipush (v := (-3)) hx hb dX11_believe_59 (by decide) ?_
          exact W.iret hx hb hr (fun t ht _ => ⟨rfl, ht⟩) (fun _ h => absurd h List.not_mem_nil) dX11_believe_61
      · exact absurd hv c_3
    · exact absurd kC c_2
set_option maxHeartbeats 4000000 in
set_option maxRecDepth 100000 in
theorem c_X11_believe (l : Launch) (D : va_G) (tc : Nat → ClassId) (sz : Nat) (ad : Nat → Nat) (ct : Nat → Option va_E) {N nt no nf : Nat} {ft tr b cm da bs : Int32} {g : Int64}      {we : Nat → Int32}           {t c : Nat} {v : Int32} (h0 : ct 200 = some (.inr (11, [.int ft, .int tr, .int (nI N), .int b, .ref (ad 201), .long g, .int cm, .int da, .int (nI nt), .ref (ad 202), .ref (ad 203), .ref (ad 204), .ref (ad 205), .ref (ad 206), .ref (ad 207), .ref (ad 208), .ref (ad 209), .int (nI no), .ref (ad 210), .ref (ad 211), .ref (ad 212), .ref (ad 213), .ref (ad 214), .int bs, .int (nI nf), .ref (ad 215), .ref (ad 216)]))) (h206 : ct 206 = some (eI tc 48 we)) (ht : t < nt) (hnt : nt ≤ 6) (hc : c < N) (hN : N ≤ 8) (hv : 0 ≤ v.toInt64 ∧ v.toInt64 ≤ 100) (hz : ¬ (sw (fun c => we (8 * t + c)) N - we (8 * t + c) + v = 0)) : Met l yX11_believe wsX11_believe ({ frames := 1, cells := 0, slots := 0, locals := 29 }) (va_Pc [.ref (ad 200), .int (nI t), .int (nI c), .int v] (kw_B D tc sz ad ct)) (kw_Q D ad (kw_A ad ct sz) (some (.int (we (8 * t + c)))) (kw_up ct 206 (eI tc 48 (va_up we (8 * t + c) v))) 0) 0 0 (kw_A ad ct sz) := by
  refine Met.ofW (cc := cX11_believe) (maxL := 5) (ret := (some .int)) (by decide) rfl ?_
  intro pg en s m args below meth cod s₁ B hml hv
  obtain ⟨rfl, hsz, hP0, hK⟩ := hv
  have hx := B.exec
  have hb := B.bytes
  have hr := B.returns
  have hts := atoms_spec (ws := wsX11_believe) B.pre
  have hown : s.vm.findClass RX11 = some m.cls := findClass_of_methodNamed B.named
  have hlocks := B.notSynchronized
  subst hsz
  have hw := kw_H.start hP0
  generalize hAe : kw_A ad ct s.heap.size = A at hw ⊢
  have hA : ∀ q, s.heap.size ≤ q → A q := fun q h => by rw [← hAe]; exact Or.inr h
  have hinX11 : ∀ w ∈ wsX110, w ∈ wsX11_believe := by decide +kernel
  have hl := lv_entry ([.ref (ad 200), .int (nI t), .int (nI c), .int v]) (n := 5) (Nat.le_of_ble_eq_true rfl)
  rw [lg_entry_eq]
  generalize (lg_sl ([.ref (ad 200), .int (nI t), .int (nI c), .int v]) ++ List.replicate (5 - (lg_sl ([.ref (ad 200), .int (nI t), .int (nI c), .int v])).length) Slot.unset).toArray = ls at hl ⊢
  have hl : lv_has ls 5 [(0, .ref (ad 200)), (1, .int (nI t)), (2, .int (nI c)), (3, .int v)] := hl
  have S0 : CallFix pg m cod cX11_believe 5 s _ wsX11_believe RX11 := ⟨hx, hb, hml, hown, hts⟩
  have hfr : ∀ j, j ≠ 206 → ct j = ct j := fun _ _ => rfl
  have kT : 0 ≤ nI t ∧ nI t < nI nt := ⟨nI_pos' (by omega), nI_lt ht (by omega)⟩
  have kC : 0 ≤ nI c ∧ nI c < nI N := ⟨nI_pos' (by omega), nI_lt hc (by omega)⟩
  refine lv_aload_n hx hb dX11_believe_0 rfl (lv_at hl 0 rfl) ?_
  refine lv_iload_n hx hb dX11_believe_1 rfl (lv_at hl 1 rfl) ?_
  refine kc_v (As := [.int (nI t)]) (rest := []) S0 (c_X11_isTrader l D tc s.heap.size ad ct (N := N) (nt := nt) (no := no) (nf := nf) h0) (cwV 1 hts gX11_believe_X11_isTrader rfl rfl rfl (by decide +kernel) ⟨Nat.le_of_ble_eq_true rfl, Nat.le_of_ble_eq_true rfl⟩) hK hw h0 rfl rfl hl.1 rfl (Nat.le_of_ble_eq_true rfl) dX11_believe_2 ⟨Nat.le_of_ble_eq_true rfl, (Nat.le_of_ble_eq_true rfl)⟩ ?_
  refine kb_ifeq (tgt := 16) hx hb dX11_believe_5 (by decide) (fun c_1 => ?_) (fun c_1 => ?_)
  · exact absurd kT c_1
  · refine lv_aload_n hx hb dX11_believe_8 rfl (lv_at hl 0 rfl) ?_
    refine lv_iload_n hx hb dX11_believe_9 rfl (lv_at hl 2 rfl) ?_
    refine kc_v (As := [.int (nI c)]) (rest := []) S0 (c_X11_isCase l D tc s.heap.size ad ct (N := N) (nt := nt) (no := no) (nf := nf) h0) (cwV 1 hts gX11_believe_X11_isCase rfl rfl rfl (by decide +kernel) ⟨Nat.le_of_ble_eq_true rfl, Nat.le_of_ble_eq_true rfl⟩) hK hw h0 rfl rfl hl.1 rfl (Nat.le_of_ble_eq_true rfl) dX11_believe_10 ⟨Nat.le_of_ble_eq_true rfl, (Nat.le_of_ble_eq_true rfl)⟩ ?_
    refine kb_ifne (tgt := 18) hx hb dX11_believe_13 (by decide) (fun c_2 => ?_) (fun c_2 => ?_)
    · refine lv_iload_n hx hb dX11_believe_18 rfl (lv_at hl 3 rfl) ?_
      refine lv_i2l (v := v.toInt64) hx hb dX11_believe_19 rfl ?_
      refine lv_lconst (v := 0) hx hb dX11_believe_20 (by decide) ?_
      refine lv_ldc2 (v := 100) hx hb hown (hts (.constantLong RX11 160 (100)) (by decide +kernel)) dX11_believe_21 ?_
      refine kc_s (As := [.long v.toInt64, .long 0, .long 100]) (rest := []) S0 (c_X11_within l D tc s.heap.size ad ct ) (va_cwS 3 hts gX11_believe_X11_within rfl rfl rfl (by decide +kernel) ⟨Nat.le_of_ble_eq_true rfl, Nat.le_of_ble_eq_true rfl⟩) hK hw rfl hl.1 rfl (Nat.le_of_ble_eq_true rfl) dX11_believe_24 ⟨Nat.le_of_ble_eq_true rfl, (Nat.le_of_ble_eq_true rfl)⟩ ?_
      refine kb_ifne (tgt := 33) hx hb dX11_believe_27 (by decide) (fun c_3 => ?_) (fun c_3 => ?_)
      · refine lv_aload_n hx hb dX11_believe_33 rfl (lv_at hl 0 rfl) ?_
        refine kg_get (v := .ref (ad 206)) (C := RX11) (T := TX11) (N := 27) hx hb hts hinX11 hown hK hw h0 rfl 13 (by decide) (hts (.fieldLink RX11 36 "BetMakerModel" "weight" "[I") (by decide +kernel)) (fun _ h9 => h9) rfl dX11_believe_34 ?_
        refine lv_bipush (v := 8) hx hb dX11_believe_37 (by decide) ?_
        refine lv_iload_n hx hb dX11_believe_39 rfl (lv_at hl 1 rfl) ?_
        refine lv_imul hx hb dX11_believe_40 ?_
        refine lv_iload_n hx hb dX11_believe_41 rfl (lv_at hl 2 rfl) ?_
        refine lv_iadd hx hb dX11_believe_42 ?_
        refine kg_iald hx hb hK hw h206 ((8 * t) + c) (by simp only [kn_lit, nI_add, pk_mul, nI_1]) (by omega) (by omega) dX11_believe_43 ?_
        refine lv_istore (lv' := [(4, .int (we ((8 * t) + c))), (0, .ref (ad 200)), (1, .int (nI t)), (2, .int (nI c)), (3, .int v)]) hx hb dX11_believe_44 hl (by decide) rfl (fun ls hl => ?_)
        refine lv_aload_n hx hb dX11_believe_46 rfl (lv_at hl 1 rfl) ?_
        refine lv_iload_n hx hb dX11_believe_47 rfl (lv_at hl 2 rfl) ?_
        refine kc_v (As := [.int (nI t)]) (rest := []) S0 (c_X11_believed l D tc s.heap.size ad ct (t := t) (N := N) (nt := nt) (no := no) (nf := nf) h0 h206 (by omega) (by omega)) (cwV 1 hts gX11_believe_X11_believed rfl rfl rfl (by decide +kernel) ⟨Nat.le_of_ble_eq_true rfl, Nat.le_of_ble_eq_true rfl⟩) hK hw h0 rfl rfl hl.1 rfl (Nat.le_of_ble_eq_true rfl) dX11_believe_48 ⟨Nat.le_of_ble_eq_true rfl, (Nat.le_of_ble_eq_true rfl)⟩ ?_
        refine lv_iload hx hb dX11_believe_51 (lv_at hl 0 rfl) ?_
        refine lv_isub hx hb dX11_believe_53 ?_
        refine lv_iload_n hx hb dX11_believe_54 rfl (lv_at hl 4 rfl) ?_
        refine lv_iadd hx hb dX11_believe_55 ?_
        refine lv_if_ne (tgt := 62) hx hb dX11_believe_56 (by decide) (fun c_4 => ?_) (fun c_4 => ?_)
        · refine lv_aload_n hx hb dX11_believe_62 rfl (lv_at hl 1 rfl) ?_
          refine kg_get (v := .ref (ad 206)) (C := RX11) (T := TX11) (N := 27) hx hb hts hinX11 hown hK hw h0 rfl 13 (by decide) (hts (.fieldLink RX11 36 "BetMakerModel" "weight" "[I") (by decide +kernel)) (fun _ h9 => h9) rfl dX11_believe_63 ?_
          refine lv_bipush (v := 8) hx hb dX11_believe_66 (by decide) ?_
          refine lv_iload_n hx hb dX11_believe_68 rfl (lv_at hl 2 rfl) ?_
          refine lv_imul hx hb dX11_believe_69 ?_
          refine lv_iload_n hx hb dX11_believe_70 rfl (lv_at hl 3 rfl) ?_
          refine lv_iadd hx hb dX11_believe_71 ?_
          refine lv_iload_n hx hb dX11_believe_72 rfl (lv_at hl 4 rfl) ?_
          refine kg_iast hx hb hK hw h206 ((8 * t) + c) (by simp only [kn_lit, nI_add, pk_mul, nI_1]) (by omega) (by omega) dX11_believe_73 (fun H locs hw => ?_)
          obtain ⟨ct_5, ect_5⟩ : ∃ z, z = kw_up ct 206 (eI tc 48 (va_up we ((8 * t) + c) v)) := ⟨_, rfl⟩
          rw [← ect_5] at hw
          have h_6 : ct_5 200 = some (.inr (11, [.int ft, .int tr, .int (nI N), .int b, .ref (ad 201), .long g, .int cm, .int da, .int (nI nt), .ref (ad 202), .ref (ad 203), .ref (ad 204), .ref (ad 205), .ref (ad 206), .ref (ad 207), .ref (ad 208), .ref (ad 209), .int (nI no), .ref (ad 210), .ref (ad 211), .ref (ad 212), .ref (ad 213), .ref (ad 214), .int bs, .int (nI nf), .ref (ad 215), .ref (ad 216)])) := by rw [ect_5, kw_up_n (by decide)]; exact h0
          have h_7 : ct_5 206 = some (eI tc 48 (va_up we ((8 * t) + c) v)) := by rw [ect_5]; exact kw_up_s
          have hfr_8 : ∀ j, j ≠ 206 → ct_5 j = ct j := fun j a0 => by rw [ect_5]; exact (kw_up_n a0).trans (hfr j a0)
          refine lv_iload hx hb dX11_believe_74 (lv_at hl 0 rfl) ?_
          refine W.eq (congrArg (fun z => F0 m 76 ls [.int z]) (show (we ((8 * t) + c)) = (we (8 * t + c)) from by rfl)) ?_
          have hq_9 : ct_5 206 = some (eI tc 48 (va_up we (8 * t + c) v)) := h_7.trans (congrArg some (show (eI tc 48 (va_up we ((8 * t) + c) v) : va_E) = eI tc 48 (va_up we (8 * t + c) v) from by rfl))
          have hend := kw_eq1 hq_9 hfr_8
          rw [hend] at hw
          exact W.iret hx hb hr (fun t ht _ => ⟨rfl, by rw [ht]; exact hw.1, hw.2.2.1, hw.2.1.F ht, by rw [ht]; exact hw.2.2.2⟩) hw.2.1.2.2 dX11_believe_76
        · exact absurd c_4 hz
      · exact absurd hv c_3
    · exact absurd kC c_2
