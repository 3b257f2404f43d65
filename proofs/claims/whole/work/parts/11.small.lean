def kRF (th : Bool) (i : Int32) (n : Nat) (q : Int32) : Int32 := if th = true then (if i < 0 then 3 else if i ≤ nI n - q then 0 else 3) else 1
def kDF (th : Bool) (ln la i : Int32) (n : Nat) (q : Int32) : Int32 := if th = true ∧ ¬ ln = la then 2 else kRF th i n q
def kCut (ln v : Int32) : Int32 := if ln = 0 then v.toInt8.toInt32 else if ln = 1 then v.toInt16.toInt32 else v
def kCp {α : Type} (f g : Nat → α) (n : Nat) : Nat → α := fun c => if c < n then g c else f c
theorem kCp_0 {α : Type} (f g : Nat → α) : f = kCp f g 0 := by funext c; simp [kCp]
theorem kCp_s {α : Type} (f g : Nat → α) (i : Nat) : va_up (kCp f g i) i (g i) = kCp f g (i + 1) := by funext c; grind [kCp, va_up]
def kLst (ho : Nat → Int64) (set x : Int32) : Nat → Int64
  | 0 => 9223372036854775807
  | n + 1 => if ho n + (if kbit set n ≠ 0 then x else 0).toInt64 < kLst ho set x n then ho n + (if kbit set n ≠ 0 then x else 0).toInt64 else kLst ho set x n
theorem kLst_s {ho : Nat → Int64} {set x : Int32} {i : Nat} {v : Int32} (h : (if kbit set i ≠ 0 then x else 0) = v) : (if ho i + v.toInt64 < kLst ho set x i then ho i + v.toInt64 else kLst ho set x i) = kLst ho set x (i + 1) := by rw [kLst, h]
theorem kRF_1 {th : Bool} {i : Int32} {n : Nat} {q : Int32} (h : ¬ th = true) : 1 = kRF th i n q := by rw [kRF, if_neg h]
theorem kRF_2 {th : Bool} {i : Int32} {n : Nat} {q : Int32} (h : th = true) (h2 : i < 0) : 3 = kRF th i n q := by rw [kRF, if_pos h, if_pos h2]
theorem kRF_3 {th : Bool} {i : Int32} {n : Nat} {q : Int32} (h : th = true) (h2 : ¬ i < 0) (h3 : i ≤ nI n - q) : 0 = kRF th i n q := by rw [kRF, if_pos h, if_neg h2, if_pos h3]
theorem kRF_4 {th : Bool} {i : Int32} {n : Nat} {q : Int32} (h : th = true) (h2 : ¬ i < 0) (h3 : ¬ i ≤ nI n - q) : 3 = kRF th i n q := by rw [kRF, if_pos h, if_neg h2, if_neg h3]
theorem kw_eq3 {ct ct' : Nat → Option va_E} {k0 k1 k2 : Nat} {e0 e1 e2 : va_E} (h0 : ct' k0 = some e0) (h1 : ct' k1 = some e1) (h2 : ct' k2 = some e2) (hf : ∀ j, j ≠ k0 → j ≠ k1 → j ≠ k2 → ct' j = ct j) : ct' = kw_up (kw_up (kw_up ct k0 e0) k1 e1) k2 e2 := by
  funext j
  by_cases q2 : j = k2
  · subst q2; rw [kw_up_s, h2]
  rw [kw_up_n q2]
  by_cases q1 : j = k1
  · subst q1; rw [kw_up_s, h1]
  rw [kw_up_n q1]
  by_cases q0 : j = k0
  · subst q0; rw [kw_up_s, h0]
  rw [kw_up_n q0]
  exact hf j q0 q1 q2
theorem kw_eq4 {ct ct' : Nat → Option va_E} {k0 k1 k2 k3 : Nat} {e0 e1 e2 e3 : va_E} (h0 : ct' k0 = some e0) (h1 : ct' k1 = some e1) (h2 : ct' k2 = some e2) (h3 : ct' k3 = some e3) (hf : ∀ j, j ≠ k0 → j ≠ k1 → j ≠ k2 → j ≠ k3 → ct' j = ct j) : ct' = kw_up (kw_up (kw_up (kw_up ct k0 e0) k1 e1) k2 e2) k3 e3 := by
  funext j
  by_cases q3 : j = k3
  · subst q3; rw [kw_up_s, h3]
  rw [kw_up_n q3]
  by_cases q2 : j = k2
  · subst q2; rw [kw_up_s, h2]
  rw [kw_up_n q2]
  by_cases q1 : j = k1
  · subst q1; rw [kw_up_s, h1]
  rw [kw_up_n q1]
  by_cases q0 : j = k0
  · subst q0; rw [kw_up_s, h0]
  rw [kw_up_n q0]
  exact hf j q0 q1 q2 q3
theorem kw_eq5 {ct ct' : Nat → Option va_E} {k0 k1 k2 k3 k4 : Nat} {e0 e1 e2 e3 e4 : va_E} (h0 : ct' k0 = some e0) (h1 : ct' k1 = some e1) (h2 : ct' k2 = some e2) (h3 : ct' k3 = some e3) (h4 : ct' k4 = some e4) (hf : ∀ j, j ≠ k0 → j ≠ k1 → j ≠ k2 → j ≠ k3 → j ≠ k4 → ct' j = ct j) : ct' = kw_up (kw_up (kw_up (kw_up (kw_up ct k0 e0) k1 e1) k2 e2) k3 e3) k4 e4 := by
  funext j
  by_cases q4 : j = k4
  · subst q4; rw [kw_up_s, h4]
  rw [kw_up_n q4]
  by_cases q3 : j = k3
  · subst q3; rw [kw_up_s, h3]
  rw [kw_up_n q3]
  by_cases q2 : j = k2
  · subst q2; rw [kw_up_s, h2]
  rw [kw_up_n q2]
  by_cases q1 : j = k1
  · subst q1; rw [kw_up_s, h1]
  rw [kw_up_n q1]
  by_cases q0 : j = k0
  · subst q0; rw [kw_up_s, h0]
  rw [kw_up_n q0]
  exact hf j q0 q1 q2 q3 q4
theorem kw_eq6 {ct ct' : Nat → Option va_E} {k0 k1 k2 k3 k4 k5 : Nat} {e0 e1 e2 e3 e4 e5 : va_E} (h0 : ct' k0 = some e0) (h1 : ct' k1 = some e1) (h2 : ct' k2 = some e2) (h3 : ct' k3 = some e3) (h4 : ct' k4 = some e4) (h5 : ct' k5 = some e5) (hf : ∀ j, j ≠ k0 → j ≠ k1 → j ≠ k2 → j ≠ k3 → j ≠ k4 → j ≠ k5 → ct' j = ct j) : ct' = kw_up (kw_up (kw_up (kw_up (kw_up (kw_up ct k0 e0) k1 e1) k2 e2) k3 e3) k4 e4) k5 e5 := by
  funext j
  by_cases q5 : j = k5
  · subst q5; rw [kw_up_s, h5]
  rw [kw_up_n q5]
  by_cases q4 : j = k4
  · subst q4; rw [kw_up_s, h4]
  rw [kw_up_n q4]
  by_cases q3 : j = k3
  · subst q3; rw [kw_up_s, h3]
  rw [kw_up_n q3]
  by_cases q2 : j = k2
  · subst q2; rw [kw_up_s, h2]
  rw [kw_up_n q2]
  by_cases q1 : j = k1
  · subst q1; rw [kw_up_s, h1]
  rw [kw_up_n q1]
  by_cases q0 : j = k0
  · subst q0; rw [kw_up_s, h0]
  rw [kw_up_n q0]
  exact hf j q0 q1 q2 q3 q4 q5
theorem kw_eq7 {ct ct' : Nat → Option va_E} {k0 k1 k2 k3 k4 k5 k6 : Nat} {e0 e1 e2 e3 e4 e5 e6 : va_E} (h0 : ct' k0 = some e0) (h1 : ct' k1 = some e1) (h2 : ct' k2 = some e2) (h3 : ct' k3 = some e3) (h4 : ct' k4 = some e4) (h5 : ct' k5 = some e5) (h6 : ct' k6 = some e6) (hf : ∀ j, j ≠ k0 → j ≠ k1 → j ≠ k2 → j ≠ k3 → j ≠ k4 → j ≠ k5 → j ≠ k6 → ct' j = ct j) : ct' = kw_up (kw_up (kw_up (kw_up (kw_up (kw_up (kw_up ct k0 e0) k1 e1) k2 e2) k3 e3) k4 e4) k5 e5) k6 e6 := by
  funext j
  by_cases q6 : j = k6
  · subst q6; rw [kw_up_s, h6]
  rw [kw_up_n q6]
  by_cases q5 : j = k5
  · subst q5; rw [kw_up_s, h5]
  rw [kw_up_n q5]
  by_cases q4 : j = k4
  · subst q4; rw [kw_up_s, h4]
  rw [kw_up_n q4]
  by_cases q3 : j = k3
  · subst q3; rw [kw_up_s, h3]
  rw [kw_up_n q3]
  by_cases q2 : j = k2
  · subst q2; rw [kw_up_s, h2]
  rw [kw_up_n q2]
  by_cases q1 : j = k1
  · subst q1; rw [kw_up_s, h1]
  rw [kw_up_n q1]
  by_cases q0 : j = k0
  · subst q0; rw [kw_up_s, h0]
  rw [kw_up_n q0]
  exact hf j q0 q1 q2 q3 q4 q5 q6
theorem kne_IJ {tc : Nat → ClassId} {n1 n2 : Nat} {f1 : Nat → Int32} {f2 : Nat → Int64} : eI tc n1 f1 ≠ eJ tc n2 f2 := by
  intro q
  simp only [eI, eJ, eQ, Sum.inl.injEq, Sum.inr.injEq, Prod.mk.injEq, reduceCtorEq, and_false] at q
theorem kne_IQ {tc : Nat → ClassId} {i2 n1 n2 : Nat} {f1 : Nat → Int32} {f2 : Nat → Option Nat} : eI tc n1 f1 ≠ eQ tc i2 n2 f2 := by
  intro q
  simp only [eI, eJ, eQ, Sum.inl.injEq, Sum.inr.injEq, Prod.mk.injEq, reduceCtorEq, and_false] at q
theorem kne_JI {tc : Nat → ClassId} {n1 n2 : Nat} {f1 : Nat → Int64} {f2 : Nat → Int32} : eJ tc n1 f1 ≠ eI tc n2 f2 := by
  intro q
  simp only [eI, eJ, eQ, Sum.inl.injEq, Sum.inr.injEq, Prod.mk.injEq, reduceCtorEq, and_false] at q
theorem kne_JQ {tc : Nat → ClassId} {i2 n1 n2 : Nat} {f1 : Nat → Int64} {f2 : Nat → Option Nat} : eJ tc n1 f1 ≠ eQ tc i2 n2 f2 := by
  intro q
  simp only [eI, eJ, eQ, Sum.inl.injEq, Sum.inr.injEq, Prod.mk.injEq, reduceCtorEq, and_false] at q
theorem kne_QI {tc : Nat → ClassId} {i1 n1 n2 : Nat} {f1 : Nat → Option Nat} {f2 : Nat → Int32} : eQ tc i1 n1 f1 ≠ eI tc n2 f2 := by
  intro q
  simp only [eI, eJ, eQ, Sum.inl.injEq, Sum.inr.injEq, Prod.mk.injEq, reduceCtorEq, and_false] at q
theorem kne_QJ {tc : Nat → ClassId} {i1 n1 n2 : Nat} {f1 : Nat → Option Nat} {f2 : Nat → Int64} : eQ tc i1 n1 f1 ≠ eJ tc n2 f2 := by
  intro q
  simp only [eI, eJ, eQ, Sum.inl.injEq, Sum.inr.injEq, Prod.mk.injEq, reduceCtorEq, and_false] at q
set_option maxHeartbeats 4000000 in
set_option maxRecDepth 100000 in
theorem c_X8_init (l : Launch) (D : va_G) (tc : Nat → ClassId) (sz : Nat) (ad : Nat → Nat) (ct : Nat → Option va_E) {k0 : Nat} {tv : Int32} (h0 : ct k0 = some (.inr (8, [.int tv]))) : Met l yX8_init wsX8_init ({ frames := 1, cells := 0, slots := 0, locals := 40 }) (va_Pc [.ref (ad k0)] (kw_B D tc sz ad ct)) (kw_Q D ad (kw_A ad ct sz) (none) (kw_up ct k0 (.inr (8, [.int tv]))) 0) 0 0 (kw_A ad ct sz) := by
  refine Met.ofW (cc := cX8_init) (maxL := 1) (ret := none) (by decide) rfl ?_
  intro pg en s m args below meth cod s₁ B hml hv
  obtain ⟨rfl, hsz, hP0, hK⟩ := hv
  have hx := B.exec
  have hb := B.bytes
  have hr := B.returns
  have hts := atoms_spec (ws := wsX8_init) B.pre
  have hown : s.vm.findClass RX8 = some m.cls := findClass_of_methodNamed B.named
  have hlocks := B.notSynchronized
  have hin2 : meth.name = "<init>" := (name_of_methodNamed B.named B.method).1
  subst hsz
  have hw := kw_H.start hP0
  generalize hAe : kw_A ad ct s.heap.size = A at hw ⊢
  have hA : ∀ q, s.heap.size ≤ q → A q := fun q h => by rw [← hAe]; exact Or.inr h
  have hl := lv_entry ([.ref (ad k0)]) (n := 1) (Nat.le_of_ble_eq_true rfl)
  rw [lg_entry_eq]
  generalize (lg_sl ([.ref (ad k0)]) ++ List.replicate (1 - (lg_sl ([.ref (ad k0)])).length) Slot.unset).toArray = ls at hl ⊢
  have hl : lv_has ls 1 [(0, .ref (ad k0))] := hl
  have S0 : CallFix pg m cod cX8_init 1 s _ wsX8_init RX8 := ⟨hx, hb, hml, hown, hts⟩
  have hfr : ∀ j, j ≠ k0 → ct j = ct j := fun _ _ => rfl
  refine lv_aload_n hx hb dX8_init_0 rfl (lv_at hl 0 rfl) ?_
  refine W.objInit hx hb hown (hts (.methodLink RX8 1 objectInit) (by decide +kernel)) (hts (.instanceMethod objectInit) (by decide +kernel)) (hts (.code objectInit ⟨#[0xb1]⟩ 1 none) (by decide +kernel)) rfl (by rw [hml]; exact hl.1) rfl dX8_init_1 (Nat.le_of_ble_eq_true rfl) (Nat.le_of_ble_eq_true rfl) ?_
  refine W.eq (g2 := F0 m 4 ls []) rfl ?_
  have hq_1 := h0
  have hend := kw_eq1 hq_1 hfr
  rw [hend] at hw
  exact W.vret hx hb hr (fun t ht _ => ⟨rfl, by rw [ht]; exact hw.1, hw.2.2.1, hw.2.1.F ht, by rw [ht]; exact hw.2.2.2⟩) hw.2.1.2.2 dX8_init_4
set_option maxHeartbeats 4000000 in
set_option maxRecDepth 100000 in
theorem c_X8_leave (l : Launch) (D : va_G) (tc : Nat → ClassId) (sz : Nat) (ad : Nat → Nat) (ct : Nat → Option va_E) {k0 : Nat} {tv w : Int32} (h0 : ct k0 = some (.inr (8, [.int tv]))) : Met l yX8_leave wsX8_leave ({ frames := 0, cells := 0, slots := 0, locals := 0 }) (va_Pc [.ref (ad k0), .int w] (kw_B D tc sz ad ct)) (kw_Q D ad (kw_A ad ct sz) (none) (kw_up ct k0 (.inr (8, [.int (31 * tv + w)]))) 0) 0 0 (kw_A ad ct sz) := by
  refine Met.ofW (cc := cX8_leave) (maxL := 2) (ret := none) (by decide) rfl ?_
  intro pg en s m args below meth cod s₁ B hml hv
  obtain ⟨rfl, hsz, hP0, hK⟩ := hv
  have hx := B.exec
  have hb := B.bytes
  have hr := B.returns
  have hts := atoms_spec (ws := wsX8_leave) B.pre
  have hown : s.vm.findClass RX8 = some m.cls := findClass_of_methodNamed B.named
  have hlocks := B.notSynchronized
  subst hsz
  have hw := kw_H.start hP0
  generalize hAe : kw_A ad ct s.heap.size = A at hw ⊢
  have hA : ∀ q, s.heap.size ≤ q → A q := fun q h => by rw [← hAe]; exact Or.inr h
  have hinX8 : ∀ w ∈ wsX80, w ∈ wsX8_leave := by decide +kernel
  have hl := lv_entry ([.ref (ad k0), .int w]) (n := 2) (Nat.le_of_ble_eq_true rfl)
  rw [lg_entry_eq]
  generalize (lg_sl ([.ref (ad k0), .int w]) ++ List.replicate (2 - (lg_sl ([.ref (ad k0), .int w])).length) Slot.unset).toArray = ls at hl ⊢
  have hl : lv_has ls 2 [(0, .ref (ad k0)), (1, .int w)] := hl
  have S0 : CallFix pg m cod cX8_leave 2 s _ wsX8_leave RX8 := ⟨hx, hb, hml, hown, hts⟩
  have hfr : ∀ j, j ≠ k0 → ct j = ct j := fun _ _ => rfl
  refine lv_aload_n hx hb dX8_leave_0 rfl (lv_at hl 0 rfl) ?_
  refine lv_bipush (v := 31) hx hb dX8_leave_1 (by decide) ?_
  refine lv_aload_n hx hb dX8_leave_3 rfl (lv_at hl 0 rfl) ?_
  refine kg_get (v := .int tv) (C := RX8) (T := TX8) (N := 1) hx hb hts hinX8 hown hK hw h0 rfl 0 (by decide) (hts (.fieldLink RX8 7 "BetMaker$Trace" "value" "I") (by decide +kernel)) (fun _ h9 => h9) rfl dX8_leave_4 ?_
  refine lv_imul hx hb dX8_leave_7 ?_
  refine lv_iload_n hx hb dX8_leave_8 rfl (lv_at hl 1 rfl) ?_
  refine lv_iadd hx hb dX8_leave_9 ?_
  refine kg_put (v := .int ((31 * tv) + w)) (ty := .int) (C := RX8) (T := TX8) (N := 1) (fs' := [.int ((31 * tv) + w)]) hx hb hts hinX8 tyX8 tyX8_ok nmX8 hown hK hw h0 rfl 0 (by decide) (hts (.fieldLink RX8 7 "BetMaker$Trace" "value" "I") (by decide +kernel)) (fun _ h9 => h9) rfl (by decide +kernel) rfl rfl (Nat.le_of_ble_eq_true rfl) rfl dX8_leave_10 (fun H locs hw => ?_)
  obtain ⟨ct_1, ect_1⟩ : ∃ z, z = kw_up ct k0 (.inr (8, [.int ((31 * tv) + w)])) := ⟨_, rfl⟩
  rw [← ect_1] at hw
  have h_2 : ct_1 k0 = some (.inr (8, [.int ((31 * tv) + w)])) := by rw [ect_1]; exact kw_up_s
  have hfr_3 : ∀ j, j ≠ k0 → ct_1 j = ct j := fun j a0 => by rw [ect_1]; exact (kw_up_n a0).trans (hfr j a0)
  have hq_4 : ct_1 k0 = some (.inr (8, [.int (31 * tv + w)])) := h_2.trans (congrArg some (show (.inr (8, [.int ((31 * tv) + w)]) : va_E) = .inr (8, [.int (31 * tv + w)]) from by rfl))
  have hend := kw_eq1 hq_4 hfr_3
  rw [hend] at hw
  exact W.vret hx hb hr (fun t ht _ => ⟨rfl, by rw [ht]; exact hw.1, hw.2.2.1, hw.2.1.F ht, by rw [ht]; exact hw.2.2.2⟩) hw.2.1.2.2 dX8_leave_13
set_option maxHeartbeats 4000000 in
set_option maxRecDepth 100000 in
theorem c_X8_value (l : Launch) (D : va_G) (tc : Nat → ClassId) (sz : Nat) (ad : Nat → Nat) (ct : Nat → Option va_E) {k0 : Nat} {tv : Int32} (h0 : ct k0 = some (.inr (8, [.int tv]))) : Met l yX8_value wsX8_value ({ frames := 0, cells := 0, slots := 0, locals := 0 }) (va_Pc [.ref (ad k0)] (kw_B D tc sz ad ct)) (k2_QcV (.int tv)) 0 0 (fun _ => False) := by
  refine Met.ofW (cc := cX8_value) (maxL := 1) (ret := (some .int)) (by decide) rfl ?_
  intro pg en s m args below meth cod s₁ B hml hv
  obtain ⟨rfl, hsz, hP0, hK⟩ := hv
  have hx := B.exec
  have hb := B.bytes
  have hr := B.returns
  have hts := atoms_spec (ws := wsX8_value) B.pre
  have hown : s.vm.findClass RX8 = some m.cls := findClass_of_methodNamed B.named
  have hlocks := B.notSynchronized
  subst hsz
  have hw := kw_H.start hP0
  generalize kw_A ad ct s.heap.size = A at hw
  have hinX8 : ∀ w ∈ wsX80, w ∈ wsX8_value := by decide +kernel
  have hl := lv_entry ([.ref (ad k0)]) (n := 1) (Nat.le_of_ble_eq_true rfl)
  rw [lg_entry_eq]
  generalize (lg_sl ([.ref (ad k0)]) ++ List.replicate (1 - (lg_sl ([.ref (ad k0)])).length) Slot.unset).toArray = ls at hl ⊢
  have hl : lv_has ls 1 [(0, .ref (ad k0))] := hl
  have S0 : CallFix pg m cod cX8_value 1 s _ wsX8_value RX8 := ⟨hx, hb, hml, hown, hts⟩
  refine lv_aload_n hx hb dX8_value_0 rfl (lv_at hl 0 rfl) ?_
  refine kg_get (v := .int tv) (C := RX8) (T := TX8) (N := 1) hx hb hts hinX8 hown hK hw h0 rfl 0 (by decide) (hts (.fieldLink RX8 7 "BetMaker$Trace" "value" "I") (by decide +kernel)) (fun _ h9 => h9) rfl dX8_value_1 ?_
  exact W.iret hx hb hr (fun t ht _ => ⟨rfl, ht⟩) (fun _ h => absurd h List.not_mem_nil) dX8_value_4
set_option maxHeartbeats 4000000 in
set_option maxRecDepth 100000 in
theorem c_X4_init (l : Launch) (D : va_G) (tc : Nat → ClassId) (sz : Nat) (ad : Nat → Nat) (ct : Nat → Option va_E) {k0 : Nat} {st co sh : Int32} (h0 : ct k0 = some (.inr (4, [.int 0, .int 0, .int 0]))) : Met l yX4_init wsX4_init ({ frames := 1, cells := 0, slots := 0, locals := 40 }) (va_Pc [.ref (ad k0), .int st, .int co, .int sh] (kw_B D tc sz ad ct)) (kw_Q D ad (kw_A ad ct sz) (none) (kw_up ct k0 (.inr (4, [.int st, .int co, .int sh]))) 0) 0 0 (kw_A ad ct sz) := by
  refine Met.ofW (cc := cX4_init) (maxL := 4) (ret := none) (by decide) rfl ?_
  intro pg en s m args below meth cod s₁ B hml hv
  obtain ⟨rfl, hsz, hP0, hK⟩ := hv
  have hx := B.exec
  have hb := B.bytes
  have hr := B.returns
  have hts := atoms_spec (ws := wsX4_init) B.pre
  have hown : s.vm.findClass RX4 = some m.cls := findClass_of_methodNamed B.named
  have hlocks := B.notSynchronized
  have hin2 : meth.name = "<init>" := (name_of_methodNamed B.named B.method).1
  subst hsz
  have hw := kw_H.start hP0
  generalize hAe : kw_A ad ct s.heap.size = A at hw ⊢
  have hA : ∀ q, s.heap.size ≤ q → A q := fun q h => by rw [← hAe]; exact Or.inr h
  have hinX4 : ∀ w ∈ wsX40, w ∈ wsX4_init := by decide +kernel
  have hl := lv_entry ([.ref (ad k0), .int st, .int co, .int sh]) (n := 4) (Nat.le_of_ble_eq_true rfl)
  rw [lg_entry_eq]
  generalize (lg_sl ([.ref (ad k0), .int st, .int co, .int sh]) ++ List.replicate (4 - (lg_sl ([.ref (ad k0), .int st, .int co, .int sh])).length) Slot.unset).toArray = ls at hl ⊢
  have hl : lv_has ls 4 [(0, .ref (ad k0)), (1, .int st), (2, .int co), (3, .int sh)] := hl
  have S0 : CallFix pg m cod cX4_init 4 s _ wsX4_init RX4 := ⟨hx, hb, hml, hown, hts⟩
  have hfr : ∀ j, j ≠ k0 → ct j = ct j := fun _ _ => rfl
  refine lv_aload_n hx hb dX4_init_0 rfl (lv_at hl 0 rfl) ?_
  refine W.objInit hx hb hown (hts (.methodLink RX4 1 objectInit) (by decide +kernel)) (hts (.instanceMethod objectInit) (by decide +kernel)) (hts (.code objectInit ⟨#[0xb1]⟩ 1 none) (by decide +kernel)) rfl (by rw [hml]; exact hl.1) rfl dX4_init_1 (Nat.le_of_ble_eq_true rfl) (Nat.le_of_ble_eq_true rfl) ?_
  refine W.eq (g2 := F0 m 4 ls []) rfl ?_
  refine lv_aload_n hx hb dX4_init_4 rfl (lv_at hl 0 rfl) ?_
  refine lv_iload_n hx hb dX4_init_5 rfl (lv_at hl 1 rfl) ?_
  refine kg_putF (v := .int st) (ty := .int) (C := RX4) (T := TX4) (N := 3) (fs' := [.int st, .int 0, .int 0]) hx hb hts hinX4 tyX4 tyX4_ok nmX4 hown hK hw h0 rfl 0 (by decide) (hts (.fieldLink RX4 7 "BetMaker$Offer" "set" "I") (by decide +kernel)) (fun _ h9 => h9) rfl hin2 rfl (by decide +kernel) rfl rfl (Nat.le_of_ble_eq_true rfl) rfl dX4_init_6 (fun H locs hw => ?_)
  obtain ⟨ct_1, ect_1⟩ : ∃ z, z = kw_up ct k0 (.inr (4, [.int st, .int 0, .int 0])) := ⟨_, rfl⟩
  rw [← ect_1] at hw
  have h_2 : ct_1 k0 = some (.inr (4, [.int st, .int 0, .int 0])) := by rw [ect_1]; exact kw_up_s
  have hfr_3 : ∀ j, j ≠ k0 → ct_1 j = ct j := fun j a0 => by rw [ect_1]; exact (kw_up_n a0).trans (hfr j a0)
  refine lv_aload_n hx hb dX4_init_9 rfl (lv_at hl 0 rfl) ?_
  refine lv_iload_n hx hb dX4_init_10 rfl (lv_at hl 2 rfl) ?_
  refine kg_putF (v := .int co) (ty := .int) (C := RX4) (T := TX4) (N := 3) (fs' := [.int st, .int co, .int 0]) hx hb hts hinX4 tyX4 tyX4_ok nmX4 hown hK hw h_2 rfl 1 (by decide) (hts (.fieldLink RX4 13 "BetMaker$Offer" "cost" "I") (by decide +kernel)) (fun _ h9 => h9) rfl hin2 rfl (by decide +kernel) rfl rfl (Nat.le_of_ble_eq_true rfl) rfl dX4_init_11 (fun H locs hw => ?_)
  obtain ⟨ct_4, ect_4⟩ : ∃ z, z = kw_up ct_1 k0 (.inr (4, [.int st, .int co, .int 0])) := ⟨_, rfl⟩
  rw [← ect_4] at hw
  have h_5 : ct_4 k0 = some (.inr (4, [.int st, .int co, .int 0])) := by rw [ect_4]; exact kw_up_s
  have hfr_6 : ∀ j, j ≠ k0 → ct_4 j = ct j := fun j a0 => by rw [ect_4]; exact (kw_up_n a0).trans (hfr_3 j a0)
  refine lv_aload_n hx hb dX4_init_14 rfl (lv_at hl 0 rfl) ?_
  refine lv_iload_n hx hb dX4_init_15 rfl (lv_at hl 3 rfl) ?_
  refine kg_put (v := .int sh) (ty := .int) (C := RX4) (T := TX4) (N := 3) (fs' := [.int st, .int co, .int sh]) hx hb hts hinX4 tyX4 tyX4_ok nmX4 hown hK hw h_5 rfl 2 (by decide) (hts (.fieldLink RX4 16 "BetMaker$Offer" "shares" "I") (by decide +kernel)) (fun _ h9 => h9) rfl (by decide +kernel) rfl rfl (Nat.le_of_ble_eq_true rfl) rfl dX4_init_16 (fun H locs hw => ?_)
  obtain ⟨ct_7, ect_7⟩ : ∃ z, z = kw_up ct_4 k0 (.inr (4, [.int st, .int co, .int sh])) := ⟨_, rfl⟩
  rw [← ect_7] at hw
  have h_8 : ct_7 k0 = some (.inr (4, [.int st, .int co, .int sh])) := by rw [ect_7]; exact kw_up_s
  have hfr_9 : ∀ j, j ≠ k0 → ct_7 j = ct j := fun j a0 => by rw [ect_7]; exact (kw_up_n a0).trans (hfr_6 j a0)
  have hq_10 := h_8
  have hend := kw_eq1 hq_10 hfr_9
  rw [hend] at hw
  exact W.vret hx hb hr (fun t ht _ => ⟨rfl, by rw [ht]; exact hw.1, hw.2.2.1, hw.2.1.F ht, by rw [ht]; exact hw.2.2.2⟩) hw.2.1.2.2 dX4_init_19
set_option maxHeartbeats 4000000 in
set_option maxRecDepth 100000 in
theorem c_X4_set (l : Launch) (D : va_G) (tc : Nat → ClassId) (sz : Nat) (ad : Nat → Nat) (ct : Nat → Option va_E) {k0 : Nat} {st co sh : Int32} (h0 : ct k0 = some (.inr (4, [.int st, .int co, .int sh]))) : Met l yX4_set wsX4_set ({ frames := 0, cells := 0, slots := 0, locals := 0 }) (va_Pc [.ref (ad k0)] (kw_B D tc sz ad ct)) (k2_QcV (.int st)) 0 0 (fun _ => False) := by
  refine Met.ofW (cc := cX4_set) (maxL := 1) (ret := (some .int)) (by decide) rfl ?_
  intro pg en s m args below meth cod s₁ B hml hv
  obtain ⟨rfl, hsz, hP0, hK⟩ := hv
  have hx := B.exec
  have hb := B.bytes
  have hr := B.returns
  have hts := atoms_spec (ws := wsX4_set) B.pre
  have hown : s.vm.findClass RX4 = some m.cls := findClass_of_methodNamed B.named
  have hlocks := B.notSynchronized
  subst hsz
  have hw := kw_H.start hP0
  generalize kw_A ad ct s.heap.size = A at hw
  have hinX4 : ∀ w ∈ wsX40, w ∈ wsX4_set := by decide +kernel
  have hl := lv_entry ([.ref (ad k0)]) (n := 1) (Nat.le_of_ble_eq_true rfl)
  rw [lg_entry_eq]
  generalize (lg_sl ([.ref (ad k0)]) ++ List.replicate (1 - (lg_sl ([.ref (ad k0)])).length) Slot.unset).toArray = ls at hl ⊢
  have hl : lv_has ls 1 [(0, .ref (ad k0))] := hl
  have S0 : CallFix pg m cod cX4_set 1 s _ wsX4_set RX4 := ⟨hx, hb, hml, hown, hts⟩
  refine lv_aload_n hx hb dX4_set_0 rfl (lv_at hl 0 rfl) ?_
  refine kg_get (v := .int st) (C := RX4) (T := TX4) (N := 3) hx hb hts hinX4 hown hK hw h0 rfl 0 (by decide) (hts (.fieldLink RX4 7 "BetMaker$Offer" "set" "I") (by decide +kernel)) (fun _ h9 => h9) rfl dX4_set_1 ?_
  exact W.iret hx hb hr (fun t ht _ => ⟨rfl, ht⟩) (fun _ h => absurd h List.not_mem_nil) dX4_set_4
set_option maxHeartbeats 4000000 in
set_option maxRecDepth 100000 in
theorem c_X4_cost (l : Launch) (D : va_G) (tc : Nat → ClassId) (sz : Nat) (ad : Nat → Nat) (ct : Nat → Option va_E) {k0 : Nat} {st co sh : Int32} (h0 : ct k0 = some (.inr (4, [.int st, .int co, .int sh]))) : Met l yX4_cost wsX4_cost ({ frames := 0, cells := 0, slots := 0, locals := 0 }) (va_Pc [.ref (ad k0)] (kw_B D tc sz ad ct)) (k2_QcV (.int co)) 0 0 (fun _ => False) := by
  refine Met.ofW (cc := cX4_cost) (maxL := 1) (ret := (some .int)) (by decide) rfl ?_
  intro pg en s m args below meth cod s₁ B hml hv
  obtain ⟨rfl, hsz, hP0, hK⟩ := hv
  have hx := B.exec
  have hb := B.bytes
  have hr := B.returns
  have hts := atoms_spec (ws := wsX4_cost) B.pre
  have hown : s.vm.findClass RX4 = some m.cls := findClass_of_methodNamed B.named
  have hlocks := B.notSynchronized
  subst hsz
  have hw := kw_H.start hP0
  generalize kw_A ad ct s.heap.size = A at hw
  have hinX4 : ∀ w ∈ wsX40, w ∈ wsX4_cost := by decide +kernel
  have hl := lv_entry ([.ref (ad k0)]) (n := 1) (Nat.le_of_ble_eq_true rfl)
  rw [lg_entry_eq]
  generalize (lg_sl ([.ref (ad k0)]) ++ List.replicate (1 - (lg_sl ([.ref (ad k0)])).length) Slot.unset).toArray = ls at hl ⊢
  have hl : lv_has ls 1 [(0, .ref (ad k0))] := hl
  have S0 : CallFix pg m cod cX4_cost 1 s _ wsX4_cost RX4 := ⟨hx, hb, hml, hown, hts⟩
  refine lv_aload_n hx hb dX4_cost_0 rfl (lv_at hl 0 rfl) ?_
  refine kg_get (v := .int co) (C := RX4) (T := TX4) (N := 3) hx hb hts hinX4 hown hK hw h0 rfl 1 (by decide) (hts (.fieldLink RX4 13 "BetMaker$Offer" "cost" "I") (by decide +kernel)) (fun _ h9 => h9) rfl dX4_cost_1 ?_
  exact W.iret hx hb hr (fun t ht _ => ⟨rfl, ht⟩) (fun _ h => absurd h List.not_mem_nil) dX4_cost_4
set_option maxHeartbeats 4000000 in
set_option maxRecDepth 100000 in
theorem c_X4_shares (l : Launch) (D : va_G) (tc : Nat → ClassId) (sz : Nat) (ad : Nat → Nat) (ct : Nat → Option va_E) {k0 : Nat} {st co sh : Int32} (h0 : ct k0 = some (.inr (4, [.int st, .int co, .int sh]))) : Met l yX4_shares wsX4_shares ({ frames := 0, cells := 0, slots := 0, locals := 0 }) (va_Pc [.ref (ad k0)] (kw_B D tc sz ad ct)) (k2_QcV (.int sh)) 0 0 (fun _ => False) := by
  refine Met.ofW (cc := cX4_shares) (maxL := 1) (ret := (some .int)) (by decide) rfl ?_
  intro pg en s m args below meth cod s₁ B hml hv
  obtain ⟨rfl, hsz, hP0, hK⟩ := hv
  have hx := B.exec
  have hb := B.bytes
  have hr := B.returns
  have hts := atoms_spec (ws := wsX4_shares) B.pre
  have hown : s.vm.findClass RX4 = some m.cls := findClass_of_methodNamed B.named
  have hlocks := B.notSynchronized
  subst hsz
  have hw := kw_H.start hP0
  generalize kw_A ad ct s.heap.size = A at hw
  have hinX4 : ∀ w ∈ wsX40, w ∈ wsX4_shares := by decide +kernel
  have hl := lv_entry ([.ref (ad k0)]) (n := 1) (Nat.le_of_ble_eq_true rfl)
  rw [lg_entry_eq]
  generalize (lg_sl ([.ref (ad k0)]) ++ List.replicate (1 - (lg_sl ([.ref (ad k0)])).length) Slot.unset).toArray = ls at hl ⊢
  have hl : lv_has ls 1 [(0, .ref (ad k0))] := hl
  have S0 : CallFix pg m cod cX4_shares 1 s _ wsX4_shares RX4 := ⟨hx, hb, hml, hown, hts⟩
  refine lv_aload_n hx hb dX4_shares_0 rfl (lv_at hl 0 rfl) ?_
  refine kg_get (v := .int sh) (C := RX4) (T := TX4) (N := 3) hx hb hts hinX4 hown hK hw h0 rfl 2 (by decide) (hts (.fieldLink RX4 16 "BetMaker$Offer" "shares" "I") (by decide +kernel)) (fun _ h9 => h9) rfl dX4_shares_1 ?_
  exact W.iret hx hb hr (fun t ht _ => ⟨rfl, ht⟩) (fun _ h => absurd h List.not_mem_nil) dX4_shares_4
set_option maxHeartbeats 4000000 in
set_option maxRecDepth 100000 in
theorem c_X4_limit (l : Launch) (D : va_G) (tc : Nat → ClassId) (sz : Nat) (ad : Nat → Nat) (ct : Nat → Option va_E) {k0 : Nat} {st co sh : Int32} {w : Int32} (h0 : ct k0 = some (.inr (4, [.int st, .int co, .int sh]))) : Met l yX4_limit wsX4_limit ({ frames := 0, cells := 0, slots := 0, locals := 0 }) (va_Pc [.ref (ad k0), .int w] (kw_B D tc sz ad ct)) (kw_Q D ad (kw_A ad ct sz) (none) (kw_up ct k0 (.inr (4, [.int st, .int co, .int w]))) 0) 0 0 (kw_A ad ct sz) := by
  refine Met.ofW (cc := cX4_limit) (maxL := 2) (ret := none) (by decide) rfl ?_
  intro pg en s m args below meth cod s₁ B hml hv
  obtain ⟨rfl, hsz, hP0, hK⟩ := hv
  have hx := B.exec
  have hb := B.bytes
  have hr := B.returns
  have hts := atoms_spec (ws := wsX4_limit) B.pre
  have hown : s.vm.findClass RX4 = some m.cls := findClass_of_methodNamed B.named
  have hlocks := B.notSynchronized
  subst hsz
  have hw := kw_H.start hP0
  generalize hAe : kw_A ad ct s.heap.size = A at hw ⊢
  have hA : ∀ q, s.heap.size ≤ q → A q := fun q h => by rw [← hAe]; exact Or.inr h
  have hinX4 : ∀ w ∈ wsX40, w ∈ wsX4_limit := by decide +kernel
  have hl := lv_entry ([.ref (ad k0), .int w]) (n := 2) (Nat.le_of_ble_eq_true rfl)
  rw [lg_entry_eq]
  generalize (lg_sl ([.ref (ad k0), .int w]) ++ List.replicate (2 - (lg_sl ([.ref (ad k0), .int w])).length) Slot.unset).toArray = ls at hl ⊢
  have hl : lv_has ls 2 [(0, .ref (ad k0)), (1, .int w)] := hl
  have S0 : CallFix pg m cod cX4_limit 2 s _ wsX4_limit RX4 := ⟨hx, hb, hml, hown, hts⟩
  have hfr : ∀ j, j ≠ k0 → ct j = ct j := fun _ _ => rfl
  refine lv_aload_n hx hb dX4_limit_0 rfl (lv_at hl 0 rfl) ?_
  refine lv_iload_n hx hb dX4_limit_1 rfl (lv_at hl 1 rfl) ?_
  refine kg_put (v := .int w) (ty := .int) (C := RX4) (T := TX4) (N := 3) (fs' := [.int st, .int co, .int w]) hx hb hts hinX4 tyX4 tyX4_ok nmX4 hown hK hw h0 rfl 2 (by decide) (hts (.fieldLink RX4 16 "BetMaker$Offer" "shares" "I") (by decide +kernel)) (fun _ h9 => h9) rfl (by decide +kernel) rfl rfl (Nat.le_of_ble_eq_true rfl) rfl dX4_limit_2 (fun H locs hw => ?_)
  obtain ⟨ct_1, ect_1⟩ : ∃ z, z = kw_up ct k0 (.inr (4, [.int st, .int co, .int w])) := ⟨_, rfl⟩
  rw [← ect_1] at hw
  have h_2 : ct_1 k0 = some (.inr (4, [.int st, .int co, .int w])) := by rw [ect_1]; exact kw_up_s
  have hfr_3 : ∀ j, j ≠ k0 → ct_1 j = ct j := fun j a0 => by rw [ect_1]; exact (kw_up_n a0).trans (hfr j a0)
  have hq_4 := h_2
  have hend := kw_eq1 hq_4 hfr_3
  rw [hend] at hw
  exact W.vret hx hb hr (fun t ht _ => ⟨rfl, by rw [ht]; exact hw.1, hw.2.2.1, hw.2.1.F ht, by rw [ht]; exact hw.2.2.2⟩) hw.2.1.2.2 dX4_limit_5
set_option maxHeartbeats 4000000 in
set_option maxRecDepth 100000 in
theorem c_X6_init (l : Launch) (D : va_G) (tc : Nat → ClassId) (sz : Nat) (ad : Nat → Nat) (ct : Nat → Option va_E) {k0 kc : Nat} (h0 : ct k0 = some (.inr (6, [.null, .int 0, .int 0, .int 0]))) (hkc : ct kc = none) (hkca : ad kc = sz) : Met l yX6_init wsX6_init ({ frames := 1, cells := 1, slots := 24, locals := 40 }) (va_Pc [.ref (ad k0)] (kw_B D tc sz ad ct)) (kw_Q D ad (kw_A ad ct sz) (none) (kw_up (kw_up ct k0 (.inr (6, [.ref (ad kc), .int (kb (false = true)), .int 0, .int (nI 0)]))) kc (eI tc 24 (fun _ => 0))) 1) 1 24 (kw_A ad ct sz) := by
  refine Met.ofW (cc := cX6_init) (maxL := 1) (ret := none) (by decide) rfl ?_
  intro pg en s m args below meth cod s₁ B hml hv
  obtain ⟨rfl, hsz, hP0, hK⟩ := hv
  have hx := B.exec
  have hb := B.bytes
  have hr := B.returns
  have hts := atoms_spec (ws := wsX6_init) B.pre
  have hown : s.vm.findClass RX6 = some m.cls := findClass_of_methodNamed B.named
  have hlocks := B.notSynchronized
  have hin2 : meth.name = "<init>" := (name_of_methodNamed B.named B.method).1
  subst hsz
  have hw := kw_H.start hP0
  generalize hAe : kw_A ad ct s.heap.size = A at hw ⊢
  have hA : ∀ q, s.heap.size ≤ q → A q := fun q h => by rw [← hAe]; exact Or.inr h
  have hinX6 : ∀ w ∈ wsX60, w ∈ wsX6_init := by decide +kernel
  have hl := lv_entry ([.ref (ad k0)]) (n := 1) (Nat.le_of_ble_eq_true rfl)
  rw [lg_entry_eq]
  generalize (lg_sl ([.ref (ad k0)]) ++ List.replicate (1 - (lg_sl ([.ref (ad k0)])).length) Slot.unset).toArray = ls at hl ⊢
  have hl : lv_has ls 1 [(0, .ref (ad k0))] := hl
  have S0 : CallFix pg m cod cX6_init 1 s _ wsX6_init RX6 := ⟨hx, hb, hml, hown, hts⟩
  have hfr : ∀ j, j ≠ k0 → j ≠ kc → ct j = ct j := fun _ _ _ => rfl
  refine lv_aload_n hx hb dX6_init_0 rfl (lv_at hl 0 rfl) ?_
  refine W.objInit hx hb hown (hts (.methodLink RX6 3 objectInit) (by decide +kernel)) (hts (.instanceMethod objectInit) (by decide +kernel)) (hts (.code objectInit ⟨#[0xb1]⟩ 1 none) (by decide +kernel)) rfl (by rw [hml]; exact hl.1) rfl dX6_init_1 (Nat.le_of_ble_eq_true rfl) (Nat.le_of_ble_eq_true rfl) ?_
  refine W.eq (g2 := F0 m 4 ls []) rfl ?_
  refine lv_aload_n hx hb dX6_init_4 rfl (lv_at hl 0 rfl) ?_
  refine lv_bipush (v := 24) hx hb dX6_init_5 (by decide) ?_
  refine kg_newi hx hb (hts (.arrayClass .int) (by decide +kernel)) hK hw hA kc hkc hkca 24 rfl (by omega) (Nat.le_of_ble_eq_true rfl) (Nat.le_of_ble_eq_true rfl) dX6_init_7 (fun H hw => ?_)
  obtain ⟨ct_1, ect_1⟩ : ∃ z, z = kw_up ct kc (eI tc 24 (fun _ => 0)) := ⟨_, rfl⟩
  rw [← ect_1] at hw
  have h_2 : ct_1 k0 = some (.inr (6, [.null, .int 0, .int 0, .int 0])) := by rw [ect_1, kw_up_n (fun q => absurd ((congrArg ct q).symm.trans h0) (by rw [hkc]; intro z; cases z))]; exact h0
  have h_3 : ct_1 kc = some (eI tc 24 (fun _ => 0)) := by rw [ect_1]; exact kw_up_s
  have hfr_4 : ∀ j, j ≠ k0 → j ≠ kc → ct_1 j = ct j := fun j a0 a1 => by rw [ect_1]; exact (kw_up_n a1).trans (hfr j a0 a1)
  refine kg_putF (v := .ref (ad kc)) (ty := .array .int) (C := RX6) (T := TX6) (N := 4) (fs' := [.ref (ad kc), .int 0, .int 0, .int 0]) hx hb hts hinX6 tyX6 tyX6_ok nmX6 hown hK hw h_2 rfl 0 (by decide) (hts (.fieldLink RX6 9 "BetMaker$Sheet" "cells" "[I") (by decide +kernel)) (fun _ h9 => h9) rfl hin2 rfl (by decide +kernel) rfl rfl (Nat.le_of_ble_eq_true rfl) rfl dX6_init_9 (fun H locs hw => ?_)
  obtain ⟨ct_5, ect_5⟩ : ∃ z, z = kw_up ct_1 k0 (.inr (6, [.ref (ad kc), .int 0, .int 0, .int 0])) := ⟨_, rfl⟩
  rw [← ect_5] at hw
  have h_6 : ct_5 kc = some (eI tc 24 (fun _ => 0)) := by rw [ect_5, kw_up_n (kw_neK h_3 h_2 (by intro q; cases q))]; exact h_3
  have h_7 : ct_5 k0 = some (.inr (6, [.ref (ad kc), .int 0, .int 0, .int 0])) := by rw [ect_5]; exact kw_up_s
  have hfr_8 : ∀ j, j ≠ k0 → j ≠ kc → ct_5 j = ct j := fun j a0 a1 => by rw [ect_5]; exact (kw_up_n a0).trans (hfr_4 j a0 a1)
  have hq_9 : ct_5 k0 = some (.inr (6, [.ref (ad kc), .int (kb (false = true)), .int 0, .int (nI 0)])) := h_7.trans (congrArg some (show (.inr (6, [.ref (ad kc), .int 0, .int 0, .int 0]) : va_E) = .inr (6, [.ref (ad kc), .int (kb (false = true)), .int 0, .int (nI 0)]) from by rfl))
  have hq_10 := h_6
  have hend := kw_eq2 hq_9 hq_10 hfr_8
  rw [hend] at hw
  refine W.widen (k := 1) (n := 24) (Nat.le_of_ble_eq_true rfl) (Nat.le_of_ble_eq_true rfl) ?_
  exact W.vret hx hb hr (fun t ht _ => ⟨rfl, by rw [ht]; exact hw.1, hw.2.2.1, hw.2.1.F ht, by rw [ht]; exact hw.2.2.2⟩) hw.2.1.2.2 dX6_init_12
set_option maxHeartbeats 4000000 in
set_option maxRecDepth 100000 in
theorem c_X6_renew (l : Launch) (D : va_G) (tc : Nat → ClassId) (sz : Nat) (ad : Nat → Nat) (ct : Nat → Option va_E) {k0 kc n : Nat} {th : Bool} {ln : Int32} {f : Nat → Int32} {la : Int32} {n1 : Nat} (h0 : ct k0 = some (.inr (6, [.ref (ad kc), .int (kb (th = true)), .int ln, .int (nI n)]))) (h1 : ct kc = some (eI tc 24 f)) : Met l yX6_renew wsX6_renew ({ frames := 1, cells := 0, slots := 0, locals := 27 }) (va_Pc [.ref (ad k0), .int la, .int (nI n1)] (kw_B D tc sz ad ct)) (kw_Q D ad (kw_A ad ct sz) (none) (kw_up (kw_up ct k0 (.inr (6, [.ref (ad kc), .int (kb (true = true)), .int la, .int (nI n1)]))) kc (eI tc 24 (kFl f 0 24))) 0) 0 0 (kw_A ad ct sz) := by
  refine Met.ofW (cc := cX6_renew) (maxL := 3) (ret := none) (by decide) rfl ?_
  intro pg en s m args below meth cod s₁ B hml hv
  obtain ⟨rfl, hsz, hP0, hK⟩ := hv
  have hx := B.exec
  have hb := B.bytes
  have hr := B.returns
  have hts := atoms_spec (ws := wsX6_renew) B.pre
  have hown : s.vm.findClass RX6 = some m.cls := findClass_of_methodNamed B.named
  have hlocks := B.notSynchronized
  subst hsz
  have hw := kw_H.start hP0
  generalize hAe : kw_A ad ct s.heap.size = A at hw ⊢
  have hA : ∀ q, s.heap.size ≤ q → A q := fun q h => by rw [← hAe]; exact Or.inr h
  have hinX6 : ∀ w ∈ wsX60, w ∈ wsX6_renew := by decide +kernel
  have hl := lv_entry ([.ref (ad k0), .int la, .int (nI n1)]) (n := 3) (Nat.le_of_ble_eq_true rfl)
  rw [lg_entry_eq]
  generalize (lg_sl ([.ref (ad k0), .int la, .int (nI n1)]) ++ List.replicate (3 - (lg_sl ([.ref (ad k0), .int la, .int (nI n1)])).length) Slot.unset).toArray = ls at hl ⊢
  have hl : lv_has ls 3 [(0, .ref (ad k0)), (1, .int la), (2, .int (nI n1))] := hl
  have S0 : CallFix pg m cod cX6_renew 3 s _ wsX6_renew RX6 := ⟨hx, hb, hml, hown, hts⟩
  have hfr : ∀ j, j ≠ k0 → j ≠ kc → ct j = ct j := fun _ _ _ => rfl
  refine lv_aload_n hx hb dX6_renew_0 rfl (lv_at hl 0 rfl) ?_
  refine kg_get (v := .ref (ad kc)) (C := RX6) (T := TX6) (N := 4) hx hb hts hinX6 hown hK hw h0 rfl 0 (by decide) (hts (.fieldLink RX6 9 "BetMaker$Sheet" "cells" "[I") (by decide +kernel)) (fun _ h9 => h9) rfl dX6_renew_1 ?_
  refine lv_iconst (v := 0) hx hb dX6_renew_4 (by decide) ?_
  refine kc_su (As := [.ref (ad kc), .int 0]) (rest := []) S0 (c_J7_fill_53178 l D tc s.heap.size ad ct h1 (by omega)) (va_cwS 2 hts gX6_renew_J7_fill_53178 rfl rfl rfl (by decide +kernel) ⟨Nat.le_of_ble_eq_true rfl, Nat.le_of_ble_eq_true rfl⟩) hK hw hA rfl hl.1 rfl (Nat.le_of_ble_eq_true rfl) dX6_renew_5 ⟨Nat.le_of_ble_eq_true rfl, (Nat.le_of_ble_eq_true rfl)⟩ (fun H locs hw => ?_)
  obtain ⟨ct_1, ect_1⟩ : ∃ z, z = kw_up ct kc (eI tc 24 (kFl f 0 24)) := ⟨_, rfl⟩
  rw [← ect_1] at hw
  have h_2 : ct_1 k0 = some (.inr (6, [.ref (ad kc), .int (kb (th = true)), .int ln, .int (nI n)])) := by rw [ect_1, kw_up_n (kw_neK h0 h1 (by intro q; cases q))]; exact h0
  have h_3 : ct_1 kc = some (eI tc 24 (kFl f 0 24)) := by rw [ect_1]; exact kw_up_s
  have hfr_4 : ∀ j, j ≠ k0 → j ≠ kc → ct_1 j = ct j := fun j a0 a1 => by rw [ect_1]; exact (kw_up_n a1).trans (hfr j a0 a1)
  refine lv_aload_n hx hb dX6_renew_8 rfl (lv_at hl 0 rfl) ?_
  refine lv_iconst (v := 1) hx hb dX6_renew_9 (by decide) ?_
  refine kg_put (v := .int 1) (ty := .boolean) (C := RX6) (T := TX6) (N := 4) (fs' := [.ref (ad kc), .int 1, .int ln, .int (nI n)]) hx hb hts hinX6 tyX6 tyX6_ok nmX6 hown hK hw h_2 rfl 1 (by decide) (hts (.fieldLink RX6 21 "BetMaker$Sheet" "there" "Z") (by decide +kernel)) (fun _ h9 => h9) rfl (by decide +kernel) rfl rfl (Nat.le_of_ble_eq_true rfl) rfl dX6_renew_10 (fun H locs hw => ?_)
  obtain ⟨ct_5, ect_5⟩ : ∃ z, z = kw_up ct_1 k0 (.inr (6, [.ref (ad kc), .int 1, .int ln, .int (nI n)])) := ⟨_, rfl⟩
  rw [← ect_5] at hw
  have h_6 : ct_5 kc = some (eI tc 24 (kFl f 0 24)) := by rw [ect_5, kw_up_n (kw_neK h_3 h_2 (by intro q; cases q))]; exact h_3
  have h_7 : ct_5 k0 = some (.inr (6, [.ref (ad kc), .int 1, .int ln, .int (nI n)])) := by rw [ect_5]; exact kw_up_s
  have hfr_8 : ∀ j, j ≠ k0 → j ≠ kc → ct_5 j = ct j := fun j a0 a1 => by rw [ect_5]; exact (kw_up_n a0).trans (hfr_4 j a0 a1)
  refine lv_aload_n hx hb dX6_renew_13 rfl (lv_at hl 0 rfl) ?_
  refine lv_iload_n hx hb dX6_renew_14 rfl (lv_at hl 1 rfl) ?_
  refine kg_put (v := .int la) (ty := .int) (C := RX6) (T := TX6) (N := 4) (fs' := [.ref (ad kc), .int 1, .int la, .int (nI n)]) hx hb hts hinX6 tyX6 tyX6_ok nmX6 hown hK hw h_7 rfl 2 (by decide) (hts (.fieldLink RX6 25 "BetMaker$Sheet" "lane" "I") (by decide +kernel)) (fun _ h9 => h9) rfl (by decide +kernel) rfl rfl (Nat.le_of_ble_eq_true rfl) rfl dX6_renew_15 (fun H locs hw => ?_)
  obtain ⟨ct_9, ect_9⟩ : ∃ z, z = kw_up ct_5 k0 (.inr (6, [.ref (ad kc), .int 1, .int la, .int (nI n)])) := ⟨_, rfl⟩
  rw [← ect_9] at hw
  have h_10 : ct_9 kc = some (eI tc 24 (kFl f 0 24)) := by rw [ect_9, kw_up_n (kw_neK h_6 h_7 (by intro q; cases q))]; exact h_6
  have h_11 : ct_9 k0 = some (.inr (6, [.ref (ad kc), .int 1, .int la, .int (nI n)])) := by rw [ect_9]; exact kw_up_s
  have hfr_12 : ∀ j, j ≠ k0 → j ≠ kc → ct_9 j = ct j := fun j a0 a1 => by rw [ect_9]; exact (kw_up_n a0).trans (hfr_8 j a0 a1)
  refine lv_aload_n hx hb dX6_renew_18 rfl (lv_at hl 0 rfl) ?_
  refine lv_iload_n hx hb dX6_renew_19 rfl (lv_at hl 2 rfl) ?_
  refine kg_put (v := .int (nI n1)) (ty := .int) (C := RX6) (T := TX6) (N := 4) (fs' := [.ref (ad kc), .int 1, .int la, .int (nI n1)]) hx hb hts hinX6 tyX6 tyX6_ok nmX6 hown hK hw h_11 rfl 3 (by decide) (hts (.fieldLink RX6 29 "BetMaker$Sheet" "length" "I") (by decide +kernel)) (fun _ h9 => h9) rfl (by decide +kernel) rfl rfl (Nat.le_of_ble_eq_true rfl) rfl dX6_renew_20 (fun H locs hw => ?_)
  obtain ⟨ct_13, ect_13⟩ : ∃ z, z = kw_up ct_9 k0 (.inr (6, [.ref (ad kc), .int 1, .int la, .int (nI n1)])) := ⟨_, rfl⟩
  rw [← ect_13] at hw
  have h_14 : ct_13 kc = some (eI tc 24 (kFl f 0 24)) := by rw [ect_13, kw_up_n (kw_neK h_10 h_11 (by intro q; cases q))]; exact h_10
  have h_15 : ct_13 k0 = some (.inr (6, [.ref (ad kc), .int 1, .int la, .int (nI n1)])) := by rw [ect_13]; exact kw_up_s
  have hfr_16 : ∀ j, j ≠ k0 → j ≠ kc → ct_13 j = ct j := fun j a0 a1 => by rw [ect_13]; exact (kw_up_n a0).trans (hfr_12 j a0 a1)
  have hq_17 : ct_13 k0 = some (.inr (6, [.ref (ad kc), .int (kb (true = true)), .int la, .int (nI n1)])) := h_15.trans (congrArg some (show (.inr (6, [.ref (ad kc), .int 1, .int la, .int (nI n1)]) : va_E) = .inr (6, [.ref (ad kc), .int (kb (true = true)), .int la, .int (nI n1)]) from by rfl))
  have hq_18 := h_14
  have hend := kw_eq2 hq_17 hq_18 hfr_16
  rw [hend] at hw
  exact W.vret hx hb hr (fun t ht _ => ⟨rfl, by rw [ht]; exact hw.1, hw.2.2.1, hw.2.1.F ht, by rw [ht]; exact hw.2.2.2⟩) hw.2.1.2.2 dX6_renew_23
set_option maxHeartbeats 4000000 in
set_option maxRecDepth 100000 in
theorem c_X6_drop (l : Launch) (D : va_G) (tc : Nat → ClassId) (sz : Nat) (ad : Nat → Nat) (ct : Nat → Option va_E) {k0 kc n : Nat} {th : Bool} {ln : Int32} (h0 : ct k0 = some (.inr (6, [.ref (ad kc), .int (kb (th = true)), .int ln, .int (nI n)]))) : Met l yX6_drop wsX6_drop ({ frames := 0, cells := 0, slots := 0, locals := 0 }) (va_Pc [.ref (ad k0)] (kw_B D tc sz ad ct)) (kw_Q D ad (kw_A ad ct sz) (some (.int (kb (th = true)))) (kw_up ct k0 (.inr (6, [.ref (ad kc), .int (kb (false = true)), .int ln, .int (nI n)]))) 0) 0 0 (kw_A ad ct sz) := by
  refine Met.ofW (cc := cX6_drop) (maxL := 2) (ret := (some .boolean)) (by decide) rfl ?_
  intro pg en s m args below meth cod s₁ B hml hv
  obtain ⟨rfl, hsz, hP0, hK⟩ := hv
  have hx := B.exec
  have hb := B.bytes
  have hr := B.returns
  have hts := atoms_spec (ws := wsX6_drop) B.pre
  have hown : s.vm.findClass RX6 = some m.cls := findClass_of_methodNamed B.named
  have hlocks := B.notSynchronized
  subst hsz
  have hw := kw_H.start hP0
  generalize hAe : kw_A ad ct s.heap.size = A at hw ⊢
  have hA : ∀ q, s.heap.size ≤ q → A q := fun q h => by rw [← hAe]; exact Or.inr h
  have hinX6 : ∀ w ∈ wsX60, w ∈ wsX6_drop := by decide +kernel
  have hl := lv_entry ([.ref (ad k0)]) (n := 2) (Nat.le_of_ble_eq_true rfl)
  rw [lg_entry_eq]
  generalize (lg_sl ([.ref (ad k0)]) ++ List.replicate (2 - (lg_sl ([.ref (ad k0)])).length) Slot.unset).toArray = ls at hl ⊢
  have hl : lv_has ls 2 [(0, .ref (ad k0))] := hl
  have S0 : CallFix pg m cod cX6_drop 2 s _ wsX6_drop RX6 := ⟨hx, hb, hml, hown, hts⟩
  have hfr : ∀ j, j ≠ k0 → ct j = ct j := fun _ _ => rfl
  refine lv_aload_n hx hb dX6_drop_0 rfl (lv_at hl 0 rfl) ?_
  refine kg_get (v := .int (kb (th = true))) (C := RX6) (T := TX6) (N := 4) hx hb hts hinX6 hown hK hw h0 rfl 1 (by decide) (hts (.fieldLink RX6 21 "BetMaker$Sheet" "there" "Z") (by decide +kernel)) (fun _ h9 => h9) rfl dX6_drop_1 ?_
  refine lv_istore_n (lv' := [(1, .int (kb (th = true))), (0, .ref (ad k0))]) hx hb dX6_drop_4 rfl hl (by decide) rfl (fun ls hl => ?_)
  refine lv_aload_n hx hb dX6_drop_5 rfl (lv_at hl 1 rfl) ?_
  refine lv_iconst (v := 0) hx hb dX6_drop_6 (by decide) ?_
  refine kg_put (v := .int 0) (ty := .boolean) (C := RX6) (T := TX6) (N := 4) (fs' := [.ref (ad kc), .int 0, .int ln, .int (nI n)]) hx hb hts hinX6 tyX6 tyX6_ok nmX6 hown hK hw h0 rfl 1 (by decide) (hts (.fieldLink RX6 21 "BetMaker$Sheet" "there" "Z") (by decide +kernel)) (fun _ h9 => h9) rfl (by decide +kernel) rfl rfl (Nat.le_of_ble_eq_true rfl) rfl dX6_drop_7 (fun H locs hw => ?_)
  obtain ⟨ct_1, ect_1⟩ : ∃ z, z = kw_up ct k0 (.inr (6, [.ref (ad kc), .int 0, .int ln, .int (nI n)])) := ⟨_, rfl⟩
  rw [← ect_1] at hw
  have h_2 : ct_1 k0 = some (.inr (6, [.ref (ad kc), .int 0, .int ln, .int (nI n)])) := by rw [ect_1]; exact kw_up_s
  have hfr_3 : ∀ j, j ≠ k0 → ct_1 j = ct j := fun j a0 => by rw [ect_1]; exact (kw_up_n a0).trans (hfr j a0)
  refine lv_iload_n hx hb dX6_drop_10 rfl (lv_at hl 0 rfl) ?_
  have hq_4 : ct_1 k0 = some (.inr (6, [.ref (ad kc), .int (kb (false = true)), .int ln, .int (nI n)])) := h_2.trans (congrArg some (show (.inr (6, [.ref (ad kc), .int 0, .int ln, .int (nI n)]) : va_E) = .inr (6, [.ref (ad kc), .int (kb (false = true)), .int ln, .int (nI n)]) from by rfl))
  have hend := kw_eq1 hq_4 hfr_3
  rw [hend] at hw
  exact W.zret hx hb hr kb_nar (fun t ht _ => ⟨rfl, by rw [ht]; exact hw.1, hw.2.2.1, hw.2.1.F ht, by rw [ht]; exact hw.2.2.2⟩) hw.2.1.2.2 dX6_drop_11
set_option maxHeartbeats 4000000 in
set_option maxRecDepth 100000 in
theorem c_X6_reachFault (l : Launch) (D : va_G) (tc : Nat → ClassId) (sz : Nat) (ad : Nat → Nat) (ct : Nat → Option va_E) {k0 kc n : Nat} {th : Bool} {ln : Int32} {i q : Int32} (h0 : ct k0 = some (.inr (6, [.ref (ad kc), .int (kb (th = true)), .int ln, .int (nI n)]))) : Met l yX6_reachFault wsX6_reachFault ({ frames := 0, cells := 0, slots := 0, locals := 0 }) (va_Pc [.ref (ad k0), .int i, .int q] (kw_B D tc sz ad ct)) (k2_QcV (.int (kRF th i n q))) 0 0 (fun _ => False) := by
  refine Met.ofW (cc := cX6_reachFault) (maxL := 3) (ret := (some .int)) (by decide) rfl ?_
  intro pg en s m args below meth cod s₁ B hml hv
  obtain ⟨rfl, hsz, hP0, hK⟩ := hv
  have hx := B.exec
  have hb := B.bytes
  have hr := B.returns
  have hts := atoms_spec (ws := wsX6_reachFault) B.pre
  have hown : s.vm.findClass RX6 = some m.cls := findClass_of_methodNamed B.named
  have hlocks := B.notSynchronized
  subst hsz
  have hw := kw_H.start hP0
  generalize kw_A ad ct s.heap.size = A at hw
  have hinX6 : ∀ w ∈ wsX60, w ∈ wsX6_reachFault := by decide +kernel
  have hl := lv_entry ([.ref (ad k0), .int i, .int q]) (n := 3) (Nat.le_of_ble_eq_true rfl)
  rw [lg_entry_eq]
  generalize (lg_sl ([.ref (ad k0), .int i, .int q]) ++ List.replicate (3 - (lg_sl ([.ref (ad k0), .int i, .int q])).length) Slot.unset).toArray = ls at hl ⊢
  have hl : lv_has ls 3 [(0, .ref (ad k0)), (1, .int i), (2, .int q)] := hl
  have S0 : CallFix pg m cod cX6_reachFault 3 s _ wsX6_reachFault RX6 := ⟨hx, hb, hml, hown, hts⟩
  refine lv_aload_n hx hb dX6_reachFault_0 rfl (lv_at hl 0 rfl) ?_
  refine kg_get (v := .int (kb (th = true))) (C := RX6) (T := TX6) (N := 4) hx hb hts hinX6 hown hK hw h0 rfl 1 (by decide) (hts (.fieldLink RX6 21 "BetMaker$Sheet" "there" "Z") (by decide +kernel)) (fun _ h9 => h9) rfl dX6_reachFault_1 ?_
  refine kb_ifne (tgt := 9) hx hb dX6_reachFault_4 (by decide) (fun c_1 => ?_) (fun c_1 => ?_)
  · refine lv_iload_n hx hb dX6_reachFault_9 rfl (lv_at hl 1 rfl) ?_
    refine lv_if_lt (tgt := 23) hx hb dX6_reachFault_10 (by decide) (fun c_2 => ?_) (fun c_2 => ?_)
    · refine lv_iconst (v := 3) hx hb dX6_reachFault_23 (by decide) ?_
      refine lv_goto (tgt := 28) hx hb dX6_reachFault_24 (by decide) ?_
      refine W.eq (congrArg (fun z => F0 m 28 ls [.int z]) (show 3 = (kRF th i n q) from by exact kRF_2 c_1 c_2)) ?_
      exact W.iret hx hb hr (fun t ht _ => ⟨rfl, ht⟩) (fun _ h => absurd h List.not_mem_nil) dX6_reachFault_28
    · refine lv_iload_n hx hb dX6_reachFault_13 rfl (lv_at hl 1 rfl) ?_
      refine lv_aload_n hx hb dX6_reachFault_14 rfl (lv_at hl 0 rfl) ?_
      refine kg_get (v := .int (nI n)) (C := RX6) (T := TX6) (N := 4) hx hb hts hinX6 hown hK hw h0 rfl 3 (by decide) (hts (.fieldLink RX6 29 "BetMaker$Sheet" "length" "I") (by decide +kernel)) (fun _ h9 => h9) rfl dX6_reachFault_15 ?_
      refine lv_iload_n hx hb dX6_reachFault_18 rfl (lv_at hl 2 rfl) ?_
      refine lv_isub hx hb dX6_reachFault_19 ?_
      refine lv_icmp_le (tgt := 27) hx hb dX6_reachFault_20 (by decide) (fun c_3 => ?_) (fun c_3 => ?_)
      · refine lv_iconst (v := 0) hx hb dX6_reachFault_27 (by decide) ?_
        refine W.eq (congrArg (fun z => F0 m 28 ls [.int z]) (show 0 = (kRF th i n q) from by exact kRF_3 c_1 c_2 c_3)) ?_
        exact W.iret hx hb hr (fun t ht _ => ⟨rfl, ht⟩) (fun _ h => absurd h List.not_mem_nil) dX6_reachFault_28
      · refine lv_iconst (v := 3) hx hb dX6_reachFault_23 (by decide) ?_
        refine lv_goto (tgt := 28) hx hb dX6_reachFault_24 (by decide) ?_
        refine W.eq (congrArg (fun z => F0 m 28 ls [.int z]) (show 3 = (kRF th i n q) from by exact kRF_4 c_1 c_2 c_3)) ?_
        exact W.iret hx hb hr (fun t ht _ => ⟨rfl, ht⟩) (fun _ h => absurd h List.not_mem_nil) dX6_reachFault_28
  · refine lv_iconst (v := 1) hx hb dX6_reachFault_7 (by decide) ?_
    refine W.eq (congrArg (fun z => F0 m 8 ls [.int z]) (show 1 = (kRF th i n q) from by exact kRF_1 c_1)) ?_
    exact W.iret hx hb hr (fun t ht _ => ⟨rfl, ht⟩) (fun _ h => absurd h List.not_mem_nil) dX6_reachFault_8
set_option maxHeartbeats 4000000 in
set_option maxRecDepth 100000 in
theorem c_X6_readFault (l : Launch) (D : va_G) (tc : Nat → ClassId) (sz : Nat) (ad : Nat → Nat) (ct : Nat → Option va_E) {k0 kc n : Nat} {th : Bool} {ln : Int32} {la i q : Int32} (h0 : ct k0 = some (.inr (6, [.ref (ad kc), .int (kb (th = true)), .int ln, .int (nI n)]))) : Met l yX6_readFault wsX6_readFault ({ frames := 1, cells := 0, slots := 0, locals := 26 }) (va_Pc [.ref (ad k0), .int la, .int i, .int q] (kw_B D tc sz ad ct)) (k2_QcV (.int (kDF th ln la i n q))) 0 0 (fun _ => False) := by
  refine Met.ofW (cc := cX6_readFault) (maxL := 4) (ret := (some .int)) (by decide) rfl ?_
  intro pg en s m args below meth cod s₁ B hml hv
  obtain ⟨rfl, hsz, hP0, hK⟩ := hv
  have hx := B.exec
  have hb := B.bytes
  have hr := B.returns
  have hts := atoms_spec (ws := wsX6_readFault) B.pre
  have hown : s.vm.findClass RX6 = some m.cls := findClass_of_methodNamed B.named
  have hlocks := B.notSynchronized
  subst hsz
  have hw := kw_H.start hP0
  generalize kw_A ad ct s.heap.size = A at hw
  have hinX6 : ∀ w ∈ wsX60, w ∈ wsX6_readFault := by decide +kernel
  have hl := lv_entry ([.ref (ad k0), .int la, .int i, .int q]) (n := 4) (Nat.le_of_ble_eq_true rfl)
  rw [lg_entry_eq]
  generalize (lg_sl ([.ref (ad k0), .int la, .int i, .int q]) ++ List.replicate (4 - (lg_sl ([.ref (ad k0), .int la, .int i, .int q])).length) Slot.unset).toArray = ls at hl ⊢
  have hl : lv_has ls 4 [(0, .ref (ad k0)), (1, .int la), (2, .int i), (3, .int q)] := hl
  have S0 : CallFix pg m cod cX6_readFault 4 s _ wsX6_readFault RX6 := ⟨hx, hb, hml, hown, hts⟩
  refine lv_aload_n hx hb dX6_readFault_0 rfl (lv_at hl 0 rfl) ?_
  refine kg_get (v := .int (kb (th = true))) (C := RX6) (T := TX6) (N := 4) hx hb hts hinX6 hown hK hw h0 rfl 1 (by decide) (hts (.fieldLink RX6 21 "BetMaker$Sheet" "there" "Z") (by decide +kernel)) (fun _ h9 => h9) rfl dX6_readFault_1 ?_
  refine kb_ifeq (tgt := 19) hx hb dX6_readFault_4 (by decide) (fun c_1 => ?_) (fun c_1 => ?_)
  · refine lv_aload_n hx hb dX6_readFault_19 rfl (lv_at hl 0 rfl) ?_
    refine lv_iload_n hx hb dX6_readFault_20 rfl (lv_at hl 2 rfl) ?_
    refine lv_iload_n hx hb dX6_readFault_21 rfl (lv_at hl 3 rfl) ?_
    refine kc_v (As := [.int i, .int q]) (rest := []) S0 (c_X6_reachFault l D tc s.heap.size ad ct (n := n) h0) (cwV 2 hts gX6_readFault_X6_reachFault rfl rfl rfl (by decide +kernel) ⟨Nat.le_of_ble_eq_true rfl, Nat.le_of_ble_eq_true rfl⟩) hK hw h0 rfl rfl hl.1 rfl (Nat.le_of_ble_eq_true rfl) dX6_readFault_22 ⟨Nat.le_of_ble_eq_true rfl, (Nat.le_of_ble_eq_true rfl)⟩ ?_
    refine W.eq (congrArg (fun z => F0 m 25 ls [.int z]) (show (kRF th i n q) = (kDF th ln la i n q) from by rw [kDF, if_neg (fun z => c_1 z.1)])) ?_
    exact W.iret hx hb hr (fun t ht _ => ⟨rfl, ht⟩) (fun _ h => absurd h List.not_mem_nil) dX6_readFault_25
  · refine lv_aload_n hx hb dX6_readFault_7 rfl (lv_at hl 0 rfl) ?_
    refine kg_get (v := .int ln) (C := RX6) (T := TX6) (N := 4) hx hb hts hinX6 hown hK hw h0 rfl 2 (by decide) (hts (.fieldLink RX6 25 "BetMaker$Sheet" "lane" "I") (by decide +kernel)) (fun _ h9 => h9) rfl dX6_readFault_8 ?_
    refine lv_iload_n hx hb dX6_readFault_11 rfl (lv_at hl 1 rfl) ?_
    refine lv_icmp_eq (tgt := 19) hx hb dX6_readFault_12 (by decide) (fun c_2 => ?_) (fun c_2 => ?_)
    · refine lv_aload_n hx hb dX6_readFault_19 rfl (lv_at hl 0 rfl) ?_
      refine lv_iload_n hx hb dX6_readFault_20 rfl (lv_at hl 2 rfl) ?_
      refine lv_iload_n hx hb dX6_readFault_21 rfl (lv_at hl 3 rfl) ?_
      refine kc_v (As := [.int i, .int q]) (rest := []) S0 (c_X6_reachFault l D tc s.heap.size ad ct (n := n) h0) (cwV 2 hts gX6_readFault_X6_reachFault rfl rfl rfl (by decide +kernel) ⟨Nat.le_of_ble_eq_true rfl, Nat.le_of_ble_eq_true rfl⟩) hK hw h0 rfl rfl hl.1 rfl (Nat.le_of_ble_eq_true rfl) dX6_readFault_22 ⟨Nat.le_of_ble_eq_true rfl, (Nat.le_of_ble_eq_true rfl)⟩ ?_
      refine W.eq (congrArg (fun z => F0 m 25 ls [.int z]) (show (kRF th i n q) = (kDF th ln la i n q) from by rw [kDF, if_neg (fun z => z.2 c_2)])) ?_
      exact W.iret hx hb hr (fun t ht _ => ⟨rfl, ht⟩) (fun _ h => absurd h List.not_mem_nil) dX6_readFault_25
    · refine lv_iconst (v := 2) hx hb dX6_readFault_15 (by decide) ?_
      refine lv_goto (tgt := 25) hx hb dX6_readFault_16 (by decide) ?_
      refine W.eq (congrArg (fun z => F0 m 25 ls [.int z]) (show 2 = (kDF th ln la i n q) from by rw [kDF, if_pos ⟨c_1, c_2⟩])) ?_
      exact W.iret hx hb hr (fun t ht _ => ⟨rfl, ht⟩) (fun _ h => absurd h List.not_mem_nil) dX6_readFault_25
set_option maxHeartbeats 4000000 in
set_option maxRecDepth 100000 in
theorem c_X6_cut (l : Launch) (D : va_G) (tc : Nat → ClassId) (sz : Nat) (ad : Nat → Nat) (ct : Nat → Option va_E) {k0 kc n : Nat} {th : Bool} {ln : Int32} {v : Int32} (h0 : ct k0 = some (.inr (6, [.ref (ad kc), .int (kb (th = true)), .int ln, .int (nI n)]))) : Met l yX6_cut wsX6_cut ({ frames := 0, cells := 0, slots := 0, locals := 0 }) (va_Pc [.ref (ad k0), .int v] (kw_B D tc sz ad ct)) (k2_QcV (.int (kCut ln v))) 0 0 (fun _ => False) := by
  refine Met.ofW (cc := cX6_cut) (maxL := 2) (ret := (some .int)) (by decide) rfl ?_
  intro pg en s m args below meth cod s₁ B hml hv
  obtain ⟨rfl, hsz, hP0, hK⟩ := hv
  have hx := B.exec
  have hb := B.bytes
  have hr := B.returns
  have hts := atoms_spec (ws := wsX6_cut) B.pre
  have hown : s.vm.findClass RX6 = some m.cls := findClass_of_methodNamed B.named
  have hlocks := B.notSynchronized
  subst hsz
  have hw := kw_H.start hP0
  generalize kw_A ad ct s.heap.size = A at hw
  have hinX6 : ∀ w ∈ wsX60, w ∈ wsX6_cut := by decide +kernel
  have hl := lv_entry ([.ref (ad k0), .int v]) (n := 2) (Nat.le_of_ble_eq_true rfl)
  rw [lg_entry_eq]
  generalize (lg_sl ([.ref (ad k0), .int v]) ++ List.replicate (2 - (lg_sl ([.ref (ad k0), .int v])).length) Slot.unset).toArray = ls at hl ⊢
  have hl : lv_has ls 2 [(0, .ref (ad k0)), (1, .int v)] := hl
  have S0 : CallFix pg m cod cX6_cut 2 s _ wsX6_cut RX6 := ⟨hx, hb, hml, hown, hts⟩
  refine lv_aload_n hx hb dX6_cut_0 rfl (lv_at hl 0 rfl) ?_
  refine kg_get (v := .int ln) (C := RX6) (T := TX6) (N := 4) hx hb hts hinX6 hown hK hw h0 rfl 2 (by decide) (hts (.fieldLink RX6 25 "BetMaker$Sheet" "lane" "I") (by decide +kernel)) (fun _ h9 => h9) rfl dX6_cut_1 ?_
  by_cases sw_1 : ln = 0
  · subst sw_1
    refine lv_lookup (off := 28) (tgt := 32) hx hb dX6_cut_4 (by decide) (by decide) (by decide) ?_
    refine lv_iload_n hx hb dX6_cut_32 rfl (lv_at hl 1 rfl) ?_
    refine lv_i2b (v := v.toInt8.toInt32) hx hb dX6_cut_33 rfl ?_
    refine W.eq (congrArg (fun z => F0 m 34 ls [.int z]) (show v.toInt8.toInt32 = (kCut 0 v) from by rfl)) ?_
    exact W.iret hx hb hr (fun t ht _ => ⟨rfl, ht⟩) (fun _ h => absurd h List.not_mem_nil) dX6_cut_34
  by_cases sw_2 : ln = 1
  · subst sw_2
    refine lv_lookup (off := 31) (tgt := 35) hx hb dX6_cut_4 (by decide) (by decide) (by decide) ?_
    refine lv_iload_n hx hb dX6_cut_35 rfl (lv_at hl 1 rfl) ?_
    refine lv_i2s (v := v.toInt16.toInt32) hx hb dX6_cut_36 rfl ?_
    refine W.eq (congrArg (fun z => F0 m 37 ls [.int z]) (show v.toInt16.toInt32 = (kCut 1 v) from by rfl)) ?_
    exact W.iret hx hb hr (fun t ht _ => ⟨rfl, ht⟩) (fun _ h => absurd h List.not_mem_nil) dX6_cut_37
  refine lv_lookup (off := 34) (tgt := 38) hx hb dX6_cut_4 (by decide) (by rw [lv_osw sw_1 (by decide), lv_osw sw_2 (by decide)]; rfl) (by decide) ?_
  refine lv_iload_n hx hb dX6_cut_38 rfl (lv_at hl 1 rfl) ?_
  refine W.eq (congrArg (fun z => F0 m 39 ls [.int z]) (show v = (kCut ln v) from by rw [kCut, if_neg ‹¬ ln = 0›, if_neg ‹¬ ln = 1›])) ?_
  exact W.iret hx hb hr (fun t ht _ => ⟨rfl, ht⟩) (fun _ h => absurd h List.not_mem_nil) dX6_cut_39
set_option maxHeartbeats 4000000 in
set_option maxRecDepth 100000 in
theorem c_X6_write (l : Launch) (D : va_G) (tc : Nat → ClassId) (sz : Nat) (ad : Nat → Nat) (ct : Nat → Option va_E) {k0 kc n : Nat} {th : Bool} {ln : Int32} {f : Nat → Int32} {i : Nat} {v : Int32} (h0 : ct k0 = some (.inr (6, [.ref (ad kc), .int (kb (th = true)), .int ln, .int (nI n)]))) (h1 : ct kc = some (eI tc 24 f)) (hi : i < n) (hn : n ≤ 24) : Met l yX6_write wsX6_write ({ frames := 1, cells := 0, slots := 0, locals := 25 }) (va_Pc [.ref (ad k0), .int (nI i), .int v] (kw_B D tc sz ad ct)) (kw_Q D ad (kw_A ad ct sz) (none) (kw_up ct kc (eI tc 24 (va_up f i (kCut ln v)))) 0) 0 0 (kw_A ad ct sz) := by
  refine Met.ofW (cc := cX6_write) (maxL := 3) (ret := none) (by decide) rfl ?_
  intro pg en s m args below meth cod s₁ B hml hv
  obtain ⟨rfl, hsz, hP0, hK⟩ := hv
  have hx := B.exec
  have hb := B.bytes
  have hr := B.returns
  have hts := atoms_spec (ws := wsX6_write) B.pre
  have hown : s.vm.findClass RX6 = some m.cls := findClass_of_methodNamed B.named
  have hlocks := B.notSynchronized
  subst hsz
  have hw := kw_H.start hP0
  generalize hAe : kw_A ad ct s.heap.size = A at hw ⊢
  have hA : ∀ q, s.heap.size ≤ q → A q := fun q h => by rw [← hAe]; exact Or.inr h
  have hinX6 : ∀ w ∈ wsX60, w ∈ wsX6_write := by decide +kernel
  have hl := lv_entry ([.ref (ad k0), .int (nI i), .int v]) (n := 3) (Nat.le_of_ble_eq_true rfl)
  rw [lg_entry_eq]
  generalize (lg_sl ([.ref (ad k0), .int (nI i), .int v]) ++ List.replicate (3 - (lg_sl ([.ref (ad k0), .int (nI i), .int v])).length) Slot.unset).toArray = ls at hl ⊢
  have hl : lv_has ls 3 [(0, .ref (ad k0)), (1, .int (nI i)), (2, .int v)] := hl
  have S0 : CallFix pg m cod cX6_write 3 s _ wsX6_write RX6 := ⟨hx, hb, hml, hown, hts⟩
  have hfr : ∀ j, j ≠ kc → ct j = ct j := fun _ _ => rfl
  refine lv_iload_n hx hb dX6_write_0 rfl (lv_at hl 1 rfl) ?_
  refine lv_if_lt (tgt := 29) hx hb dX6_write_1 (by decide) (fun c_1 => ?_) (fun c_1 => ?_)
  · exact absurd c_1 (nI_pos (by omega))
  · refine lv_iload_n hx hb dX6_write_4 rfl (lv_at hl 1 rfl) ?_
    refine lv_aload_n hx hb dX6_write_5 rfl (lv_at hl 0 rfl) ?_
    refine kg_get (v := .int (nI n)) (C := RX6) (T := TX6) (N := 4) hx hb hts hinX6 hown hK hw h0 rfl 3 (by decide) (hts (.fieldLink RX6 29 "BetMaker$Sheet" "length" "I") (by decide +kernel)) (fun _ h9 => h9) rfl dX6_write_6 ?_
    refine kn_ge i n rfl rfl (by omega) (by omega) (tgt := 29) hx hb dX6_write_9 (by decide) (fun c_2 => ?_) (fun c_2 => ?_)
    · exfalso; omega
    · refine lv_iload_n hx hb dX6_write_12 rfl (lv_at hl 1 rfl) ?_
      refine lv_bipush (v := 24) hx hb dX6_write_13 (by decide) ?_
      refine kn_ge i 24 rfl rfl (by omega) (by omega) (tgt := 29) hx hb dX6_write_15 (by decide) (fun c_3 => ?_) (fun c_3 => ?_)
      · exfalso; omega
      · refine lv_aload_n hx hb dX6_write_18 rfl (lv_at hl 0 rfl) ?_
        refine kg_get (v := .ref (ad kc)) (C := RX6) (T := TX6) (N := 4) hx hb hts hinX6 hown hK hw h0 rfl 0 (by decide) (hts (.fieldLink RX6 9 "BetMaker$Sheet" "cells" "[I") (by decide +kernel)) (fun _ h9 => h9) rfl dX6_write_19 ?_
        refine lv_iload_n hx hb dX6_write_22 rfl (lv_at hl 1 rfl) ?_
        refine lv_aload_n hx hb dX6_write_23 rfl (lv_at hl 0 rfl) ?_
        refine lv_iload_n hx hb dX6_write_24 rfl (lv_at hl 2 rfl) ?_
        refine kc_v (As := [.int v]) (rest := [.int (nI i), .ref (ad kc)]) S0 (c_X6_cut l D tc s.heap.size ad ct (n := n) h0) (cwV 1 hts gX6_write_X6_cut rfl rfl rfl (by decide +kernel) ⟨Nat.le_of_ble_eq_true rfl, Nat.le_of_ble_eq_true rfl⟩) hK hw h0 rfl rfl hl.1 rfl (Nat.le_of_ble_eq_true rfl) dX6_write_25 ⟨Nat.le_of_ble_eq_true rfl, (Nat.le_of_ble_eq_true rfl)⟩ ?_
        refine kg_iast hx hb hK hw h1 i rfl (by omega) (by omega) dX6_write_28 (fun H locs hw => ?_)
        obtain ⟨ct_4, ect_4⟩ : ∃ z, z = kw_up ct kc (eI tc 24 (va_up f i (kCut ln v))) := ⟨_, rfl⟩
        rw [← ect_4] at hw
        have h_5 : ct_4 k0 = some (.inr (6, [.ref (ad kc), .int (kb (th = true)), .int ln, .int (nI n)])) := by rw [ect_4, kw_up_n (kw_neK h0 h1 (by intro q; cases q))]; exact h0
        have h_6 : ct_4 kc = some (eI tc 24 (va_up f i (kCut ln v))) := by rw [ect_4]; exact kw_up_s
        have hfr_7 : ∀ j, j ≠ kc → ct_4 j = ct j := fun j a0 => by rw [ect_4]; exact (kw_up_n a0).trans (hfr j a0)
        have hq_8 := h_6
        have hend := kw_eq1 hq_8 hfr_7
        rw [hend] at hw
        exact W.vret hx hb hr (fun t ht _ => ⟨rfl, by rw [ht]; exact hw.1, hw.2.2.1, hw.2.1.F ht, by rw [ht]; exact hw.2.2.2⟩) hw.2.1.2.2 dX6_write_29
set_option maxHeartbeats 4000000 in
set_option maxRecDepth 100000 in
theorem c_X6_read (l : Launch) (D : va_G) (tc : Nat → ClassId) (sz : Nat) (ad : Nat → Nat) (ct : Nat → Option va_E) {k0 kc n : Nat} {th : Bool} {ln : Int32} {f : Nat → Int32} {i : Nat} (h0 : ct k0 = some (.inr (6, [.ref (ad kc), .int (kb (th = true)), .int ln, .int (nI n)]))) (h1 : ct kc = some (eI tc 24 f)) (hi : i < n) (hn : n ≤ 24) : Met l yX6_read wsX6_read ({ frames := 0, cells := 0, slots := 0, locals := 0 }) (va_Pc [.ref (ad k0), .int (nI i)] (kw_B D tc sz ad ct)) (k2_QcV (.int (f i))) 0 0 (fun _ => False) := by
  refine Met.ofW (cc := cX6_read) (maxL := 2) (ret := (some .int)) (by decide) rfl ?_
  intro pg en s m args below meth cod s₁ B hml hv
  obtain ⟨rfl, hsz, hP0, hK⟩ := hv
  have hx := B.exec
  have hb := B.bytes
  have hr := B.returns
  have hts := atoms_spec (ws := wsX6_read) B.pre
  have hown : s.vm.findClass RX6 = some m.cls := findClass_of_methodNamed B.named
  have hlocks := B.notSynchronized
  subst hsz
  have hw := kw_H.start hP0
  generalize kw_A ad ct s.heap.size = A at hw
  have hinX6 : ∀ w ∈ wsX60, w ∈ wsX6_read := by decide +kernel
  have hl := lv_entry ([.ref (ad k0), .int (nI i)]) (n := 2) (Nat.le_of_ble_eq_true rfl)
  rw [lg_entry_eq]
  generalize (lg_sl ([.ref (ad k0), .int (nI i)]) ++ List.replicate (2 - (lg_sl ([.ref (ad k0), .int (nI i)])).length) Slot.unset).toArray = ls at hl ⊢
  have hl : lv_has ls 2 [(0, .ref (ad k0)), (1, .int (nI i))] := hl
  have S0 : CallFix pg m cod cX6_read 2 s _ wsX6_read RX6 := ⟨hx, hb, hml, hown, hts⟩
  refine lv_iload_n hx hb dX6_read_0 rfl (lv_at hl 1 rfl) ?_
  refine lv_if_lt (tgt := 27) hx hb dX6_read_1 (by decide) (fun c_1 => ?_) (fun c_1 => ?_)
  · exact absurd c_1 (nI_pos (by omega))
  · refine lv_iload_n hx hb dX6_read_4 rfl (lv_at hl 1 rfl) ?_
    refine lv_aload_n hx hb dX6_read_5 rfl (lv_at hl 0 rfl) ?_
    refine kg_get (v := .int (nI n)) (C := RX6) (T := TX6) (N := 4) hx hb hts hinX6 hown hK hw h0 rfl 3 (by decide) (hts (.fieldLink RX6 29 "BetMaker$Sheet" "length" "I") (by decide +kernel)) (fun _ h9 => h9) rfl dX6_read_6 ?_
    refine kn_ge i n rfl rfl (by omega) (by omega) (tgt := 27) hx hb dX6_read_9 (by decide) (fun c_2 => ?_) (fun c_2 => ?_)
    · exfalso; omega
    · refine lv_iload_n hx hb dX6_read_12 rfl (lv_at hl 1 rfl) ?_
      refine lv_bipush (v := 24) hx hb dX6_read_13 (by decide) ?_
      refine kn_ge i 24 rfl rfl (by omega) (by omega) (tgt := 27) hx hb dX6_read_15 (by decide) (fun c_3 => ?_) (fun c_3 => ?_)
      · exfalso; omega
      · refine lv_aload_n hx hb dX6_read_18 rfl (lv_at hl 0 rfl) ?_
        refine kg_get (v := .ref (ad kc)) (C := RX6) (T := TX6) (N := 4) hx hb hts hinX6 hown hK hw h0 rfl 0 (by decide) (hts (.fieldLink RX6 9 "BetMaker$Sheet" "cells" "[I") (by decide +kernel)) (fun _ h9 => h9) rfl dX6_read_19 ?_
        refine lv_iload_n hx hb dX6_read_22 rfl (lv_at hl 1 rfl) ?_
        refine kg_iald hx hb hK hw h1 i rfl (by omega) (by omega) dX6_read_23 ?_
        refine lv_goto (tgt := 28) hx hb dX6_read_24 (by decide) ?_
        exact W.iret hx hb hr (fun t ht _ => ⟨rfl, ht⟩) (fun _ h => absurd h List.not_mem_nil) dX6_read_28
set_option maxHeartbeats 4000000 in
set_option maxRecDepth 100000 in
theorem c_X1_init (l : Launch) (D : va_G) (tc : Nat → ClassId) (sz : Nat) (ad : Nat → Nat) (ct : Nat → Option va_E) {k0 kw cf N : Nat} {w : Nat → Int32} (h0 : ct k0 = some (.inr (1, [.null, .int 0, .long 0, .long 0]))) (h1 : ct kw = some (eI tc N w)) (hN : N ≤ 8) : Met l yX1_init wsX1_init ({ frames := 1, cells := 0, slots := 0, locals := 40 }) (va_Pc [.ref (ad k0), .ref (ad kw), .int (nI cf)] (kw_B D tc sz ad ct)) (kw_Q D ad (kw_A ad ct sz) (none) (kw_up ct k0 (.inr (1, [.ref (ad kw), .int (nI cf), .long (su (fun c => (w c).toInt64) N), .long (su (fun c => (w c * w c).toInt64) N)]))) 0) 0 0 (kw_A ad ct sz) := by
  refine Met.ofW (cc := cX1_init) (maxL := 11) (ret := none) (by decide) rfl ?_
  intro pg en s m args below meth cod s₁ B hml hv
  obtain ⟨rfl, hsz, hP0, hK⟩ := hv
  have hx := B.exec
  have hb := B.bytes
  have hr := B.returns
  have hts := atoms_spec (ws := wsX1_init) B.pre
  have hown : s.vm.findClass RX1 = some m.cls := findClass_of_methodNamed B.named
  have hlocks := B.notSynchronized
  have hin2 : meth.name = "<init>" := (name_of_methodNamed B.named B.method).1
  subst hsz
  have hw := kw_H.start hP0
  generalize hAe : kw_A ad ct s.heap.size = A at hw ⊢
  have hA : ∀ q, s.heap.size ≤ q → A q := fun q h => by rw [← hAe]; exact Or.inr h
  have hinX1 : ∀ w ∈ wsX10, w ∈ wsX1_init := by decide +kernel
  have hl := lv_entry ([.ref (ad k0), .ref (ad kw), .int (nI cf)]) (n := 11) (Nat.le_of_ble_eq_true rfl)
  rw [lg_entry_eq]
  generalize (lg_sl ([.ref (ad k0), .ref (ad kw), .int (nI cf)]) ++ List.replicate (11 - (lg_sl ([.ref (ad k0), .ref (ad kw), .int (nI cf)])).length) Slot.unset).toArray = ls at hl ⊢
  have hl : lv_has ls 11 [(0, .ref (ad k0)), (1, .ref (ad kw)), (2, .int (nI cf))] := hl
  have S0 : CallFix pg m cod cX1_init 11 s _ wsX1_init RX1 := ⟨hx, hb, hml, hown, hts⟩
  have hfr : ∀ j, j ≠ k0 → ct j = ct j := fun _ _ => rfl
  refine lv_aload_n hx hb dX1_init_0 rfl (lv_at hl 0 rfl) ?_
  refine W.objInit hx hb hown (hts (.methodLink RX1 1 objectInit) (by decide +kernel)) (hts (.instanceMethod objectInit) (by decide +kernel)) (hts (.code objectInit ⟨#[0xb1]⟩ 1 none) (by decide +kernel)) rfl (by rw [hml]; exact hl.1) rfl dX1_init_1 (Nat.le_of_ble_eq_true rfl) (Nat.le_of_ble_eq_true rfl) ?_
  refine W.eq (g2 := F0 m 4 ls []) rfl ?_
  refine lv_aload_n hx hb dX1_init_4 rfl (lv_at hl 0 rfl) ?_
  refine lv_aload_n hx hb dX1_init_5 rfl (lv_at hl 1 rfl) ?_
  refine kg_putF (v := .ref (ad kw)) (ty := .array .int) (C := RX1) (T := TX1) (N := 4) (fs' := [.ref (ad kw), .int 0, .long 0, .long 0]) hx hb hts hinX1 tyX1 tyX1_ok nmX1 hown hK hw h0 rfl 0 (by decide) (hts (.fieldLink RX1 7 "BetMaker$Forecast" "weights" "[I") (by decide +kernel)) (fun _ h9 => h9) rfl hin2 rfl (by decide +kernel) rfl rfl (Nat.le_of_ble_eq_true rfl) rfl dX1_init_6 (fun H locs hw => ?_)
  obtain ⟨ct_1, ect_1⟩ : ∃ z, z = kw_up ct k0 (.inr (1, [.ref (ad kw), .int 0, .long 0, .long 0])) := ⟨_, rfl⟩
  rw [← ect_1] at hw
  have h_2 : ct_1 kw = some (eI tc N w) := by rw [ect_1, kw_up_n (kw_neK h1 h0 (by intro q; cases q))]; exact h1
  have h_3 : ct_1 k0 = some (.inr (1, [.ref (ad kw), .int 0, .long 0, .long 0])) := by rw [ect_1]; exact kw_up_s
  have hfr_4 : ∀ j, j ≠ k0 → ct_1 j = ct j := fun j a0 => by rw [ect_1]; exact (kw_up_n a0).trans (hfr j a0)
  refine lv_aload_n hx hb dX1_init_9 rfl (lv_at hl 0 rfl) ?_
  refine lv_iload_n hx hb dX1_init_10 rfl (lv_at hl 2 rfl) ?_
  refine kg_putF (v := .int (nI cf)) (ty := .int) (C := RX1) (T := TX1) (N := 4) (fs' := [.ref (ad kw), .int (nI cf), .long 0, .long 0]) hx hb hts hinX1 tyX1 tyX1_ok nmX1 hown hK hw h_3 rfl 1 (by decide) (hts (.fieldLink RX1 13 "BetMaker$Forecast" "came" "I") (by decide +kernel)) (fun _ h9 => h9) rfl hin2 rfl (by decide +kernel) rfl rfl (Nat.le_of_ble_eq_true rfl) rfl dX1_init_11 (fun H locs hw => ?_)
  obtain ⟨ct_5, ect_5⟩ : ∃ z, z = kw_up ct_1 k0 (.inr (1, [.ref (ad kw), .int (nI cf), .long 0, .long 0])) := ⟨_, rfl⟩
  rw [← ect_5] at hw
  have h_6 : ct_5 kw = some (eI tc N w) := by rw [ect_5, kw_up_n (kw_neK h_2 h_3 (by intro q; cases q))]; exact h_2
  have h_7 : ct_5 k0 = some (.inr (1, [.ref (ad kw), .int (nI cf), .long 0, .long 0])) := by rw [ect_5]; exact kw_up_s
  have hfr_8 : ∀ j, j ≠ k0 → ct_5 j = ct j := fun j a0 => by rw [ect_5]; exact (kw_up_n a0).trans (hfr_4 j a0)
  refine lv_lconst (v := 0) hx hb dX1_init_14 (by decide) ?_
  refine lv_lstore_n (lv' := [(3, .long 0), (0, .ref (ad k0)), (1, .ref (ad kw)), (2, .int (nI cf))]) hx hb dX1_init_15 rfl hl (by decide) rfl (fun ls hl => ?_)
  refine lv_lconst (v := 0) hx hb dX1_init_16 (by decide) ?_
  refine lv_lstore (lv' := [(5, .long 0), (3, .long 0), (0, .ref (ad k0)), (1, .ref (ad kw)), (2, .int (nI cf))]) hx hb dX1_init_17 hl (by decide) rfl (fun ls hl => ?_)
  refine lv_aload_n hx hb dX1_init_19 rfl (lv_at hl 3 rfl) ?_
  refine lv_astore (lv' := [(7, .ref (ad kw)), (5, .long 0), (3, .long 0), (0, .ref (ad k0)), (1, .ref (ad kw)), (2, .int (nI cf))]) hx hb dX1_init_20 hl (by decide) rfl (fun ls hl => ?_)
  refine lv_aload hx hb dX1_init_22 (lv_at hl 0 rfl) ?_
  refine kg_ilen hx hb hK hw h_6 dX1_init_24 ?_
  refine lv_istore (lv' := [(8, .int (nI N)), (7, .ref (ad kw)), (5, .long 0), (3, .long 0), (0, .ref (ad k0)), (1, .ref (ad kw)), (2, .int (nI cf))]) hx hb dX1_init_25 hl (by decide) rfl (fun ls hl => ?_)
  refine lv_iconst (v := 0) hx hb dX1_init_27 (by decide) ?_
  refine lv_istore (lv' := [(9, .int 0), (8, .int (nI N)), (7, .ref (ad kw)), (5, .long 0), (3, .long 0), (0, .ref (ad k0)), (1, .ref (ad kw)), (2, .int (nI cf))]) hx hb dX1_init_28 hl (by decide) rfl (fun ls hl => ?_)
  suffices lp30 : ∀ (nfu : Nat) (i : Nat) (a1 a2 : Int64) (ctL30 : Nat → Option va_E) (H : Heap) (locs : List Loc) (ls : Array Slot), N - i < nfu → i ≤ N → a1 = su (fun c => (w c).toInt64) i → a2 = su (fun c => (w c * w c).toInt64) i → ctL30 kw = some (eI tc N w) → ctL30 k0 = some (.inr (1, [.ref (ad kw), .int (nI cf), .long 0, .long 0])) → (∀ j, j ≠ k0 → ctL30 j = ct j) → kw_H D ad A s.heap ctL30 H locs s.heap.size → lv_has ls 11 [(0, .ref (ad k0)), (1, .ref (ad kw)), (2, .int (nI cf)), (3, .long a1), (5, .long a2), (7, .ref (ad kw)), (8, .int (nI N)), (9, .int (nI i))] → W pg l en (headSpec wsX1_init ({ frames := 1, cells := 0, slots := 0, locals := 40 })).room s m (([.ref (ad k0), .ref (ad kw), .int (nI cf)] : List Value).toArray) below meth cod H locs 0 0 (MQ below (kw_Q D ad A (none) (kw_up ct k0 (.inr (1, [.ref (ad kw), .int (nI cf), .long (su (fun c => (w c).toInt64) N), .long (su (fun c => (w c * w c).toInt64) N)]))) 0) (([.ref (ad k0), .ref (ad kw), .int (nI cf)] : List Value).toArray) s 0 0 A) (F0 m 30 ls []) by
    exact lp30 (N - 0 + 1) 0 0 0 _ _ _ ls (by omega) (by omega) (by rfl) (by rfl) h_6 h_7 hfr_8 hw (by have hl9 := lv_sub hl (l' := [(0, .ref (ad k0)), (1, .ref (ad kw)), (2, .int (nI cf)), (3, .long 0), (5, .long 0), (7, .ref (ad kw)), (8, .int (nI N)), (9, .int 0)]) [5, 6, 7, 4, 3, 2, 1, 0] rfl; exact hl9)
  intro n30
  induction n30 with
  | zero => intro i a1 a2 ctL30 H locs ls hfu; exact absurd hfu (Nat.not_lt_zero _)
  | succ n30 ih30 =>
    intro i a1 a2 ctL30 H locs ls hfu30 hi ha hq h_9 h_10 hfr_11 hw hl
    refine lv_iload hx hb dX1_init_30 (lv_at hl 7 rfl) ?_
    refine lv_iload hx hb dX1_init_32 (lv_at hl 6 rfl) ?_
    refine kn_ge i N rfl rfl (by omega) (by omega) (tgt := 67) hx hb dX1_init_34 (by decide) (fun c_12 => ?_) (fun c_12 => ?_)
    · refine lv_aload_n hx hb dX1_init_67 rfl (lv_at hl 0 rfl) ?_
      refine lv_lload_n hx hb dX1_init_68 rfl (lv_at hl 3 rfl) ?_
      refine kg_putF (v := .long a1) (ty := .long) (C := RX1) (T := TX1) (N := 4) (fs' := [.ref (ad kw), .int (nI cf), .long a1, .long 0]) hx hb hts hinX1 tyX1 tyX1_ok nmX1 hown hK hw h_10 rfl 2 (by decide) (hts (.fieldLink RX1 17 "BetMaker$Forecast" "sum" "J") (by decide +kernel)) (fun _ h9 => h9) rfl hin2 rfl (by decide +kernel) rfl rfl (Nat.le_of_ble_eq_true rfl) rfl dX1_init_69 (fun H locs hw => ?_)
      obtain ⟨ct_13, ect_13⟩ : ∃ z, z = kw_up ctL30 k0 (.inr (1, [.ref (ad kw), .int (nI cf), .long a1, .long 0])) := ⟨_, rfl⟩
      rw [← ect_13] at hw
      have h_14 : ct_13 kw = some (eI tc N w) := by rw [ect_13, kw_up_n (kw_neK h_9 h_10 (by intro q; cases q))]; exact h_9
      have h_15 : ct_13 k0 = some (.inr (1, [.ref (ad kw), .int (nI cf), .long a1, .long 0])) := by rw [ect_13]; exact kw_up_s
      have hfr_16 : ∀ j, j ≠ k0 → ct_13 j = ct j := fun j a0 => by rw [ect_13]; exact (kw_up_n a0).trans (hfr_11 j a0)
      refine lv_aload_n hx hb dX1_init_72 rfl (lv_at hl 0 rfl) ?_
      refine lv_lload hx hb dX1_init_73 (lv_at hl 4 rfl) ?_
      refine kg_putF (v := .long a2) (ty := .long) (C := RX1) (T := TX1) (N := 4) (fs' := [.ref (ad kw), .int (nI cf), .long a1, .long a2]) hx hb hts hinX1 tyX1 tyX1_ok nmX1 hown hK hw h_15 rfl 3 (by decide) (hts (.fieldLink RX1 21 "BetMaker$Forecast" "squares" "J") (by decide +kernel)) (fun _ h9 => h9) rfl hin2 rfl (by decide +kernel) rfl rfl (Nat.le_of_ble_eq_true rfl) rfl dX1_init_75 (fun H locs hw => ?_)
      obtain ⟨ct_17, ect_17⟩ : ∃ z, z = kw_up ct_13 k0 (.inr (1, [.ref (ad kw), .int (nI cf), .long a1, .long a2])) := ⟨_, rfl⟩
      rw [← ect_17] at hw
      have h_18 : ct_17 kw = some (eI tc N w) := by rw [ect_17, kw_up_n (kw_neK h_14 h_15 (by intro q; cases q))]; exact h_14
      have h_19 : ct_17 k0 = some (.inr (1, [.ref (ad kw), .int (nI cf), .long a1, .long a2])) := by rw [ect_17]; exact kw_up_s
      have hfr_20 : ∀ j, j ≠ k0 → ct_17 j = ct j := fun j a0 => by rw [ect_17]; exact (kw_up_n a0).trans (hfr_16 j a0)
      have hq_21 : ct_17 k0 = some (.inr (1, [.ref (ad kw), .int (nI cf), .long (su (fun c => (w c).toInt64) N), .long (su (fun c => (w c * w c).toInt64) N)])) := h_19.trans (congrArg some (show (.inr (1, [.ref (ad kw), .int (nI cf), .long a1, .long a2]) : va_E) = .inr (1, [.ref (ad kw), .int (nI cf), .long (su (fun c => (w c).toInt64) N), .long (su (fun c => (w c * w c).toInt64) N)]) from by rw [ha, hq, show i = N by omega]))
      have hend := kw_eq1 hq_21 hfr_20
      rw [hend] at hw
      exact W.vret hx hb hr (fun t ht _ => ⟨rfl, by rw [ht]; exact hw.1, hw.2.2.1, hw.2.1.F ht, by rw [ht]; exact hw.2.2.2⟩) hw.2.1.2.2 dX1_init_78
    · refine lv_aload hx hb dX1_init_37 (lv_at hl 5 rfl) ?_
      refine lv_iload hx hb dX1_init_39 (lv_at hl 7 rfl) ?_
      refine kg_iald hx hb hK hw h_9 i rfl (by omega) (by omega) dX1_init_41 ?_
      refine lv_istore (lv' := [(10, .int (w i)), (0, .ref (ad k0)), (1, .ref (ad kw)), (2, .int (nI cf)), (3, .long a1), (5, .long a2), (7, .ref (ad kw)), (8, .int (nI N)), (9, .int (nI i))]) hx hb dX1_init_42 hl (by decide) rfl (fun ls hl => ?_)
      refine lv_lload_n hx hb dX1_init_44 rfl (lv_at hl 4 rfl) ?_
      refine lv_iload hx hb dX1_init_45 (lv_at hl 0 rfl) ?_
      refine lv_i2l (v := (w i).toInt64) hx hb dX1_init_47 rfl ?_
      refine lv_ladd hx hb dX1_init_48 ?_
      refine lv_lstore_n (lv' := [(3, .long (a1 + ((w i).toInt64))), (10, .int (w i)), (0, .ref (ad k0)), (1, .ref (ad kw)), (2, .int (nI cf)), (5, .long a2), (7, .ref (ad kw)), (8, .int (nI N)), (9, .int (nI i))]) hx hb dX1_init_49 rfl hl (by decide) rfl (fun ls hl => ?_)
      refine lv_lload hx hb dX1_init_50 (lv_at hl 5 rfl) ?_
      refine lv_iload hx hb dX1_init_52 (lv_at hl 1 rfl) ?_
      refine lv_iload hx hb dX1_init_54 (lv_at hl 1 rfl) ?_
      refine lv_imul hx hb dX1_init_56 ?_
      refine lv_i2l (v := ((w i) * (w i)).toInt64) hx hb dX1_init_57 rfl ?_
      refine lv_ladd hx hb dX1_init_58 ?_
      refine lv_lstore (lv' := [(5, .long (a2 + (((w i) * (w i)).toInt64))), (3, .long (a1 + ((w i).toInt64))), (10, .int (w i)), (0, .ref (ad k0)), (1, .ref (ad kw)), (2, .int (nI cf)), (7, .ref (ad kw)), (8, .int (nI N)), (9, .int (nI i))]) hx hb dX1_init_59 hl (by decide) rfl (fun ls hl => ?_)
      refine lv_iinc (v := (nI (i + 1))) (lv' := [(9, .int (nI (i + 1))), (5, .long (a2 + (((w i) * (w i)).toInt64))), (3, .long (a1 + ((w i).toInt64))), (10, .int (w i)), (0, .ref (ad k0)), (1, .ref (ad kw)), (2, .int (nI cf)), (7, .ref (ad kw)), (8, .int (nI N))]) hx hb dX1_init_61 hl (k := 8) rfl (nI_1 i) (by decide) rfl (fun ls hl => ?_)
      refine lv_goto (tgt := 30) hx hb dX1_init_64 (by decide) ?_
      exact ih30 (i + 1) (a1 + ((w i).toInt64)) (a2 + (((w i) * (w i)).toInt64)) _ _ _ ls (by omega) (by omega) (by rw [ha]; rfl) (by rw [hq]; rfl) h_9 h_10 hfr_11 hw (lv_sub hl [4, 5, 6, 2, 1, 7, 8, 0] rfl)
set_option maxHeartbeats 4000000 in
set_option maxRecDepth 100000 in
theorem c_X1_came (l : Launch) (D : va_G) (tc : Nat → ClassId) (sz : Nat) (ad : Nat → Nat) (ct : Nat → Option va_E) {k0 kw cf : Nat} {sm sq : Int64}  (h0 : ct k0 = some (.inr (1, [.ref (ad kw), .int (nI cf), .long sm, .long sq]))) : Met l yX1_came wsX1_came ({ frames := 0, cells := 0, slots := 0, locals := 0 }) (va_Pc [.ref (ad k0)] (kw_B D tc sz ad ct)) (k2_QcV (.int (nI cf))) 0 0 (fun _ => False) := by
  refine Met.ofW (cc := cX1_came) (maxL := 1) (ret := (some .int)) (by decide) rfl ?_
  intro pg en s m args below meth cod s₁ B hml hv
  obtain ⟨rfl, hsz, hP0, hK⟩ := hv
  have hx := B.exec
  have hb := B.bytes
  have hr := B.returns
  have hts := atoms_spec (ws := wsX1_came) B.pre
  have hown : s.vm.findClass RX1 = some m.cls := findClass_of_methodNamed B.named
  have hlocks := B.notSynchronized
  subst hsz
  have hw := kw_H.start hP0
  generalize kw_A ad ct s.heap.size = A at hw
  have hinX1 : ∀ w ∈ wsX10, w ∈ wsX1_came := by decide +kernel
  have hl := lv_entry ([.ref (ad k0)]) (n := 1) (Nat.le_of_ble_eq_true rfl)
  rw [lg_entry_eq]
  generalize (lg_sl ([.ref (ad k0)]) ++ List.replicate (1 - (lg_sl ([.ref (ad k0)])).length) Slot.unset).toArray = ls at hl ⊢
  have hl : lv_has ls 1 [(0, .ref (ad k0))] := hl
  have S0 : CallFix pg m cod cX1_came 1 s _ wsX1_came RX1 := ⟨hx, hb, hml, hown, hts⟩
  refine lv_aload_n hx hb dX1_came_0 rfl (lv_at hl 0 rfl) ?_
  refine kg_get (v := .int (nI cf)) (C := RX1) (T := TX1) (N := 4) hx hb hts hinX1 hown hK hw h0 rfl 1 (by decide) (hts (.fieldLink RX1 13 "BetMaker$Forecast" "came" "I") (by decide +kernel)) (fun _ h9 => h9) rfl dX1_came_1 ?_
  exact W.iret hx hb hr (fun t ht _ => ⟨rfl, ht⟩) (fun _ h => absurd h List.not_mem_nil) dX1_came_4
set_option maxHeartbeats 4000000 in
set_option maxRecDepth 100000 in
theorem c_X1_weightOf (l : Launch) (D : va_G) (tc : Nat → ClassId) (sz : Nat) (ad : Nat → Nat) (ct : Nat → Option va_E) {k0 kw cf N : Nat} {sm sq : Int64} {w : Nat → Int32} {c : Nat} (h0 : ct k0 = some (.inr (1, [.ref (ad kw), .int (nI cf), .long sm, .long sq]))) (h1 : ct kw = some (eI tc N w)) (hc : c < N) (hN : N ≤ 8) : Met l yX1_weightOf wsX1_weightOf ({ frames := 0, cells := 0, slots := 0, locals := 0 }) (va_Pc [.ref (ad k0), .int (nI c)] (kw_B D tc sz ad ct)) (k2_QcV (.long ((w c).toInt64))) 0 0 (fun _ => False) := by
  refine Met.ofW (cc := cX1_weightOf) (maxL := 2) (ret := (some .long)) (by decide) rfl ?_
  intro pg en s m args below meth cod s₁ B hml hv
  obtain ⟨rfl, hsz, hP0, hK⟩ := hv
  have hx := B.exec
  have hb := B.bytes
  have hr := B.returns
  have hts := atoms_spec (ws := wsX1_weightOf) B.pre
  have hown : s.vm.findClass RX1 = some m.cls := findClass_of_methodNamed B.named
  have hlocks := B.notSynchronized
  subst hsz
  have hw := kw_H.start hP0
  generalize kw_A ad ct s.heap.size = A at hw
  have hinX1 : ∀ w ∈ wsX10, w ∈ wsX1_weightOf := by decide +kernel
  have hl := lv_entry ([.ref (ad k0), .int (nI c)]) (n := 2) (Nat.le_of_ble_eq_true rfl)
  rw [lg_entry_eq]
  generalize (lg_sl ([.ref (ad k0), .int (nI c)]) ++ List.replicate (2 - (lg_sl ([.ref (ad k0), .int (nI c)])).length) Slot.unset).toArray = ls at hl ⊢
  have hl : lv_has ls 2 [(0, .ref (ad k0)), (1, .int (nI c))] := hl
  have S0 : CallFix pg m cod cX1_weightOf 2 s _ wsX1_weightOf RX1 := ⟨hx, hb, hml, hown, hts⟩
  refine lv_iload_n hx hb dX1_weightOf_0 rfl (lv_at hl 1 rfl) ?_
  refine lv_if_lt (tgt := 23) hx hb dX1_weightOf_1 (by decide) (fun c_1 => ?_) (fun c_1 => ?_)
  · exact absurd c_1 (nI_pos (by omega))
  · refine lv_iload_n hx hb dX1_weightOf_4 rfl (lv_at hl 1 rfl) ?_
    refine lv_aload_n hx hb dX1_weightOf_5 rfl (lv_at hl 0 rfl) ?_
    refine kg_get (v := .ref (ad kw)) (C := RX1) (T := TX1) (N := 4) hx hb hts hinX1 hown hK hw h0 rfl 0 (by decide) (hts (.fieldLink RX1 7 "BetMaker$Forecast" "weights" "[I") (by decide +kernel)) (fun _ h9 => h9) rfl dX1_weightOf_6 ?_
    refine kg_ilen hx hb hK hw h1 dX1_weightOf_9 ?_
    refine kn_ge c N rfl rfl (by omega) (by omega) (tgt := 23) hx hb dX1_weightOf_10 (by decide) (fun c_2 => ?_) (fun c_2 => ?_)
    · exfalso; omega
    · refine lv_aload_n hx hb dX1_weightOf_13 rfl (lv_at hl 0 rfl) ?_
      refine kg_get (v := .ref (ad kw)) (C := RX1) (T := TX1) (N := 4) hx hb hts hinX1 hown hK hw h0 rfl 0 (by decide) (hts (.fieldLink RX1 7 "BetMaker$Forecast" "weights" "[I") (by decide +kernel)) (fun _ h9 => h9) rfl dX1_weightOf_14 ?_
      refine lv_iload_n hx hb dX1_weightOf_17 rfl (lv_at hl 1 rfl) ?_
      refine kg_iald hx hb hK hw h1 c rfl (by omega) (by omega) dX1_weightOf_18 ?_
      refine lv_i2l (v := (w c).toInt64) hx hb dX1_weightOf_19 rfl ?_
      refine lv_goto (tgt := 24) hx hb dX1_weightOf_20 (by decide) ?_
      exact W.lret hx hb hr (fun t ht _ => ⟨rfl, ht⟩) (fun _ h => absurd h List.not_mem_nil) dX1_weightOf_24
set_option maxHeartbeats 4000000 in
set_option maxRecDepth 100000 in
theorem c_X1_scoreUpper (l : Launch) (D : va_G) (tc : Nat → ClassId) (sz : Nat) (ad : Nat → Nat) (ct : Nat → Option va_E) {k0 kw cf N : Nat} {sm sq : Int64} {w : Nat → Int32} {c : Nat} (h0 : ct k0 = some (.inr (1, [.ref (ad kw), .int (nI cf), .long sm, .long sq]))) (h1 : ct kw = some (eI tc N w)) (hc : c < N) (hN : N ≤ 8) : Met l yX1_scoreUpper wsX1_scoreUpper ({ frames := 1, cells := 0, slots := 0, locals := 25 }) (va_Pc [.ref (ad k0), .int (nI c)] (kw_B D tc sz ad ct)) (k2_QcV (.long (2 * sm * (w c).toInt64 - sq))) 0 0 (fun _ => False) := by
  refine Met.ofW (cc := cX1_scoreUpper) (maxL := 2) (ret := (some .long)) (by decide) rfl ?_
  intro pg en s m args below meth cod s₁ B hml hv
  obtain ⟨rfl, hsz, hP0, hK⟩ := hv
  have hx := B.exec
  have hb := B.bytes
  have hr := B.returns
  have hts := atoms_spec (ws := wsX1_scoreUpper) B.pre
  have hown : s.vm.findClass RX1 = some m.cls := findClass_of_methodNamed B.named
  have hlocks := B.notSynchronized
  subst hsz
  have hw := kw_H.start hP0
  generalize kw_A ad ct s.heap.size = A at hw
  have hinX1 : ∀ w ∈ wsX10, w ∈ wsX1_scoreUpper := by decide +kernel
  have hl := lv_entry ([.ref (ad k0), .int (nI c)]) (n := 2) (Nat.le_of_ble_eq_true rfl)
  rw [lg_entry_eq]
  generalize (lg_sl ([.ref (ad k0), .int (nI c)]) ++ List.replicate (2 - (lg_sl ([.ref (ad k0), .int (nI c)])).length) Slot.unset).toArray = ls at hl ⊢
  have hl : lv_has ls 2 [(0, .ref (ad k0)), (1, .int (nI c))] := hl
  have S0 : CallFix pg m cod cX1_scoreUpper 2 s _ wsX1_scoreUpper RX1 := ⟨hx, hb, hml, hown, hts⟩
  refine lv_ldc2 (v := 2) hx hb hown (hts (.constantLong RX1 24 (2)) (by decide +kernel)) dX1_scoreUpper_0 ?_
  refine lv_aload_n hx hb dX1_scoreUpper_3 rfl (lv_at hl 0 rfl) ?_
  refine kg_get (v := .long sm) (C := RX1) (T := TX1) (N := 4) hx hb hts hinX1 hown hK hw h0 rfl 2 (by decide) (hts (.fieldLink RX1 17 "BetMaker$Forecast" "sum" "J") (by decide +kernel)) (fun _ h9 => h9) rfl dX1_scoreUpper_4 ?_
  refine lv_lmul hx hb dX1_scoreUpper_7 ?_
  refine lv_aload_n hx hb dX1_scoreUpper_8 rfl (lv_at hl 0 rfl) ?_
  refine lv_iload_n hx hb dX1_scoreUpper_9 rfl (lv_at hl 1 rfl) ?_
  refine kc_v (As := [.int (nI c)]) (rest := [.long (2 * sm)]) S0 (c_X1_weightOf l D tc s.heap.size ad ct (c := c) (cf := cf) h0 h1 (by omega) (by omega)) (cwV 1 hts gX1_scoreUpper_X1_weightOf rfl rfl rfl (by decide +kernel) ⟨Nat.le_of_ble_eq_true rfl, Nat.le_of_ble_eq_true rfl⟩) hK hw h0 rfl rfl hl.1 rfl (Nat.le_of_ble_eq_true rfl) dX1_scoreUpper_10 ⟨Nat.le_of_ble_eq_true rfl, (Nat.le_of_ble_eq_true rfl)⟩ ?_
  refine lv_lmul hx hb dX1_scoreUpper_13 ?_
  refine lv_aload_n hx hb dX1_scoreUpper_14 rfl (lv_at hl 0 rfl) ?_
  refine kg_get (v := .long sq) (C := RX1) (T := TX1) (N := 4) hx hb hts hinX1 hown hK hw h0 rfl 3 (by decide) (hts (.fieldLink RX1 21 "BetMaker$Forecast" "squares" "J") (by decide +kernel)) (fun _ h9 => h9) rfl dX1_scoreUpper_15 ?_
  refine lv_lsub hx hb dX1_scoreUpper_18 ?_
  refine W.eq (congrArg (fun z => F0 m 19 ls [.long z]) (show (((2 * sm) * ((w c).toInt64)) - sq) = (2 * sm * (w c).toInt64 - sq) from by rfl)) ?_
  exact W.lret hx hb hr (fun t ht _ => ⟨rfl, ht⟩) (fun _ h => absurd h List.not_mem_nil) dX1_scoreUpper_19
set_option maxHeartbeats 4000000 in
set_option maxRecDepth 100000 in
theorem c_X1_scoreLower (l : Launch) (D : va_G) (tc : Nat → ClassId) (sz : Nat) (ad : Nat → Nat) (ct : Nat → Option va_E) {k0 kw cf : Nat} {sm sq : Int64}  (h0 : ct k0 = some (.inr (1, [.ref (ad kw), .int (nI cf), .long sm, .long sq]))) : Met l yX1_scoreLower wsX1_scoreLower ({ frames := 0, cells := 0, slots := 0, locals := 0 }) (va_Pc [.ref (ad k0)] (kw_B D tc sz ad ct)) (k2_QcV (.long (sm * sm))) 0 0 (fun _ => False) := by
  refine Met.ofW (cc := cX1_scoreLower) (maxL := 1) (ret := (some .long)) (by decide) rfl ?_
  intro pg en s m args below meth cod s₁ B hml hv
  obtain ⟨rfl, hsz, hP0, hK⟩ := hv
  have hx := B.exec
  have hb := B.bytes
  have hr := B.returns
  have hts := atoms_spec (ws := wsX1_scoreLower) B.pre
  have hown : s.vm.findClass RX1 = some m.cls := findClass_of_methodNamed B.named
  have hlocks := B.notSynchronized
  subst hsz
  have hw := kw_H.start hP0
  generalize kw_A ad ct s.heap.size = A at hw
  have hinX1 : ∀ w ∈ wsX10, w ∈ wsX1_scoreLower := by decide +kernel
  have hl := lv_entry ([.ref (ad k0)]) (n := 1) (Nat.le_of_ble_eq_true rfl)
  rw [lg_entry_eq]
  generalize (lg_sl ([.ref (ad k0)]) ++ List.replicate (1 - (lg_sl ([.ref (ad k0)])).length) Slot.unset).toArray = ls at hl ⊢
  have hl : lv_has ls 1 [(0, .ref (ad k0))] := hl
  have S0 : CallFix pg m cod cX1_scoreLower 1 s _ wsX1_scoreLower RX1 := ⟨hx, hb, hml, hown, hts⟩
  refine lv_aload_n hx hb dX1_scoreLower_0 rfl (lv_at hl 0 rfl) ?_
  refine kg_get (v := .long sm) (C := RX1) (T := TX1) (N := 4) hx hb hts hinX1 hown hK hw h0 rfl 2 (by decide) (hts (.fieldLink RX1 17 "BetMaker$Forecast" "sum" "J") (by decide +kernel)) (fun _ h9 => h9) rfl dX1_scoreLower_1 ?_
  refine lv_aload_n hx hb dX1_scoreLower_4 rfl (lv_at hl 0 rfl) ?_
  refine kg_get (v := .long sm) (C := RX1) (T := TX1) (N := 4) hx hb hts hinX1 hown hK hw h0 rfl 2 (by decide) (hts (.fieldLink RX1 17 "BetMaker$Forecast" "sum" "J") (by decide +kernel)) (fun _ h9 => h9) rfl dX1_scoreLower_5 ?_
  refine lv_lmul hx hb dX1_scoreLower_8 ?_
  exact W.lret hx hb hr (fun t ht _ => ⟨rfl, ht⟩) (fun _ h => absurd h List.not_mem_nil) dX1_scoreLower_9
set_option maxHeartbeats 4000000 in
set_option maxRecDepth 100000 in
theorem c_X1_gave (l : Launch) (D : va_G) (tc : Nat → ClassId) (sz : Nat) (ad : Nat → Nat) (ct : Nat → Option va_E) {k0 kw cf N : Nat} {sm sq : Int64} {w : Nat → Int32} {c : Nat} {t : Int32} (h0 : ct k0 = some (.inr (1, [.ref (ad kw), .int (nI cf), .long sm, .long sq]))) (h1 : ct kw = some (eI tc N w)) (hc : c < N) (hN : N ≤ 8) : Met l yX1_gave wsX1_gave ({ frames := 1, cells := 0, slots := 0, locals := 25 }) (va_Pc [.ref (ad k0), .int (nI c), .int t] (kw_B D tc sz ad ct)) (k2_QcV (.int (kb (10 * (w c).toInt64 = t.toInt64 * sm)))) 0 0 (fun _ => False) := by
  refine Met.ofW (cc := cX1_gave) (maxL := 3) (ret := (some .boolean)) (by decide) rfl ?_
  intro pg en s m args below meth cod s₁ B hml hv
  obtain ⟨rfl, hsz, hP0, hK⟩ := hv
  have hx := B.exec
  have hb := B.bytes
  have hr := B.returns
  have hts := atoms_spec (ws := wsX1_gave) B.pre
  have hown : s.vm.findClass RX1 = some m.cls := findClass_of_methodNamed B.named
  have hlocks := B.notSynchronized
  subst hsz
  have hw := kw_H.start hP0
  generalize kw_A ad ct s.heap.size = A at hw
  have hinX1 : ∀ w ∈ wsX10, w ∈ wsX1_gave := by decide +kernel
  have hl := lv_entry ([.ref (ad k0), .int (nI c), .int t]) (n := 3) (Nat.le_of_ble_eq_true rfl)
  rw [lg_entry_eq]
  generalize (lg_sl ([.ref (ad k0), .int (nI c), .int t]) ++ List.replicate (3 - (lg_sl ([.ref (ad k0), .int (nI c), .int t])).length) Slot.unset).toArray = ls at hl ⊢
  have hl : lv_has ls 3 [(0, .ref (ad k0)), (1, .int (nI c)), (2, .int t)] := hl
  have S0 : CallFix pg m cod cX1_gave 3 s _ wsX1_gave RX1 := ⟨hx, hb, hml, hown, hts⟩
  refine lv_ldc2 (v := 10) hx hb hown (hts (.constantLong RX1 30 (10)) (by decide +kernel)) dX1_gave_0 ?_
  refine lv_aload_n hx hb dX1_gave_3 rfl (lv_at hl 0 rfl) ?_
  refine lv_iload_n hx hb dX1_gave_4 rfl (lv_at hl 1 rfl) ?_
  refine kc_v (As := [.int (nI c)]) (rest := [.long 10]) S0 (c_X1_weightOf l D tc s.heap.size ad ct (c := c) (cf := cf) h0 h1 (by omega) (by omega)) (cwV 1 hts gX1_gave_X1_weightOf rfl rfl rfl (by decide +kernel) ⟨Nat.le_of_ble_eq_true rfl, Nat.le_of_ble_eq_true rfl⟩) hK hw h0 rfl rfl hl.1 rfl (Nat.le_of_ble_eq_true rfl) dX1_gave_5 ⟨Nat.le_of_ble_eq_true rfl, (Nat.le_of_ble_eq_true rfl)⟩ ?_
  refine lv_lmul hx hb dX1_gave_8 ?_
  refine lv_iload_n hx hb dX1_gave_9 rfl (lv_at hl 2 rfl) ?_
  refine lv_i2l (v := t.toInt64) hx hb dX1_gave_10 rfl ?_
  refine lv_aload_n hx hb dX1_gave_11 rfl (lv_at hl 0 rfl) ?_
  refine kg_get (v := .long sm) (C := RX1) (T := TX1) (N := 4) hx hb hts hinX1 hown hK hw h0 rfl 2 (by decide) (hts (.fieldLink RX1 17 "BetMaker$Forecast" "sum" "J") (by decide +kernel)) (fun _ h9 => h9) rfl dX1_gave_12 ?_
  refine lv_lmul hx hb dX1_gave_15 ?_
  refine W.lcmp hx hb dX1_gave_16 ?_
  refine kl_ne (tgt := 24) hx hb dX1_gave_17 (by decide) (fun c_1 => ?_) (fun c_1 => ?_)
  · refine lv_iconst (v := 0) hx hb dX1_gave_24 (by decide) ?_
    refine W.eq (congrArg (fun z => F0 m 25 ls [.int z]) (show 0 = (kb (10 * (w c).toInt64 = t.toInt64 * sm)) from by exact (kb_f c_1).symm)) ?_
    exact W.zret hx hb hr kb_nar (fun t ht _ => ⟨rfl, ht⟩) (fun _ h => absurd h List.not_mem_nil) dX1_gave_25
  · refine lv_iconst (v := 1) hx hb dX1_gave_20 (by decide) ?_
    refine lv_goto (tgt := 25) hx hb dX1_gave_21 (by decide) ?_
    refine W.eq (congrArg (fun z => F0 m 25 ls [.int z]) (show 1 = (kb (10 * (w c).toInt64 = t.toInt64 * sm)) from by exact (kb_t c_1).symm)) ?_
    exact W.zret hx hb hr kb_nar (fun t ht _ => ⟨rfl, ht⟩) (fun _ h => absurd h List.not_mem_nil) dX1_gave_25
set_option maxHeartbeats 4000000 in
set_option maxRecDepth 100000 in
theorem c_X5_init (l : Launch) (D : va_G) (tc : Nat → ClassId) (sz : Nat) (ad : Nat → Nat) (ct : Nat → Option va_E) {ci kt kh kw N : Nat} {nb : Int32} {pu : Int64} (h0 : ct kt = some (.inr (ci, [.int 0, .null, .null, .long 0, .int 0]))) (hci : ci = 5 ∨ ci = 7 ∨ ci = 9) (hN : N ≤ 8) (hne : kh ≠ kw) (hkh : ct kh = none) (hkha : ad kh = sz) (hkw : ct kw = none) (hkwa : ad kw = sz + 1) : Met l yX5_init wsX5_init ({ frames := 1, cells := 2, slots := 16, locals := 40 }) (va_Pc [.ref (ad kt), .int nb, .long pu, .int (nI N)] (kw_B D tc sz ad ct)) (kw_Q D ad (kw_A ad ct sz) (none) (kw_up (kw_up (kw_up ct kt (.inr (ci, [.int nb, .ref (ad kh), .ref (ad kw), .long pu, .int 0]))) kh (eJ tc N (fun _ => 0))) kw (eI tc N (kFl (fun _ => 0) 1 N))) 2) 2 16 (kw_A ad ct sz) := by
  refine Met.ofW (cc := cX5_init) (maxL := 5) (ret := none) (by decide) rfl ?_
  intro pg en s m args below meth cod s₁ B hml hv
  obtain ⟨rfl, hsz, hP0, hK⟩ := hv
  have hx := B.exec
  have hb := B.bytes
  have hr := B.returns
  have hts := atoms_spec (ws := wsX5_init) B.pre
  have hown : s.vm.findClass RX5 = some m.cls := findClass_of_methodNamed B.named
  have hlocks := B.notSynchronized
  have hin2 : meth.name = "<init>" := (name_of_methodNamed B.named B.method).1
  subst hsz
  have hw := kw_H.start hP0
  generalize hAe : kw_A ad ct s.heap.size = A at hw ⊢
  have hA : ∀ q, s.heap.size ≤ q → A q := fun q h => by rw [← hAe]; exact Or.inr h
  have hinX5 : ∀ w ∈ wsX50, w ∈ wsX5_init := by decide +kernel
  have hinX7 : ∀ w ∈ wsX70, w ∈ wsX5_init := by decide +kernel
  have hinX9 : ∀ w ∈ wsX90, w ∈ wsX5_init := by decide +kernel
  have hl := lv_entry ([.ref (ad kt), .int nb, .long pu, .int (nI N)]) (n := 5) (Nat.le_of_ble_eq_true rfl)
  rw [lg_entry_eq]
  generalize (lg_sl ([.ref (ad kt), .int nb, .long pu, .int (nI N)]) ++ List.replicate (5 - (lg_sl ([.ref (ad kt), .int nb, .long pu, .int (nI N)])).length) Slot.unset).toArray = ls at hl ⊢
  have hl : lv_has ls 5 [(0, .ref (ad kt)), (1, .int nb), (2, .long pu), (4, .int (nI N))] := hl
  have S0 : CallFix pg m cod cX5_init 5 s _ wsX5_init RX5 := ⟨hx, hb, hml, hown, hts⟩
  have hfr : ∀ j, j ≠ kt → j ≠ kh → j ≠ kw → ct j = ct j := fun _ _ _ _ => rfl
  refine lv_aload_n hx hb dX5_init_0 rfl (lv_at hl 0 rfl) ?_
  refine W.objInit hx hb hown (hts (.methodLink RX5 3 objectInit) (by decide +kernel)) (hts (.instanceMethod objectInit) (by decide +kernel)) (hts (.code objectInit ⟨#[0xb1]⟩ 1 none) (by decide +kernel)) rfl (by rw [hml]; exact hl.1) rfl dX5_init_1 (Nat.le_of_ble_eq_true rfl) (Nat.le_of_ble_eq_true rfl) ?_
  refine W.eq (g2 := F0 m 4 ls []) rfl ?_
  refine lv_aload_n hx hb dX5_init_4 rfl (lv_at hl 0 rfl) ?_
  refine lv_iload_n hx hb dX5_init_5 rfl (lv_at hl 1 rfl) ?_
  refine kg_putTF (v := .int nb) (ty := .int) (fs' := [.int nb, .null, .null, .long 0, .int 0]) hx hb hts hinX5 hinX7 hinX9 hown hK hw hci h0 0 (by decide) (hts (.fieldLink RX5 9 "BetMaker$Plain" "number" "I") (by decide +kernel)) rfl hin2 rfl (by decide +kernel) rfl rfl (Nat.le_of_ble_eq_true rfl) rfl dX5_init_6 (fun H locs hw => ?_)
  obtain ⟨ct_1, ect_1⟩ : ∃ z, z = kw_up ct kt (.inr (ci, [.int nb, .null, .null, .long 0, .int 0])) := ⟨_, rfl⟩
  rw [← ect_1] at hw
  have h_2 : ct_1 kt = some (.inr (ci, [.int nb, .null, .null, .long 0, .int 0])) := by rw [ect_1]; exact kw_up_s
  have h_3 : ct_1 kh = none := by rw [ect_1, kw_up_n (fun q => absurd ((congrArg ct q).trans h0) (by rw [hkh]; intro z; cases z))]; exact hkh
  have h_4 : ct_1 kw = none := by rw [ect_1, kw_up_n (fun q => absurd ((congrArg ct q).trans h0) (by rw [hkw]; intro z; cases z))]; exact hkw
  have hfr_5 : ∀ j, j ≠ kt → j ≠ kh → j ≠ kw → ct_1 j = ct j := fun j a0 a1 a2 => by rw [ect_1]; exact (kw_up_n a0).trans (hfr j a0 a1 a2)
  refine lv_aload_n hx hb dX5_init_9 rfl (lv_at hl 0 rfl) ?_
  refine lv_lload_n hx hb dX5_init_10 rfl (lv_at hl 2 rfl) ?_
  refine kg_putT (v := .long pu) (ty := .long) (fs' := [.int nb, .null, .null, .long pu, .int 0]) hx hb hts hinX5 hinX7 hinX9 hown hK hw hci h_2 3 (by decide) (hts (.fieldLink RX5 15 "BetMaker$Plain" "purse" "J") (by decide +kernel)) rfl (by decide +kernel) rfl rfl (Nat.le_of_ble_eq_true rfl) rfl dX5_init_11 (fun H locs hw => ?_)
  obtain ⟨ct_6, ect_6⟩ : ∃ z, z = kw_up ct_1 kt (.inr (ci, [.int nb, .null, .null, .long pu, .int 0])) := ⟨_, rfl⟩
  rw [← ect_6] at hw
  have h_7 : ct_6 kt = some (.inr (ci, [.int nb, .null, .null, .long pu, .int 0])) := by rw [ect_6]; exact kw_up_s
  have h_8 : ct_6 kh = none := by rw [ect_6, kw_up_n (fun q => absurd ((congrArg ct_1 q).trans h_2) (by rw [h_3]; intro z; cases z))]; exact h_3
  have h_9 : ct_6 kw = none := by rw [ect_6, kw_up_n (fun q => absurd ((congrArg ct_1 q).trans h_2) (by rw [h_4]; intro z; cases z))]; exact h_4
  have hfr_10 : ∀ j, j ≠ kt → j ≠ kh → j ≠ kw → ct_6 j = ct j := fun j a0 a1 a2 => by rw [ect_6]; exact (kw_up_n a0).trans (hfr_5 j a0 a1 a2)
  refine lv_aload_n hx hb dX5_init_14 rfl (lv_at hl 0 rfl) ?_
  refine lv_iload hx hb dX5_init_15 (lv_at hl 3 rfl) ?_
  refine kg_newl hx hb (hts (.arrayClass .long) (by decide +kernel)) hK hw hA kh h_8 hkha N rfl (by omega) (Nat.le_of_ble_eq_true rfl) (by show _ ≤ 16; omega) dX5_init_17 (fun H hw => ?_)
  obtain ⟨ct_11, ect_11⟩ : ∃ z, z = kw_up ct_6 kh (eJ tc N (fun _ => 0)) := ⟨_, rfl⟩
  rw [← ect_11] at hw
  have h_12 : ct_11 kt = some (.inr (ci, [.int nb, .null, .null, .long pu, .int 0])) := by rw [ect_11, kw_up_n (fun q => absurd ((congrArg ct_6 q).symm.trans h_7) (by rw [h_8]; intro z; cases z))]; exact h_7
  have h_13 : ct_11 kh = some (eJ tc N (fun _ => 0)) := by rw [ect_11]; exact kw_up_s
  have h_14 : ct_11 kw = none := by rw [ect_11, kw_up_n (by omega)]; exact h_9
  have hfr_15 : ∀ j, j ≠ kt → j ≠ kh → j ≠ kw → ct_11 j = ct j := fun j a0 a1 a2 => by rw [ect_11]; exact (kw_up_n a1).trans (hfr_10 j a0 a1 a2)
  refine kg_putTF (v := .ref (ad kh)) (ty := .array .long) (fs' := [.int nb, .ref (ad kh), .null, .long pu, .int 0]) hx hb hts hinX5 hinX7 hinX9 hown hK hw hci h_12 1 (by decide) (hts (.fieldLink RX5 19 "BetMaker$Plain" "holds" "[J") (by decide +kernel)) rfl hin2 rfl (by decide +kernel) rfl rfl (Nat.le_of_ble_eq_true rfl) rfl dX5_init_19 (fun H locs hw => ?_)
  obtain ⟨ct_16, ect_16⟩ : ∃ z, z = kw_up ct_11 kt (.inr (ci, [.int nb, .ref (ad kh), .null, .long pu, .int 0])) := ⟨_, rfl⟩
  rw [← ect_16] at hw
  have h_17 : ct_16 kh = some (eJ tc N (fun _ => 0)) := by rw [ect_16, kw_up_n (kw_neK h_13 h_12 (by intro q; cases q))]; exact h_13
  have h_18 : ct_16 kt = some (.inr (ci, [.int nb, .ref (ad kh), .null, .long pu, .int 0])) := by rw [ect_16]; exact kw_up_s
  have h_19 : ct_16 kw = none := by rw [ect_16, kw_up_n (fun q => absurd ((congrArg ct_11 q).trans h_12) (by rw [h_14]; intro z; cases z))]; exact h_14
  have hfr_20 : ∀ j, j ≠ kt → j ≠ kh → j ≠ kw → ct_16 j = ct j := fun j a0 a1 a2 => by rw [ect_16]; exact (kw_up_n a0).trans (hfr_15 j a0 a1 a2)
  refine lv_aload_n hx hb dX5_init_22 rfl (lv_at hl 0 rfl) ?_
  refine lv_iload hx hb dX5_init_23 (lv_at hl 3 rfl) ?_
  refine kg_newi hx hb (hts (.arrayClass .int) (by decide +kernel)) hK hw hA kw h_19 hkwa N rfl (by omega) (Nat.le_of_ble_eq_true rfl) (by show _ ≤ 16; omega) dX5_init_25 (fun H hw => ?_)
  obtain ⟨ct_21, ect_21⟩ : ∃ z, z = kw_up ct_16 kw (eI tc N (fun _ => 0)) := ⟨_, rfl⟩
  rw [← ect_21] at hw
  have h_22 : ct_21 kh = some (eJ tc N (fun _ => 0)) := by rw [ect_21, kw_up_n (fun q => absurd ((congrArg ct_16 q).symm.trans h_17) (by rw [h_19]; intro z; cases z))]; exact h_17
  have h_23 : ct_21 kt = some (.inr (ci, [.int nb, .ref (ad kh), .null, .long pu, .int 0])) := by rw [ect_21, kw_up_n (fun q => absurd ((congrArg ct_16 q).symm.trans h_18) (by rw [h_19]; intro z; cases z))]; exact h_18
  have h_24 : ct_21 kw = some (eI tc N (fun _ => 0)) := by rw [ect_21]; exact kw_up_s
  have hfr_25 : ∀ j, j ≠ kt → j ≠ kh → j ≠ kw → ct_21 j = ct j := fun j a0 a1 a2 => by rw [ect_21]; exact (kw_up_n a2).trans (hfr_20 j a0 a1 a2)
  refine kg_putTF (v := .ref (ad kw)) (ty := .array .int) (fs' := [.int nb, .ref (ad kh), .ref (ad kw), .long pu, .int 0]) hx hb hts hinX5 hinX7 hinX9 hown hK hw hci h_23 2 (by decide) (hts (.fieldLink RX5 23 "BetMaker$Plain" "weights" "[I") (by decide +kernel)) rfl hin2 rfl (by decide +kernel) rfl rfl (Nat.le_of_ble_eq_true rfl) rfl dX5_init_27 (fun H locs hw => ?_)
  obtain ⟨ct_26, ect_26⟩ : ∃ z, z = kw_up ct_21 kt (.inr (ci, [.int nb, .ref (ad kh), .ref (ad kw), .long pu, .int 0])) := ⟨_, rfl⟩
  rw [← ect_26] at hw
  have h_27 : ct_26 kh = some (eJ tc N (fun _ => 0)) := by rw [ect_26, kw_up_n (kw_neK h_22 h_23 (by intro q; cases q))]; exact h_22
  have h_28 : ct_26 kw = some (eI tc N (fun _ => 0)) := by rw [ect_26, kw_up_n (kw_neK h_24 h_23 (by intro q; cases q))]; exact h_24
  have h_29 : ct_26 kt = some (.inr (ci, [.int nb, .ref (ad kh), .ref (ad kw), .long pu, .int 0])) := by rw [ect_26]; exact kw_up_s
  have hfr_30 : ∀ j, j ≠ kt → j ≠ kh → j ≠ kw → ct_26 j = ct j := fun j a0 a1 a2 => by rw [ect_26]; exact (kw_up_n a0).trans (hfr_25 j a0 a1 a2)
  refine lv_aload_n hx hb dX5_init_30 rfl (lv_at hl 0 rfl) ?_
  refine kg_getT (v := .ref (ad kw)) hx hb hts hinX5 hinX7 hinX9 hown hK hw hci h_29 2 (by decide) (hts (.fieldLink RX5 23 "BetMaker$Plain" "weights" "[I") (by decide +kernel)) rfl dX5_init_31 ?_
  refine lv_iconst (v := 1) hx hb dX5_init_34 (by decide) ?_
  refine kc_su (As := [.ref (ad kw), .int 1]) (rest := []) S0 (c_J7_fill_53178 l D tc (s.heap.size + 2) ad ct_26 h_28 (by omega)) (va_cwS 2 hts gX5_init_J7_fill_53178 rfl rfl rfl (by decide +kernel) ⟨Nat.le_of_ble_eq_true rfl, Nat.le_of_ble_eq_true rfl⟩) hK hw hA rfl hl.1 rfl (Nat.le_of_ble_eq_true rfl) dX5_init_35 ⟨Nat.le_of_ble_eq_true rfl, (by show _ ≤ 16; omega)⟩ (fun H locs hw => ?_)
  obtain ⟨ct_31, ect_31⟩ : ∃ z, z = kw_up ct_26 kw (eI tc N (kFl (fun _ => 0) 1 N)) := ⟨_, rfl⟩
  rw [← ect_31] at hw
  have h_32 : ct_31 kh = some (eJ tc N (fun _ => 0)) := by rw [ect_31, kw_up_n (kw_neK h_27 h_28 kne_JI)]; exact h_27
  have h_33 : ct_31 kt = some (.inr (ci, [.int nb, .ref (ad kh), .ref (ad kw), .long pu, .int 0])) := by rw [ect_31, kw_up_n (kw_neK h_29 h_28 (by intro q; cases q))]; exact h_29
  have h_34 : ct_31 kw = some (eI tc N (kFl (fun _ => 0) 1 N)) := by rw [ect_31]; exact kw_up_s
  have hfr_35 : ∀ j, j ≠ kt → j ≠ kh → j ≠ kw → ct_31 j = ct j := fun j a0 a1 a2 => by rw [ect_31]; exact (kw_up_n a2).trans (hfr_30 j a0 a1 a2)
  have hq_36 := h_33
  have hq_37 := h_32
  have hq_38 := h_34
  have hend := kw_eq3 hq_36 hq_37 hq_38 hfr_35
  rw [hend] at hw
  refine W.widen (k := 2) (n := 16) (Nat.le_of_ble_eq_true rfl) (by omega) ?_
  exact W.vret hx hb hr (fun t ht _ => ⟨rfl, by rw [ht]; exact hw.1, hw.2.2.1, hw.2.1.F ht, by rw [ht]; exact hw.2.2.2⟩) hw.2.1.2.2 dX5_init_38
set_option maxHeartbeats 4000000 in
set_option maxRecDepth 100000 in
theorem c_X9_init (l : Launch) (D : va_G) (tc : Nat → ClassId) (sz : Nat) (ad : Nat → Nat) (ct : Nat → Option va_E) {ci kt kh kw N : Nat} {nb : Int32} {pu : Int64} (h0 : ct kt = some (.inr (ci, [.int 0, .null, .null, .long 0, .int 0]))) (hci : ci = 5 ∨ ci = 7 ∨ ci = 9) (hN : N ≤ 8) (hne : kh ≠ kw) (hkh : ct kh = none) (hkha : ad kh = sz) (hkw : ct kw = none) (hkwa : ad kw = sz + 1) : Met l yX9_init wsX9_init ({ frames := 2, cells := 2, slots := 16, locals := 68 }) (va_Pc [.ref (ad kt), .int nb, .long pu, .int (nI N)] (kw_B D tc sz ad ct)) (kw_Q D ad (kw_A ad ct sz) (none) (kw_up (kw_up (kw_up ct kt (.inr (ci, [.int nb, .ref (ad kh), .ref (ad kw), .long pu, .int 0]))) kh (eJ tc N (fun _ => 0))) kw (eI tc N (kFl (fun _ => 0) 1 N))) 2) 2 16 (kw_A ad ct sz) := by
  refine Met.ofW (cc := cX9_init) (maxL := 5) (ret := none) (by decide) rfl ?_
  intro pg en s m args below meth cod s₁ B hml hv
  obtain ⟨rfl, hsz, hP0, hK⟩ := hv
  have hx := B.exec
  have hb := B.bytes
  have hr := B.returns
  have hts := atoms_spec (ws := wsX9_init) B.pre
  have hown : s.vm.findClass RX9 = some m.cls := findClass_of_methodNamed B.named
  have hlocks := B.notSynchronized
  have hin2 : meth.name = "<init>" := (name_of_methodNamed B.named B.method).1
  subst hsz
  have hw := kw_H.start hP0
  generalize hAe : kw_A ad ct s.heap.size = A at hw ⊢
  have hA : ∀ q, s.heap.size ≤ q → A q := fun q h => by rw [← hAe]; exact Or.inr h
  have hl := lv_entry ([.ref (ad kt), .int nb, .long pu, .int (nI N)]) (n := 5) (Nat.le_of_ble_eq_true rfl)
  rw [lg_entry_eq]
  generalize (lg_sl ([.ref (ad kt), .int nb, .long pu, .int (nI N)]) ++ List.replicate (5 - (lg_sl ([.ref (ad kt), .int nb, .long pu, .int (nI N)])).length) Slot.unset).toArray = ls at hl ⊢
  have hl : lv_has ls 5 [(0, .ref (ad kt)), (1, .int nb), (2, .long pu), (4, .int (nI N))] := hl
  have S0 : CallFix pg m cod cX9_init 5 s _ wsX9_init RX9 := ⟨hx, hb, hml, hown, hts⟩
  have hfr : ∀ j, j ≠ kt → j ≠ kh → j ≠ kw → ct j = ct j := fun _ _ _ _ => rfl
  refine lv_aload_n hx hb dX9_init_0 rfl (lv_at hl 0 rfl) ?_
  refine lv_iload_n hx hb dX9_init_1 rfl (lv_at hl 1 rfl) ?_
  refine lv_lload_n hx hb dX9_init_2 rfl (lv_at hl 2 rfl) ?_
  refine lv_iload hx hb dX9_init_3 (lv_at hl 3 rfl) ?_
  refine kc_iu (As := [.int nb, .long pu, .int (nI N)]) (rest := []) S0 (c_X5_init l D tc s.heap.size ad ct (N := N) h0 hci (by omega) hne hkh hkha hkw hkwa) (cwI 3 hts gX9_init_X5_init rfl rfl rfl (hts (.initialized RX5) (by decide +kernel)) (hts (.methodLink RX9 3 yX5_init) (by decide +kernel)) (hts (.instanceMethod yX5_init) (by decide +kernel)) rfl (by decide +kernel) ⟨Nat.le_of_ble_eq_true rfl, Nat.le_of_ble_eq_true rfl⟩) hK hw hA rfl hl.1 rfl (Nat.le_of_ble_eq_true rfl) dX9_init_5 ⟨Nat.le_of_ble_eq_true rfl, (Nat.le_of_ble_eq_true rfl)⟩ (fun H locs hw => ?_)
  obtain ⟨ct_1, ect_1⟩ : ∃ z, z = kw_up (kw_up (kw_up ct kt (.inr (ci, [.int nb, .ref (ad kh), .ref (ad kw), .long pu, .int 0]))) kh (eJ tc N (fun _ => 0))) kw (eI tc N (kFl (fun _ => 0) 1 N)) := ⟨_, rfl⟩
  rw [← ect_1] at hw
  have h_2 : ct_1 kt = some (.inr (ci, [.int nb, .ref (ad kh), .ref (ad kw), .long pu, .int 0])) := by rw [ect_1, kw_up_n (fun q => absurd ((congrArg ct q).symm.trans h0) (by rw [hkw]; intro z; cases z)), kw_up_n (fun q => absurd ((congrArg ct q).symm.trans h0) (by rw [hkh]; intro z; cases z))]; exact kw_up_s
  have h_3 : ct_1 kh = some (eJ tc N (fun _ => 0)) := by rw [ect_1, kw_up_n (by omega)]; exact kw_up_s
  have h_4 : ct_1 kw = some (eI tc N (kFl (fun _ => 0) 1 N)) := by rw [ect_1]; exact kw_up_s
  have hfr_5 : ∀ j, j ≠ kt → j ≠ kh → j ≠ kw → ct_1 j = ct j := fun j a0 a1 a2 => by rw [ect_1]; exact (kw_up_n a2).trans ((kw_up_n a1).trans ((kw_up_n a0).trans (hfr j a0 a1 a2)))
  have hq_6 := h_2
  have hq_7 := h_3
  have hq_8 := h_4
  have hend := kw_eq3 hq_6 hq_7 hq_8 hfr_5
  rw [hend] at hw
  refine W.widen (k := 2) (n := 16) (Nat.le_of_ble_eq_true rfl) (Nat.le_of_ble_eq_true rfl) ?_
  exact W.vret hx hb hr (fun t ht _ => ⟨rfl, by rw [ht]; exact hw.1, hw.2.2.1, hw.2.1.F ht, by rw [ht]; exact hw.2.2.2⟩) hw.2.1.2.2 dX9_init_8
set_option maxHeartbeats 4000000 in
set_option maxRecDepth 100000 in
theorem c_X7_init (l : Launch) (D : va_G) (tc : Nat → ClassId) (sz : Nat) (ad : Nat → Nat) (ct : Nat → Option va_E) {ci kt kh kw N : Nat} {nb : Int32} {pu : Int64} (h0 : ct kt = some (.inr (ci, [.int 0, .null, .null, .long 0, .int 0]))) (hci : ci = 5 ∨ ci = 7 ∨ ci = 9) (hN : N ≤ 8) (hne : kh ≠ kw) (hkh : ct kh = none) (hkha : ad kh = sz) (hkw : ct kw = none) (hkwa : ad kw = sz + 1) : Met l yX7_init wsX7_init ({ frames := 3, cells := 2, slots := 16, locals := 96 }) (va_Pc [.ref (ad kt), .int nb, .long pu, .int (nI N)] (kw_B D tc sz ad ct)) (kw_Q D ad (kw_A ad ct sz) (none) (kw_up (kw_up (kw_up ct kt (.inr (ci, [.int nb, .ref (ad kh), .ref (ad kw), .long pu, .int 0]))) kh (eJ tc N (fun _ => 0))) kw (eI tc N (kFl (fun _ => 0) 1 N))) 2) 2 16 (kw_A ad ct sz) := by
  refine Met.ofW (cc := cX7_init) (maxL := 5) (ret := none) (by decide) rfl ?_
  intro pg en s m args below meth cod s₁ B hml hv
  obtain ⟨rfl, hsz, hP0, hK⟩ := hv
  have hx := B.exec
  have hb := B.bytes
  have hr := B.returns
  have hts := atoms_spec (ws := wsX7_init) B.pre
  have hown : s.vm.findClass RX7 = some m.cls := findClass_of_methodNamed B.named
  have hlocks := B.notSynchronized
  have hin2 : meth.name = "<init>" := (name_of_methodNamed B.named B.method).1
  subst hsz
  have hw := kw_H.start hP0
  generalize hAe : kw_A ad ct s.heap.size = A at hw ⊢
  have hA : ∀ q, s.heap.size ≤ q → A q := fun q h => by rw [← hAe]; exact Or.inr h
  have hl := lv_entry ([.ref (ad kt), .int nb, .long pu, .int (nI N)]) (n := 5) (Nat.le_of_ble_eq_true rfl)
  rw [lg_entry_eq]
  generalize (lg_sl ([.ref (ad kt), .int nb, .long pu, .int (nI N)]) ++ List.replicate (5 - (lg_sl ([.ref (ad kt), .int nb, .long pu, .int (nI N)])).length) Slot.unset).toArray = ls at hl ⊢
  have hl : lv_has ls 5 [(0, .ref (ad kt)), (1, .int nb), (2, .long pu), (4, .int (nI N))] := hl
  have S0 : CallFix pg m cod cX7_init 5 s _ wsX7_init RX7 := ⟨hx, hb, hml, hown, hts⟩
  have hfr : ∀ j, j ≠ kt → j ≠ kh → j ≠ kw → ct j = ct j := fun _ _ _ _ => rfl
  refine lv_aload_n hx hb dX7_init_0 rfl (lv_at hl 0 rfl) ?_
  refine lv_iload_n hx hb dX7_init_1 rfl (lv_at hl 1 rfl) ?_
  refine lv_lload_n hx hb dX7_init_2 rfl (lv_at hl 2 rfl) ?_
  refine lv_iload hx hb dX7_init_3 (lv_at hl 3 rfl) ?_
  refine kc_iu (As := [.int nb, .long pu, .int (nI N)]) (rest := []) S0 (c_X9_init l D tc s.heap.size ad ct (N := N) h0 hci (by omega) hne hkh hkha hkw hkwa) (cwI 3 hts gX7_init_X9_init rfl rfl rfl (hts (.initialized RX9) (by decide +kernel)) (hts (.methodLink RX7 3 yX9_init) (by decide +kernel)) (hts (.instanceMethod yX9_init) (by decide +kernel)) rfl (by decide +kernel) ⟨Nat.le_of_ble_eq_true rfl, Nat.le_of_ble_eq_true rfl⟩) hK hw hA rfl hl.1 rfl (Nat.le_of_ble_eq_true rfl) dX7_init_5 ⟨Nat.le_of_ble_eq_true rfl, (Nat.le_of_ble_eq_true rfl)⟩ (fun H locs hw => ?_)
  obtain ⟨ct_1, ect_1⟩ : ∃ z, z = kw_up (kw_up (kw_up ct kt (.inr (ci, [.int nb, .ref (ad kh), .ref (ad kw), .long pu, .int 0]))) kh (eJ tc N (fun _ => 0))) kw (eI tc N (kFl (fun _ => 0) 1 N)) := ⟨_, rfl⟩
  rw [← ect_1] at hw
  have h_2 : ct_1 kt = some (.inr (ci, [.int nb, .ref (ad kh), .ref (ad kw), .long pu, .int 0])) := by rw [ect_1, kw_up_n (fun q => absurd ((congrArg ct q).symm.trans h0) (by rw [hkw]; intro z; cases z)), kw_up_n (fun q => absurd ((congrArg ct q).symm.trans h0) (by rw [hkh]; intro z; cases z))]; exact kw_up_s
  have h_3 : ct_1 kh = some (eJ tc N (fun _ => 0)) := by rw [ect_1, kw_up_n (by omega)]; exact kw_up_s
  have h_4 : ct_1 kw = some (eI tc N (kFl (fun _ => 0) 1 N)) := by rw [ect_1]; exact kw_up_s
  have hfr_5 : ∀ j, j ≠ kt → j ≠ kh → j ≠ kw → ct_1 j = ct j := fun j a0 a1 a2 => by rw [ect_1]; exact (kw_up_n a2).trans ((kw_up_n a1).trans ((kw_up_n a0).trans (hfr j a0 a1 a2)))
  have hq_6 := h_2
  have hq_7 := h_3
  have hq_8 := h_4
  have hend := kw_eq3 hq_6 hq_7 hq_8 hfr_5
  rw [hend] at hw
  refine W.widen (k := 2) (n := 16) (Nat.le_of_ble_eq_true rfl) (Nat.le_of_ble_eq_true rfl) ?_
  exact W.vret hx hb hr (fun t ht _ => ⟨rfl, by rw [ht]; exact hw.1, hw.2.2.1, hw.2.1.F ht, by rw [ht]; exact hw.2.2.2⟩) hw.2.1.2.2 dX7_init_8
set_option maxHeartbeats 4000000 in
set_option maxRecDepth 100000 in
theorem c_X5_kind (l : Launch) (D : va_G) (tc : Nat → ClassId) (sz : Nat) (ad : Nat → Nat) (ct : Nat → Option va_E) {kt : Nat} : Met l yX5_kind wsX5_kind ({ frames := 0, cells := 0, slots := 0, locals := 0 }) (va_Pc [.ref (ad kt)] (kw_B D tc sz ad ct)) (k2_QcV (.int 0)) 0 0 (fun _ => False) := by
  refine Met.ofW (cc := cX5_kind) (maxL := 1) (ret := (some .int)) (by decide) rfl ?_
  intro pg en s m args below meth cod s₁ B hml hv
  obtain ⟨rfl, hsz, hP0, hK⟩ := hv
  have hx := B.exec
  have hb := B.bytes
  have hr := B.returns
  have hts := atoms_spec (ws := wsX5_kind) B.pre
  have hown : s.vm.findClass RX5 = some m.cls := findClass_of_methodNamed B.named
  have hlocks := B.notSynchronized
  subst hsz
  have hw := kw_H.start hP0
  generalize kw_A ad ct s.heap.size = A at hw
  have hl := lv_entry ([.ref (ad kt)]) (n := 1) (Nat.le_of_ble_eq_true rfl)
  rw [lg_entry_eq]
  generalize (lg_sl ([.ref (ad kt)]) ++ List.replicate (1 - (lg_sl ([.ref (ad kt)])).length) Slot.unset).toArray = ls at hl ⊢
  have hl : lv_has ls 1 [(0, .ref (ad kt))] := hl
  have S0 : CallFix pg m cod cX5_kind 1 s _ wsX5_kind RX5 := ⟨hx, hb, hml, hown, hts⟩
  refine lv_iconst (v := 0) hx hb dX5_kind_0 (by decide) ?_
  exact W.iret hx hb hr (fun t ht _ => ⟨rfl, ht⟩) (fun _ h => absurd h List.not_mem_nil) dX5_kind_1
set_option maxHeartbeats 4000000 in
set_option maxRecDepth 100000 in
theorem c_X9_kind (l : Launch) (D : va_G) (tc : Nat → ClassId) (sz : Nat) (ad : Nat → Nat) (ct : Nat → Option va_E) {kt : Nat} : Met l yX9_kind wsX9_kind ({ frames := 0, cells := 0, slots := 0, locals := 0 }) (va_Pc [.ref (ad kt)] (kw_B D tc sz ad ct)) (k2_QcV (.int 1)) 0 0 (fun _ => False) := by
  refine Met.ofW (cc := cX9_kind) (maxL := 1) (ret := (some .int)) (by decide) rfl ?_
  intro pg en s m args below meth cod s₁ B hml hv
  obtain ⟨rfl, hsz, hP0, hK⟩ := hv
  have hx := B.exec
  have hb := B.bytes
  have hr := B.returns
  have hts := atoms_spec (ws := wsX9_kind) B.pre
  have hown : s.vm.findClass RX9 = some m.cls := findClass_of_methodNamed B.named
  have hlocks := B.notSynchronized
  subst hsz
  have hw := kw_H.start hP0
  generalize kw_A ad ct s.heap.size = A at hw
  have hl := lv_entry ([.ref (ad kt)]) (n := 1) (Nat.le_of_ble_eq_true rfl)
  rw [lg_entry_eq]
  generalize (lg_sl ([.ref (ad kt)]) ++ List.replicate (1 - (lg_sl ([.ref (ad kt)])).length) Slot.unset).toArray = ls at hl ⊢
  have hl : lv_has ls 1 [(0, .ref (ad kt))] := hl
  have S0 : CallFix pg m cod cX9_kind 1 s _ wsX9_kind RX9 := ⟨hx, hb, hml, hown, hts⟩
  refine lv_iconst (v := 1) hx hb dX9_kind_0 (by decide) ?_
  exact W.iret hx hb hr (fun t ht _ => ⟨rfl, ht⟩) (fun _ h => absurd h List.not_mem_nil) dX9_kind_1
set_option maxHeartbeats 4000000 in
set_option maxRecDepth 100000 in
theorem c_X7_kind (l : Launch) (D : va_G) (tc : Nat → ClassId) (sz : Nat) (ad : Nat → Nat) (ct : Nat → Option va_E) {kt : Nat} : Met l yX7_kind wsX7_kind ({ frames := 0, cells := 0, slots := 0, locals := 0 }) (va_Pc [.ref (ad kt)] (kw_B D tc sz ad ct)) (k2_QcV (.int 2)) 0 0 (fun _ => False) := by
  refine Met.ofW (cc := cX7_kind) (maxL := 1) (ret := (some .int)) (by decide) rfl ?_
  intro pg en s m args below meth cod s₁ B hml hv
  obtain ⟨rfl, hsz, hP0, hK⟩ := hv
  have hx := B.exec
  have hb := B.bytes
  have hr := B.returns
  have hts := atoms_spec (ws := wsX7_kind) B.pre
  have hown : s.vm.findClass RX7 = some m.cls := findClass_of_methodNamed B.named
  have hlocks := B.notSynchronized
  subst hsz
  have hw := kw_H.start hP0
  generalize kw_A ad ct s.heap.size = A at hw
  have hl := lv_entry ([.ref (ad kt)]) (n := 1) (Nat.le_of_ble_eq_true rfl)
  rw [lg_entry_eq]
  generalize (lg_sl ([.ref (ad kt)]) ++ List.replicate (1 - (lg_sl ([.ref (ad kt)])).length) Slot.unset).toArray = ls at hl ⊢
  have hl : lv_has ls 1 [(0, .ref (ad kt))] := hl
  have S0 : CallFix pg m cod cX7_kind 1 s _ wsX7_kind RX7 := ⟨hx, hb, hml, hown, hts⟩
  refine lv_iconst (v := 2) hx hb dX7_kind_0 (by decide) ?_
  exact W.iret hx hb hr (fun t ht _ => ⟨rfl, ht⟩) (fun _ h => absurd h List.not_mem_nil) dX7_kind_1
set_option maxHeartbeats 4000000 in
set_option maxRecDepth 100000 in
theorem c_X5_purse (l : Launch) (D : va_G) (tc : Nat → ClassId) (sz : Nat) (ad : Nat → Nat) (ct : Nat → Option va_E) {ci kt kh kw : Nat} {nb de : Int32} {pu : Int64} (h0 : ct kt = some (.inr (ci, [.int nb, .ref (ad kh), .ref (ad kw), .long pu, .int de]))) (hci : ci = 5 ∨ ci = 7 ∨ ci = 9) : Met l yX5_purse wsX5_purse ({ frames := 0, cells := 0, slots := 0, locals := 0 }) (va_Pc [.ref (ad kt)] (kw_B D tc sz ad ct)) (k2_QcV (.long pu)) 0 0 (fun _ => False) := by
  refine Met.ofW (cc := cX5_purse) (maxL := 1) (ret := (some .long)) (by decide) rfl ?_
  intro pg en s m args below meth cod s₁ B hml hv
  obtain ⟨rfl, hsz, hP0, hK⟩ := hv
  have hx := B.exec
  have hb := B.bytes
  have hr := B.returns
  have hts := atoms_spec (ws := wsX5_purse) B.pre
  have hown : s.vm.findClass RX5 = some m.cls := findClass_of_methodNamed B.named
  have hlocks := B.notSynchronized
  subst hsz
  have hw := kw_H.start hP0
  generalize kw_A ad ct s.heap.size = A at hw
  have hinX5 : ∀ w ∈ wsX50, w ∈ wsX5_purse := by decide +kernel
  have hinX7 : ∀ w ∈ wsX70, w ∈ wsX5_purse := by decide +kernel
  have hinX9 : ∀ w ∈ wsX90, w ∈ wsX5_purse := by decide +kernel
  have hl := lv_entry ([.ref (ad kt)]) (n := 1) (Nat.le_of_ble_eq_true rfl)
  rw [lg_entry_eq]
  generalize (lg_sl ([.ref (ad kt)]) ++ List.replicate (1 - (lg_sl ([.ref (ad kt)])).length) Slot.unset).toArray = ls at hl ⊢
  have hl : lv_has ls 1 [(0, .ref (ad kt))] := hl
  have S0 : CallFix pg m cod cX5_purse 1 s _ wsX5_purse RX5 := ⟨hx, hb, hml, hown, hts⟩
  refine lv_aload_n hx hb dX5_purse_0 rfl (lv_at hl 0 rfl) ?_
  refine kg_getT (v := .long pu) hx hb hts hinX5 hinX7 hinX9 hown hK hw hci h0 3 (by decide) (hts (.fieldLink RX5 15 "BetMaker$Plain" "purse" "J") (by decide +kernel)) rfl dX5_purse_1 ?_
  exact W.lret hx hb hr (fun t ht _ => ⟨rfl, ht⟩) (fun _ h => absurd h List.not_mem_nil) dX5_purse_4
set_option maxHeartbeats 4000000 in
set_option maxRecDepth 100000 in
theorem c_X5_deals (l : Launch) (D : va_G) (tc : Nat → ClassId) (sz : Nat) (ad : Nat → Nat) (ct : Nat → Option va_E) {ci kt kh kw : Nat} {nb de : Int32} {pu : Int64} (h0 : ct kt = some (.inr (ci, [.int nb, .ref (ad kh), .ref (ad kw), .long pu, .int de]))) (hci : ci = 5 ∨ ci = 7 ∨ ci = 9) : Met l yX5_deals wsX5_deals ({ frames := 0, cells := 0, slots := 0, locals := 0 }) (va_Pc [.ref (ad kt)] (kw_B D tc sz ad ct)) (k2_QcV (.int de)) 0 0 (fun _ => False) := by
  refine Met.ofW (cc := cX5_deals) (maxL := 1) (ret := (some .int)) (by decide) rfl ?_
  intro pg en s m args below meth cod s₁ B hml hv
  obtain ⟨rfl, hsz, hP0, hK⟩ := hv
  have hx := B.exec
  have hb := B.bytes
  have hr := B.returns
  have hts := atoms_spec (ws := wsX5_deals) B.pre
  have hown : s.vm.findClass RX5 = some m.cls := findClass_of_methodNamed B.named
  have hlocks := B.notSynchronized
  subst hsz
  have hw := kw_H.start hP0
  generalize kw_A ad ct s.heap.size = A at hw
  have hinX5 : ∀ w ∈ wsX50, w ∈ wsX5_deals := by decide +kernel
  have hinX7 : ∀ w ∈ wsX70, w ∈ wsX5_deals := by decide +kernel
  have hinX9 : ∀ w ∈ wsX90, w ∈ wsX5_deals := by decide +kernel
  have hl := lv_entry ([.ref (ad kt)]) (n := 1) (Nat.le_of_ble_eq_true rfl)
  rw [lg_entry_eq]
  generalize (lg_sl ([.ref (ad kt)]) ++ List.replicate (1 - (lg_sl ([.ref (ad kt)])).length) Slot.unset).toArray = ls at hl ⊢
  have hl : lv_has ls 1 [(0, .ref (ad kt))] := hl
  have S0 : CallFix pg m cod cX5_deals 1 s _ wsX5_deals RX5 := ⟨hx, hb, hml, hown, hts⟩
  refine lv_aload_n hx hb dX5_deals_0 rfl (lv_at hl 0 rfl) ?_
  refine kg_getT (v := .int de) hx hb hts hinX5 hinX7 hinX9 hown hK hw hci h0 4 (by decide) (hts (.fieldLink RX5 33 "BetMaker$Plain" "deals" "I") (by decide +kernel)) rfl dX5_deals_1 ?_
  exact W.iret hx hb hr (fun t ht _ => ⟨rfl, ht⟩) (fun _ h => absurd h List.not_mem_nil) dX5_deals_4
set_option maxHeartbeats 4000000 in
set_option maxRecDepth 100000 in
theorem c_X5_heldOf (l : Launch) (D : va_G) (tc : Nat → ClassId) (sz : Nat) (ad : Nat → Nat) (ct : Nat → Option va_E) {ci kt kh kw N : Nat} {nb de : Int32} {pu : Int64} {ho : Nat → Int64} {c : Nat} (h0 : ct kt = some (.inr (ci, [.int nb, .ref (ad kh), .ref (ad kw), .long pu, .int de]))) (h1 : ct kh = some (eJ tc N ho)) (hci : ci = 5 ∨ ci = 7 ∨ ci = 9) (hc : c < N) (hN : N ≤ 8) : Met l yX5_heldOf wsX5_heldOf ({ frames := 0, cells := 0, slots := 0, locals := 0 }) (va_Pc [.ref (ad kt), .int (nI c)] (kw_B D tc sz ad ct)) (k2_QcV (.long (ho c))) 0 0 (fun _ => False) := by
  refine Met.ofW (cc := cX5_heldOf) (maxL := 2) (ret := (some .long)) (by decide) rfl ?_
  intro pg en s m args below meth cod s₁ B hml hv
  obtain ⟨rfl, hsz, hP0, hK⟩ := hv
  have hx := B.exec
  have hb := B.bytes
  have hr := B.returns
  have hts := atoms_spec (ws := wsX5_heldOf) B.pre
  have hown : s.vm.findClass RX5 = some m.cls := findClass_of_methodNamed B.named
  have hlocks := B.notSynchronized
  subst hsz
  have hw := kw_H.start hP0
  generalize kw_A ad ct s.heap.size = A at hw
  have hinX5 : ∀ w ∈ wsX50, w ∈ wsX5_heldOf := by decide +kernel
  have hinX7 : ∀ w ∈ wsX70, w ∈ wsX5_heldOf := by decide +kernel
  have hinX9 : ∀ w ∈ wsX90, w ∈ wsX5_heldOf := by decide +kernel
  have hl := lv_entry ([.ref (ad kt), .int (nI c)]) (n := 2) (Nat.le_of_ble_eq_true rfl)
  rw [lg_entry_eq]
  generalize (lg_sl ([.ref (ad kt), .int (nI c)]) ++ List.replicate (2 - (lg_sl ([.ref (ad kt), .int (nI c)])).length) Slot.unset).toArray = ls at hl ⊢
  have hl : lv_has ls 2 [(0, .ref (ad kt)), (1, .int (nI c))] := hl
  have S0 : CallFix pg m cod cX5_heldOf 2 s _ wsX5_heldOf RX5 := ⟨hx, hb, hml, hown, hts⟩
  refine lv_iload_n hx hb dX5_heldOf_0 rfl (lv_at hl 1 rfl) ?_
  refine lv_if_lt (tgt := 22) hx hb dX5_heldOf_1 (by decide) (fun c_1 => ?_) (fun c_1 => ?_)
  · exact absurd c_1 (nI_pos (by omega))
  · refine lv_iload_n hx hb dX5_heldOf_4 rfl (lv_at hl 1 rfl) ?_
    refine lv_aload_n hx hb dX5_heldOf_5 rfl (lv_at hl 0 rfl) ?_
    refine kg_getT (v := .ref (ad kh)) hx hb hts hinX5 hinX7 hinX9 hown hK hw hci h0 1 (by decide) (hts (.fieldLink RX5 19 "BetMaker$Plain" "holds" "[J") (by decide +kernel)) rfl dX5_heldOf_6 ?_
    refine kg_llen hx hb hK hw h1 dX5_heldOf_9 ?_
    refine kn_ge c N rfl rfl (by omega) (by omega) (tgt := 22) hx hb dX5_heldOf_10 (by decide) (fun c_2 => ?_) (fun c_2 => ?_)
    · exfalso; omega
    · refine lv_aload_n hx hb dX5_heldOf_13 rfl (lv_at hl 0 rfl) ?_
      refine kg_getT (v := .ref (ad kh)) hx hb hts hinX5 hinX7 hinX9 hown hK hw hci h0 1 (by decide) (hts (.fieldLink RX5 19 "BetMaker$Plain" "holds" "[J") (by decide +kernel)) rfl dX5_heldOf_14 ?_
      refine lv_iload_n hx hb dX5_heldOf_17 rfl (lv_at hl 1 rfl) ?_
      refine kg_lald hx hb hK hw h1 c rfl (by omega) (by omega) dX5_heldOf_18 ?_
      refine lv_goto (tgt := 23) hx hb dX5_heldOf_19 (by decide) ?_
      exact W.lret hx hb hr (fun t ht _ => ⟨rfl, ht⟩) (fun _ h => absurd h List.not_mem_nil) dX5_heldOf_23
set_option maxHeartbeats 4000000 in
set_option maxRecDepth 100000 in
theorem c_X5_weightOf (l : Launch) (D : va_G) (tc : Nat → ClassId) (sz : Nat) (ad : Nat → Nat) (ct : Nat → Option va_E) {ci kt kh kw N : Nat} {nb de : Int32} {pu : Int64} {we : Nat → Int32} {c : Nat} (h0 : ct kt = some (.inr (ci, [.int nb, .ref (ad kh), .ref (ad kw), .long pu, .int de]))) (h2 : ct kw = some (eI tc N we)) (hci : ci = 5 ∨ ci = 7 ∨ ci = 9) (hc : c < N) (hN : N ≤ 8) : Met l yX5_weightOf wsX5_weightOf ({ frames := 0, cells := 0, slots := 0, locals := 0 }) (va_Pc [.ref (ad kt), .int (nI c)] (kw_B D tc sz ad ct)) (k2_QcV (.int (we c))) 0 0 (fun _ => False) := by
  refine Met.ofW (cc := cX5_weightOf) (maxL := 2) (ret := (some .int)) (by decide) rfl ?_
  intro pg en s m args below meth cod s₁ B hml hv
  obtain ⟨rfl, hsz, hP0, hK⟩ := hv
  have hx := B.exec
  have hb := B.bytes
  have hr := B.returns
  have hts := atoms_spec (ws := wsX5_weightOf) B.pre
  have hown : s.vm.findClass RX5 = some m.cls := findClass_of_methodNamed B.named
  have hlocks := B.notSynchronized
  subst hsz
  have hw := kw_H.start hP0
  generalize kw_A ad ct s.heap.size = A at hw
  have hinX5 : ∀ w ∈ wsX50, w ∈ wsX5_weightOf := by decide +kernel
  have hinX7 : ∀ w ∈ wsX70, w ∈ wsX5_weightOf := by decide +kernel
  have hinX9 : ∀ w ∈ wsX90, w ∈ wsX5_weightOf := by decide +kernel
  have hl := lv_entry ([.ref (ad kt), .int (nI c)]) (n := 2) (Nat.le_of_ble_eq_true rfl)
  rw [lg_entry_eq]
  generalize (lg_sl ([.ref (ad kt), .int (nI c)]) ++ List.replicate (2 - (lg_sl ([.ref (ad kt), .int (nI c)])).length) Slot.unset).toArray = ls at hl ⊢
  have hl : lv_has ls 2 [(0, .ref (ad kt)), (1, .int (nI c))] := hl
  have S0 : CallFix pg m cod cX5_weightOf 2 s _ wsX5_weightOf RX5 := ⟨hx, hb, hml, hown, hts⟩
  refine lv_iload_n hx hb dX5_weightOf_0 rfl (lv_at hl 1 rfl) ?_
  refine lv_if_lt (tgt := 22) hx hb dX5_weightOf_1 (by decide) (fun c_1 => ?_) (fun c_1 => ?_)
  · exact absurd c_1 (nI_pos (by omega))
  · refine lv_iload_n hx hb dX5_weightOf_4 rfl (lv_at hl 1 rfl) ?_
    refine lv_aload_n hx hb dX5_weightOf_5 rfl (lv_at hl 0 rfl) ?_
    refine kg_getT (v := .ref (ad kw)) hx hb hts hinX5 hinX7 hinX9 hown hK hw hci h0 2 (by decide) (hts (.fieldLink RX5 23 "BetMaker$Plain" "weights" "[I") (by decide +kernel)) rfl dX5_weightOf_6 ?_
    refine kg_ilen hx hb hK hw h2 dX5_weightOf_9 ?_
    refine kn_ge c N rfl rfl (by omega) (by omega) (tgt := 22) hx hb dX5_weightOf_10 (by decide) (fun c_2 => ?_) (fun c_2 => ?_)
    · exfalso; omega
    · refine lv_aload_n hx hb dX5_weightOf_13 rfl (lv_at hl 0 rfl) ?_
      refine kg_getT (v := .ref (ad kw)) hx hb hts hinX5 hinX7 hinX9 hown hK hw hci h0 2 (by decide) (hts (.fieldLink RX5 23 "BetMaker$Plain" "weights" "[I") (by decide +kernel)) rfl dX5_weightOf_14 ?_
      refine lv_iload_n hx hb dX5_weightOf_17 rfl (lv_at hl 1 rfl) ?_
      refine kg_iald hx hb hK hw h2 c rfl (by omega) (by omega) dX5_weightOf_18 ?_
      refine lv_goto (tgt := 23) hx hb dX5_weightOf_19 (by decide) ?_
      exact W.iret hx hb hr (fun t ht _ => ⟨rfl, ht⟩) (fun _ h => absurd h List.not_mem_nil) dX5_weightOf_23
set_option maxHeartbeats 4000000 in
set_option maxRecDepth 100000 in
theorem c_X5_weightIn (l : Launch) (D : va_G) (tc : Nat → ClassId) (sz : Nat) (ad : Nat → Nat) (ct : Nat → Option va_E) {ci kt kh kw N : Nat} {nb de : Int32} {pu : Int64} {we : Nat → Int32} {set : Int32} (h0 : ct kt = some (.inr (ci, [.int nb, .ref (ad kh), .ref (ad kw), .long pu, .int de]))) (h2 : ct kw = some (eI tc N we)) (hci : ci = 5 ∨ ci = 7 ∨ ci = 9) (hN : N ≤ 8) : Met l yX5_weightIn wsX5_weightIn ({ frames := 1, cells := 0, slots := 0, locals := 25 }) (va_Pc [.ref (ad kt), .int set] (kw_B D tc sz ad ct)) (k2_QcV (.long (su (kIn set (fun c => (we c).toInt64)) N))) 0 0 (fun _ => False) := by
  refine Met.ofW (cc := cX5_weightIn) (maxL := 5) (ret := (some .long)) (by decide) rfl ?_
  intro pg en s m args below meth cod s₁ B hml hv
  obtain ⟨rfl, hsz, hP0, hK⟩ := hv
  have hx := B.exec
  have hb := B.bytes
  have hr := B.returns
  have hts := atoms_spec (ws := wsX5_weightIn) B.pre
  have hown : s.vm.findClass RX5 = some m.cls := findClass_of_methodNamed B.named
  have hlocks := B.notSynchronized
  subst hsz
  have hw := kw_H.start hP0
  generalize kw_A ad ct s.heap.size = A at hw
  have hinX5 : ∀ w ∈ wsX50, w ∈ wsX5_weightIn := by decide +kernel
  have hinX7 : ∀ w ∈ wsX70, w ∈ wsX5_weightIn := by decide +kernel
  have hinX9 : ∀ w ∈ wsX90, w ∈ wsX5_weightIn := by decide +kernel
  have hl := lv_entry ([.ref (ad kt), .int set]) (n := 5) (Nat.le_of_ble_eq_true rfl)
  rw [lg_entry_eq]
  generalize (lg_sl ([.ref (ad kt), .int set]) ++ List.replicate (5 - (lg_sl ([.ref (ad kt), .int set])).length) Slot.unset).toArray = ls at hl ⊢
  have hl : lv_has ls 5 [(0, .ref (ad kt)), (1, .int set)] := hl
  have S0 : CallFix pg m cod cX5_weightIn 5 s _ wsX5_weightIn RX5 := ⟨hx, hb, hml, hown, hts⟩
  refine lv_lconst (v := 0) hx hb dX5_weightIn_0 (by decide) ?_
  refine lv_lstore_n (lv' := [(2, .long 0), (0, .ref (ad kt)), (1, .int set)]) hx hb dX5_weightIn_1 rfl hl (by decide) rfl (fun ls hl => ?_)
  refine lv_iconst (v := 0) hx hb dX5_weightIn_2 (by decide) ?_
  refine lv_istore (lv' := [(4, .int 0), (2, .long 0), (0, .ref (ad kt)), (1, .int set)]) hx hb dX5_weightIn_3 hl (by decide) rfl (fun ls hl => ?_)
  suffices lp5 : ∀ (nfu : Nat) (i : Nat) (acc : Int64) (ls : Array Slot), N - i < nfu → i ≤ N → acc = su (kIn set (fun c => (we c).toInt64)) i → lv_has ls 5 [(0, .ref (ad kt)), (1, .int set), (2, .long acc), (4, .int (nI i))] → W pg l en (headSpec wsX5_weightIn ({ frames := 1, cells := 0, slots := 0, locals := 25 })).room s m (([.ref (ad kt), .int set] : List Value).toArray) below meth cod s.heap [] 0 0 (MQ below (k2_QcV (.long (su (kIn set (fun c => (we c).toInt64)) N))) (([.ref (ad kt), .int set] : List Value).toArray) s 0 0 (fun _ => False)) (F0 m 5 ls []) by
    exact lp5 (N - 0 + 1) 0 0 ls (by omega) (by omega) (by rfl) (by have hl9 := lv_sub hl (l' := [(0, .ref (ad kt)), (1, .int set), (2, .long 0), (4, .int 0)]) [2, 3, 1, 0] rfl; exact hl9)
  intro n5
  induction n5 with
  | zero => intro i acc ls hfu; exact absurd hfu (Nat.not_lt_zero _)
  | succ n5 ih5 =>
    intro i acc ls hfu5 hi ha hl
    refine lv_iload hx hb dX5_weightIn_5 (lv_at hl 3 rfl) ?_
    refine lv_aload_n hx hb dX5_weightIn_7 rfl (lv_at hl 0 rfl) ?_
    refine kg_getT (v := .ref (ad kw)) hx hb hts hinX5 hinX7 hinX9 hown hK hw hci h0 2 (by decide) (hts (.fieldLink RX5 23 "BetMaker$Plain" "weights" "[I") (by decide +kernel)) rfl dX5_weightIn_8 ?_
    refine kg_ilen hx hb hK hw h2 dX5_weightIn_11 ?_
    refine kn_ge i N rfl rfl (by omega) (by omega) (tgt := 41) hx hb dX5_weightIn_12 (by decide) (fun c_1 => ?_) (fun c_1 => ?_)
    · refine lv_lload_n hx hb dX5_weightIn_41 rfl (lv_at hl 2 rfl) ?_
      refine W.eq (congrArg (fun z => F0 m 42 ls [.long z]) (show acc = (su (kIn set (fun c => (we c).toInt64)) N) from by rw [ha, show i = N by omega])) ?_
      exact W.lret hx hb hr (fun t ht _ => ⟨rfl, ht⟩) (fun _ h => absurd h List.not_mem_nil) dX5_weightIn_42
    · refine lv_iload_n hx hb dX5_weightIn_15 rfl (lv_at hl 1 rfl) ?_
      refine lv_iload hx hb dX5_weightIn_16 (lv_at hl 3 rfl) ?_
      refine kc_sn (As := [.int set, .int (nI i)]) (rest := []) S0 (c_X10_isIn l D tc s.heap.size ad ct (c := i) ) ⟨va_cnB 2 hts gX5_weightIn_X10_isIn_n36 rfl rfl rfl hK.2.2.2.1 (hts (.initialized RX10) (by decide +kernel)) (by decide +kernel) ⟨Nat.le_of_ble_eq_true rfl, Nat.le_of_ble_eq_true rfl⟩, hts (.static yX10_isIn) (by decide +kernel), trivial⟩ hK hw rfl hl.1 rfl (Nat.le_of_ble_eq_true rfl) dX5_weightIn_18 ⟨Nat.le_of_ble_eq_true rfl, (Nat.le_of_ble_eq_true rfl)⟩ ?_
      refine kb_ifeq (tgt := 35) hx hb dX5_weightIn_21 (by decide) (fun c_2 => ?_) (fun c_2 => ?_)
      · refine lv_iinc (v := (nI (i + 1))) (lv' := [(4, .int (nI (i + 1))), (0, .ref (ad kt)), (1, .int set), (2, .long acc)]) hx hb dX5_weightIn_35 hl (k := 3) rfl (nI_1 i) (by decide) rfl (fun ls hl => ?_)
        refine lv_goto (tgt := 5) hx hb dX5_weightIn_38 (by decide) ?_
        exact ih5 (i + 1) acc ls (by omega) (by omega) (by rw [ha]; exact su_o c_2) (lv_sub hl [1, 2, 3, 0] rfl)
      · refine lv_lload_n hx hb dX5_weightIn_24 rfl (lv_at hl 2 rfl) ?_
        refine lv_aload_n hx hb dX5_weightIn_25 rfl (lv_at hl 0 rfl) ?_
        refine kg_getT (v := .ref (ad kw)) hx hb hts hinX5 hinX7 hinX9 hown hK hw hci h0 2 (by decide) (hts (.fieldLink RX5 23 "BetMaker$Plain" "weights" "[I") (by decide +kernel)) rfl dX5_weightIn_26 ?_
        refine lv_iload hx hb dX5_weightIn_29 (lv_at hl 3 rfl) ?_
        refine kg_iald hx hb hK hw h2 i rfl (by omega) (by omega) dX5_weightIn_31 ?_
        refine lv_i2l (v := (we i).toInt64) hx hb dX5_weightIn_32 rfl ?_
        refine lv_ladd hx hb dX5_weightIn_33 ?_
        refine lv_lstore_n (lv' := [(2, .long (acc + ((we i).toInt64))), (0, .ref (ad kt)), (1, .int set), (4, .int (nI i))]) hx hb dX5_weightIn_34 rfl hl (by decide) rfl (fun ls hl => ?_)
        refine lv_iinc (v := (nI (i + 1))) (lv' := [(4, .int (nI (i + 1))), (2, .long (acc + ((we i).toInt64))), (0, .ref (ad kt)), (1, .int set)]) hx hb dX5_weightIn_35 hl (k := 3) rfl (nI_1 i) (by decide) rfl (fun ls hl => ?_)
        refine lv_goto (tgt := 5) hx hb dX5_weightIn_38 (by decide) ?_
        exact ih5 (i + 1) (acc + ((we i).toInt64)) ls (by omega) (by omega) (by rw [ha]; exact su_i (f := fun c => (we c).toInt64) c_2) (lv_sub hl [2, 3, 1, 0] rfl)
set_option maxHeartbeats 4000000 in
set_option maxRecDepth 100000 in
theorem c_X5_weightSum (l : Launch) (D : va_G) (tc : Nat → ClassId) (sz : Nat) (ad : Nat → Nat) (ct : Nat → Option va_E) {ci kt kh kw N : Nat} {nb de : Int32} {pu : Int64} {we : Nat → Int32} (h0 : ct kt = some (.inr (ci, [.int nb, .ref (ad kh), .ref (ad kw), .long pu, .int de]))) (h2 : ct kw = some (eI tc N we)) (hci : ci = 5 ∨ ci = 7 ∨ ci = 9) (hN : N ≤ 8) : Met l yX5_weightSum wsX5_weightSum ({ frames := 0, cells := 0, slots := 0, locals := 0 }) (va_Pc [.ref (ad kt)] (kw_B D tc sz ad ct)) (k2_QcV (.long (su (fun c => (we c).toInt64) N))) 0 0 (fun _ => False) := by
  refine Met.ofW (cc := cX5_weightSum) (maxL := 7) (ret := (some .long)) (by decide) rfl ?_
  intro pg en s m args below meth cod s₁ B hml hv
  obtain ⟨rfl, hsz, hP0, hK⟩ := hv
  have hx := B.exec
  have hb := B.bytes
  have hr := B.returns
  have hts := atoms_spec (ws := wsX5_weightSum) B.pre
  have hown : s.vm.findClass RX5 = some m.cls := findClass_of_methodNamed B.named
  have hlocks := B.notSynchronized
  subst hsz
  have hw := kw_H.start hP0
  generalize kw_A ad ct s.heap.size = A at hw
  have hinX5 : ∀ w ∈ wsX50, w ∈ wsX5_weightSum := by decide +kernel
  have hinX7 : ∀ w ∈ wsX70, w ∈ wsX5_weightSum := by decide +kernel
  have hinX9 : ∀ w ∈ wsX90, w ∈ wsX5_weightSum := by decide +kernel
  have hl := lv_entry ([.ref (ad kt)]) (n := 7) (Nat.le_of_ble_eq_true rfl)
  rw [lg_entry_eq]
  generalize (lg_sl ([.ref (ad kt)]) ++ List.replicate (7 - (lg_sl ([.ref (ad kt)])).length) Slot.unset).toArray = ls at hl ⊢
  have hl : lv_has ls 7 [(0, .ref (ad kt))] := hl
  have S0 : CallFix pg m cod cX5_weightSum 7 s _ wsX5_weightSum RX5 := ⟨hx, hb, hml, hown, hts⟩
  refine lv_lconst (v := 0) hx hb dX5_weightSum_0 (by decide) ?_
  refine lv_lstore_n (lv' := [(1, .long 0), (0, .ref (ad kt))]) hx hb dX5_weightSum_1 rfl hl (by decide) rfl (fun ls hl => ?_)
  refine lv_aload_n hx hb dX5_weightSum_2 rfl (lv_at hl 1 rfl) ?_
  refine kg_getT (v := .ref (ad kw)) hx hb hts hinX5 hinX7 hinX9 hown hK hw hci h0 2 (by decide) (hts (.fieldLink RX5 23 "BetMaker$Plain" "weights" "[I") (by decide +kernel)) rfl dX5_weightSum_3 ?_
  refine lv_astore_n (lv' := [(3, .ref (ad kw)), (1, .long 0), (0, .ref (ad kt))]) hx hb dX5_weightSum_6 rfl hl (by decide) rfl (fun ls hl => ?_)
  refine lv_aload_n hx hb dX5_weightSum_7 rfl (lv_at hl 0 rfl) ?_
  refine kg_ilen hx hb hK hw h2 dX5_weightSum_8 ?_
  refine lv_istore (lv' := [(4, .int (nI N)), (3, .ref (ad kw)), (1, .long 0), (0, .ref (ad kt))]) hx hb dX5_weightSum_9 hl (by decide) rfl (fun ls hl => ?_)
  refine lv_iconst (v := 0) hx hb dX5_weightSum_11 (by decide) ?_
  refine lv_istore (lv' := [(5, .int 0), (4, .int (nI N)), (3, .ref (ad kw)), (1, .long 0), (0, .ref (ad kt))]) hx hb dX5_weightSum_12 hl (by decide) rfl (fun ls hl => ?_)
  suffices lp14 : ∀ (nfu : Nat) (i : Nat) (acc : Int64) (ls : Array Slot), N - i < nfu → i ≤ N → acc = su (fun c => (we c).toInt64) i → lv_has ls 7 [(0, .ref (ad kt)), (1, .long acc), (3, .ref (ad kw)), (4, .int (nI N)), (5, .int (nI i))] → W pg l en (headSpec wsX5_weightSum ({ frames := 0, cells := 0, slots := 0, locals := 0 })).room s m (([.ref (ad kt)] : List Value).toArray) below meth cod s.heap [] 0 0 (MQ below (k2_QcV (.long (su (fun c => (we c).toInt64) N))) (([.ref (ad kt)] : List Value).toArray) s 0 0 (fun _ => False)) (F0 m 14 ls []) by
    exact lp14 (N - 0 + 1) 0 0 ls (by omega) (by omega) (by rfl) (by have hl9 := lv_sub hl (l' := [(0, .ref (ad kt)), (1, .long 0), (3, .ref (ad kw)), (4, .int (nI N)), (5, .int 0)]) [4, 3, 2, 1, 0] rfl; exact hl9)
  intro n14
  induction n14 with
  | zero => intro i acc ls hfu; exact absurd hfu (Nat.not_lt_zero _)
  | succ n14 ih14 =>
    intro i acc ls hfu14 hi ha hl
    refine lv_iload hx hb dX5_weightSum_14 (lv_at hl 4 rfl) ?_
    refine lv_iload hx hb dX5_weightSum_16 (lv_at hl 3 rfl) ?_
    refine kn_ge i N rfl rfl (by omega) (by omega) (tgt := 39) hx hb dX5_weightSum_18 (by decide) (fun c_1 => ?_) (fun c_1 => ?_)
    · refine lv_lload_n hx hb dX5_weightSum_39 rfl (lv_at hl 1 rfl) ?_
      refine W.eq (congrArg (fun z => F0 m 40 ls [.long z]) (show acc = (su (fun c => (we c).toInt64) N) from by rw [ha, show i = N by omega])) ?_
      exact W.lret hx hb hr (fun t ht _ => ⟨rfl, ht⟩) (fun _ h => absurd h List.not_mem_nil) dX5_weightSum_40
    · refine lv_aload_n hx hb dX5_weightSum_21 rfl (lv_at hl 2 rfl) ?_
      refine lv_iload hx hb dX5_weightSum_22 (lv_at hl 4 rfl) ?_
      refine kg_iald hx hb hK hw h2 i rfl (by omega) (by omega) dX5_weightSum_24 ?_
      refine lv_istore (lv' := [(6, .int (we i)), (0, .ref (ad kt)), (1, .long acc), (3, .ref (ad kw)), (4, .int (nI N)), (5, .int (nI i))]) hx hb dX5_weightSum_25 hl (by decide) rfl (fun ls hl => ?_)
      refine lv_lload_n hx hb dX5_weightSum_27 rfl (lv_at hl 2 rfl) ?_
      refine lv_iload hx hb dX5_weightSum_28 (lv_at hl 0 rfl) ?_
      refine lv_i2l (v := (we i).toInt64) hx hb dX5_weightSum_30 rfl ?_
      refine lv_ladd hx hb dX5_weightSum_31 ?_
      refine lv_lstore_n (lv' := [(1, .long (acc + ((we i).toInt64))), (6, .int (we i)), (0, .ref (ad kt)), (3, .ref (ad kw)), (4, .int (nI N)), (5, .int (nI i))]) hx hb dX5_weightSum_32 rfl hl (by decide) rfl (fun ls hl => ?_)
      refine lv_iinc (v := (nI (i + 1))) (lv' := [(5, .int (nI (i + 1))), (1, .long (acc + ((we i).toInt64))), (6, .int (we i)), (0, .ref (ad kt)), (3, .ref (ad kw)), (4, .int (nI N))]) hx hb dX5_weightSum_33 hl (k := 5) rfl (nI_1 i) (by decide) rfl (fun ls hl => ?_)
      refine lv_goto (tgt := 14) hx hb dX5_weightSum_36 (by decide) ?_
      exact ih14 (i + 1) (acc + ((we i).toInt64)) ls (by omega) (by omega) (by rw [ha]; rfl) (lv_sub hl [3, 1, 4, 5, 0] rfl)
set_option maxHeartbeats 4000000 in
set_option maxRecDepth 100000 in
theorem c_X5_weigh (l : Launch) (D : va_G) (tc : Nat → ClassId) (sz : Nat) (ad : Nat → Nat) (ct : Nat → Option va_E) {ci kt kh kw N : Nat} {nb de : Int32} {pu : Int64} {we : Nat → Int32} {c : Nat} {v : Int32} (h0 : ct kt = some (.inr (ci, [.int nb, .ref (ad kh), .ref (ad kw), .long pu, .int de]))) (h2 : ct kw = some (eI tc N we)) (hci : ci = 5 ∨ ci = 7 ∨ ci = 9) (hc : c < N) (hN : N ≤ 8) : Met l yX5_weigh wsX5_weigh ({ frames := 0, cells := 0, slots := 0, locals := 0 }) (va_Pc [.ref (ad kt), .int (nI c), .int v] (kw_B D tc sz ad ct)) (kw_Q D ad (kw_A ad ct sz) (none) (kw_up ct kw (eI tc N (va_up we c v))) 0) 0 0 (kw_A ad ct sz) := by
  refine Met.ofW (cc := cX5_weigh) (maxL := 3) (ret := none) (by decide) rfl ?_
  intro pg en s m args below meth cod s₁ B hml hv
  obtain ⟨rfl, hsz, hP0, hK⟩ := hv
  have hx := B.exec
  have hb := B.bytes
  have hr := B.returns
  have hts := atoms_spec (ws := wsX5_weigh) B.pre
  have hown : s.vm.findClass RX5 = some m.cls := findClass_of_methodNamed B.named
  have hlocks := B.notSynchronized
  subst hsz
  have hw := kw_H.start hP0
  generalize hAe : kw_A ad ct s.heap.size = A at hw ⊢
  have hA : ∀ q, s.heap.size ≤ q → A q := fun q h => by rw [← hAe]; exact Or.inr h
  have hinX5 : ∀ w ∈ wsX50, w ∈ wsX5_weigh := by decide +kernel
  have hinX7 : ∀ w ∈ wsX70, w ∈ wsX5_weigh := by decide +kernel
  have hinX9 : ∀ w ∈ wsX90, w ∈ wsX5_weigh := by decide +kernel
  have hl := lv_entry ([.ref (ad kt), .int (nI c), .int v]) (n := 3) (Nat.le_of_ble_eq_true rfl)
  rw [lg_entry_eq]
  generalize (lg_sl ([.ref (ad kt), .int (nI c), .int v]) ++ List.replicate (3 - (lg_sl ([.ref (ad kt), .int (nI c), .int v])).length) Slot.unset).toArray = ls at hl ⊢
  have hl : lv_has ls 3 [(0, .ref (ad kt)), (1, .int (nI c)), (2, .int v)] := hl
  have S0 : CallFix pg m cod cX5_weigh 3 s _ wsX5_weigh RX5 := ⟨hx, hb, hml, hown, hts⟩
  have hfr : ∀ j, j ≠ kw → ct j = ct j := fun _ _ => rfl
  refine lv_iload_n hx hb dX5_weigh_0 rfl (lv_at hl 1 rfl) ?_
  refine lv_if_lt (tgt := 20) hx hb dX5_weigh_1 (by decide) (fun c_1 => ?_) (fun c_1 => ?_)
  · exact absurd c_1 (nI_pos (by omega))
  · refine lv_iload_n hx hb dX5_weigh_4 rfl (lv_at hl 1 rfl) ?_
    refine lv_aload_n hx hb dX5_weigh_5 rfl (lv_at hl 0 rfl) ?_
    refine kg_getT (v := .ref (ad kw)) hx hb hts hinX5 hinX7 hinX9 hown hK hw hci h0 2 (by decide) (hts (.fieldLink RX5 23 "BetMaker$Plain" "weights" "[I") (by decide +kernel)) rfl dX5_weigh_6 ?_
    refine kg_ilen hx hb hK hw h2 dX5_weigh_9 ?_
    refine kn_ge c N rfl rfl (by omega) (by omega) (tgt := 20) hx hb dX5_weigh_10 (by decide) (fun c_2 => ?_) (fun c_2 => ?_)
    · exfalso; omega
    · refine lv_aload_n hx hb dX5_weigh_13 rfl (lv_at hl 0 rfl) ?_
      refine kg_getT (v := .ref (ad kw)) hx hb hts hinX5 hinX7 hinX9 hown hK hw hci h0 2 (by decide) (hts (.fieldLink RX5 23 "BetMaker$Plain" "weights" "[I") (by decide +kernel)) rfl dX5_weigh_14 ?_
      refine lv_iload_n hx hb dX5_weigh_17 rfl (lv_at hl 1 rfl) ?_
      refine lv_iload_n hx hb dX5_weigh_18 rfl (lv_at hl 2 rfl) ?_
      refine kg_iast hx hb hK hw h2 c rfl (by omega) (by omega) dX5_weigh_19 (fun H locs hw => ?_)
      obtain ⟨ct_3, ect_3⟩ : ∃ z, z = kw_up ct kw (eI tc N (va_up we c v)) := ⟨_, rfl⟩
      rw [← ect_3] at hw
      have h_4 : ct_3 kt = some (.inr (ci, [.int nb, .ref (ad kh), .ref (ad kw), .long pu, .int de])) := by rw [ect_3, kw_up_n (kw_neK h0 h2 (by intro q; cases q))]; exact h0
      have h_5 : ct_3 kw = some (eI tc N (va_up we c v)) := by rw [ect_3]; exact kw_up_s
      have hfr_6 : ∀ j, j ≠ kw → ct_3 j = ct j := fun j a0 => by rw [ect_3]; exact (kw_up_n a0).trans (hfr j a0)
      have hq_7 := h_5
      have hend := kw_eq1 hq_7 hfr_6
      rw [hend] at hw
      exact W.vret hx hb hr (fun t ht _ => ⟨rfl, by rw [ht]; exact hw.1, hw.2.2.1, hw.2.1.F ht, by rw [ht]; exact hw.2.2.2⟩) hw.2.1.2.2 dX5_weigh_20
set_option maxHeartbeats 4000000 in
set_option maxRecDepth 100000 in
theorem c_X5_weighAll (l : Launch) (D : va_G) (tc : Nat → ClassId) (sz : Nat) (ad : Nat → Nat) (ct : Nat → Option va_E) {ci kt kh kw N : Nat} {nb de : Int32} {pu : Int64} {we : Nat → Int32} {kr : Nat} {tk : Nat → Int32} (h0 : ct kt = some (.inr (ci, [.int nb, .ref (ad kh), .ref (ad kw), .long pu, .int de]))) (h2 : ct kw = some (eI tc N we)) (h3 : ct kr = some (eI tc 8 tk)) (hci : ci = 5 ∨ ci = 7 ∨ ci = 9) (hN : N ≤ 8) (hne : kw ≠ kr) : Met l yX5_weighAll wsX5_weighAll ({ frames := 0, cells := 0, slots := 0, locals := 0 }) (va_Pc [.ref (ad kt), .ref (ad kr)] (kw_B D tc sz ad ct)) (kw_Q D ad (kw_A ad ct sz) (none) (kw_up ct kw (eI tc N (kCp we tk N))) 0) 0 0 (kw_A ad ct sz) := by
  refine Met.ofW (cc := cX5_weighAll) (maxL := 3) (ret := none) (by decide) rfl ?_
  intro pg en s m args below meth cod s₁ B hml hv
  obtain ⟨rfl, hsz, hP0, hK⟩ := hv
  have hx := B.exec
  have hb := B.bytes
  have hr := B.returns
  have hts := atoms_spec (ws := wsX5_weighAll) B.pre
  have hown : s.vm.findClass RX5 = some m.cls := findClass_of_methodNamed B.named
  have hlocks := B.notSynchronized
  subst hsz
  have hw := kw_H.start hP0
  generalize hAe : kw_A ad ct s.heap.size = A at hw ⊢
  have hA : ∀ q, s.heap.size ≤ q → A q := fun q h => by rw [← hAe]; exact Or.inr h
  have hinX5 : ∀ w ∈ wsX50, w ∈ wsX5_weighAll := by decide +kernel
  have hinX7 : ∀ w ∈ wsX70, w ∈ wsX5_weighAll := by decide +kernel
  have hinX9 : ∀ w ∈ wsX90, w ∈ wsX5_weighAll := by decide +kernel
  have hl := lv_entry ([.ref (ad kt), .ref (ad kr)]) (n := 3) (Nat.le_of_ble_eq_true rfl)
  rw [lg_entry_eq]
  generalize (lg_sl ([.ref (ad kt), .ref (ad kr)]) ++ List.replicate (3 - (lg_sl ([.ref (ad kt), .ref (ad kr)])).length) Slot.unset).toArray = ls at hl ⊢
  have hl : lv_has ls 3 [(0, .ref (ad kt)), (1, .ref (ad kr))] := hl
  have S0 : CallFix pg m cod cX5_weighAll 3 s _ wsX5_weighAll RX5 := ⟨hx, hb, hml, hown, hts⟩
  have hfr : ∀ j, j ≠ kw → ct j = ct j := fun _ _ => rfl
  refine lv_iconst (v := 0) hx hb dX5_weighAll_0 (by decide) ?_
  refine lv_istore_n (lv' := [(2, .int 0), (0, .ref (ad kt)), (1, .ref (ad kr))]) hx hb dX5_weighAll_1 rfl hl (by decide) rfl (fun ls hl => ?_)
  suffices lp2 : ∀ (nfu : Nat) (i : Nat) (g1 : Nat → Int32) (ctL2 : Nat → Option va_E) (H : Heap) (locs : List Loc) (ls : Array Slot), N - i < nfu → i ≤ N → g1 = kCp we tk i → ctL2 kt = some (.inr (ci, [.int nb, .ref (ad kh), .ref (ad kw), .long pu, .int de])) → ctL2 kw = some (eI tc N g1) → ctL2 kr = some (eI tc 8 tk) → (∀ j, j ≠ kw → ctL2 j = ct j) → kw_H D ad A s.heap ctL2 H locs s.heap.size → lv_has ls 3 [(0, .ref (ad kt)), (1, .ref (ad kr)), (2, .int (nI i))] → W pg l en (headSpec wsX5_weighAll ({ frames := 0, cells := 0, slots := 0, locals := 0 })).room s m (([.ref (ad kt), .ref (ad kr)] : List Value).toArray) below meth cod H locs 0 0 (MQ below (kw_Q D ad A (none) (kw_up ct kw (eI tc N (kCp we tk N))) 0) (([.ref (ad kt), .ref (ad kr)] : List Value).toArray) s 0 0 A) (F0 m 2 ls []) by
    exact lp2 (N - 0 + 1) 0 we _ _ _ ls (by omega) (by omega) (by exact kCp_0 we tk) h0 h2 h3 hfr hw (by have hl9 := lv_sub hl (l' := [(0, .ref (ad kt)), (1, .ref (ad kr)), (2, .int 0)]) [1, 2, 0] rfl; exact hl9)
  intro n2
  induction n2 with
  | zero => intro i g1 ctL2 H locs ls hfu; exact absurd hfu (Nat.not_lt_zero _)
  | succ n2 ih2 =>
    intro i g1 ctL2 H locs ls hfu2 hi hg h_1 h_2 h_3 hfr_4 hw hl
    refine lv_iload_n hx hb dX5_weighAll_2 rfl (lv_at hl 2 rfl) ?_
    refine lv_aload_n hx hb dX5_weighAll_3 rfl (lv_at hl 0 rfl) ?_
    refine kg_getT (v := .ref (ad kw)) hx hb hts hinX5 hinX7 hinX9 hown hK hw hci h_1 2 (by decide) (hts (.fieldLink RX5 23 "BetMaker$Plain" "weights" "[I") (by decide +kernel)) rfl dX5_weighAll_4 ?_
    refine kg_ilen hx hb hK hw h_2 dX5_weighAll_7 ?_
    refine kn_ge i N rfl rfl (by omega) (by omega) (tgt := 32) hx hb dX5_weighAll_8 (by decide) (fun c_5 => ?_) (fun c_5 => ?_)
    · have hq_6 : ctL2 kw = some (eI tc N (kCp we tk N)) := h_2.trans (congrArg some (show (eI tc N g1 : va_E) = eI tc N (kCp we tk N) from by rw [hg, show i = N by omega]))
      have hend := kw_eq1 hq_6 hfr_4
      rw [hend] at hw
      exact W.vret hx hb hr (fun t ht _ => ⟨rfl, by rw [ht]; exact hw.1, hw.2.2.1, hw.2.1.F ht, by rw [ht]; exact hw.2.2.2⟩) hw.2.1.2.2 dX5_weighAll_32
    · refine lv_iload_n hx hb dX5_weighAll_11 rfl (lv_at hl 2 rfl) ?_
      refine lv_aload_n hx hb dX5_weighAll_12 rfl (lv_at hl 1 rfl) ?_
      refine kg_ilen hx hb hK hw h_3 dX5_weighAll_13 ?_
      refine kn_ge i 8 rfl rfl (by omega) (by omega) (tgt := 32) hx hb dX5_weighAll_14 (by decide) (fun c_7 => ?_) (fun c_7 => ?_)
      · exfalso; omega
      · refine lv_aload_n hx hb dX5_weighAll_17 rfl (lv_at hl 0 rfl) ?_
        refine kg_getT (v := .ref (ad kw)) hx hb hts hinX5 hinX7 hinX9 hown hK hw hci h_1 2 (by decide) (hts (.fieldLink RX5 23 "BetMaker$Plain" "weights" "[I") (by decide +kernel)) rfl dX5_weighAll_18 ?_
        refine lv_iload_n hx hb dX5_weighAll_21 rfl (lv_at hl 2 rfl) ?_
        refine lv_aload_n hx hb dX5_weighAll_22 rfl (lv_at hl 1 rfl) ?_
        refine lv_iload_n hx hb dX5_weighAll_23 rfl (lv_at hl 2 rfl) ?_
        refine kg_iald hx hb hK hw h_3 i rfl (by omega) (by omega) dX5_weighAll_24 ?_
        refine kg_iast hx hb hK hw h_2 i rfl (by omega) (by omega) dX5_weighAll_25 (fun H locs hw => ?_)
        obtain ⟨ct_8, ect_8⟩ : ∃ z, z = kw_up ctL2 kw (eI tc N (va_up g1 i (tk i))) := ⟨_, rfl⟩
        rw [← ect_8] at hw
        have h_9 : ct_8 kt = some (.inr (ci, [.int nb, .ref (ad kh), .ref (ad kw), .long pu, .int de])) := by rw [ect_8, kw_up_n (kw_neK h_1 h_2 (by intro q; cases q))]; exact h_1
        have h_10 : ct_8 kr = some (eI tc 8 tk) := by rw [ect_8, kw_up_n (by omega)]; exact h_3
        have h_11 : ct_8 kw = some (eI tc N (va_up g1 i (tk i))) := by rw [ect_8]; exact kw_up_s
        have hfr_12 : ∀ j, j ≠ kw → ct_8 j = ct j := fun j a0 => by rw [ect_8]; exact (kw_up_n a0).trans (hfr_4 j a0)
        refine lv_iinc (v := (nI (i + 1))) (lv' := [(2, .int (nI (i + 1))), (0, .ref (ad kt)), (1, .ref (ad kr))]) hx hb dX5_weighAll_26 hl (k := 2) rfl (nI_1 i) (by decide) rfl (fun ls hl => ?_)
        refine lv_goto (tgt := 2) hx hb dX5_weighAll_29 (by decide) ?_
        exact ih2 (i + 1) (va_up g1 i (tk i)) _ _ _ ls (by omega) (by omega) (by rw [hg]; exact kCp_s we tk i) h_9 h_11 h_10 hfr_12 hw (lv_sub hl [1, 2, 0] rfl)
set_option maxHeartbeats 4000000 in
set_option maxRecDepth 100000 in
theorem c_X5_leastHeld (l : Launch) (D : va_G) (tc : Nat → ClassId) (sz : Nat) (ad : Nat → Nat) (ct : Nat → Option va_E) {ci kt kh kw N : Nat} {nb de : Int32} {pu : Int64} {ho : Nat → Int64} {set x : Int32} (h0 : ct kt = some (.inr (ci, [.int nb, .ref (ad kh), .ref (ad kw), .long pu, .int de]))) (h1 : ct kh = some (eJ tc N ho)) (hci : ci = 5 ∨ ci = 7 ∨ ci = 9) (hN : N ≤ 8) : Met l yX5_leastHeld wsX5_leastHeld ({ frames := 1, cells := 0, slots := 0, locals := 27 }) (va_Pc [.ref (ad kt), .int set, .int x] (kw_B D tc sz ad ct)) (k2_QcV (.long (kLst ho set x N))) 0 0 (fun _ => False) := by
  refine Met.ofW (cc := cX5_leastHeld) (maxL := 6) (ret := (some .long)) (by decide) rfl ?_
  intro pg en s m args below meth cod s₁ B hml hv
  obtain ⟨rfl, hsz, hP0, hK⟩ := hv
  have hx := B.exec
  have hb := B.bytes
  have hr := B.returns
  have hts := atoms_spec (ws := wsX5_leastHeld) B.pre
  have hown : s.vm.findClass RX5 = some m.cls := findClass_of_methodNamed B.named
  have hlocks := B.notSynchronized
  subst hsz
  have hw := kw_H.start hP0
  generalize kw_A ad ct s.heap.size = A at hw
  have hinX5 : ∀ w ∈ wsX50, w ∈ wsX5_leastHeld := by decide +kernel
  have hinX7 : ∀ w ∈ wsX70, w ∈ wsX5_leastHeld := by decide +kernel
  have hinX9 : ∀ w ∈ wsX90, w ∈ wsX5_leastHeld := by decide +kernel
  have hl := lv_entry ([.ref (ad kt), .int set, .int x]) (n := 6) (Nat.le_of_ble_eq_true rfl)
  rw [lg_entry_eq]
  generalize (lg_sl ([.ref (ad kt), .int set, .int x]) ++ List.replicate (6 - (lg_sl ([.ref (ad kt), .int set, .int x])).length) Slot.unset).toArray = ls at hl ⊢
  have hl : lv_has ls 6 [(0, .ref (ad kt)), (1, .int set), (2, .int x)] := hl
  have S0 : CallFix pg m cod cX5_leastHeld 6 s _ wsX5_leastHeld RX5 := ⟨hx, hb, hml, hown, hts⟩
  refine lv_ldc2 (v := 9223372036854775807) hx hb hown (hts (.constantLong RX5 42 (9223372036854775807)) (by decide +kernel)) dX5_leastHeld_0 ?_
  refine lv_lstore_n (lv' := [(3, .long 9223372036854775807), (0, .ref (ad kt)), (1, .int set), (2, .int x)]) hx hb dX5_leastHeld_3 rfl hl (by decide) rfl (fun ls hl => ?_)
  refine lv_iconst (v := 0) hx hb dX5_leastHeld_4 (by decide) ?_
  refine lv_istore (lv' := [(5, .int 0), (3, .long 9223372036854775807), (0, .ref (ad kt)), (1, .int set), (2, .int x)]) hx hb dX5_leastHeld_5 hl (by decide) rfl (fun ls hl => ?_)
  suffices lp7 : ∀ (nfu : Nat) (i : Nat) (acc : Int64) (ls : Array Slot), N - i < nfu → i ≤ N → acc = kLst ho set x i → lv_has ls 6 [(0, .ref (ad kt)), (1, .int set), (2, .int x), (3, .long acc), (5, .int (nI i))] → W pg l en (headSpec wsX5_leastHeld ({ frames := 1, cells := 0, slots := 0, locals := 27 })).room s m (([.ref (ad kt), .int set, .int x] : List Value).toArray) below meth cod s.heap [] 0 0 (MQ below (k2_QcV (.long (kLst ho set x N))) (([.ref (ad kt), .int set, .int x] : List Value).toArray) s 0 0 (fun _ => False)) (F0 m 7 ls []) by
    exact lp7 (N - 0 + 1) 0 9223372036854775807 ls (by omega) (by omega) (by rfl) (by have hl9 := lv_sub hl (l' := [(0, .ref (ad kt)), (1, .int set), (2, .int x), (3, .long 9223372036854775807), (5, .int 0)]) [2, 3, 4, 1, 0] rfl; exact hl9)
  intro n7
  induction n7 with
  | zero => intro i acc ls hfu; exact absurd hfu (Nat.not_lt_zero _)
  | succ n7 ih7 =>
    intro i acc ls hfu7 hi ha hl
    refine lv_iload hx hb dX5_leastHeld_7 (lv_at hl 4 rfl) ?_
    refine lv_aload_n hx hb dX5_leastHeld_9 rfl (lv_at hl 0 rfl) ?_
    refine kg_getT (v := .ref (ad kh)) hx hb hts hinX5 hinX7 hinX9 hown hK hw hci h0 1 (by decide) (hts (.fieldLink RX5 19 "BetMaker$Plain" "holds" "[J") (by decide +kernel)) rfl dX5_leastHeld_10 ?_
    refine kg_llen hx hb hK hw h1 dX5_leastHeld_13 ?_
    refine kn_ge i N rfl rfl (by omega) (by omega) (tgt := 51) hx hb dX5_leastHeld_14 (by decide) (fun c_1 => ?_) (fun c_1 => ?_)
    · refine lv_lload_n hx hb dX5_leastHeld_51 rfl (lv_at hl 3 rfl) ?_
      refine W.eq (congrArg (fun z => F0 m 52 ls [.long z]) (show acc = (kLst ho set x N) from by rw [ha, show i = N by omega])) ?_
      exact W.lret hx hb hr (fun t ht _ => ⟨rfl, ht⟩) (fun _ h => absurd h List.not_mem_nil) dX5_leastHeld_52
    · refine lv_lload_n hx hb dX5_leastHeld_17 rfl (lv_at hl 3 rfl) ?_
      refine lv_aload_n hx hb dX5_leastHeld_18 rfl (lv_at hl 0 rfl) ?_
      refine kg_getT (v := .ref (ad kh)) hx hb hts hinX5 hinX7 hinX9 hown hK hw hci h0 1 (by decide) (hts (.fieldLink RX5 19 "BetMaker$Plain" "holds" "[J") (by decide +kernel)) rfl dX5_leastHeld_19 ?_
      refine lv_iload hx hb dX5_leastHeld_22 (lv_at hl 4 rfl) ?_
      refine kg_lald hx hb hK hw h1 i rfl (by omega) (by omega) dX5_leastHeld_24 ?_
      refine lv_iload_n hx hb dX5_leastHeld_25 rfl (lv_at hl 1 rfl) ?_
      refine lv_iload hx hb dX5_leastHeld_26 (lv_at hl 4 rfl) ?_
      refine kc_sn (As := [.int set, .int (nI i)]) (rest := [.long (ho i), .long acc]) S0 (c_X10_isIn l D tc s.heap.size ad ct (c := i) ) ⟨va_cnB 2 hts gX5_leastHeld_X10_isIn_n36 rfl rfl rfl hK.2.2.2.1 (hts (.initialized RX10) (by decide +kernel)) (by decide +kernel) ⟨Nat.le_of_ble_eq_true rfl, Nat.le_of_ble_eq_true rfl⟩, hts (.static yX10_isIn) (by decide +kernel), trivial⟩ hK hw rfl hl.1 rfl (Nat.le_of_ble_eq_true rfl) dX5_leastHeld_28 ⟨Nat.le_of_ble_eq_true rfl, (Nat.le_of_ble_eq_true rfl)⟩ ?_
      refine kb_ifeq (tgt := 38) hx hb dX5_leastHeld_31 (by decide) (fun c_2 => ?_) (fun c_2 => ?_)
      · refine lv_iconst (v := 0) hx hb dX5_leastHeld_38 (by decide) ?_
        refine lv_i2l (v := (0 : Int32).toInt64) hx hb dX5_leastHeld_39 rfl ?_
        refine lv_ladd hx hb dX5_leastHeld_40 ?_
        refine va_mmin_long hx hb (by rw [hml]; exact hl.1.symm) hown (hts (.methodLink RX5 44 Lib.MathLoose.min_long.x) (by decide +kernel)) (hts (.static Lib.MathLoose.min_long.x) (by decide +kernel)) (hts (.initialized "java/lang/Math") (by decide +kernel)) (hts (.code Lib.MathLoose.min_long.x Lib.MathLoose.min_long.code 4 (some .long)) (by decide +kernel)) (Nat.le_of_ble_eq_true rfl) (Nat.le_of_ble_eq_true rfl) (Nat.le_of_ble_eq_true rfl) (Nat.le_of_ble_eq_true rfl) dX5_leastHeld_41 ?_
        refine lv_lstore_n (lv' := [(3, .long (if ((ho i) + ((0 : Int32).toInt64)) < acc then ((ho i) + ((0 : Int32).toInt64)) else acc)), (0, .ref (ad kt)), (1, .int set), (2, .int x), (5, .int (nI i))]) hx hb dX5_leastHeld_44 rfl hl (by decide) rfl (fun ls hl => ?_)
        refine lv_iinc (v := (nI (i + 1))) (lv' := [(5, .int (nI (i + 1))), (3, .long (if ((ho i) + ((0 : Int32).toInt64)) < acc then ((ho i) + ((0 : Int32).toInt64)) else acc)), (0, .ref (ad kt)), (1, .int set), (2, .int x)]) hx hb dX5_leastHeld_45 hl (k := 4) rfl (nI_1 i) (by decide) rfl (fun ls hl => ?_)
        refine lv_goto (tgt := 7) hx hb dX5_leastHeld_48 (by decide) ?_
        exact ih7 (i + 1) (if ((ho i) + ((0 : Int32).toInt64)) < acc then ((ho i) + ((0 : Int32).toInt64)) else acc) ls (by omega) (by omega) (by rw [ha]; exact kLst_s (if_neg c_2)) (lv_sub hl [2, 3, 4, 1, 0] rfl)
      · refine lv_iload_n hx hb dX5_leastHeld_34 rfl (lv_at hl 2 rfl) ?_
        refine lv_goto (tgt := 39) hx hb dX5_leastHeld_35 (by decide) ?_
        refine lv_i2l (v := x.toInt64) hx hb dX5_leastHeld_39 rfl ?_
        refine lv_ladd hx hb dX5_leastHeld_40 ?_
        refine va_mmin_long hx hb (by rw [hml]; exact hl.1.symm) hown (hts (.methodLink RX5 44 Lib.MathLoose.min_long.x) (by decide +kernel)) (hts (.static Lib.MathLoose.min_long.x) (by decide +kernel)) (hts (.initialized "java/lang/Math") (by decide +kernel)) (hts (.code Lib.MathLoose.min_long.x Lib.MathLoose.min_long.code 4 (some .long)) (by decide +kernel)) (Nat.le_of_ble_eq_true rfl) (Nat.le_of_ble_eq_true rfl) (Nat.le_of_ble_eq_true rfl) (Nat.le_of_ble_eq_true rfl) dX5_leastHeld_41 ?_
        refine lv_lstore_n (lv' := [(3, .long (if ((ho i) + x.toInt64) < acc then ((ho i) + x.toInt64) else acc)), (0, .ref (ad kt)), (1, .int set), (2, .int x), (5, .int (nI i))]) hx hb dX5_leastHeld_44 rfl hl (by decide) rfl (fun ls hl => ?_)
        refine lv_iinc (v := (nI (i + 1))) (lv' := [(5, .int (nI (i + 1))), (3, .long (if ((ho i) + x.toInt64) < acc then ((ho i) + x.toInt64) else acc)), (0, .ref (ad kt)), (1, .int set), (2, .int x)]) hx hb dX5_leastHeld_45 hl (k := 4) rfl (nI_1 i) (by decide) rfl (fun ls hl => ?_)
        refine lv_goto (tgt := 7) hx hb dX5_leastHeld_48 (by decide) ?_
        exact ih7 (i + 1) (if ((ho i) + x.toInt64) < acc then ((ho i) + x.toInt64) else acc) ls (by omega) (by omega) (by rw [ha]; exact kLst_s (if_pos c_2)) (lv_sub hl [2, 3, 4, 1, 0] rfl)
set_option maxHeartbeats 4000000 in
set_option maxRecDepth 100000 in
theorem c_X5_buy (l : Launch) (D : va_G) (tc : Nat → ClassId) (sz : Nat) (ad : Nat → Nat) (ct : Nat → Option va_E) {ci kt kh kw N : Nat} {nb de : Int32} {pu : Int64} {ho : Nat → Int64} {set x : Int32} {pays : Int64} (h0 : ct kt = some (.inr (ci, [.int nb, .ref (ad kh), .ref (ad kw), .long pu, .int de]))) (h1 : ct kh = some (eJ tc N ho)) (hci : ci = 5 ∨ ci = 7 ∨ ci = 9) (hN : N ≤ 8) : Met l yX5_buy wsX5_buy ({ frames := 1, cells := 0, slots := 0, locals := 25 }) (va_Pc [.ref (ad kt), .int set, .int x, .long pays] (kw_B D tc sz ad ct)) (kw_Q D ad (kw_A ad ct sz) (none) (kw_up (kw_up ct kt (.inr (ci, [.int nb, .ref (ad kh), .ref (ad kw), .long (pu - pays), .int (de + 1)]))) kh (eJ tc N (kAd ho set x.toInt64 N))) 0) 0 0 (kw_A ad ct sz) := by
  refine Met.ofW (cc := cX5_buy) (maxL := 6) (ret := none) (by decide) rfl ?_
  intro pg en s m args below meth cod s₁ B hml hv
  obtain ⟨rfl, hsz, hP0, hK⟩ := hv
  have hx := B.exec
  have hb := B.bytes
  have hr := B.returns
  have hts := atoms_spec (ws := wsX5_buy) B.pre
  have hown : s.vm.findClass RX5 = some m.cls := findClass_of_methodNamed B.named
  have hlocks := B.notSynchronized
  subst hsz
  have hw := kw_H.start hP0
  generalize hAe : kw_A ad ct s.heap.size = A at hw ⊢
  have hA : ∀ q, s.heap.size ≤ q → A q := fun q h => by rw [← hAe]; exact Or.inr h
  have hinX5 : ∀ w ∈ wsX50, w ∈ wsX5_buy := by decide +kernel
  have hinX7 : ∀ w ∈ wsX70, w ∈ wsX5_buy := by decide +kernel
  have hinX9 : ∀ w ∈ wsX90, w ∈ wsX5_buy := by decide +kernel
  have hl := lv_entry ([.ref (ad kt), .int set, .int x, .long pays]) (n := 6) (Nat.le_of_ble_eq_true rfl)
  rw [lg_entry_eq]
  generalize (lg_sl ([.ref (ad kt), .int set, .int x, .long pays]) ++ List.replicate (6 - (lg_sl ([.ref (ad kt), .int set, .int x, .long pays])).length) Slot.unset).toArray = ls at hl ⊢
  have hl : lv_has ls 6 [(0, .ref (ad kt)), (1, .int set), (2, .int x), (3, .long pays)] := hl
  have S0 : CallFix pg m cod cX5_buy 6 s _ wsX5_buy RX5 := ⟨hx, hb, hml, hown, hts⟩
  have hfr : ∀ j, j ≠ kt → j ≠ kh → ct j = ct j := fun _ _ _ => rfl
  refine lv_iconst (v := 0) hx hb dX5_buy_0 (by decide) ?_
  refine lv_istore (lv' := [(5, .int 0), (0, .ref (ad kt)), (1, .int set), (2, .int x), (3, .long pays)]) hx hb dX5_buy_1 hl (by decide) rfl (fun ls hl => ?_)
  suffices lp3 : ∀ (nfu : Nat) (i : Nat) (g1 : Nat → Int64) (ctL3 : Nat → Option va_E) (H : Heap) (locs : List Loc) (ls : Array Slot), N - i < nfu → i ≤ N → g1 = kAd ho set x.toInt64 i → ctL3 kt = some (.inr (ci, [.int nb, .ref (ad kh), .ref (ad kw), .long pu, .int de])) → ctL3 kh = some (eJ tc N g1) → (∀ j, j ≠ kt → j ≠ kh → ctL3 j = ct j) → kw_H D ad A s.heap ctL3 H locs s.heap.size → lv_has ls 6 [(0, .ref (ad kt)), (1, .int set), (2, .int x), (3, .long pays), (5, .int (nI i))] → W pg l en (headSpec wsX5_buy ({ frames := 1, cells := 0, slots := 0, locals := 25 })).room s m (([.ref (ad kt), .int set, .int x, .long pays] : List Value).toArray) below meth cod H locs 0 0 (MQ below (kw_Q D ad A (none) (kw_up (kw_up ct kt (.inr (ci, [.int nb, .ref (ad kh), .ref (ad kw), .long (pu - pays), .int (de + 1)]))) kh (eJ tc N (kAd ho set x.toInt64 N))) 0) (([.ref (ad kt), .int set, .int x, .long pays] : List Value).toArray) s 0 0 A) (F0 m 3 ls []) by
    exact lp3 (N - 0 + 1) 0 ho _ _ _ ls (by omega) (by omega) (by exact kAd_0 ho set _) h0 h1 hfr hw (by have hl9 := lv_sub hl (l' := [(0, .ref (ad kt)), (1, .int set), (2, .int x), (3, .long pays), (5, .int 0)]) [1, 2, 3, 4, 0] rfl; exact hl9)
  intro n3
  induction n3 with
  | zero => intro i g1 ctL3 H locs ls hfu; exact absurd hfu (Nat.not_lt_zero _)
  | succ n3 ih3 =>
    intro i g1 ctL3 H locs ls hfu3 hi hg h_1 h_2 hfr_3 hw hl
    refine lv_iload hx hb dX5_buy_3 (lv_at hl 4 rfl) ?_
    refine lv_aload_n hx hb dX5_buy_5 rfl (lv_at hl 0 rfl) ?_
    refine kg_getT (v := .ref (ad kh)) hx hb hts hinX5 hinX7 hinX9 hown hK hw hci h_1 1 (by decide) (hts (.fieldLink RX5 19 "BetMaker$Plain" "holds" "[J") (by decide +kernel)) rfl dX5_buy_6 ?_
    refine kg_llen hx hb hK hw h_2 dX5_buy_9 ?_
    refine kn_ge i N rfl rfl (by omega) (by omega) (tgt := 40) hx hb dX5_buy_10 (by decide) (fun c_4 => ?_) (fun c_4 => ?_)
    · refine lv_aload_n hx hb dX5_buy_40 rfl (lv_at hl 0 rfl) ?_
      refine lv_dup hx hb dX5_buy_41 rfl ?_
      refine kg_getT (v := .long pu) hx hb hts hinX5 hinX7 hinX9 hown hK hw hci h_1 3 (by decide) (hts (.fieldLink RX5 15 "BetMaker$Plain" "purse" "J") (by decide +kernel)) rfl dX5_buy_42 ?_
      refine lv_lload_n hx hb dX5_buy_45 rfl (lv_at hl 3 rfl) ?_
      refine lv_lsub hx hb dX5_buy_46 ?_
      refine kg_putT (v := .long (pu - pays)) (ty := .long) (fs' := [.int nb, .ref (ad kh), .ref (ad kw), .long (pu - pays), .int de]) hx hb hts hinX5 hinX7 hinX9 hown hK hw hci h_1 3 (by decide) (hts (.fieldLink RX5 15 "BetMaker$Plain" "purse" "J") (by decide +kernel)) rfl (by decide +kernel) rfl rfl (Nat.le_of_ble_eq_true rfl) rfl dX5_buy_47 (fun H locs hw => ?_)
      obtain ⟨ct_5, ect_5⟩ : ∃ z, z = kw_up ctL3 kt (.inr (ci, [.int nb, .ref (ad kh), .ref (ad kw), .long (pu - pays), .int de])) := ⟨_, rfl⟩
      rw [← ect_5] at hw
      have h_6 : ct_5 kh = some (eJ tc N g1) := by rw [ect_5, kw_up_n (kw_neK h_2 h_1 (by intro q; cases q))]; exact h_2
      have h_7 : ct_5 kt = some (.inr (ci, [.int nb, .ref (ad kh), .ref (ad kw), .long (pu - pays), .int de])) := by rw [ect_5]; exact kw_up_s
      have hfr_8 : ∀ j, j ≠ kt → j ≠ kh → ct_5 j = ct j := fun j a0 a1 => by rw [ect_5]; exact (kw_up_n a0).trans (hfr_3 j a0 a1)
      refine lv_aload_n hx hb dX5_buy_50 rfl (lv_at hl 0 rfl) ?_
      refine lv_dup hx hb dX5_buy_51 rfl ?_
      refine kg_getT (v := .int de) hx hb hts hinX5 hinX7 hinX9 hown hK hw hci h_7 4 (by decide) (hts (.fieldLink RX5 33 "BetMaker$Plain" "deals" "I") (by decide +kernel)) rfl dX5_buy_52 ?_
      refine lv_iconst (v := 1) hx hb dX5_buy_55 (by decide) ?_
      refine lv_iadd hx hb dX5_buy_56 ?_
      refine kg_putT (v := .int (de + 1)) (ty := .int) (fs' := [.int nb, .ref (ad kh), .ref (ad kw), .long (pu - pays), .int (de + 1)]) hx hb hts hinX5 hinX7 hinX9 hown hK hw hci h_7 4 (by decide) (hts (.fieldLink RX5 33 "BetMaker$Plain" "deals" "I") (by decide +kernel)) rfl (by decide +kernel) rfl rfl (Nat.le_of_ble_eq_true rfl) rfl dX5_buy_57 (fun H locs hw => ?_)
      obtain ⟨ct_9, ect_9⟩ : ∃ z, z = kw_up ct_5 kt (.inr (ci, [.int nb, .ref (ad kh), .ref (ad kw), .long (pu - pays), .int (de + 1)])) := ⟨_, rfl⟩
      rw [← ect_9] at hw
      have h_10 : ct_9 kh = some (eJ tc N g1) := by rw [ect_9, kw_up_n (kw_neK h_6 h_7 (by intro q; cases q))]; exact h_6
      have h_11 : ct_9 kt = some (.inr (ci, [.int nb, .ref (ad kh), .ref (ad kw), .long (pu - pays), .int (de + 1)])) := by rw [ect_9]; exact kw_up_s
      have hfr_12 : ∀ j, j ≠ kt → j ≠ kh → ct_9 j = ct j := fun j a0 a1 => by rw [ect_9]; exact (kw_up_n a0).trans (hfr_8 j a0 a1)
      have hq_13 := h_11
      have hq_14 : ct_9 kh = some (eJ tc N (kAd ho set x.toInt64 N)) := h_10.trans (congrArg some (show (eJ tc N g1 : va_E) = eJ tc N (kAd ho set x.toInt64 N) from by rw [hg, show i = N by omega]))
      have hend := kw_eq2 hq_13 hq_14 hfr_12
      rw [hend] at hw
      exact W.vret hx hb hr (fun t ht _ => ⟨rfl, by rw [ht]; exact hw.1, hw.2.2.1, hw.2.1.F ht, by rw [ht]; exact hw.2.2.2⟩) hw.2.1.2.2 dX5_buy_60
    · refine lv_iload_n hx hb dX5_buy_13 rfl (lv_at hl 1 rfl) ?_
      refine lv_iload hx hb dX5_buy_14 (lv_at hl 4 rfl) ?_
      refine kc_sn (As := [.int set, .int (nI i)]) (rest := []) S0 (c_X10_isIn l D tc s.heap.size ad ctL3 (c := i) ) ⟨va_cnB 2 hts gX5_buy_X10_isIn_n36 rfl rfl rfl hK.2.2.2.1 (hts (.initialized RX10) (by decide +kernel)) (by decide +kernel) ⟨Nat.le_of_ble_eq_true rfl, Nat.le_of_ble_eq_true rfl⟩, hts (.static yX10_isIn) (by decide +kernel), trivial⟩ hK hw rfl hl.1 rfl (Nat.le_of_ble_eq_true rfl) dX5_buy_16 ⟨Nat.le_of_ble_eq_true rfl, (Nat.le_of_ble_eq_true rfl)⟩ ?_
      refine kb_ifeq (tgt := 34) hx hb dX5_buy_19 (by decide) (fun c_15 => ?_) (fun c_15 => ?_)
      · refine lv_iinc (v := (nI (i + 1))) (lv' := [(5, .int (nI (i + 1))), (0, .ref (ad kt)), (1, .int set), (2, .int x), (3, .long pays)]) hx hb dX5_buy_34 hl (k := 4) rfl (nI_1 i) (by decide) rfl (fun ls hl => ?_)
        refine lv_goto (tgt := 3) hx hb dX5_buy_37 (by decide) ?_
        exact ih3 (i + 1) g1 _ _ _ ls (by omega) (by omega) (by rw [hg]; exact kAd_o c_15) h_1 h_2 hfr_3 hw (lv_sub hl [1, 2, 3, 4, 0] rfl)
      · refine lv_aload_n hx hb dX5_buy_22 rfl (lv_at hl 0 rfl) ?_
        refine kg_getT (v := .ref (ad kh)) hx hb hts hinX5 hinX7 hinX9 hown hK hw hci h_1 1 (by decide) (hts (.fieldLink RX5 19 "BetMaker$Plain" "holds" "[J") (by decide +kernel)) rfl dX5_buy_23 ?_
        refine lv_iload hx hb dX5_buy_26 (lv_at hl 4 rfl) ?_
        refine lv_dup2_11 hx hb dX5_buy_28 rfl rfl ?_
        refine kg_lald hx hb hK hw h_2 i rfl (by omega) (by omega) dX5_buy_29 ?_
        refine lv_iload_n hx hb dX5_buy_30 rfl (lv_at hl 2 rfl) ?_
        refine lv_i2l (v := x.toInt64) hx hb dX5_buy_31 rfl ?_
        refine lv_ladd hx hb dX5_buy_32 ?_
        refine kg_last hx hb hK hw h_2 i rfl (by omega) (by omega) dX5_buy_33 (fun H locs hw => ?_)
        obtain ⟨ct_16, ect_16⟩ : ∃ z, z = kw_up ctL3 kh (eJ tc N (va_up g1 i ((g1 i) + x.toInt64))) := ⟨_, rfl⟩
        rw [← ect_16] at hw
        have h_17 : ct_16 kt = some (.inr (ci, [.int nb, .ref (ad kh), .ref (ad kw), .long pu, .int de])) := by rw [ect_16, kw_up_n (kw_neK h_1 h_2 (by intro q; cases q))]; exact h_1
        have h_18 : ct_16 kh = some (eJ tc N (va_up g1 i ((g1 i) + x.toInt64))) := by rw [ect_16]; exact kw_up_s
        have hfr_19 : ∀ j, j ≠ kt → j ≠ kh → ct_16 j = ct j := fun j a0 a1 => by rw [ect_16]; exact (kw_up_n a1).trans (hfr_3 j a0 a1)
        refine lv_iinc (v := (nI (i + 1))) (lv' := [(5, .int (nI (i + 1))), (0, .ref (ad kt)), (1, .int set), (2, .int x), (3, .long pays)]) hx hb dX5_buy_34 hl (k := 4) rfl (nI_1 i) (by decide) rfl (fun ls hl => ?_)
        refine lv_goto (tgt := 3) hx hb dX5_buy_37 (by decide) ?_
        exact ih3 (i + 1) (va_up g1 i ((g1 i) + x.toInt64)) _ _ _ ls (by omega) (by omega) (by rw [hg]; exact kAd_i c_15) h_17 h_18 hfr_19 hw (lv_sub hl [1, 2, 3, 4, 0] rfl)
set_option maxHeartbeats 4000000 in
set_option maxRecDepth 100000 in
theorem c_X5_settle (l : Launch) (D : va_G) (tc : Nat → ClassId) (sz : Nat) (ad : Nat → Nat) (ct : Nat → Option va_E) {ci kt kh kw N : Nat} {nb de : Int32} {pu : Int64} {ho : Nat → Int64} {c : Nat} {un : Int64} (h0 : ct kt = some (.inr (ci, [.int nb, .ref (ad kh), .ref (ad kw), .long pu, .int de]))) (h1 : ct kh = some (eJ tc N ho)) (hci : ci = 5 ∨ ci = 7 ∨ ci = 9) (hc : c < N) (hN : N ≤ 8) : Met l yX5_settle wsX5_settle ({ frames := 1, cells := 0, slots := 0, locals := 28 }) (va_Pc [.ref (ad kt), .int (nI c), .long un] (kw_B D tc sz ad ct)) (kw_Q D ad (kw_A ad ct sz) (some (.long (un * ho c))) (kw_up (kw_up ct kt (.inr (ci, [.int nb, .ref (ad kh), .ref (ad kw), .long (pu + un * ho c), .int de]))) kh (eJ tc N (kFl ho 0 N))) 0) 0 0 (kw_A ad ct sz) := by
  refine Met.ofW (cc := cX5_settle) (maxL := 6) (ret := (some .long)) (by decide) rfl ?_
  intro pg en s m args below meth cod s₁ B hml hv
  obtain ⟨rfl, hsz, hP0, hK⟩ := hv
  have hx := B.exec
  have hb := B.bytes
  have hr := B.returns
  have hts := atoms_spec (ws := wsX5_settle) B.pre
  have hown : s.vm.findClass RX5 = some m.cls := findClass_of_methodNamed B.named
  have hlocks := B.notSynchronized
  subst hsz
  have hw := kw_H.start hP0
  generalize hAe : kw_A ad ct s.heap.size = A at hw ⊢
  have hA : ∀ q, s.heap.size ≤ q → A q := fun q h => by rw [← hAe]; exact Or.inr h
  have hinX5 : ∀ w ∈ wsX50, w ∈ wsX5_settle := by decide +kernel
  have hinX7 : ∀ w ∈ wsX70, w ∈ wsX5_settle := by decide +kernel
  have hinX9 : ∀ w ∈ wsX90, w ∈ wsX5_settle := by decide +kernel
  have hl := lv_entry ([.ref (ad kt), .int (nI c), .long un]) (n := 6) (Nat.le_of_ble_eq_true rfl)
  rw [lg_entry_eq]
  generalize (lg_sl ([.ref (ad kt), .int (nI c), .long un]) ++ List.replicate (6 - (lg_sl ([.ref (ad kt), .int (nI c), .long un])).length) Slot.unset).toArray = ls at hl ⊢
  have hl : lv_has ls 6 [(0, .ref (ad kt)), (1, .int (nI c)), (2, .long un)] := hl
  have S0 : CallFix pg m cod cX5_settle 6 s _ wsX5_settle RX5 := ⟨hx, hb, hml, hown, hts⟩
  have hfr : ∀ j, j ≠ kt → j ≠ kh → ct j = ct j := fun _ _ _ => rfl
  refine lv_lload_n hx hb dX5_settle_0 rfl (lv_at hl 2 rfl) ?_
  refine lv_aload_n hx hb dX5_settle_1 rfl (lv_at hl 0 rfl) ?_
  refine lv_iload_n hx hb dX5_settle_2 rfl (lv_at hl 1 rfl) ?_
  refine kt_v (As := [.int (nI c)]) (rest := [.long un]) S0 hci (c_X5_heldOf l D tc s.heap.size ad ct (c := c) h0 h1 hci (by omega) (by omega)) (cwV 1 hts gX5_settle_X5_heldOf rfl rfl rfl (by decide +kernel) ⟨Nat.le_of_ble_eq_true rfl, Nat.le_of_ble_eq_true rfl⟩) (va_cwU 1 hts gX5_settle_X5_heldOf_u50X7 rfl rfl rfl rfl (by decide +kernel) ⟨Nat.le_of_ble_eq_true rfl, Nat.le_of_ble_eq_true rfl⟩) (va_cwU 1 hts gX5_settle_X5_heldOf_u50X9 rfl rfl rfl rfl (by decide +kernel) ⟨Nat.le_of_ble_eq_true rfl, Nat.le_of_ble_eq_true rfl⟩) hK hw h0 rfl hl.1 rfl (Nat.le_of_ble_eq_true rfl) dX5_settle_3 ⟨Nat.le_of_ble_eq_true rfl, (Nat.le_of_ble_eq_true rfl)⟩ ?_
  refine lv_lmul hx hb dX5_settle_6 ?_
  refine lv_lstore (lv' := [(4, .long (un * (ho c))), (0, .ref (ad kt)), (1, .int (nI c)), (2, .long un)]) hx hb dX5_settle_7 hl (by decide) rfl (fun ls hl => ?_)
  refine lv_aload_n hx hb dX5_settle_9 rfl (lv_at hl 1 rfl) ?_
  refine lv_dup hx hb dX5_settle_10 rfl ?_
  refine kg_getT (v := .long pu) hx hb hts hinX5 hinX7 hinX9 hown hK hw hci h0 3 (by decide) (hts (.fieldLink RX5 15 "BetMaker$Plain" "purse" "J") (by decide +kernel)) rfl dX5_settle_11 ?_
  refine lv_lload hx hb dX5_settle_14 (lv_at hl 0 rfl) ?_
  refine lv_ladd hx hb dX5_settle_16 ?_
  refine kg_putT (v := .long (pu + (un * (ho c)))) (ty := .long) (fs' := [.int nb, .ref (ad kh), .ref (ad kw), .long (pu + (un * (ho c))), .int de]) hx hb hts hinX5 hinX7 hinX9 hown hK hw hci h0 3 (by decide) (hts (.fieldLink RX5 15 "BetMaker$Plain" "purse" "J") (by decide +kernel)) rfl (by decide +kernel) rfl rfl (Nat.le_of_ble_eq_true rfl) rfl dX5_settle_17 (fun H locs hw => ?_)
  obtain ⟨ct_1, ect_1⟩ : ∃ z, z = kw_up ct kt (.inr (ci, [.int nb, .ref (ad kh), .ref (ad kw), .long (pu + (un * (ho c))), .int de])) := ⟨_, rfl⟩
  rw [← ect_1] at hw
  have h_2 : ct_1 kh = some (eJ tc N ho) := by rw [ect_1, kw_up_n (kw_neK h1 h0 (by intro q; cases q))]; exact h1
  have h_3 : ct_1 kt = some (.inr (ci, [.int nb, .ref (ad kh), .ref (ad kw), .long (pu + (un * (ho c))), .int de])) := by rw [ect_1]; exact kw_up_s
  have hfr_4 : ∀ j, j ≠ kt → j ≠ kh → ct_1 j = ct j := fun j a0 a1 => by rw [ect_1]; exact (kw_up_n a0).trans (hfr j a0 a1)
  refine lv_aload_n hx hb dX5_settle_20 rfl (lv_at hl 1 rfl) ?_
  refine kg_getT (v := .ref (ad kh)) hx hb hts hinX5 hinX7 hinX9 hown hK hw hci h_3 1 (by decide) (hts (.fieldLink RX5 19 "BetMaker$Plain" "holds" "[J") (by decide +kernel)) rfl dX5_settle_21 ?_
  refine lv_lconst (v := 0) hx hb dX5_settle_24 (by decide) ?_
  refine kc_su (As := [.ref (ad kh), .long 0]) (rest := []) S0 (c_J7_fill_d0a16 l D tc s.heap.size ad ct_1 h_2 (by omega)) (va_cwS 2 hts gX5_settle_J7_fill_d0a16 rfl rfl rfl (by decide +kernel) ⟨Nat.le_of_ble_eq_true rfl, Nat.le_of_ble_eq_true rfl⟩) hK hw hA rfl hl.1 rfl (Nat.le_of_ble_eq_true rfl) dX5_settle_25 ⟨Nat.le_of_ble_eq_true rfl, (Nat.le_of_ble_eq_true rfl)⟩ (fun H locs hw => ?_)
  obtain ⟨ct_5, ect_5⟩ : ∃ z, z = kw_up ct_1 kh (eJ tc N (kFl ho 0 N)) := ⟨_, rfl⟩
  rw [← ect_5] at hw
  have h_6 : ct_5 kt = some (.inr (ci, [.int nb, .ref (ad kh), .ref (ad kw), .long (pu + (un * (ho c))), .int de])) := by rw [ect_5, kw_up_n (kw_neK h_3 h_2 (by intro q; cases q))]; exact h_3
  have h_7 : ct_5 kh = some (eJ tc N (kFl ho 0 N)) := by rw [ect_5]; exact kw_up_s
  have hfr_8 : ∀ j, j ≠ kt → j ≠ kh → ct_5 j = ct j := fun j a0 a1 => by rw [ect_5]; exact (kw_up_n a1).trans (hfr_4 j a0 a1)
  refine lv_lload hx hb dX5_settle_28 (lv_at hl 0 rfl) ?_
  refine W.eq (congrArg (fun z => F0 m 30 ls [.long z]) (show (un * (ho c)) = (un * ho c) from by rfl)) ?_
  have hq_9 : ct_5 kt = some (.inr (ci, [.int nb, .ref (ad kh), .ref (ad kw), .long (pu + un * ho c), .int de])) := h_6.trans (congrArg some (show (.inr (ci, [.int nb, .ref (ad kh), .ref (ad kw), .long (pu + (un * (ho c))), .int de]) : va_E) = .inr (ci, [.int nb, .ref (ad kh), .ref (ad kw), .long (pu + un * ho c), .int de]) from by rfl))
  have hq_10 := h_7
  have hend := kw_eq2 hq_9 hq_10 hfr_8
  rw [hend] at hw
  exact W.lret hx hb hr (fun t ht _ => ⟨rfl, by rw [ht]; exact hw.1, hw.2.2.1, hw.2.1.F ht, by rw [ht]; exact hw.2.2.2⟩) hw.2.1.2.2 dX5_settle_30
set_option maxHeartbeats 4000000 in
set_option maxRecDepth 100000 in
theorem c_X5_plainTelling (l : Launch) (D : va_G) (tc : Nat → ClassId) (sz : Nat) (ad : Nat → Nat) (ct : Nat → Option va_E) {ci kt kh kw : Nat} {nb de : Int32} {pu : Int64} {kq : Nat} {tv : Int32} (h0 : ct kt = some (.inr (ci, [.int nb, .ref (ad kh), .ref (ad kw), .long pu, .int de]))) (h3 : ct kq = some (.inr (8, [.int tv]))) (hci : ci = 5 ∨ ci = 7 ∨ ci = 9) : Met l yX5_plainTelling wsX5_plainTelling ({ frames := 1, cells := 0, slots := 0, locals := 25 }) (va_Pc [.ref (ad kt), .ref (ad kq)] (kw_B D tc sz ad ct)) (kw_Q D ad (kw_A ad ct sz) (some (.int de)) (kw_up ct kq (.inr (8, [.int (31 * tv + 1)]))) 0) 0 0 (kw_A ad ct sz) := by
  refine Met.ofW (cc := cX5_plainTelling) (maxL := 2) (ret := (some .int)) (by decide) rfl ?_
  intro pg en s m args below meth cod s₁ B hml hv
  obtain ⟨rfl, hsz, hP0, hK⟩ := hv
  have hx := B.exec
  have hb := B.bytes
  have hr := B.returns
  have hts := atoms_spec (ws := wsX5_plainTelling) B.pre
  have hown : s.vm.findClass RX5 = some m.cls := findClass_of_methodNamed B.named
  have hlocks := B.notSynchronized
  subst hsz
  have hw := kw_H.start hP0
  generalize hAe : kw_A ad ct s.heap.size = A at hw ⊢
  have hA : ∀ q, s.heap.size ≤ q → A q := fun q h => by rw [← hAe]; exact Or.inr h
  have hinX5 : ∀ w ∈ wsX50, w ∈ wsX5_plainTelling := by decide +kernel
  have hinX7 : ∀ w ∈ wsX70, w ∈ wsX5_plainTelling := by decide +kernel
  have hinX9 : ∀ w ∈ wsX90, w ∈ wsX5_plainTelling := by decide +kernel
  have hl := lv_entry ([.ref (ad kt), .ref (ad kq)]) (n := 2) (Nat.le_of_ble_eq_true rfl)
  rw [lg_entry_eq]
  generalize (lg_sl ([.ref (ad kt), .ref (ad kq)]) ++ List.replicate (2 - (lg_sl ([.ref (ad kt), .ref (ad kq)])).length) Slot.unset).toArray = ls at hl ⊢
  have hl : lv_has ls 2 [(0, .ref (ad kt)), (1, .ref (ad kq))] := hl
  have S0 : CallFix pg m cod cX5_plainTelling 2 s _ wsX5_plainTelling RX5 := ⟨hx, hb, hml, hown, hts⟩
  have hfr : ∀ j, j ≠ kq → ct j = ct j := fun _ _ => rfl
  refine lv_aload_n hx hb dX5_plainTelling_0 rfl (lv_at hl 1 rfl) ?_
  refine lv_iconst (v := 1) hx hb dX5_plainTelling_1 (by decide) ?_
  refine kc_vu (As := [.int 1]) (rest := []) S0 (c_X8_leave l D tc s.heap.size ad ct h3) (cwV 1 hts gX5_plainTelling_X8_leave rfl rfl rfl (by decide +kernel) ⟨Nat.le_of_ble_eq_true rfl, Nat.le_of_ble_eq_true rfl⟩) hK hw hA h3 rfl rfl hl.1 rfl (Nat.le_of_ble_eq_true rfl) dX5_plainTelling_2 ⟨Nat.le_of_ble_eq_true rfl, (Nat.le_of_ble_eq_true rfl)⟩ (fun H locs hw => ?_)
  obtain ⟨ct_1, ect_1⟩ : ∃ z, z = kw_up ct kq (.inr (8, [.int (31 * tv + 1)])) := ⟨_, rfl⟩
  rw [← ect_1] at hw
  have h_2 : ct_1 kt = some (.inr (ci, [.int nb, .ref (ad kh), .ref (ad kw), .long pu, .int de])) := by rw [ect_1, kw_up_n (kw_neK h0 h3 (by intro q; rcases hci with rfl | rfl | rfl <;> cases q))]; exact h0
  have h_3 : ct_1 kq = some (.inr (8, [.int (31 * tv + 1)])) := by rw [ect_1]; exact kw_up_s
  have hfr_4 : ∀ j, j ≠ kq → ct_1 j = ct j := fun j a0 => by rw [ect_1]; exact (kw_up_n a0).trans (hfr j a0)
  refine lv_aload_n hx hb dX5_plainTelling_5 rfl (lv_at hl 0 rfl) ?_
  refine kg_getT (v := .int de) hx hb hts hinX5 hinX7 hinX9 hown hK hw hci h_2 4 (by decide) (hts (.fieldLink RX5 33 "BetMaker$Plain" "deals" "I") (by decide +kernel)) rfl dX5_plainTelling_6 ?_
  have hq_5 := h_3
  have hend := kw_eq1 hq_5 hfr_4
  rw [hend] at hw
  exact W.iret hx hb hr (fun t ht _ => ⟨rfl, by rw [ht]; exact hw.1, hw.2.2.1, hw.2.1.F ht, by rw [ht]; exact hw.2.2.2⟩) hw.2.1.2.2 dX5_plainTelling_9
set_option maxHeartbeats 4000000 in
set_option maxRecDepth 100000 in
theorem c_X5_greeting (l : Launch) (D : va_G) (tc : Nat → ClassId) (sz : Nat) (ad : Nat → Nat) (ct : Nat → Option va_E) {ci kt kh kw : Nat} {nb de : Int32} {pu : Int64} {kq : Nat} {tv : Int32} (h0 : ct kt = some (.inr (ci, [.int nb, .ref (ad kh), .ref (ad kw), .long pu, .int de]))) (h3 : ct kq = some (.inr (8, [.int tv]))) (hci : ci = 5 ∨ ci = 7 ∨ ci = 9) : Met l yX5_greeting wsX5_greeting ({ frames := 1, cells := 0, slots := 0, locals := 25 }) (va_Pc [.ref (ad kt), .ref (ad kq)] (kw_B D tc sz ad ct)) (kw_Q D ad (kw_A ad ct sz) (some (.int nb)) (kw_up ct kq (.inr (8, [.int (31 * tv + 4)]))) 0) 0 0 (kw_A ad ct sz) := by
  refine Met.ofW (cc := cX5_greeting) (maxL := 2) (ret := (some .int)) (by decide) rfl ?_
  intro pg en s m args below meth cod s₁ B hml hv
  obtain ⟨rfl, hsz, hP0, hK⟩ := hv
  have hx := B.exec
  have hb := B.bytes
  have hr := B.returns
  have hts := atoms_spec (ws := wsX5_greeting) B.pre
  have hown : s.vm.findClass RX5 = some m.cls := findClass_of_methodNamed B.named
  have hlocks := B.notSynchronized
  subst hsz
  have hw := kw_H.start hP0
  generalize hAe : kw_A ad ct s.heap.size = A at hw ⊢
  have hA : ∀ q, s.heap.size ≤ q → A q := fun q h => by rw [← hAe]; exact Or.inr h
  have hinX5 : ∀ w ∈ wsX50, w ∈ wsX5_greeting := by decide +kernel
  have hinX7 : ∀ w ∈ wsX70, w ∈ wsX5_greeting := by decide +kernel
  have hinX9 : ∀ w ∈ wsX90, w ∈ wsX5_greeting := by decide +kernel
  have hl := lv_entry ([.ref (ad kt), .ref (ad kq)]) (n := 2) (Nat.le_of_ble_eq_true rfl)
  rw [lg_entry_eq]
  generalize (lg_sl ([.ref (ad kt), .ref (ad kq)]) ++ List.replicate (2 - (lg_sl ([.ref (ad kt), .ref (ad kq)])).length) Slot.unset).toArray = ls at hl ⊢
  have hl : lv_has ls 2 [(0, .ref (ad kt)), (1, .ref (ad kq))] := hl
  have S0 : CallFix pg m cod cX5_greeting 2 s _ wsX5_greeting RX5 := ⟨hx, hb, hml, hown, hts⟩
  have hfr : ∀ j, j ≠ kq → ct j = ct j := fun _ _ => rfl
  refine lv_aload_n hx hb dX5_greeting_0 rfl (lv_at hl 1 rfl) ?_
  refine lv_iconst (v := 4) hx hb dX5_greeting_1 (by decide) ?_
  refine kc_vu (As := [.int 4]) (rest := []) S0 (c_X8_leave l D tc s.heap.size ad ct h3) (cwV 1 hts gX5_greeting_X8_leave rfl rfl rfl (by decide +kernel) ⟨Nat.le_of_ble_eq_true rfl, Nat.le_of_ble_eq_true rfl⟩) hK hw hA h3 rfl rfl hl.1 rfl (Nat.le_of_ble_eq_true rfl) dX5_greeting_2 ⟨Nat.le_of_ble_eq_true rfl, (Nat.le_of_ble_eq_true rfl)⟩ (fun H locs hw => ?_)
  obtain ⟨ct_1, ect_1⟩ : ∃ z, z = kw_up ct kq (.inr (8, [.int (31 * tv + 4)])) := ⟨_, rfl⟩
  rw [← ect_1] at hw
  have h_2 : ct_1 kt = some (.inr (ci, [.int nb, .ref (ad kh), .ref (ad kw), .long pu, .int de])) := by rw [ect_1, kw_up_n (kw_neK h0 h3 (by intro q; rcases hci with rfl | rfl | rfl <;> cases q))]; exact h0
  have h_3 : ct_1 kq = some (.inr (8, [.int (31 * tv + 4)])) := by rw [ect_1]; exact kw_up_s
  have hfr_4 : ∀ j, j ≠ kq → ct_1 j = ct j := fun j a0 => by rw [ect_1]; exact (kw_up_n a0).trans (hfr j a0)
  refine lv_aload_n hx hb dX5_greeting_5 rfl (lv_at hl 0 rfl) ?_
  refine kg_getT (v := .int nb) hx hb hts hinX5 hinX7 hinX9 hown hK hw hci h_2 0 (by decide) (hts (.fieldLink RX5 9 "BetMaker$Plain" "number" "I") (by decide +kernel)) rfl dX5_greeting_6 ?_
  have hq_5 := h_3
  have hend := kw_eq1 hq_5 hfr_4
  rw [hend] at hw
  exact W.iret hx hb hr (fun t ht _ => ⟨rfl, by rw [ht]; exact hw.1, hw.2.2.1, hw.2.1.F ht, by rw [ht]; exact hw.2.2.2⟩) hw.2.1.2.2 dX5_greeting_9
set_option maxHeartbeats 4000000 in
set_option maxRecDepth 100000 in
theorem c_X5_telling (l : Launch) (D : va_G) (tc : Nat → ClassId) (sz : Nat) (ad : Nat → Nat) (ct : Nat → Option va_E) {kt kh kw : Nat} {nb de : Int32} {pu : Int64} {kq : Nat} {tv : Int32} (h0 : ct kt = some (.inr (5, [.int nb, .ref (ad kh), .ref (ad kw), .long pu, .int de]))) (h3 : ct kq = some (.inr (8, [.int tv]))) : Met l yX5_telling wsX5_telling ({ frames := 2, cells := 0, slots := 0, locals := 50 }) (va_Pc [.ref (ad kt), .ref (ad kq)] (kw_B D tc sz ad ct)) (kw_Q D ad (kw_A ad ct sz) (some (.int de)) (kw_up ct kq (.inr (8, [.int (31 * tv + 1)]))) 0) 0 0 (kw_A ad ct sz) := by
  refine Met.ofW (cc := cX5_telling) (maxL := 2) (ret := (some .int)) (by decide) rfl ?_
  intro pg en s m args below meth cod s₁ B hml hv
  obtain ⟨rfl, hsz, hP0, hK⟩ := hv
  have hx := B.exec
  have hb := B.bytes
  have hr := B.returns
  have hts := atoms_spec (ws := wsX5_telling) B.pre
  have hown : s.vm.findClass RX5 = some m.cls := findClass_of_methodNamed B.named
  have hlocks := B.notSynchronized
  subst hsz
  have hw := kw_H.start hP0
  generalize hAe : kw_A ad ct s.heap.size = A at hw ⊢
  have hA : ∀ q, s.heap.size ≤ q → A q := fun q h => by rw [← hAe]; exact Or.inr h
  have hl := lv_entry ([.ref (ad kt), .ref (ad kq)]) (n := 2) (Nat.le_of_ble_eq_true rfl)
  rw [lg_entry_eq]
  generalize (lg_sl ([.ref (ad kt), .ref (ad kq)]) ++ List.replicate (2 - (lg_sl ([.ref (ad kt), .ref (ad kq)])).length) Slot.unset).toArray = ls at hl ⊢
  have hl : lv_has ls 2 [(0, .ref (ad kt)), (1, .ref (ad kq))] := hl
  have S0 : CallFix pg m cod cX5_telling 2 s _ wsX5_telling RX5 := ⟨hx, hb, hml, hown, hts⟩
  have hfr : ∀ j, j ≠ kq → ct j = ct j := fun _ _ => rfl
  refine lv_aload_n hx hb dX5_telling_0 rfl (lv_at hl 0 rfl) ?_
  refine lv_aload_n hx hb dX5_telling_1 rfl (lv_at hl 1 rfl) ?_
  refine kc_vu (As := [.ref (ad kq)]) (rest := []) S0 (c_X5_plainTelling l D tc s.heap.size ad ct h0 h3 (Or.inl rfl)) (cwV 1 hts gX5_telling_X5_plainTelling rfl rfl rfl (by decide +kernel) ⟨Nat.le_of_ble_eq_true rfl, Nat.le_of_ble_eq_true rfl⟩) hK hw hA h0 rfl rfl hl.1 rfl (Nat.le_of_ble_eq_true rfl) dX5_telling_2 ⟨Nat.le_of_ble_eq_true rfl, (Nat.le_of_ble_eq_true rfl)⟩ (fun H locs hw => ?_)
  obtain ⟨ct_1, ect_1⟩ : ∃ z, z = kw_up ct kq (.inr (8, [.int (31 * tv + 1)])) := ⟨_, rfl⟩
  rw [← ect_1] at hw
  have h_2 : ct_1 kt = some (.inr (5, [.int nb, .ref (ad kh), .ref (ad kw), .long pu, .int de])) := by rw [ect_1, kw_up_n (kw_neK h0 h3 (by intro q; cases q))]; exact h0
  have h_3 : ct_1 kq = some (.inr (8, [.int (31 * tv + 1)])) := by rw [ect_1]; exact kw_up_s
  have hfr_4 : ∀ j, j ≠ kq → ct_1 j = ct j := fun j a0 => by rw [ect_1]; exact (kw_up_n a0).trans (hfr j a0)
  have hq_5 := h_3
  have hend := kw_eq1 hq_5 hfr_4
  rw [hend] at hw
  exact W.iret hx hb hr (fun t ht _ => ⟨rfl, by rw [ht]; exact hw.1, hw.2.2.1, hw.2.1.F ht, by rw [ht]; exact hw.2.2.2⟩) hw.2.1.2.2 dX5_telling_5
set_option maxHeartbeats 4000000 in
set_option maxRecDepth 100000 in
theorem c_X9_telling (l : Launch) (D : va_G) (tc : Nat → ClassId) (sz : Nat) (ad : Nat → Nat) (ct : Nat → Option va_E) {kt kh kw : Nat} {nb de : Int32} {pu : Int64} {kq : Nat} {tv : Int32} (h0 : ct kt = some (.inr (9, [.int nb, .ref (ad kh), .ref (ad kw), .long pu, .int de]))) (h3 : ct kq = some (.inr (8, [.int tv]))) : Met l yX9_telling wsX9_telling ({ frames := 2, cells := 0, slots := 0, locals := 50 }) (va_Pc [.ref (ad kt), .ref (ad kq)] (kw_B D tc sz ad ct)) (kw_Q D ad (kw_A ad ct sz) (some (.int (de + 100))) (kw_up ct kq (.inr (8, [.int (31 * (31 * tv + 2) + 1)]))) 0) 0 0 (kw_A ad ct sz) := by
  refine Met.ofW (cc := cX9_telling) (maxL := 2) (ret := (some .int)) (by decide) rfl ?_
  intro pg en s m args below meth cod s₁ B hml hv
  obtain ⟨rfl, hsz, hP0, hK⟩ := hv
  have hx := B.exec
  have hb := B.bytes
  have hr := B.returns
  have hts := atoms_spec (ws := wsX9_telling) B.pre
  have hown : s.vm.findClass RX9 = some m.cls := findClass_of_methodNamed B.named
  have hlocks := B.notSynchronized
  subst hsz
  have hw := kw_H.start hP0
  generalize hAe : kw_A ad ct s.heap.size = A at hw ⊢
  have hA : ∀ q, s.heap.size ≤ q → A q := fun q h => by rw [← hAe]; exact Or.inr h
  have hl := lv_entry ([.ref (ad kt), .ref (ad kq)]) (n := 2) (Nat.le_of_ble_eq_true rfl)
  rw [lg_entry_eq]
  generalize (lg_sl ([.ref (ad kt), .ref (ad kq)]) ++ List.replicate (2 - (lg_sl ([.ref (ad kt), .ref (ad kq)])).length) Slot.unset).toArray = ls at hl ⊢
  have hl : lv_has ls 2 [(0, .ref (ad kt)), (1, .ref (ad kq))] := hl
  have S0 : CallFix pg m cod cX9_telling 2 s _ wsX9_telling RX9 := ⟨hx, hb, hml, hown, hts⟩
  have hfr : ∀ j, j ≠ kq → ct j = ct j := fun _ _ => rfl
  refine lv_aload_n hx hb dX9_telling_0 rfl (lv_at hl 1 rfl) ?_
  refine lv_iconst (v := 2) hx hb dX9_telling_1 (by decide) ?_
  refine kc_vu (As := [.int 2]) (rest := []) S0 (c_X8_leave l D tc s.heap.size ad ct h3) (cwV 1 hts gX9_telling_X8_leave rfl rfl rfl (by decide +kernel) ⟨Nat.le_of_ble_eq_true rfl, Nat.le_of_ble_eq_true rfl⟩) hK hw hA h3 rfl rfl hl.1 rfl (Nat.le_of_ble_eq_true rfl) dX9_telling_2 ⟨Nat.le_of_ble_eq_true rfl, (Nat.le_of_ble_eq_true rfl)⟩ (fun H locs hw => ?_)
  obtain ⟨ct_1, ect_1⟩ : ∃ z, z = kw_up ct kq (.inr (8, [.int (31 * tv + 2)])) := ⟨_, rfl⟩
  rw [← ect_1] at hw
  have h_2 : ct_1 kt = some (.inr (9, [.int nb, .ref (ad kh), .ref (ad kw), .long pu, .int de])) := by rw [ect_1, kw_up_n (kw_neK h0 h3 (by intro q; cases q))]; exact h0
  have h_3 : ct_1 kq = some (.inr (8, [.int (31 * tv + 2)])) := by rw [ect_1]; exact kw_up_s
  have hfr_4 : ∀ j, j ≠ kq → ct_1 j = ct j := fun j a0 => by rw [ect_1]; exact (kw_up_n a0).trans (hfr j a0)
  refine lv_aload_n hx hb dX9_telling_5 rfl (lv_at hl 0 rfl) ?_
  refine lv_aload_n hx hb dX9_telling_6 rfl (lv_at hl 1 rfl) ?_
  refine kc_use (va_runU (As := [.ref (ad kq)]) (rest := []) S0 (c_X5_plainTelling l D tc s.heap.size ad ct_1 h_2 h_3 (Or.inr (Or.inr rfl))) (va_cwU 1 hts gX9_telling_X5_plainTelling_u15X9 rfl rfl rfl rfl (by decide +kernel) ⟨Nat.le_of_ble_eq_true rfl, Nat.le_of_ble_eq_true rfl⟩) (kc_pV hK hw h_2 (q := (RX9, TX9, 5)) rfl) rfl rfl hl.1 rfl (lv_room (Nat.le_of_ble_eq_true rfl)) dX9_telling_7 ⟨Nat.le_of_ble_eq_true rfl, Nat.le_of_ble_eq_true rfl⟩) hw hA (fun H locs hw => ?_)
  obtain ⟨ct_5, ect_5⟩ : ∃ z, z = kw_up ct_1 kq (.inr (8, [.int (31 * (31 * tv + 2) + 1)])) := ⟨_, rfl⟩
  rw [← ect_5] at hw
  have h_6 : ct_5 kt = some (.inr (9, [.int nb, .ref (ad kh), .ref (ad kw), .long pu, .int de])) := by rw [ect_5, kw_up_n (kw_neK h_2 h_3 (by intro q; cases q))]; exact h_2
  have h_7 : ct_5 kq = some (.inr (8, [.int (31 * (31 * tv + 2) + 1)])) := by rw [ect_5]; exact kw_up_s
  have hfr_8 : ∀ j, j ≠ kq → ct_5 j = ct j := fun j a0 => by rw [ect_5]; exact (kw_up_n a0).trans (hfr_4 j a0)
  refine lv_bipush (v := 100) hx hb dX9_telling_10 (by decide) ?_
  refine lv_iadd hx hb dX9_telling_12 ?_
  have hq_9 := h_7
  have hend := kw_eq1 hq_9 hfr_8
  rw [hend] at hw
  exact W.iret hx hb hr (fun t ht _ => ⟨rfl, by rw [ht]; exact hw.1, hw.2.2.1, hw.2.1.F ht, by rw [ht]; exact hw.2.2.2⟩) hw.2.1.2.2 dX9_telling_13
set_option maxHeartbeats 4000000 in
set_option maxRecDepth 100000 in
theorem c_X9_telling_7 (l : Launch) (D : va_G) (tc : Nat → ClassId) (sz : Nat) (ad : Nat → Nat) (ct : Nat → Option va_E) {kt kh kw : Nat} {nb de : Int32} {pu : Int64} {kq : Nat} {tv : Int32} (h0 : ct kt = some (.inr (7, [.int nb, .ref (ad kh), .ref (ad kw), .long pu, .int de]))) (h3 : ct kq = some (.inr (8, [.int tv]))) : Met l yX9_telling wsX9_telling ({ frames := 2, cells := 0, slots := 0, locals := 50 }) (va_Pc [.ref (ad kt), .ref (ad kq)] (kw_B D tc sz ad ct)) (kw_Q D ad (kw_A ad ct sz) (some (.int (de + 100))) (kw_up ct kq (.inr (8, [.int (31 * (31 * tv + 2) + 1)]))) 0) 0 0 (kw_A ad ct sz) := by
  refine Met.ofW (cc := cX9_telling) (maxL := 2) (ret := (some .int)) (by decide) rfl ?_
  intro pg en s m args below meth cod s₁ B hml hv
  obtain ⟨rfl, hsz, hP0, hK⟩ := hv
  have hx := B.exec
  have hb := B.bytes
  have hr := B.returns
  have hts := atoms_spec (ws := wsX9_telling) B.pre
  have hown : s.vm.findClass RX9 = some m.cls := findClass_of_methodNamed B.named
  have hlocks := B.notSynchronized
  subst hsz
  have hw := kw_H.start hP0
  generalize hAe : kw_A ad ct s.heap.size = A at hw ⊢
  have hA : ∀ q, s.heap.size ≤ q → A q := fun q h => by rw [← hAe]; exact Or.inr h
  have hl := lv_entry ([.ref (ad kt), .ref (ad kq)]) (n := 2) (Nat.le_of_ble_eq_true rfl)
  rw [lg_entry_eq]
  generalize (lg_sl ([.ref (ad kt), .ref (ad kq)]) ++ List.replicate (2 - (lg_sl ([.ref (ad kt), .ref (ad kq)])).length) Slot.unset).toArray = ls at hl ⊢
  have hl : lv_has ls 2 [(0, .ref (ad kt)), (1, .ref (ad kq))] := hl
  have S0 : CallFix pg m cod cX9_telling 2 s _ wsX9_telling RX9 := ⟨hx, hb, hml, hown, hts⟩
  have hfr : ∀ j, j ≠ kq → ct j = ct j := fun _ _ => rfl
  refine lv_aload_n hx hb dX9_telling_0 rfl (lv_at hl 1 rfl) ?_
  refine lv_iconst (v := 2) hx hb dX9_telling_1 (by decide) ?_
  refine kc_vu (As := [.int 2]) (rest := []) S0 (c_X8_leave l D tc s.heap.size ad ct h3) (cwV 1 hts gX9_telling_X8_leave rfl rfl rfl (by decide +kernel) ⟨Nat.le_of_ble_eq_true rfl, Nat.le_of_ble_eq_true rfl⟩) hK hw hA h3 rfl rfl hl.1 rfl (Nat.le_of_ble_eq_true rfl) dX9_telling_2 ⟨Nat.le_of_ble_eq_true rfl, (Nat.le_of_ble_eq_true rfl)⟩ (fun H locs hw => ?_)
  obtain ⟨ct_1, ect_1⟩ : ∃ z, z = kw_up ct kq (.inr (8, [.int (31 * tv + 2)])) := ⟨_, rfl⟩
  rw [← ect_1] at hw
  have h_2 : ct_1 kt = some (.inr (7, [.int nb, .ref (ad kh), .ref (ad kw), .long pu, .int de])) := by rw [ect_1, kw_up_n (kw_neK h0 h3 (by intro q; cases q))]; exact h0
  have h_3 : ct_1 kq = some (.inr (8, [.int (31 * tv + 2)])) := by rw [ect_1]; exact kw_up_s
  have hfr_4 : ∀ j, j ≠ kq → ct_1 j = ct j := fun j a0 => by rw [ect_1]; exact (kw_up_n a0).trans (hfr j a0)
  refine lv_aload_n hx hb dX9_telling_5 rfl (lv_at hl 0 rfl) ?_
  refine lv_aload_n hx hb dX9_telling_6 rfl (lv_at hl 1 rfl) ?_
  refine kc_use (va_runU (As := [.ref (ad kq)]) (rest := []) S0 (c_X5_plainTelling l D tc s.heap.size ad ct_1 h_2 h_3 (Or.inr (Or.inl rfl))) (va_cwU 1 hts gX9_telling_X5_plainTelling_u15X7 rfl rfl rfl rfl (by decide +kernel) ⟨Nat.le_of_ble_eq_true rfl, Nat.le_of_ble_eq_true rfl⟩) (kc_pV hK hw h_2 (q := (RX7, TX7, 5)) rfl) rfl rfl hl.1 rfl (lv_room (Nat.le_of_ble_eq_true rfl)) dX9_telling_7 ⟨Nat.le_of_ble_eq_true rfl, Nat.le_of_ble_eq_true rfl⟩) hw hA (fun H locs hw => ?_)
  obtain ⟨ct_5, ect_5⟩ : ∃ z, z = kw_up ct_1 kq (.inr (8, [.int (31 * (31 * tv + 2) + 1)])) := ⟨_, rfl⟩
  rw [← ect_5] at hw
  have h_6 : ct_5 kt = some (.inr (7, [.int nb, .ref (ad kh), .ref (ad kw), .long pu, .int de])) := by rw [ect_5, kw_up_n (kw_neK h_2 h_3 (by intro q; cases q))]; exact h_2
  have h_7 : ct_5 kq = some (.inr (8, [.int (31 * (31 * tv + 2) + 1)])) := by rw [ect_5]; exact kw_up_s
  have hfr_8 : ∀ j, j ≠ kq → ct_5 j = ct j := fun j a0 => by rw [ect_5]; exact (kw_up_n a0).trans (hfr_4 j a0)
  refine lv_bipush (v := 100) hx hb dX9_telling_10 (by decide) ?_
  refine lv_iadd hx hb dX9_telling_12 ?_
  have hq_9 := h_7
  have hend := kw_eq1 hq_9 hfr_8
  rw [hend] at hw
  exact W.iret hx hb hr (fun t ht _ => ⟨rfl, by rw [ht]; exact hw.1, hw.2.2.1, hw.2.1.F ht, by rw [ht]; exact hw.2.2.2⟩) hw.2.1.2.2 dX9_telling_13
set_option maxHeartbeats 4000000 in
set_option maxRecDepth 100000 in
theorem c_X7_telling (l : Launch) (D : va_G) (tc : Nat → ClassId) (sz : Nat) (ad : Nat → Nat) (ct : Nat → Option va_E) {kt kh kw : Nat} {nb de : Int32} {pu : Int64} {kq : Nat} {tv : Int32} (h0 : ct kt = some (.inr (7, [.int nb, .ref (ad kh), .ref (ad kw), .long pu, .int de]))) (h3 : ct kq = some (.inr (8, [.int tv]))) : Met l yX7_telling wsX7_telling ({ frames := 3, cells := 0, slots := 0, locals := 75 }) (va_Pc [.ref (ad kt), .ref (ad kq)] (kw_B D tc sz ad ct)) (kw_Q D ad (kw_A ad ct sz) (some (.int ((de + 100) + de))) (kw_up ct kq (.inr (8, [.int (31 * (31 * (31 * (31 * tv + 3) + 2) + 1) + 1)]))) 0) 0 0 (kw_A ad ct sz) := by
  refine Met.ofW (cc := cX7_telling) (maxL := 3) (ret := (some .int)) (by decide) rfl ?_
  intro pg en s m args below meth cod s₁ B hml hv
  obtain ⟨rfl, hsz, hP0, hK⟩ := hv
  have hx := B.exec
  have hb := B.bytes
  have hr := B.returns
  have hts := atoms_spec (ws := wsX7_telling) B.pre
  have hown : s.vm.findClass RX7 = some m.cls := findClass_of_methodNamed B.named
  have hlocks := B.notSynchronized
  subst hsz
  have hw := kw_H.start hP0
  generalize hAe : kw_A ad ct s.heap.size = A at hw ⊢
  have hA : ∀ q, s.heap.size ≤ q → A q := fun q h => by rw [← hAe]; exact Or.inr h
  have hl := lv_entry ([.ref (ad kt), .ref (ad kq)]) (n := 3) (Nat.le_of_ble_eq_true rfl)
  rw [lg_entry_eq]
  generalize (lg_sl ([.ref (ad kt), .ref (ad kq)]) ++ List.replicate (3 - (lg_sl ([.ref (ad kt), .ref (ad kq)])).length) Slot.unset).toArray = ls at hl ⊢
  have hl : lv_has ls 3 [(0, .ref (ad kt)), (1, .ref (ad kq))] := hl
  have S0 : CallFix pg m cod cX7_telling 3 s _ wsX7_telling RX7 := ⟨hx, hb, hml, hown, hts⟩
  have hfr : ∀ j, j ≠ kq → ct j = ct j := fun _ _ => rfl
  refine lv_aload_n hx hb dX7_telling_0 rfl (lv_at hl 1 rfl) ?_
  refine lv_iconst (v := 3) hx hb dX7_telling_1 (by decide) ?_
  refine kc_vu (As := [.int 3]) (rest := []) S0 (c_X8_leave l D tc s.heap.size ad ct h3) (cwV 1 hts gX7_telling_X8_leave rfl rfl rfl (by decide +kernel) ⟨Nat.le_of_ble_eq_true rfl, Nat.le_of_ble_eq_true rfl⟩) hK hw hA h3 rfl rfl hl.1 rfl (Nat.le_of_ble_eq_true rfl) dX7_telling_2 ⟨Nat.le_of_ble_eq_true rfl, (Nat.le_of_ble_eq_true rfl)⟩ (fun H locs hw => ?_)
  obtain ⟨ct_1, ect_1⟩ : ∃ z, z = kw_up ct kq (.inr (8, [.int (31 * tv + 3)])) := ⟨_, rfl⟩
  rw [← ect_1] at hw
  have h_2 : ct_1 kt = some (.inr (7, [.int nb, .ref (ad kh), .ref (ad kw), .long pu, .int de])) := by rw [ect_1, kw_up_n (kw_neK h0 h3 (by intro q; cases q))]; exact h0
  have h_3 : ct_1 kq = some (.inr (8, [.int (31 * tv + 3)])) := by rw [ect_1]; exact kw_up_s
  have hfr_4 : ∀ j, j ≠ kq → ct_1 j = ct j := fun j a0 => by rw [ect_1]; exact (kw_up_n a0).trans (hfr j a0)
  refine lv_aload_n hx hb dX7_telling_5 rfl (lv_at hl 0 rfl) ?_
  refine lv_aload_n hx hb dX7_telling_6 rfl (lv_at hl 1 rfl) ?_
  refine kc_use (va_runSU (As := [.ref (ad kq)]) (rest := []) (hK.1.1 7 _ rfl).2 S0 (c_X9_telling_7 l D tc s.heap.size ad ct_1 h_2 h_3) (va_cwSU 1 hts gX7_telling_X9_telling_s15 rfl rfl rfl (by decide +kernel) ⟨Nat.le_of_ble_eq_true rfl, Nat.le_of_ble_eq_true rfl⟩) (kc_pV hK hw h_2 (q := (RX7, TX7, 5)) rfl) rfl rfl hl.1 rfl (lv_room (Nat.le_of_ble_eq_true rfl)) dX7_telling_7 ⟨Nat.le_of_ble_eq_true rfl, Nat.le_of_ble_eq_true rfl⟩) hw hA (fun H locs hw => ?_)
  obtain ⟨ct_5, ect_5⟩ : ∃ z, z = kw_up ct_1 kq (.inr (8, [.int (31 * (31 * (31 * tv + 3) + 2) + 1)])) := ⟨_, rfl⟩
  rw [← ect_5] at hw
  have h_6 : ct_5 kt = some (.inr (7, [.int nb, .ref (ad kh), .ref (ad kw), .long pu, .int de])) := by rw [ect_5, kw_up_n (kw_neK h_2 h_3 (by intro q; cases q))]; exact h_2
  have h_7 : ct_5 kq = some (.inr (8, [.int (31 * (31 * (31 * tv + 3) + 2) + 1)])) := by rw [ect_5]; exact kw_up_s
  have hfr_8 : ∀ j, j ≠ kq → ct_5 j = ct j := fun j a0 => by rw [ect_5]; exact (kw_up_n a0).trans (hfr_4 j a0)
  refine lv_istore_n (lv' := [(2, .int (de + 100)), (0, .ref (ad kt)), (1, .ref (ad kq))]) hx hb dX7_telling_10 rfl hl (by decide) rfl (fun ls hl => ?_)
  refine lv_iload_n hx hb dX7_telling_11 rfl (lv_at hl 0 rfl) ?_
  refine lv_aload_n hx hb dX7_telling_12 rfl (lv_at hl 1 rfl) ?_
  refine lv_aload_n hx hb dX7_telling_13 rfl (lv_at hl 2 rfl) ?_
  refine kc_use (va_runU (As := [.ref (ad kq)]) (rest := [.int (de + 100)]) S0 (c_X5_plainTelling l D tc s.heap.size ad ct_5 h_6 h_7 (Or.inr (Or.inl rfl))) (va_cwU 1 hts gX7_telling_X5_plainTelling_u19X7 rfl rfl rfl rfl (by decide +kernel) ⟨Nat.le_of_ble_eq_true rfl, Nat.le_of_ble_eq_true rfl⟩) (kc_pV hK hw h_6 (q := (RX7, TX7, 5)) rfl) rfl rfl hl.1 rfl (lv_room (Nat.le_of_ble_eq_true rfl)) dX7_telling_14 ⟨Nat.le_of_ble_eq_true rfl, Nat.le_of_ble_eq_true rfl⟩) hw hA (fun H locs hw => ?_)
  obtain ⟨ct_9, ect_9⟩ : ∃ z, z = kw_up ct_5 kq (.inr (8, [.int (31 * (31 * (31 * (31 * tv + 3) + 2) + 1) + 1)])) := ⟨_, rfl⟩
  rw [← ect_9] at hw
  have h_10 : ct_9 kt = some (.inr (7, [.int nb, .ref (ad kh), .ref (ad kw), .long pu, .int de])) := by rw [ect_9, kw_up_n (kw_neK h_6 h_7 (by intro q; cases q))]; exact h_6
  have h_11 : ct_9 kq = some (.inr (8, [.int (31 * (31 * (31 * (31 * tv + 3) + 2) + 1) + 1)])) := by rw [ect_9]; exact kw_up_s
  have hfr_12 : ∀ j, j ≠ kq → ct_9 j = ct j := fun j a0 => by rw [ect_9]; exact (kw_up_n a0).trans (hfr_8 j a0)
  refine lv_iadd hx hb dX7_telling_17 ?_
  have hq_13 := h_11
  have hend := kw_eq1 hq_13 hfr_12
  rw [hend] at hw
  exact W.iret hx hb hr (fun t ht _ => ⟨rfl, by rw [ht]; exact hw.1, hw.2.2.1, hw.2.1.F ht, by rw [ht]; exact hw.2.2.2⟩) hw.2.1.2.2 dX7_telling_18
set_option maxHeartbeats 4000000 in
set_option maxRecDepth 100000 in
theorem c_X7_greeting (l : Launch) (D : va_G) (tc : Nat → ClassId) (sz : Nat) (ad : Nat → Nat) (ct : Nat → Option va_E) {kt kh kw : Nat} {nb de : Int32} {pu : Int64} {kq : Nat} {tv : Int32} (h0 : ct kt = some (.inr (7, [.int nb, .ref (ad kh), .ref (ad kw), .long pu, .int de]))) (h3 : ct kq = some (.inr (8, [.int tv]))) : Met l yX7_greeting wsX7_greeting ({ frames := 1, cells := 0, slots := 0, locals := 25 }) (va_Pc [.ref (ad kt), .ref (ad kq)] (kw_B D tc sz ad ct)) (kw_Q D ad (kw_A ad ct sz) (some (.int 90)) (kw_up ct kq (.inr (8, [.int (31 * tv + 5)]))) 0) 0 0 (kw_A ad ct sz) := by
  refine Met.ofW (cc := cX7_greeting) (maxL := 2) (ret := (some .int)) (by decide) rfl ?_
  intro pg en s m args below meth cod s₁ B hml hv
  obtain ⟨rfl, hsz, hP0, hK⟩ := hv
  have hx := B.exec
  have hb := B.bytes
  have hr := B.returns
  have hts := atoms_spec (ws := wsX7_greeting) B.pre
  have hown : s.vm.findClass RX7 = some m.cls := findClass_of_methodNamed B.named
  have hlocks := B.notSynchronized
  subst hsz
  have hw := kw_H.start hP0
  generalize hAe : kw_A ad ct s.heap.size = A at hw ⊢
  have hA : ∀ q, s.heap.size ≤ q → A q := fun q h => by rw [← hAe]; exact Or.inr h
  have hl := lv_entry ([.ref (ad kt), .ref (ad kq)]) (n := 2) (Nat.le_of_ble_eq_true rfl)
  rw [lg_entry_eq]
  generalize (lg_sl ([.ref (ad kt), .ref (ad kq)]) ++ List.replicate (2 - (lg_sl ([.ref (ad kt), .ref (ad kq)])).length) Slot.unset).toArray = ls at hl ⊢
  have hl : lv_has ls 2 [(0, .ref (ad kt)), (1, .ref (ad kq))] := hl
  have S0 : CallFix pg m cod cX7_greeting 2 s _ wsX7_greeting RX7 := ⟨hx, hb, hml, hown, hts⟩
  have hfr : ∀ j, j ≠ kq → ct j = ct j := fun _ _ => rfl
  refine lv_aload_n hx hb dX7_greeting_0 rfl (lv_at hl 1 rfl) ?_
  refine lv_iconst (v := 5) hx hb dX7_greeting_1 (by decide) ?_
  refine kc_vu (As := [.int 5]) (rest := []) S0 (c_X8_leave l D tc s.heap.size ad ct h3) (cwV 1 hts gX7_greeting_X8_leave rfl rfl rfl (by decide +kernel) ⟨Nat.le_of_ble_eq_true rfl, Nat.le_of_ble_eq_true rfl⟩) hK hw hA h3 rfl rfl hl.1 rfl (Nat.le_of_ble_eq_true rfl) dX7_greeting_2 ⟨Nat.le_of_ble_eq_true rfl, (Nat.le_of_ble_eq_true rfl)⟩ (fun H locs hw => ?_)
  obtain ⟨ct_1, ect_1⟩ : ∃ z, z = kw_up ct kq (.inr (8, [.int (31 * tv + 5)])) := ⟨_, rfl⟩
  rw [← ect_1] at hw
  have h_2 : ct_1 kt = some (.inr (7, [.int nb, .ref (ad kh), .ref (ad kw), .long pu, .int de])) := by rw [ect_1, kw_up_n (kw_neK h0 h3 (by intro q; cases q))]; exact h0
  have h_3 : ct_1 kq = some (.inr (8, [.int (31 * tv + 5)])) := by rw [ect_1]; exact kw_up_s
  have hfr_4 : ∀ j, j ≠ kq → ct_1 j = ct j := fun j a0 => by rw [ect_1]; exact (kw_up_n a0).trans (hfr j a0)
  refine lv_bipush (v := 90) hx hb dX7_greeting_5 (by decide) ?_
  have hq_5 := h_3
  have hend := kw_eq1 hq_5 hfr_4
  rw [hend] at hw
  exact W.iret hx hb hr (fun t ht _ => ⟨rfl, by rw [ht]; exact hw.1, hw.2.2.1, hw.2.1.F ht, by rw [ht]; exact hw.2.2.2⟩) hw.2.1.2.2 dX7_greeting_7
