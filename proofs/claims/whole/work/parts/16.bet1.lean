theorem kfx_inl {P : Prop} {a b : Int32} (h : P) : P := h
def kfs (p : Nat → Bool) : Nat → Nat
  | 0 => 0
  | n + 1 => if kfs p n = n ∧ p n = true then n + 1 else kfs p n
theorem kfs_all {p : Nat → Bool} : ∀ {n : Nat}, kall p n = true → kfs p n = n
  | 0, _ => rfl
  | n + 1, h => by
    rw [kall, Bool.and_eq_true] at h
    rw [kfs, if_pos ⟨kfs_all h.1, h.2⟩]
theorem kfs_bad {p : Nat → Bool} {j : Nat} (h : kall p j = true) (hj : ¬ p j = true) : ∀ {n : Nat}, j < n → kfs p n = j
  | n + 1, hn => by
    rcases Nat.lt_succ_iff_lt_or_eq.mp hn with q | q
    · rw [kfs, kfs_bad h hj q, if_neg (fun z => by omega)]
    · subst q; rw [kfs, if_neg (fun z => hj z.2)]; exact kfs_all h
def kWc (w : Nat → Int32) (c : Nat) : Bool := decide (0 ≤ w c ∧ w c ≤ 100)
def kWb (b : Int32) (N : Nat) (f : Nat → Int64) (ss : Int64) (set x : Int32) (pu : Int64) (ho : Nat → Int64) : Int32 :=
  if kall (kAl b N f ss set x) N = true then (if 0 ≤ pu - kCost b N f ss set x + kU b N * kLst ho set x N then 0 else 2) else 1
def kWt (b : Int32) (N : Nat) (f : Nat → Int64) (ss : Int64) (we : Nat → Int32) (set x : Int32) : Int64 :=
  su (kIn set (fun c => (we c).toInt64)) N * x.toInt64 * kU b N - su (fun c => (we c).toInt64) N * kCost b N f ss set x
theorem kBy_0 {k : Nat} (h2 : 2 ≤ k) (hk : k < 2 ^ 30) (h : nI k - nI k / 2 * 2 = 0) : nI k / 2 = kBx (k - 2) := by
  have e := pk_rem (a := k) (d := 2) (by omega) (by omega) (by omega)
  have d := pk_div (a := k) (d := 2) (by omega) (by omega) (by omega)
  have hm : k % 2 = 0 := (nI_eq (a := k % 2) (b := 0) (by omega) (by omega)).mp (e.symm.trans h)
  rw [show nI k / 2 = nI (k / 2) from d, kBx, if_pos (by omega)]
  exact congrArg nI (by omega)
theorem kBy_1 {k : Nat} (h2 : 2 ≤ k) (hk : k < 2 ^ 30) (h : ¬ nI k - nI k / 2 * 2 = 0) : -(nI k / 2) = kBx (k - 2) := by
  have e := pk_rem (a := k) (d := 2) (by omega) (by omega) (by omega)
  have d := pk_div (a := k) (d := 2) (by omega) (by omega) (by omega)
  have hm : ¬ k % 2 = 0 := fun q => h (e.trans (by rw [q]; rfl))
  rw [show nI k / 2 = nI (k / 2) from d, kBx, if_neg (by omega)]
  exact congrArg (fun z => -(nI z)) (by omega)
set_option maxHeartbeats 4000000 in
set_option maxRecDepth 100000 in
theorem c_X2_init (l : Launch) (D : va_G) (tc : Nat → ClassId) (sz : Nat) (ad : Nat → Nat) (ct : Nat → Option va_E)         (h9 : ct 9 = some (.inr (2, [.null, .int 0]))) (hk10 : ct 10 = none) (hk10a : ad 10 = sz) : Met l yX2_init wsX2_init ({ frames := 1, cells := 1, slots := 40, locals := 40 }) (va_Pc [.ref (ad 9)] (kw_B D tc sz ad ct)) (kw_Q D ad (kw_A ad ct sz) (none) (kw_up (kw_up ct 9 (.inr (2, [.ref (ad 10), .int (nI 0)]))) 10 (eQ tc 2 40 (fun _ => none))) 1) 1 40 (kw_A ad ct sz) := by
  refine Met.ofW (cc := cX2_init) (maxL := 1) (ret := none) (by decide) rfl ?_
  intro pg en s m args below meth cod s₁ B hml hv
  obtain ⟨rfl, hsz, hP0, hK⟩ := hv
  have hx := B.exec
  have hb := B.bytes
  have hr := B.returns
  have hts := atoms_spec (ws := wsX2_init) B.pre
  have hown : s.vm.findClass RX2 = some m.cls := findClass_of_methodNamed B.named
  have hlocks := B.notSynchronized
  have hin2 : meth.name = "<init>" := (name_of_methodNamed B.named B.method).1
  subst hsz
  have hw := kw_H.start hP0
  generalize hAe : kw_A ad ct s.heap.size = A at hw ⊢
  have hA : ∀ q, s.heap.size ≤ q → A q := fun q h => by rw [← hAe]; exact Or.inr h
  have hinX2 : ∀ w ∈ wsX20, w ∈ wsX2_init := by decide +kernel
  have hl := lv_entry ([.ref (ad 9)]) (n := 1) (Nat.le_of_ble_eq_true rfl)
  rw [lg_entry_eq]
  generalize (lg_sl ([.ref (ad 9)]) ++ List.replicate (1 - (lg_sl ([.ref (ad 9)])).length) Slot.unset).toArray = ls at hl ⊢
  have hl : lv_has ls 1 [(0, .ref (ad 9))] := hl
  have S0 : CallFix pg m cod cX2_init 1 s _ wsX2_init RX2 := ⟨hx, hb, hml, hown, hts⟩
  have hfr : ∀ j, j ≠ 9 → j ≠ 10 → ct j = ct j := fun _ _ _ => rfl
  refine lv_aload_n hx hb dX2_init_0 rfl (lv_at hl 0 rfl) ?_
  refine W.objInit hx hb hown (hts (.methodLink RX2 3 objectInit) (by decide +kernel)) (hts (.instanceMethod objectInit) (by decide +kernel)) (hts (.code objectInit ⟨#[0xb1]⟩ 1 none) (by decide +kernel)) rfl (by rw [hml]; exact hl.1) rfl dX2_init_1 (Nat.le_of_ble_eq_true rfl) (Nat.le_of_ble_eq_true rfl) ?_
  refine W.eq (g2 := F0 m 4 ls []) rfl ?_
  refine lv_aload_n hx hb dX2_init_4 rfl (lv_at hl 0 rfl) ?_
  refine lv_bipush (v := 40) hx hb dX2_init_5 (by decide) ?_
  refine kg_newq (C := RX1) hx hb hown (hts (.classLink RX2 9 RX1) (by decide +kernel)) (va_AO.use hK.2.2.2.2.1.1) hK hw hA 2 rfl 10 hk10 hk10a 40 rfl (by omega) (Nat.le_of_ble_eq_true rfl) (Nat.le_of_ble_eq_true rfl) dX2_init_7 (fun H hw => ?_)
  obtain ⟨ct_1, ect_1⟩ : ∃ z, z = kw_up ct 10 (eQ tc 2 40 (fun _ => none)) := ⟨_, rfl⟩
  rw [← ect_1] at hw
  have h_2 : ct_1 9 = some (.inr (2, [.null, .int 0])) := by rw [ect_1, kw_up_n (by omega)]; exact h9
  have h_3 : ct_1 10 = some (eQ tc 2 40 (fun _ => none)) := by rw [ect_1]; exact kw_up_s
  have hfr_4 : ∀ j, j ≠ 9 → j ≠ 10 → ct_1 j = ct j := fun j a0 a1 => by rw [ect_1]; exact (kw_up_n a1).trans (hfr j a0 a1)
  refine kg_putF (v := .ref (ad 10)) (ty := .array (.object "BetMaker$Forecast")) (C := RX2) (T := TX2) (N := 2) (fs' := [.ref (ad 10), .int 0]) hx hb hts hinX2 tyX2 tyX2_ok nmX2 hown hK hw h_2 rfl 0 (by decide) (hts (.fieldLink RX2 11 "BetMaker$Log" "kept" "[LBetMaker$Forecast;") (by decide +kernel)) (fun _ h9 => h9) rfl hin2 rfl (by decide +kernel) rfl rfl (Nat.le_of_ble_eq_true rfl) rfl dX2_init_10 (fun H locs hw => ?_)
  obtain ⟨ct_5, ect_5⟩ : ∃ z, z = kw_up ct_1 9 (.inr (2, [.ref (ad 10), .int 0])) := ⟨_, rfl⟩
  rw [← ect_5] at hw
  have h_6 : ct_5 10 = some (eQ tc 2 40 (fun _ => none)) := by rw [ect_5, kw_up_n (by omega)]; exact h_3
  have h_7 : ct_5 9 = some (.inr (2, [.ref (ad 10), .int 0])) := by rw [ect_5]; exact kw_up_s
  have hfr_8 : ∀ j, j ≠ 9 → j ≠ 10 → ct_5 j = ct j := fun j a0 a1 => by rw [ect_5]; exact (kw_up_n a0).trans (hfr_4 j a0 a1)
  have hq_9 : ct_5 9 = some (.inr (2, [.ref (ad 10), .int (nI 0)])) := h_7.trans (congrArg some (show (.inr (2, [.ref (ad 10), .int 0]) : va_E) = .inr (2, [.ref (ad 10), .int (nI 0)]) from by rfl))
  have hq_10 := h_6
  have hend := kw_eq2 hq_9 hq_10 hfr_8
  rw [hend] at hw
  refine W.widen (k := 1) (n := 40) (Nat.le_of_ble_eq_true rfl) (Nat.le_of_ble_eq_true rfl) ?_
  exact W.vret hx hb hr (fun t ht _ => ⟨rfl, by rw [ht]; exact hw.1, hw.2.2.1, hw.2.1.F ht, by rw [ht]; exact hw.2.2.2⟩) hw.2.1.2.2 dX2_init_13
set_option maxHeartbeats 4000000 in
set_option maxRecDepth 100000 in
theorem c_X2_empty (l : Launch) (D : va_G) (tc : Nat → ClassId) (sz : Nat) (ad : Nat → Nat) (ct : Nat → Option va_E) {nf : Nat}        (h9 : ct 9 = some (.inr (2, [.ref (ad 10), .int (nI nf)]))) : Met l yX2_empty wsX2_empty ({ frames := 0, cells := 0, slots := 0, locals := 0 }) (va_Pc [.ref (ad 9)] (kw_B D tc sz ad ct)) (kw_Q D ad (kw_A ad ct sz) (none) (kw_up ct 9 (.inr (2, [.ref (ad 10), .int (nI 0)]))) 0) 0 0 (kw_A ad ct sz) := by
  refine Met.ofW (cc := cX2_empty) (maxL := 1) (ret := none) (by decide) rfl ?_
  intro pg en s m args below meth cod s₁ B hml hv
  obtain ⟨rfl, hsz, hP0, hK⟩ := hv
  have hx := B.exec
  have hb := B.bytes
  have hr := B.returns
  have hts := atoms_spec (ws := wsX2_empty) B.pre
  have hown : s.vm.findClass RX2 = some m.cls := findClass_of_methodNamed B.named
  have hlocks := B.notSynchronized
  subst hsz
  have hw := kw_H.start hP0
  generalize hAe : kw_A ad ct s.heap.size = A at hw ⊢
  have hA : ∀ q, s.heap.size ≤ q → A q := fun q h => by rw [← hAe]; exact Or.inr h
  have hinX2 : ∀ w ∈ wsX20, w ∈ wsX2_empty := by decide +kernel
  have hl := lv_entry ([.ref (ad 9)]) (n := 1) (Nat.le_of_ble_eq_true rfl)
  rw [lg_entry_eq]
  generalize (lg_sl ([.ref (ad 9)]) ++ List.replicate (1 - (lg_sl ([.ref (ad 9)])).length) Slot.unset).toArray = ls at hl ⊢
  have hl : lv_has ls 1 [(0, .ref (ad 9))] := hl
  have S0 : CallFix pg m cod cX2_empty 1 s _ wsX2_empty RX2 := ⟨hx, hb, hml, hown, hts⟩
  have hfr : ∀ j, j ≠ 9 → ct j = ct j := fun _ _ => rfl
  refine lv_aload_n hx hb dX2_empty_0 rfl (lv_at hl 0 rfl) ?_
  refine lv_iconst (v := 0) hx hb dX2_empty_1 (by decide) ?_
  refine kg_put (v := .int 0) (ty := .int) (C := RX2) (T := TX2) (N := 2) (fs' := [.ref (ad 10), .int 0]) hx hb hts hinX2 tyX2 tyX2_ok nmX2 hown hK hw h9 rfl 1 (by decide) (hts (.fieldLink RX2 17 "BetMaker$Log" "size" "I") (by decide +kernel)) (fun _ h9 => h9) rfl (by decide +kernel) rfl rfl (Nat.le_of_ble_eq_true rfl) rfl dX2_empty_2 (fun H locs hw => ?_)
  obtain ⟨ct_1, ect_1⟩ : ∃ z, z = kw_up ct 9 (.inr (2, [.ref (ad 10), .int 0])) := ⟨_, rfl⟩
  rw [← ect_1] at hw
  have h_2 : ct_1 9 = some (.inr (2, [.ref (ad 10), .int 0])) := by rw [ect_1]; exact kw_up_s
  have hfr_3 : ∀ j, j ≠ 9 → ct_1 j = ct j := fun j a0 => by rw [ect_1]; exact (kw_up_n a0).trans (hfr j a0)
  have hq_4 : ct_1 9 = some (.inr (2, [.ref (ad 10), .int (nI 0)])) := h_2.trans (congrArg some (show (.inr (2, [.ref (ad 10), .int 0]) : va_E) = .inr (2, [.ref (ad 10), .int (nI 0)]) from by rfl))
  have hend := kw_eq1 hq_4 hfr_3
  rw [hend] at hw
  exact W.vret hx hb hr (fun t ht _ => ⟨rfl, by rw [ht]; exact hw.1, hw.2.2.1, hw.2.1.F ht, by rw [ht]; exact hw.2.2.2⟩) hw.2.1.2.2 dX2_empty_5
set_option maxHeartbeats 4000000 in
set_option maxRecDepth 100000 in
theorem c_X2_size (l : Launch) (D : va_G) (tc : Nat → ClassId) (sz : Nat) (ad : Nat → Nat) (ct : Nat → Option va_E) {nf : Nat}        (h9 : ct 9 = some (.inr (2, [.ref (ad 10), .int (nI nf)]))) : Met l yX2_size wsX2_size ({ frames := 0, cells := 0, slots := 0, locals := 0 }) (va_Pc [.ref (ad 9)] (kw_B D tc sz ad ct)) (k2_QcV (.int (nI nf))) 0 0 (fun _ => False) := by
  refine Met.ofW (cc := cX2_size) (maxL := 1) (ret := (some .int)) (by decide) rfl ?_
  intro pg en s m args below meth cod s₁ B hml hv
  obtain ⟨rfl, hsz, hP0, hK⟩ := hv
  have hx := B.exec
  have hb := B.bytes
  have hr := B.returns
  have hts := atoms_spec (ws := wsX2_size) B.pre
  have hown : s.vm.findClass RX2 = some m.cls := findClass_of_methodNamed B.named
  have hlocks := B.notSynchronized
  subst hsz
  have hw := kw_H.start hP0
  generalize kw_A ad ct s.heap.size = A at hw
  have hinX2 : ∀ w ∈ wsX20, w ∈ wsX2_size := by decide +kernel
  have hl := lv_entry ([.ref (ad 9)]) (n := 1) (Nat.le_of_ble_eq_true rfl)
  rw [lg_entry_eq]
  generalize (lg_sl ([.ref (ad 9)]) ++ List.replicate (1 - (lg_sl ([.ref (ad 9)])).length) Slot.unset).toArray = ls at hl ⊢
  have hl : lv_has ls 1 [(0, .ref (ad 9))] := hl
  have S0 : CallFix pg m cod cX2_size 1 s _ wsX2_size RX2 := ⟨hx, hb, hml, hown, hts⟩
  refine lv_aload_n hx hb dX2_size_0 rfl (lv_at hl 0 rfl) ?_
  refine kg_get (v := .int (nI nf)) (C := RX2) (T := TX2) (N := 2) hx hb hts hinX2 hown hK hw h9 rfl 1 (by decide) (hts (.fieldLink RX2 17 "BetMaker$Log" "size" "I") (by decide +kernel)) (fun _ h9 => h9) rfl dX2_size_1 ?_
  exact W.iret hx hb hr (fun t ht _ => ⟨rfl, ht⟩) (fun _ h => absurd h List.not_mem_nil) dX2_size_4
set_option maxHeartbeats 4000000 in
set_option maxRecDepth 100000 in
theorem c_X2_isFull (l : Launch) (D : va_G) (tc : Nat → ClassId) (sz : Nat) (ad : Nat → Nat) (ct : Nat → Option va_E) {nf : Nat}        (h9 : ct 9 = some (.inr (2, [.ref (ad 10), .int (nI nf)]))) (hnf : nf ≤ 40) : Met l yX2_isFull wsX2_isFull ({ frames := 0, cells := 0, slots := 0, locals := 0 }) (va_Pc [.ref (ad 9)] (kw_B D tc sz ad ct)) (k2_QcV (.int (kb (40 ≤ nf)))) 0 0 (fun _ => False) := by
  refine Met.ofW (cc := cX2_isFull) (maxL := 1) (ret := (some .boolean)) (by decide) rfl ?_
  intro pg en s m args below meth cod s₁ B hml hv
  obtain ⟨rfl, hsz, hP0, hK⟩ := hv
  have hx := B.exec
  have hb := B.bytes
  have hr := B.returns
  have hts := atoms_spec (ws := wsX2_isFull) B.pre
  have hown : s.vm.findClass RX2 = some m.cls := findClass_of_methodNamed B.named
  have hlocks := B.notSynchronized
  subst hsz
  have hw := kw_H.start hP0
  generalize kw_A ad ct s.heap.size = A at hw
  have hinX2 : ∀ w ∈ wsX20, w ∈ wsX2_isFull := by decide +kernel
  have hl := lv_entry ([.ref (ad 9)]) (n := 1) (Nat.le_of_ble_eq_true rfl)
  rw [lg_entry_eq]
  generalize (lg_sl ([.ref (ad 9)]) ++ List.replicate (1 - (lg_sl ([.ref (ad 9)])).length) Slot.unset).toArray = ls at hl ⊢
  have hl : lv_has ls 1 [(0, .ref (ad 9))] := hl
  have S0 : CallFix pg m cod cX2_isFull 1 s _ wsX2_isFull RX2 := ⟨hx, hb, hml, hown, hts⟩
  refine lv_aload_n hx hb dX2_isFull_0 rfl (lv_at hl 0 rfl) ?_
  refine kg_get (v := .int (nI nf)) (C := RX2) (T := TX2) (N := 2) hx hb hts hinX2 hown hK hw h9 rfl 1 (by decide) (hts (.fieldLink RX2 17 "BetMaker$Log" "size" "I") (by decide +kernel)) (fun _ h9 => h9) rfl dX2_isFull_1 ?_
  refine lv_bipush (v := 40) hx hb dX2_isFull_4 (by decide) ?_
  refine kn_lt nf 40 rfl rfl (by omega) (by omega) (tgt := 13) hx hb dX2_isFull_6 (by decide) (fun c_1 => ?_) (fun c_1 => ?_)
  · refine lv_iconst (v := 0) hx hb dX2_isFull_13 (by decide) ?_
    refine W.eq (congrArg (fun z => F0 m 14 ls [.int z]) (show 0 = (kb (40 ≤ nf)) from by exact (kb_f (by omega)).symm)) ?_
    exact W.zret hx hb hr kb_nar (fun t ht _ => ⟨rfl, ht⟩) (fun _ h => absurd h List.not_mem_nil) dX2_isFull_14
  · refine lv_iconst (v := 1) hx hb dX2_isFull_9 (by decide) ?_
    refine lv_goto (tgt := 14) hx hb dX2_isFull_10 (by decide) ?_
    refine W.eq (congrArg (fun z => F0 m 14 ls [.int z]) (show 1 = (kb (40 ≤ nf)) from by exact (kb_t (by omega)).symm)) ?_
    exact W.zret hx hb hr kb_nar (fun t ht _ => ⟨rfl, ht⟩) (fun _ h => absurd h List.not_mem_nil) dX2_isFull_14
set_option maxHeartbeats 4000000 in
set_option maxRecDepth 100000 in
theorem c_X2_find (l : Launch) (D : va_G) (tc : Nat → ClassId) (sz : Nat) (ad : Nat → Nat) (ct : Nat → Option va_E) {nf fx : Nat}    {qf : Nat → Option Nat}    (h9 : ct 9 = some (.inr (2, [.ref (ad 10), .int (nI nf)]))) (h10 : ct 10 = some (eQ tc 2 40 qf)) (hf : fx < nf) (hnf : nf ≤ 40) (hq : qf fx = some (ad (100 + fx))) : Met l yX2_find wsX2_find ({ frames := 0, cells := 0, slots := 0, locals := 0 }) (va_Pc [.ref (ad 9), .int (nI fx)] (kw_B D tc sz ad ct)) (k2_QcV (.ref (ad (100 + fx)))) 0 0 (fun _ => False) := by
  refine Met.ofW (cc := cX2_find) (maxL := 2) (ret := (some (.object "BetMaker$Forecast"))) (by decide) rfl ?_
  intro pg en s m args below meth cod s₁ B hml hv
  obtain ⟨rfl, hsz, hP0, hK⟩ := hv
  have hx := B.exec
  have hb := B.bytes
  have hr := B.returns
  have hts := atoms_spec (ws := wsX2_find) B.pre
  have hown : s.vm.findClass RX2 = some m.cls := findClass_of_methodNamed B.named
  have hlocks := B.notSynchronized
  subst hsz
  have hw := kw_H.start hP0
  generalize kw_A ad ct s.heap.size = A at hw
  have hinX2 : ∀ w ∈ wsX20, w ∈ wsX2_find := by decide +kernel
  have hl := lv_entry ([.ref (ad 9), .int (nI fx)]) (n := 2) (Nat.le_of_ble_eq_true rfl)
  rw [lg_entry_eq]
  generalize (lg_sl ([.ref (ad 9), .int (nI fx)]) ++ List.replicate (2 - (lg_sl ([.ref (ad 9), .int (nI fx)])).length) Slot.unset).toArray = ls at hl ⊢
  have hl : lv_has ls 2 [(0, .ref (ad 9)), (1, .int (nI fx))] := hl
  have S0 : CallFix pg m cod cX2_find 2 s _ wsX2_find RX2 := ⟨hx, hb, hml, hown, hts⟩
  refine lv_iload_n hx hb dX2_find_0 rfl (lv_at hl 1 rfl) ?_
  refine lv_if_lt (tgt := 27) hx hb dX2_find_1 (by decide) (fun c_1 => ?_) (fun c_1 => ?_)
  · exact absurd c_1 (nI_pos (by omega))
  · refine lv_iload_n hx hb dX2_find_4 rfl (lv_at hl 1 rfl) ?_
    refine lv_aload_n hx hb dX2_find_5 rfl (lv_at hl 0 rfl) ?_
    refine kg_get (v := .int (nI nf)) (C := RX2) (T := TX2) (N := 2) hx hb hts hinX2 hown hK hw h9 rfl 1 (by decide) (hts (.fieldLink RX2 17 "BetMaker$Log" "size" "I") (by decide +kernel)) (fun _ h9 => h9) rfl dX2_find_6 ?_
    refine kn_ge fx nf rfl rfl (by omega) (by omega) (tgt := 27) hx hb dX2_find_9 (by decide) (fun c_2 => ?_) (fun c_2 => ?_)
    · exfalso; omega
    · refine lv_iload_n hx hb dX2_find_12 rfl (lv_at hl 1 rfl) ?_
      refine lv_bipush (v := 40) hx hb dX2_find_13 (by decide) ?_
      refine kn_ge fx 40 rfl rfl (by omega) (by omega) (tgt := 27) hx hb dX2_find_15 (by decide) (fun c_3 => ?_) (fun c_3 => ?_)
      · exfalso; omega
      · refine lv_aload_n hx hb dX2_find_18 rfl (lv_at hl 0 rfl) ?_
        refine kg_get (v := .ref (ad 10)) (C := RX2) (T := TX2) (N := 2) hx hb hts hinX2 hown hK hw h9 rfl 0 (by decide) (hts (.fieldLink RX2 11 "BetMaker$Log" "kept" "[LBetMaker$Forecast;") (by decide +kernel)) (fun _ h9 => h9) rfl dX2_find_19 ?_
        refine lv_iload_n hx hb dX2_find_22 rfl (lv_at hl 1 rfl) ?_
        refine kg_aald hx hb hK hw 2 h10 rfl fx rfl (by omega) (by omega) dX2_find_23 ?_
        rw [hq]
        show W _ _ _ _ _ _ _ _ _ _ _ _ _ _ _ (F0 m 24 ls (.ref (ad (100 + fx)) :: []))
        refine lv_goto (tgt := 28) hx hb dX2_find_24 (by decide) ?_
        exact W.aret hx hb hr (Or.inl ⟨_, rfl⟩) (Or.inr ⟨_, rfl⟩) (fun t ht _ => ⟨rfl, ht⟩) (fun _ h => absurd h List.not_mem_nil) dX2_find_28
set_option maxHeartbeats 4000000 in
set_option maxRecDepth 100000 in
theorem c_X2_find_n (l : Launch) (D : va_G) (tc : Nat → ClassId) (sz : Nat) (ad : Nat → Nat) (ct : Nat → Option va_E) {nf : Nat}       {f1 : Int32} (h9 : ct 9 = some (.inr (2, [.ref (ad 10), .int (nI nf)]))) (hf : ¬ (0 ≤ f1 ∧ f1 < nI nf)) : Met l yX2_find wsX2_find ({ frames := 0, cells := 0, slots := 0, locals := 0 }) (va_Pc [.ref (ad 9), .int f1] (kw_B D tc sz ad ct)) (k2_QcV (.null)) 0 0 (fun _ => False) := by
  refine Met.ofW (cc := cX2_find) (maxL := 2) (ret := (some (.object "BetMaker$Forecast"))) (by decide) rfl ?_
  intro pg en s m args below meth cod s₁ B hml hv
  obtain ⟨rfl, hsz, hP0, hK⟩ := hv
  have hx := B.exec
  have hb := B.bytes
  have hr := B.returns
  have hts := atoms_spec (ws := wsX2_find) B.pre
  have hown : s.vm.findClass RX2 = some m.cls := findClass_of_methodNamed B.named
  have hlocks := B.notSynchronized
  subst hsz
  have hw := kw_H.start hP0
  generalize kw_A ad ct s.heap.size = A at hw
  have hinX2 : ∀ w ∈ wsX20, w ∈ wsX2_find := by decide +kernel
  have hl := lv_entry ([.ref (ad 9), .int f1]) (n := 2) (Nat.le_of_ble_eq_true rfl)
  rw [lg_entry_eq]
  generalize (lg_sl ([.ref (ad 9), .int f1]) ++ List.replicate (2 - (lg_sl ([.ref (ad 9), .int f1])).length) Slot.unset).toArray = ls at hl ⊢
  have hl : lv_has ls 2 [(0, .ref (ad 9)), (1, .int f1)] := hl
  have S0 : CallFix pg m cod cX2_find 2 s _ wsX2_find RX2 := ⟨hx, hb, hml, hown, hts⟩
  refine lv_iload_n hx hb dX2_find_0 rfl (lv_at hl 1 rfl) ?_
  refine lv_if_lt (tgt := 27) hx hb dX2_find_1 (by decide) (fun c_1 => ?_) (fun c_1 => ?_)
  · refine lv_null hx hb dX2_find_27 ?_
    exact W.aret hx hb hr (Or.inl ⟨_, rfl⟩) (Or.inl rfl) (fun t ht _ => ⟨rfl, ht⟩) (fun _ h => absurd h List.not_mem_nil) dX2_find_28
  · refine lv_iload_n hx hb dX2_find_4 rfl (lv_at hl 1 rfl) ?_
    refine lv_aload_n hx hb dX2_find_5 rfl (lv_at hl 0 rfl) ?_
    refine kg_get (v := .int (nI nf)) (C := RX2) (T := TX2) (N := 2) hx hb hts hinX2 hown hK hw h9 rfl 1 (by decide) (hts (.fieldLink RX2 17 "BetMaker$Log" "size" "I") (by decide +kernel)) (fun _ h9 => h9) rfl dX2_find_6 ?_
    refine lv_icmp_ge (tgt := 27) hx hb dX2_find_9 (by decide) (fun c_2 => ?_) (fun c_2 => ?_)
    · refine lv_null hx hb dX2_find_27 ?_
      exact W.aret hx hb hr (Or.inl ⟨_, rfl⟩) (Or.inl rfl) (fun t ht _ => ⟨rfl, ht⟩) (fun _ h => absurd h List.not_mem_nil) dX2_find_28
    · exact absurd ⟨kq_1 c_1, kq_2 c_2⟩ hf
set_option maxHeartbeats 4000000 in
set_option maxRecDepth 100000 in
theorem c_X2_add (l : Launch) (D : va_G) (tc : Nat → ClassId) (sz : Nat) (ad : Nat → Nat) (ct : Nat → Option va_E) {nf cf fx : Nat}  {sm sq : Int64}  {qf : Nat → Option Nat}    (h9 : ct 9 = some (.inr (2, [.ref (ad 10), .int (nI nf)]))) (h10 : ct 10 = some (eQ tc 2 40 qf)) (h100 : ct (100 + fx) = some (.inr (1, [.ref (ad (140 + fx)), .int (nI cf), .long sm, .long sq]))) (hnf : nf < 40) : Met l yX2_add wsX2_add ({ frames := 1, cells := 0, slots := 0, locals := 24 }) (va_Pc [.ref (ad 9), .ref (ad (100 + fx))] (kw_B D tc sz ad ct)) (kw_Q D ad (kw_A ad ct sz) (some (.int (nI nf))) (kw_up (kw_up ct 9 (.inr (2, [.ref (ad 10), .int (nI (nf + 1))]))) 10 (eQ tc 2 40 (va_up qf nf (some (ad (100 + fx)))))) 0) 0 0 (kw_A ad ct sz) := by
  refine Met.ofW (cc := cX2_add) (maxL := 2) (ret := (some .int)) (by decide) rfl ?_
  intro pg en s m args below meth cod s₁ B hml hv
  obtain ⟨rfl, hsz, hP0, hK⟩ := hv
  have hx := B.exec
  have hb := B.bytes
  have hr := B.returns
  have hts := atoms_spec (ws := wsX2_add) B.pre
  have hown : s.vm.findClass RX2 = some m.cls := findClass_of_methodNamed B.named
  have hlocks := B.notSynchronized
  subst hsz
  have hw := kw_H.start hP0
  generalize hAe : kw_A ad ct s.heap.size = A at hw ⊢
  have hA : ∀ q, s.heap.size ≤ q → A q := fun q h => by rw [← hAe]; exact Or.inr h
  have hinX2 : ∀ w ∈ wsX20, w ∈ wsX2_add := by decide +kernel
  have hl := lv_entry ([.ref (ad 9), .ref (ad (100 + fx))]) (n := 2) (Nat.le_of_ble_eq_true rfl)
  rw [lg_entry_eq]
  generalize (lg_sl ([.ref (ad 9), .ref (ad (100 + fx))]) ++ List.replicate (2 - (lg_sl ([.ref (ad 9), .ref (ad (100 + fx))])).length) Slot.unset).toArray = ls at hl ⊢
  have hl : lv_has ls 2 [(0, .ref (ad 9)), (1, .ref (ad (100 + fx)))] := hl
  have S0 : CallFix pg m cod cX2_add 2 s _ wsX2_add RX2 := ⟨hx, hb, hml, hown, hts⟩
  have hfr : ∀ j, j ≠ 9 → j ≠ 10 → ct j = ct j := fun _ _ _ => rfl
  refine lv_aload_n hx hb dX2_add_0 rfl (lv_at hl 0 rfl) ?_
  refine kc_v (As := []) (rest := []) S0 (c_X2_isFull l D tc s.heap.size ad ct (nf := nf) h9 (by omega)) (cwV 0 hts gX2_add_X2_isFull rfl rfl rfl (by decide +kernel) ⟨Nat.le_of_ble_eq_true rfl, Nat.le_of_ble_eq_true rfl⟩) hK hw h9 rfl rfl hl.1 rfl (Nat.le_of_ble_eq_true rfl) dX2_add_1 ⟨Nat.le_of_ble_eq_true rfl, (Nat.le_of_ble_eq_true rfl)⟩ ?_
  refine kb_ifeq (tgt := 10) hx hb dX2_add_4 (by decide) (fun c_1 => ?_) (fun c_1 => ?_)
  · refine lv_aload_n hx hb dX2_add_10 rfl (lv_at hl 0 rfl) ?_
    refine kg_get (v := .ref (ad 10)) (C := RX2) (T := TX2) (N := 2) hx hb hts hinX2 hown hK hw h9 rfl 0 (by decide) (hts (.fieldLink RX2 11 "BetMaker$Log" "kept" "[LBetMaker$Forecast;") (by decide +kernel)) (fun _ h9 => h9) rfl dX2_add_11 ?_
    refine lv_aload_n hx hb dX2_add_14 rfl (lv_at hl 0 rfl) ?_
    refine kg_get (v := .int (nI nf)) (C := RX2) (T := TX2) (N := 2) hx hb hts hinX2 hown hK hw h9 rfl 1 (by decide) (hts (.fieldLink RX2 17 "BetMaker$Log" "size" "I") (by decide +kernel)) (fun _ h9 => h9) rfl dX2_add_15 ?_
    refine lv_aload_n hx hb dX2_add_18 rfl (lv_at hl 1 rfl) ?_
    refine kg_aast (r := (RX1, TX1, 4)) hx hb hK hw 2 h10 rfl h100 rfl (Or.inl rfl) nf rfl (by omega) (by omega) dX2_add_19 (fun H locs hw => ?_)
    obtain ⟨ct_2, ect_2⟩ : ∃ z, z = kw_up ct 10 (eQ tc 2 40 (va_up qf nf (some (ad (100 + fx))))) := ⟨_, rfl⟩
    rw [← ect_2] at hw
    have h_3 : ct_2 9 = some (.inr (2, [.ref (ad 10), .int (nI nf)])) := by rw [ect_2, kw_up_n (by omega)]; exact h9
    have h_4 : ct_2 (100 + fx) = some (.inr (1, [.ref (ad (140 + fx)), .int (nI cf), .long sm, .long sq])) := by rw [ect_2, kw_up_n (by omega)]; exact h100
    have h_5 : ct_2 10 = some (eQ tc 2 40 (va_up qf nf (some (ad (100 + fx))))) := by rw [ect_2]; exact kw_up_s
    have hfr_6 : ∀ j, j ≠ 9 → j ≠ 10 → ct_2 j = ct j := fun j a0 a1 => by rw [ect_2]; exact (kw_up_n a1).trans (hfr j a0 a1)
    refine lv_aload_n hx hb dX2_add_20 rfl (lv_at hl 0 rfl) ?_
    refine lv_dup hx hb dX2_add_21 rfl ?_
    refine kg_get (v := .int (nI nf)) (C := RX2) (T := TX2) (N := 2) hx hb hts hinX2 hown hK hw h_3 rfl 1 (by decide) (hts (.fieldLink RX2 17 "BetMaker$Log" "size" "I") (by decide +kernel)) (fun _ h9 => h9) rfl dX2_add_22 ?_
    refine lv_iconst (v := 1) hx hb dX2_add_25 (by decide) ?_
    refine lv_iadd hx hb dX2_add_26 ?_
    refine kg_put (v := .int ((nI nf) + 1)) (ty := .int) (C := RX2) (T := TX2) (N := 2) (fs' := [.ref (ad 10), .int ((nI nf) + 1)]) hx hb hts hinX2 tyX2 tyX2_ok nmX2 hown hK hw h_3 rfl 1 (by decide) (hts (.fieldLink RX2 17 "BetMaker$Log" "size" "I") (by decide +kernel)) (fun _ h9 => h9) rfl (by decide +kernel) rfl rfl (Nat.le_of_ble_eq_true rfl) rfl dX2_add_27 (fun H locs hw => ?_)
    obtain ⟨ct_7, ect_7⟩ : ∃ z, z = kw_up ct_2 9 (.inr (2, [.ref (ad 10), .int ((nI nf) + 1)])) := ⟨_, rfl⟩
    rw [← ect_7] at hw
    have h_8 : ct_7 (100 + fx) = some (.inr (1, [.ref (ad (140 + fx)), .int (nI cf), .long sm, .long sq])) := by rw [ect_7, kw_up_n (by omega)]; exact h_4
    have h_9 : ct_7 10 = some (eQ tc 2 40 (va_up qf nf (some (ad (100 + fx))))) := by rw [ect_7, kw_up_n (by omega)]; exact h_5
    have h_10 : ct_7 9 = some (.inr (2, [.ref (ad 10), .int ((nI nf) + 1)])) := by rw [ect_7]; exact kw_up_s
    have hfr_11 : ∀ j, j ≠ 9 → j ≠ 10 → ct_7 j = ct j := fun j a0 a1 => by rw [ect_7]; exact (kw_up_n a0).trans (hfr_6 j a0 a1)
    refine lv_aload_n hx hb dX2_add_30 rfl (lv_at hl 0 rfl) ?_
    refine kg_get (v := .int ((nI nf) + 1)) (C := RX2) (T := TX2) (N := 2) hx hb hts hinX2 hown hK hw h_10 rfl 1 (by decide) (hts (.fieldLink RX2 17 "BetMaker$Log" "size" "I") (by decide +kernel)) (fun _ h9 => h9) rfl dX2_add_31 ?_
    refine lv_iconst (v := 1) hx hb dX2_add_34 (by decide) ?_
    refine lv_isub hx hb dX2_add_35 ?_
    refine W.eq (congrArg (fun z => F0 m 36 ls [.int z]) (show (((nI nf) + 1) - 1) = (nI nf) from by exact Int32.add_sub_cancel _ _)) ?_
    have hq_12 : ct_7 9 = some (.inr (2, [.ref (ad 10), .int (nI (nf + 1))])) := h_10.trans (congrArg some (show (.inr (2, [.ref (ad 10), .int ((nI nf) + 1)]) : va_E) = .inr (2, [.ref (ad 10), .int (nI (nf + 1))]) from by rw [← nI_1]))
    have hq_13 := h_9
    have hend := kw_eq2 hq_12 hq_13 hfr_11
    rw [hend] at hw
    exact W.iret hx hb hr (fun t ht _ => ⟨rfl, by rw [ht]; exact hw.1, hw.2.2.1, hw.2.1.F ht, by rw [ht]; exact hw.2.2.2⟩) hw.2.1.2.2 dX2_add_36
  · exfalso; omega
set_option maxHeartbeats 4000000 in
set_option maxRecDepth 100000 in
theorem c_X2_countGiven (l : Launch) (D : va_G) (tc : Nat → ClassId) (sz : Nat) (ad : Nat → Nat) (ct : Nat → Option va_E) {N nf c : Nat}    {qf : Nat → Option Nat}   {cf : Nat → Nat} {sm sq : Nat → Int64} {w : Nat → Nat → Int32} {t1 : Int32} (h9 : ct 9 = some (.inr (2, [.ref (ad 10), .int (nI nf)]))) (h10 : ct 10 = some (eQ tc 2 40 qf)) (hnf : nf ≤ 40) (hc : c < N) (hN : N ≤ 8) (hfam : ∀ yy, yy < nf → (qf yy = some (ad (100 + yy)) ∧ cf yy < N) ∧ ct (100 + yy) = some (.inr (1, [.ref (ad (140 + yy)), .int (nI (cf yy)), .long (sm yy), .long (sq yy)])) ∧ ct (140 + yy) = some (eI tc N (w yy))) : Met l yX2_countGiven wsX2_countGiven ({ frames := 2, cells := 0, slots := 0, locals := 51 }) (va_Pc [.ref (ad 9), .int (nI c), .int t1] (kw_B D tc sz ad ct)) (k2_QcV (.int (nI (kcn (fun z => decide (10 * (w z c).toInt64 = t1.toInt64 * sm z)) nf)))) 0 0 (fun _ => False) := by
  refine Met.ofW (cc := cX2_countGiven) (maxL := 6) (ret := (some .int)) (by decide) rfl ?_
  intro pg en s m args below meth cod s₁ B hml hv
  obtain ⟨rfl, hsz, hP0, hK⟩ := hv
  have hx := B.exec
  have hb := B.bytes
  have hr := B.returns
  have hts := atoms_spec (ws := wsX2_countGiven) B.pre
  have hown : s.vm.findClass RX2 = some m.cls := findClass_of_methodNamed B.named
  have hlocks := B.notSynchronized
  subst hsz
  have hw := kw_H.start hP0
  generalize kw_A ad ct s.heap.size = A at hw
  have hinX2 : ∀ w ∈ wsX20, w ∈ wsX2_countGiven := by decide +kernel
  have hl := lv_entry ([.ref (ad 9), .int (nI c), .int t1]) (n := 6) (Nat.le_of_ble_eq_true rfl)
  rw [lg_entry_eq]
  generalize (lg_sl ([.ref (ad 9), .int (nI c), .int t1]) ++ List.replicate (6 - (lg_sl ([.ref (ad 9), .int (nI c), .int t1])).length) Slot.unset).toArray = ls at hl ⊢
  have hl : lv_has ls 6 [(0, .ref (ad 9)), (1, .int (nI c)), (2, .int t1)] := hl
  have S0 : CallFix pg m cod cX2_countGiven 6 s _ wsX2_countGiven RX2 := ⟨hx, hb, hml, hown, hts⟩
  refine lv_iconst (v := 0) hx hb dX2_countGiven_0 (by decide) ?_
  refine lv_istore_n (lv' := [(3, .int 0), (0, .ref (ad 9)), (1, .int (nI c)), (2, .int t1)]) hx hb dX2_countGiven_1 rfl hl (by decide) rfl (fun ls hl => ?_)
  refine lv_iconst (v := 0) hx hb dX2_countGiven_2 (by decide) ?_
  refine lv_istore (lv' := [(4, .int 0), (3, .int 0), (0, .ref (ad 9)), (1, .int (nI c)), (2, .int t1)]) hx hb dX2_countGiven_3 hl (by decide) rfl (fun ls hl => ?_)
  suffices lp5 : ∀ (nfu : Nat) (i a1 : Nat) (ls : Array Slot), nf - i < nfu → i ≤ nf → a1 = kcn (fun z => decide (10 * (w z c).toInt64 = t1.toInt64 * sm z)) i → lv_has ls 6 [(0, .ref (ad 9)), (1, .int (nI c)), (2, .int t1), (3, .int (nI a1)), (4, .int (nI i))] → W pg l en (headSpec wsX2_countGiven ({ frames := 2, cells := 0, slots := 0, locals := 51 })).room s m (([.ref (ad 9), .int (nI c), .int t1] : List Value).toArray) below meth cod s.heap [] 0 0 (MQ below (k2_QcV (.int (nI (kcn (fun z => decide (10 * (w z c).toInt64 = t1.toInt64 * sm z)) nf)))) (([.ref (ad 9), .int (nI c), .int t1] : List Value).toArray) s 0 0 (fun _ => False)) (F0 m 5 ls []) by
    exact lp5 (nf - 0 + 1) 0 0 ls (by omega) (by omega) (by rfl) (by have hl9 := lv_sub hl (l' := [(0, .ref (ad 9)), (1, .int (nI c)), (2, .int t1), (3, .int 0), (4, .int 0)]) [2, 3, 4, 1, 0] rfl; exact hl9)
  intro n5
  induction n5 with
  | zero => intro i a1 ls hfu; exact absurd hfu (Nat.not_lt_zero _)
  | succ n5 ih5 =>
    intro i a1 ls hfu5 hi ha hl
    refine lv_iload hx hb dX2_countGiven_5 (lv_at hl 4 rfl) ?_
    refine lv_aload_n hx hb dX2_countGiven_7 rfl (lv_at hl 0 rfl) ?_
    refine kg_get (v := .int (nI nf)) (C := RX2) (T := TX2) (N := 2) hx hb hts hinX2 hown hK hw h9 rfl 1 (by decide) (hts (.fieldLink RX2 17 "BetMaker$Log" "size" "I") (by decide +kernel)) (fun _ h9 => h9) rfl dX2_countGiven_8 ?_
    refine kn_ge i nf rfl rfl (by omega) (by omega) (tgt := 46) hx hb dX2_countGiven_11 (by decide) (fun c_1 => ?_) (fun c_1 => ?_)
    · refine lv_iload_n hx hb dX2_countGiven_46 rfl (lv_at hl 3 rfl) ?_
      refine W.eq (congrArg (fun z => F0 m 47 ls [.int z]) (show (nI a1) = (nI (kcn (fun z => decide (10 * (w z c).toInt64 = t1.toInt64 * sm z)) nf)) from by rw [ha, show i = nf by omega])) ?_
      exact W.iret hx hb hr (fun t ht _ => ⟨rfl, ht⟩) (fun _ h => absurd h List.not_mem_nil) dX2_countGiven_47
    · obtain ⟨⟨hq, hcf⟩, hFc, hFw⟩ := hfam i (by omega)
      refine lv_aload_n hx hb dX2_countGiven_14 rfl (lv_at hl 0 rfl) ?_
      refine lv_iload hx hb dX2_countGiven_15 (lv_at hl 4 rfl) ?_
      refine kc_v (As := [.int (nI i)]) (rest := []) S0 (c_X2_find l D tc s.heap.size ad ct (fx := i) (nf := nf) h9 h10 (by omega) (by omega) hq) (cwV 1 hts gX2_countGiven_X2_find rfl rfl rfl (by decide +kernel) ⟨Nat.le_of_ble_eq_true rfl, Nat.le_of_ble_eq_true rfl⟩) hK hw h9 rfl rfl hl.1 rfl (Nat.le_of_ble_eq_true rfl) dX2_countGiven_17 ⟨Nat.le_of_ble_eq_true rfl, (Nat.le_of_ble_eq_true rfl)⟩ ?_
      refine lv_astore (lv' := [(5, .ref (ad (100 + i))), (0, .ref (ad 9)), (1, .int (nI c)), (2, .int t1), (3, .int (nI a1)), (4, .int (nI i))]) hx hb dX2_countGiven_20 hl (by decide) rfl (fun ls hl => ?_)
      refine lv_aload hx hb dX2_countGiven_22 (lv_at hl 0 rfl) ?_
      refine lv_ifnull hx hb dX2_countGiven_24 ?_
      refine lv_aload hx hb dX2_countGiven_27 (lv_at hl 0 rfl) ?_
      refine lv_iload_n hx hb dX2_countGiven_29 rfl (lv_at hl 2 rfl) ?_
      refine lv_iload_n hx hb dX2_countGiven_30 rfl (lv_at hl 3 rfl) ?_
      refine kc_v (As := [.int (nI c), .int t1]) (rest := []) S0 (c_X1_gave l D tc s.heap.size ad ct (c := c) (cf := (cf i)) hFc hFw hc (by omega)) (cwV 2 hts gX2_countGiven_X1_gave rfl rfl rfl (by decide +kernel) ⟨Nat.le_of_ble_eq_true rfl, Nat.le_of_ble_eq_true rfl⟩) hK hw hFc rfl rfl hl.1 rfl (Nat.le_of_ble_eq_true rfl) dX2_countGiven_31 ⟨Nat.le_of_ble_eq_true rfl, (Nat.le_of_ble_eq_true rfl)⟩ ?_
      refine kb_ifeq (tgt := 40) hx hb dX2_countGiven_34 (by decide) (fun c_2 => ?_) (fun c_2 => ?_)
      · refine lv_iinc (v := (nI (i + 1))) (lv' := [(4, .int (nI (i + 1))), (5, .ref (ad (100 + i))), (0, .ref (ad 9)), (1, .int (nI c)), (2, .int t1), (3, .int (nI a1))]) hx hb dX2_countGiven_40 hl (k := 5) rfl (nI_1 i) (by decide) rfl (fun ls hl => ?_)
        refine lv_goto (tgt := 5) hx hb dX2_countGiven_43 (by decide) ?_
        exact ih5 (i + 1) a1 ls (by omega) (by omega) (by rw [ha]; exact kcn_f (p := (fun z => decide (10 * (w z c).toInt64 = t1.toInt64 * sm z))) (fun q => c_2 (of_decide_eq_true q))) (lv_sub hl [2, 3, 4, 5, 0] rfl)
      · refine lv_iinc (v := (nI (a1 + 1))) (lv' := [(3, .int (nI (a1 + 1))), (5, .ref (ad (100 + i))), (0, .ref (ad 9)), (1, .int (nI c)), (2, .int t1), (4, .int (nI i))]) hx hb dX2_countGiven_37 hl (k := 4) rfl (nI_1 a1) (by decide) rfl (fun ls hl => ?_)
        refine lv_iinc (v := (nI (i + 1))) (lv' := [(4, .int (nI (i + 1))), (3, .int (nI (a1 + 1))), (5, .ref (ad (100 + i))), (0, .ref (ad 9)), (1, .int (nI c)), (2, .int t1)]) hx hb dX2_countGiven_40 hl (k := 5) rfl (nI_1 i) (by decide) rfl (fun ls hl => ?_)
        refine lv_goto (tgt := 5) hx hb dX2_countGiven_43 (by decide) ?_
        exact ih5 (i + 1) (a1 + 1) ls (by omega) (by omega) (by rw [ha]; exact kcn_t (p := (fun z => decide (10 * (w z c).toInt64 = t1.toInt64 * sm z))) (decide_eq_true c_2)) (lv_sub hl [3, 4, 5, 1, 0] rfl)
set_option maxHeartbeats 4000000 in
set_option maxRecDepth 100000 in
theorem c_X2_countCame (l : Launch) (D : va_G) (tc : Nat → ClassId) (sz : Nat) (ad : Nat → Nat) (ct : Nat → Option va_E) {N nf c : Nat}    {qf : Nat → Option Nat}   {cf : Nat → Nat} {sm sq : Nat → Int64} {w : Nat → Nat → Int32} {t1 : Int32} (h9 : ct 9 = some (.inr (2, [.ref (ad 10), .int (nI nf)]))) (h10 : ct 10 = some (eQ tc 2 40 qf)) (hnf : nf ≤ 40) (hc : c < N) (hN : N ≤ 8) (hfam : ∀ yy, yy < nf → (qf yy = some (ad (100 + yy)) ∧ cf yy < N) ∧ ct (100 + yy) = some (.inr (1, [.ref (ad (140 + yy)), .int (nI (cf yy)), .long (sm yy), .long (sq yy)])) ∧ ct (140 + yy) = some (eI tc N (w yy))) : Met l yX2_countCame wsX2_countCame ({ frames := 2, cells := 0, slots := 0, locals := 51 }) (va_Pc [.ref (ad 9), .int (nI c), .int t1] (kw_B D tc sz ad ct)) (k2_QcV (.int (nI (kcn (fun z => decide (cf z = c) && decide (10 * (w z c).toInt64 = t1.toInt64 * sm z)) nf)))) 0 0 (fun _ => False) := by
  refine Met.ofW (cc := cX2_countCame) (maxL := 6) (ret := (some .int)) (by decide) rfl ?_
  intro pg en s m args below meth cod s₁ B hml hv
  obtain ⟨rfl, hsz, hP0, hK⟩ := hv
  have hx := B.exec
  have hb := B.bytes
  have hr := B.returns
  have hts := atoms_spec (ws := wsX2_countCame) B.pre
  have hown : s.vm.findClass RX2 = some m.cls := findClass_of_methodNamed B.named
  have hlocks := B.notSynchronized
  subst hsz
  have hw := kw_H.start hP0
  generalize kw_A ad ct s.heap.size = A at hw
  have hinX2 : ∀ w ∈ wsX20, w ∈ wsX2_countCame := by decide +kernel
  have hl := lv_entry ([.ref (ad 9), .int (nI c), .int t1]) (n := 6) (Nat.le_of_ble_eq_true rfl)
  rw [lg_entry_eq]
  generalize (lg_sl ([.ref (ad 9), .int (nI c), .int t1]) ++ List.replicate (6 - (lg_sl ([.ref (ad 9), .int (nI c), .int t1])).length) Slot.unset).toArray = ls at hl ⊢
  have hl : lv_has ls 6 [(0, .ref (ad 9)), (1, .int (nI c)), (2, .int t1)] := hl
  have S0 : CallFix pg m cod cX2_countCame 6 s _ wsX2_countCame RX2 := ⟨hx, hb, hml, hown, hts⟩
  refine lv_iconst (v := 0) hx hb dX2_countCame_0 (by decide) ?_
  refine lv_istore_n (lv' := [(3, .int 0), (0, .ref (ad 9)), (1, .int (nI c)), (2, .int t1)]) hx hb dX2_countCame_1 rfl hl (by decide) rfl (fun ls hl => ?_)
  refine lv_iconst (v := 0) hx hb dX2_countCame_2 (by decide) ?_
  refine lv_istore (lv' := [(4, .int 0), (3, .int 0), (0, .ref (ad 9)), (1, .int (nI c)), (2, .int t1)]) hx hb dX2_countCame_3 hl (by decide) rfl (fun ls hl => ?_)
  suffices lp5 : ∀ (nfu : Nat) (i a1 : Nat) (ls : Array Slot), nf - i < nfu → i ≤ nf → a1 = kcn (fun z => decide (cf z = c) && decide (10 * (w z c).toInt64 = t1.toInt64 * sm z)) i → lv_has ls 6 [(0, .ref (ad 9)), (1, .int (nI c)), (2, .int t1), (3, .int (nI a1)), (4, .int (nI i))] → W pg l en (headSpec wsX2_countCame ({ frames := 2, cells := 0, slots := 0, locals := 51 })).room s m (([.ref (ad 9), .int (nI c), .int t1] : List Value).toArray) below meth cod s.heap [] 0 0 (MQ below (k2_QcV (.int (nI (kcn (fun z => decide (cf z = c) && decide (10 * (w z c).toInt64 = t1.toInt64 * sm z)) nf)))) (([.ref (ad 9), .int (nI c), .int t1] : List Value).toArray) s 0 0 (fun _ => False)) (F0 m 5 ls []) by
    exact lp5 (nf - 0 + 1) 0 0 ls (by omega) (by omega) (by rfl) (by have hl9 := lv_sub hl (l' := [(0, .ref (ad 9)), (1, .int (nI c)), (2, .int t1), (3, .int 0), (4, .int 0)]) [2, 3, 4, 1, 0] rfl; exact hl9)
  intro n5
  induction n5 with
  | zero => intro i a1 ls hfu; exact absurd hfu (Nat.not_lt_zero _)
  | succ n5 ih5 =>
    intro i a1 ls hfu5 hi ha hl
    refine lv_iload hx hb dX2_countCame_5 (lv_at hl 4 rfl) ?_
    refine lv_aload_n hx hb dX2_countCame_7 rfl (lv_at hl 0 rfl) ?_
    refine kg_get (v := .int (nI nf)) (C := RX2) (T := TX2) (N := 2) hx hb hts hinX2 hown hK hw h9 rfl 1 (by decide) (hts (.fieldLink RX2 17 "BetMaker$Log" "size" "I") (by decide +kernel)) (fun _ h9 => h9) rfl dX2_countCame_8 ?_
    refine kn_ge i nf rfl rfl (by omega) (by omega) (tgt := 55) hx hb dX2_countCame_11 (by decide) (fun c_1 => ?_) (fun c_1 => ?_)
    · refine lv_iload_n hx hb dX2_countCame_55 rfl (lv_at hl 3 rfl) ?_
      refine W.eq (congrArg (fun z => F0 m 56 ls [.int z]) (show (nI a1) = (nI (kcn (fun z => decide (cf z = c) && decide (10 * (w z c).toInt64 = t1.toInt64 * sm z)) nf)) from by rw [ha, show i = nf by omega])) ?_
      exact W.iret hx hb hr (fun t ht _ => ⟨rfl, ht⟩) (fun _ h => absurd h List.not_mem_nil) dX2_countCame_56
    · obtain ⟨⟨hq, hcf⟩, hFc, hFw⟩ := hfam i (by omega)
      refine lv_aload_n hx hb dX2_countCame_14 rfl (lv_at hl 0 rfl) ?_
      refine lv_iload hx hb dX2_countCame_15 (lv_at hl 4 rfl) ?_
      refine kc_v (As := [.int (nI i)]) (rest := []) S0 (c_X2_find l D tc s.heap.size ad ct (fx := i) (nf := nf) h9 h10 (by omega) (by omega) hq) (cwV 1 hts gX2_countCame_X2_find rfl rfl rfl (by decide +kernel) ⟨Nat.le_of_ble_eq_true rfl, Nat.le_of_ble_eq_true rfl⟩) hK hw h9 rfl rfl hl.1 rfl (Nat.le_of_ble_eq_true rfl) dX2_countCame_17 ⟨Nat.le_of_ble_eq_true rfl, (Nat.le_of_ble_eq_true rfl)⟩ ?_
      refine lv_astore (lv' := [(5, .ref (ad (100 + i))), (0, .ref (ad 9)), (1, .int (nI c)), (2, .int t1), (3, .int (nI a1)), (4, .int (nI i))]) hx hb dX2_countCame_20 hl (by decide) rfl (fun ls hl => ?_)
      refine lv_aload hx hb dX2_countCame_22 (lv_at hl 0 rfl) ?_
      refine lv_ifnull hx hb dX2_countCame_24 ?_
      refine lv_aload hx hb dX2_countCame_27 (lv_at hl 0 rfl) ?_
      refine kc_v (As := []) (rest := []) S0 (c_X1_came l D tc s.heap.size ad ct (cf := (cf i)) hFc) (cwV 0 hts gX2_countCame_X1_came rfl rfl rfl (by decide +kernel) ⟨Nat.le_of_ble_eq_true rfl, Nat.le_of_ble_eq_true rfl⟩) hK hw hFc rfl rfl hl.1 rfl (Nat.le_of_ble_eq_true rfl) dX2_countCame_29 ⟨Nat.le_of_ble_eq_true rfl, (Nat.le_of_ble_eq_true rfl)⟩ ?_
      refine lv_iload_n hx hb dX2_countCame_32 rfl (lv_at hl 2 rfl) ?_
      refine kn_ne (cf i) c rfl rfl (by omega) (by omega) (tgt := 49) hx hb dX2_countCame_33 (by decide) (fun c_2 => ?_) (fun c_2 => ?_)
      · refine lv_iinc (v := (nI (i + 1))) (lv' := [(4, .int (nI (i + 1))), (5, .ref (ad (100 + i))), (0, .ref (ad 9)), (1, .int (nI c)), (2, .int t1), (3, .int (nI a1))]) hx hb dX2_countCame_49 hl (k := 5) rfl (nI_1 i) (by decide) rfl (fun ls hl => ?_)
        refine lv_goto (tgt := 5) hx hb dX2_countCame_52 (by decide) ?_
        exact ih5 (i + 1) a1 ls (by omega) (by omega) (by rw [ha]; exact kcn_f (p := (fun z => decide (cf z = c) && decide (10 * (w z c).toInt64 = t1.toInt64 * sm z))) (by simp only [decide_eq_false c_2, Bool.false_and]; decide)) (lv_sub hl [2, 3, 4, 5, 0] rfl)
      · refine lv_aload hx hb dX2_countCame_36 (lv_at hl 0 rfl) ?_
        refine lv_iload_n hx hb dX2_countCame_38 rfl (lv_at hl 2 rfl) ?_
        refine lv_iload_n hx hb dX2_countCame_39 rfl (lv_at hl 3 rfl) ?_
        refine kc_v (As := [.int (nI c), .int t1]) (rest := []) S0 (c_X1_gave l D tc s.heap.size ad ct (c := c) (cf := (cf i)) hFc hFw hc (by omega)) (cwV 2 hts gX2_countCame_X1_gave rfl rfl rfl (by decide +kernel) ⟨Nat.le_of_ble_eq_true rfl, Nat.le_of_ble_eq_true rfl⟩) hK hw hFc rfl rfl hl.1 rfl (Nat.le_of_ble_eq_true rfl) dX2_countCame_40 ⟨Nat.le_of_ble_eq_true rfl, (Nat.le_of_ble_eq_true rfl)⟩ ?_
        refine kb_ifeq (tgt := 49) hx hb dX2_countCame_43 (by decide) (fun c_3 => ?_) (fun c_3 => ?_)
        · refine lv_iinc (v := (nI (i + 1))) (lv' := [(4, .int (nI (i + 1))), (5, .ref (ad (100 + i))), (0, .ref (ad 9)), (1, .int (nI c)), (2, .int t1), (3, .int (nI a1))]) hx hb dX2_countCame_49 hl (k := 5) rfl (nI_1 i) (by decide) rfl (fun ls hl => ?_)
          refine lv_goto (tgt := 5) hx hb dX2_countCame_52 (by decide) ?_
          exact ih5 (i + 1) a1 ls (by omega) (by omega) (by rw [ha]; exact kcn_f (p := (fun z => decide (cf z = c) && decide (10 * (w z c).toInt64 = t1.toInt64 * sm z))) (by simp only [decide_eq_false c_3, Bool.and_false]; decide)) (lv_sub hl [2, 3, 4, 5, 0] rfl)
        · refine lv_iinc (v := (nI (a1 + 1))) (lv' := [(3, .int (nI (a1 + 1))), (5, .ref (ad (100 + i))), (0, .ref (ad 9)), (1, .int (nI c)), (2, .int t1), (4, .int (nI i))]) hx hb dX2_countCame_46 hl (k := 4) rfl (nI_1 a1) (by decide) rfl (fun ls hl => ?_)
          refine lv_iinc (v := (nI (i + 1))) (lv' := [(4, .int (nI (i + 1))), (3, .int (nI (a1 + 1))), (5, .ref (ad (100 + i))), (0, .ref (ad 9)), (1, .int (nI c)), (2, .int t1)]) hx hb dX2_countCame_49 hl (k := 5) rfl (nI_1 i) (by decide) rfl (fun ls hl => ?_)
          refine lv_goto (tgt := 5) hx hb dX2_countCame_52 (by decide) ?_
          exact ih5 (i + 1) (a1 + 1) ls (by omega) (by omega) (by rw [ha]; exact kcn_t (p := (fun z => decide (cf z = c) && decide (10 * (w z c).toInt64 = t1.toInt64 * sm z))) (by simp only [decide_eq_true c_2, decide_eq_true c_3, Bool.and_self])) (lv_sub hl [3, 4, 5, 1, 0] rfl)
set_option maxHeartbeats 4000000 in
set_option maxRecDepth 100000 in
theorem c_X0_init (l : Launch) (D : va_G) (tc : Nat → ClassId) (sz : Nat) (ad : Nat → Nat) (ct : Nat → Option va_E)         (h4 : ct 4 = some (.inr (0, [.null, .null, .null, .null, .int 0, .int 0, .int 0, .int 0]))) (hk5 : ct 5 = none) (hk5a : ad 5 = sz) (hk6 : ct 6 = none) (hk6a : ad 6 = sz + 1) (hk7 : ct 7 = none) (hk7a : ad 7 = sz + 2) (hk8 : ct 8 = none) (hk8a : ad 8 = sz + 3) : Met l yX0_init wsX0_init ({ frames := 1, cells := 4, slots := 26, locals := 40 }) (va_Pc [.ref (ad 4)] (kw_B D tc sz ad ct)) (kw_Q D ad (kw_A ad ct sz) (none) (kw_up (kw_up (kw_up (kw_up (kw_up ct 4 (.inr (0, [.ref (ad 5), .ref (ad 6), .ref (ad 7), .ref (ad 8), .int (nI 0), .int 0, .int 0, .int (kb (false = true))]))) 5 (eQ tc 3 6 (fun _ => none))) 6 (eI tc 6 (fun _ => 0))) 7 (eI tc 6 (fun _ => 0))) 8 (eI tc 8 (fun _ => 0))) 4) 4 26 (kw_A ad ct sz) := by
  refine Met.ofW (cc := cX0_init) (maxL := 1) (ret := none) (by decide) rfl ?_
  intro pg en s m args below meth cod s₁ B hml hv
  obtain ⟨rfl, hsz, hP0, hK⟩ := hv
  have hx := B.exec
  have hb := B.bytes
  have hr := B.returns
  have hts := atoms_spec (ws := wsX0_init) B.pre
  have hown : s.vm.findClass RX0 = some m.cls := findClass_of_methodNamed B.named
  have hlocks := B.notSynchronized
  have hin2 : meth.name = "<init>" := (name_of_methodNamed B.named B.method).1
  subst hsz
  have hw := kw_H.start hP0
  generalize hAe : kw_A ad ct s.heap.size = A at hw ⊢
  have hA : ∀ q, s.heap.size ≤ q → A q := fun q h => by rw [← hAe]; exact Or.inr h
  have hinX0 : ∀ w ∈ wsX00, w ∈ wsX0_init := by decide +kernel
  have hl := lv_entry ([.ref (ad 4)]) (n := 1) (Nat.le_of_ble_eq_true rfl)
  rw [lg_entry_eq]
  generalize (lg_sl ([.ref (ad 4)]) ++ List.replicate (1 - (lg_sl ([.ref (ad 4)])).length) Slot.unset).toArray = ls at hl ⊢
  have hl : lv_has ls 1 [(0, .ref (ad 4))] := hl
  have S0 : CallFix pg m cod cX0_init 1 s _ wsX0_init RX0 := ⟨hx, hb, hml, hown, hts⟩
  have hfr : ∀ j, j ≠ 4 → j ≠ 5 → j ≠ 6 → j ≠ 7 → j ≠ 8 → ct j = ct j := fun _ _ _ _ _ _ => rfl
  refine lv_aload_n hx hb dX0_init_0 rfl (lv_at hl 0 rfl) ?_
  refine W.objInit hx hb hown (hts (.methodLink RX0 3 objectInit) (by decide +kernel)) (hts (.instanceMethod objectInit) (by decide +kernel)) (hts (.code objectInit ⟨#[0xb1]⟩ 1 none) (by decide +kernel)) rfl (by rw [hml]; exact hl.1) rfl dX0_init_1 (Nat.le_of_ble_eq_true rfl) (Nat.le_of_ble_eq_true rfl) ?_
  refine W.eq (g2 := F0 m 4 ls []) rfl ?_
  refine lv_aload_n hx hb dX0_init_4 rfl (lv_at hl 0 rfl) ?_
  refine lv_bipush (v := 6) hx hb dX0_init_5 (by decide) ?_
  refine kg_newq (C := RX4) hx hb hown (hts (.classLink RX0 9 RX4) (by decide +kernel)) (va_AO.use hK.2.2.2.2.1.2.1) hK hw hA 3 rfl 5 hk5 hk5a 6 rfl (by omega) (Nat.le_of_ble_eq_true rfl) (Nat.le_of_ble_eq_true rfl) dX0_init_7 (fun H hw => ?_)
  obtain ⟨ct_1, ect_1⟩ : ∃ z, z = kw_up ct 5 (eQ tc 3 6 (fun _ => none)) := ⟨_, rfl⟩
  rw [← ect_1] at hw
  have h_2 : ct_1 4 = some (.inr (0, [.null, .null, .null, .null, .int 0, .int 0, .int 0, .int 0])) := by rw [ect_1, kw_up_n (by omega)]; exact h4
  have h_3 : ct_1 5 = some (eQ tc 3 6 (fun _ => none)) := by rw [ect_1]; exact kw_up_s
  have h_4 : ct_1 6 = none := by rw [ect_1, kw_up_n (by omega)]; exact hk6
  have h_5 : ct_1 7 = none := by rw [ect_1, kw_up_n (by omega)]; exact hk7
  have h_6 : ct_1 8 = none := by rw [ect_1, kw_up_n (by omega)]; exact hk8
  have hfr_7 : ∀ j, j ≠ 4 → j ≠ 5 → j ≠ 6 → j ≠ 7 → j ≠ 8 → ct_1 j = ct j := fun j a0 a1 a2 a3 a4 => by rw [ect_1]; exact (kw_up_n a1).trans (hfr j a0 a1 a2 a3 a4)
  refine kg_putF (v := .ref (ad 5)) (ty := .array (.object "BetMaker$Offer")) (C := RX0) (T := TX0) (N := 8) (fs' := [.ref (ad 5), .null, .null, .null, .int 0, .int 0, .int 0, .int 0]) hx hb hts hinX0 tyX0 tyX0_ok nmX0 hown hK hw h_2 rfl 0 (by decide) (hts (.fieldLink RX0 11 "BetMaker$Board" "offers" "[LBetMaker$Offer;") (by decide +kernel)) (fun _ h9 => h9) rfl hin2 rfl (by decide +kernel) rfl rfl (Nat.le_of_ble_eq_true rfl) rfl dX0_init_10 (fun H locs hw => ?_)
  obtain ⟨ct_8, ect_8⟩ : ∃ z, z = kw_up ct_1 4 (.inr (0, [.ref (ad 5), .null, .null, .null, .int 0, .int 0, .int 0, .int 0])) := ⟨_, rfl⟩
  rw [← ect_8] at hw
  have h_9 : ct_8 5 = some (eQ tc 3 6 (fun _ => none)) := by rw [ect_8, kw_up_n (by omega)]; exact h_3
  have h_10 : ct_8 4 = some (.inr (0, [.ref (ad 5), .null, .null, .null, .int 0, .int 0, .int 0, .int 0])) := by rw [ect_8]; exact kw_up_s
  have h_11 : ct_8 6 = none := by rw [ect_8, kw_up_n (by omega)]; exact h_4
  have h_12 : ct_8 7 = none := by rw [ect_8, kw_up_n (by omega)]; exact h_5
  have h_13 : ct_8 8 = none := by rw [ect_8, kw_up_n (by omega)]; exact h_6
  have hfr_14 : ∀ j, j ≠ 4 → j ≠ 5 → j ≠ 6 → j ≠ 7 → j ≠ 8 → ct_8 j = ct j := fun j a0 a1 a2 a3 a4 => by rw [ect_8]; exact (kw_up_n a0).trans (hfr_7 j a0 a1 a2 a3 a4)
  refine lv_aload_n hx hb dX0_init_13 rfl (lv_at hl 0 rfl) ?_
  refine lv_bipush (v := 6) hx hb dX0_init_14 (by decide) ?_
  refine kg_newi hx hb (hts (.arrayClass .int) (by decide +kernel)) hK hw hA 6 h_11 hk6a 6 rfl (by omega) (Nat.le_of_ble_eq_true rfl) (Nat.le_of_ble_eq_true rfl) dX0_init_16 (fun H hw => ?_)
  obtain ⟨ct_15, ect_15⟩ : ∃ z, z = kw_up ct_8 6 (eI tc 6 (fun _ => 0)) := ⟨_, rfl⟩
  rw [← ect_15] at hw
  have h_16 : ct_15 5 = some (eQ tc 3 6 (fun _ => none)) := by rw [ect_15, kw_up_n (by omega)]; exact h_9
  have h_17 : ct_15 4 = some (.inr (0, [.ref (ad 5), .null, .null, .null, .int 0, .int 0, .int 0, .int 0])) := by rw [ect_15, kw_up_n (by omega)]; exact h_10
  have h_18 : ct_15 6 = some (eI tc 6 (fun _ => 0)) := by rw [ect_15]; exact kw_up_s
  have h_19 : ct_15 7 = none := by rw [ect_15, kw_up_n (by omega)]; exact h_12
  have h_20 : ct_15 8 = none := by rw [ect_15, kw_up_n (by omega)]; exact h_13
  have hfr_21 : ∀ j, j ≠ 4 → j ≠ 5 → j ≠ 6 → j ≠ 7 → j ≠ 8 → ct_15 j = ct j := fun j a0 a1 a2 a3 a4 => by rw [ect_15]; exact (kw_up_n a2).trans (hfr_14 j a0 a1 a2 a3 a4)
  refine kg_putF (v := .ref (ad 6)) (ty := .array .int) (C := RX0) (T := TX0) (N := 8) (fs' := [.ref (ad 5), .ref (ad 6), .null, .null, .int 0, .int 0, .int 0, .int 0]) hx hb hts hinX0 tyX0 tyX0_ok nmX0 hown hK hw h_17 rfl 1 (by decide) (hts (.fieldLink RX0 17 "BetMaker$Board" "row" "[I") (by decide +kernel)) (fun _ h9 => h9) rfl hin2 rfl (by decide +kernel) rfl rfl (Nat.le_of_ble_eq_true rfl) rfl dX0_init_18 (fun H locs hw => ?_)
  obtain ⟨ct_22, ect_22⟩ : ∃ z, z = kw_up ct_15 4 (.inr (0, [.ref (ad 5), .ref (ad 6), .null, .null, .int 0, .int 0, .int 0, .int 0])) := ⟨_, rfl⟩
  rw [← ect_22] at hw
  have h_23 : ct_22 5 = some (eQ tc 3 6 (fun _ => none)) := by rw [ect_22, kw_up_n (by omega)]; exact h_16
  have h_24 : ct_22 6 = some (eI tc 6 (fun _ => 0)) := by rw [ect_22, kw_up_n (by omega)]; exact h_18
  have h_25 : ct_22 4 = some (.inr (0, [.ref (ad 5), .ref (ad 6), .null, .null, .int 0, .int 0, .int 0, .int 0])) := by rw [ect_22]; exact kw_up_s
  have h_26 : ct_22 7 = none := by rw [ect_22, kw_up_n (by omega)]; exact h_19
  have h_27 : ct_22 8 = none := by rw [ect_22, kw_up_n (by omega)]; exact h_20
  have hfr_28 : ∀ j, j ≠ 4 → j ≠ 5 → j ≠ 6 → j ≠ 7 → j ≠ 8 → ct_22 j = ct j := fun j a0 a1 a2 a3 a4 => by rw [ect_22]; exact (kw_up_n a0).trans (hfr_21 j a0 a1 a2 a3 a4)
  refine lv_aload_n hx hb dX0_init_21 rfl (lv_at hl 0 rfl) ?_
  refine lv_bipush (v := 6) hx hb dX0_init_22 (by decide) ?_
  refine kg_newi hx hb (hts (.arrayClass .int) (by decide +kernel)) hK hw hA 7 h_26 hk7a 6 rfl (by omega) (Nat.le_of_ble_eq_true rfl) (Nat.le_of_ble_eq_true rfl) dX0_init_24 (fun H hw => ?_)
  obtain ⟨ct_29, ect_29⟩ : ∃ z, z = kw_up ct_22 7 (eI tc 6 (fun _ => 0)) := ⟨_, rfl⟩
  rw [← ect_29] at hw
  have h_30 : ct_29 5 = some (eQ tc 3 6 (fun _ => none)) := by rw [ect_29, kw_up_n (by omega)]; exact h_23
  have h_31 : ct_29 6 = some (eI tc 6 (fun _ => 0)) := by rw [ect_29, kw_up_n (by omega)]; exact h_24
  have h_32 : ct_29 4 = some (.inr (0, [.ref (ad 5), .ref (ad 6), .null, .null, .int 0, .int 0, .int 0, .int 0])) := by rw [ect_29, kw_up_n (by omega)]; exact h_25
  have h_33 : ct_29 7 = some (eI tc 6 (fun _ => 0)) := by rw [ect_29]; exact kw_up_s
  have h_34 : ct_29 8 = none := by rw [ect_29, kw_up_n (by omega)]; exact h_27
  have hfr_35 : ∀ j, j ≠ 4 → j ≠ 5 → j ≠ 6 → j ≠ 7 → j ≠ 8 → ct_29 j = ct j := fun j a0 a1 a2 a3 a4 => by rw [ect_29]; exact (kw_up_n a3).trans (hfr_28 j a0 a1 a2 a3 a4)
  refine kg_putF (v := .ref (ad 7)) (ty := .array .int) (C := RX0) (T := TX0) (N := 8) (fs' := [.ref (ad 5), .ref (ad 6), .ref (ad 7), .null, .int 0, .int 0, .int 0, .int 0]) hx hb hts hinX0 tyX0 tyX0_ok nmX0 hown hK hw h_32 rfl 2 (by decide) (hts (.fieldLink RX0 21 "BetMaker$Board" "bestRow" "[I") (by decide +kernel)) (fun _ h9 => h9) rfl hin2 rfl (by decide +kernel) rfl rfl (Nat.le_of_ble_eq_true rfl) rfl dX0_init_26 (fun H locs hw => ?_)
  obtain ⟨ct_36, ect_36⟩ : ∃ z, z = kw_up ct_29 4 (.inr (0, [.ref (ad 5), .ref (ad 6), .ref (ad 7), .null, .int 0, .int 0, .int 0, .int 0])) := ⟨_, rfl⟩
  rw [← ect_36] at hw
  have h_37 : ct_36 5 = some (eQ tc 3 6 (fun _ => none)) := by rw [ect_36, kw_up_n (by omega)]; exact h_30
  have h_38 : ct_36 6 = some (eI tc 6 (fun _ => 0)) := by rw [ect_36, kw_up_n (by omega)]; exact h_31
  have h_39 : ct_36 7 = some (eI tc 6 (fun _ => 0)) := by rw [ect_36, kw_up_n (by omega)]; exact h_33
  have h_40 : ct_36 4 = some (.inr (0, [.ref (ad 5), .ref (ad 6), .ref (ad 7), .null, .int 0, .int 0, .int 0, .int 0])) := by rw [ect_36]; exact kw_up_s
  have h_41 : ct_36 8 = none := by rw [ect_36, kw_up_n (by omega)]; exact h_34
  have hfr_42 : ∀ j, j ≠ 4 → j ≠ 5 → j ≠ 6 → j ≠ 7 → j ≠ 8 → ct_36 j = ct j := fun j a0 a1 a2 a3 a4 => by rw [ect_36]; exact (kw_up_n a0).trans (hfr_35 j a0 a1 a2 a3 a4)
  refine lv_aload_n hx hb dX0_init_29 rfl (lv_at hl 0 rfl) ?_
  refine lv_bipush (v := 8) hx hb dX0_init_30 (by decide) ?_
  refine kg_newi hx hb (hts (.arrayClass .int) (by decide +kernel)) hK hw hA 8 h_41 hk8a 8 rfl (by omega) (Nat.le_of_ble_eq_true rfl) (Nat.le_of_ble_eq_true rfl) dX0_init_32 (fun H hw => ?_)
  obtain ⟨ct_43, ect_43⟩ : ∃ z, z = kw_up ct_36 8 (eI tc 8 (fun _ => 0)) := ⟨_, rfl⟩
  rw [← ect_43] at hw
  have h_44 : ct_43 5 = some (eQ tc 3 6 (fun _ => none)) := by rw [ect_43, kw_up_n (by omega)]; exact h_37
  have h_45 : ct_43 6 = some (eI tc 6 (fun _ => 0)) := by rw [ect_43, kw_up_n (by omega)]; exact h_38
  have h_46 : ct_43 7 = some (eI tc 6 (fun _ => 0)) := by rw [ect_43, kw_up_n (by omega)]; exact h_39
  have h_47 : ct_43 4 = some (.inr (0, [.ref (ad 5), .ref (ad 6), .ref (ad 7), .null, .int 0, .int 0, .int 0, .int 0])) := by rw [ect_43, kw_up_n (by omega)]; exact h_40
  have h_48 : ct_43 8 = some (eI tc 8 (fun _ => 0)) := by rw [ect_43]; exact kw_up_s
  have hfr_49 : ∀ j, j ≠ 4 → j ≠ 5 → j ≠ 6 → j ≠ 7 → j ≠ 8 → ct_43 j = ct j := fun j a0 a1 a2 a3 a4 => by rw [ect_43]; exact (kw_up_n a4).trans (hfr_42 j a0 a1 a2 a3 a4)
  refine kg_putF (v := .ref (ad 8)) (ty := .array .int) (C := RX0) (T := TX0) (N := 8) (fs' := [.ref (ad 5), .ref (ad 6), .ref (ad 7), .ref (ad 8), .int 0, .int 0, .int 0, .int 0]) hx hb hts hinX0 tyX0 tyX0_ok nmX0 hown hK hw h_47 rfl 3 (by decide) (hts (.fieldLink RX0 24 "BetMaker$Board" "covered" "[I") (by decide +kernel)) (fun _ h9 => h9) rfl hin2 rfl (by decide +kernel) rfl rfl (Nat.le_of_ble_eq_true rfl) rfl dX0_init_34 (fun H locs hw => ?_)
  obtain ⟨ct_50, ect_50⟩ : ∃ z, z = kw_up ct_43 4 (.inr (0, [.ref (ad 5), .ref (ad 6), .ref (ad 7), .ref (ad 8), .int 0, .int 0, .int 0, .int 0])) := ⟨_, rfl⟩
  rw [← ect_50] at hw
  have h_51 : ct_50 5 = some (eQ tc 3 6 (fun _ => none)) := by rw [ect_50, kw_up_n (by omega)]; exact h_44
  have h_52 : ct_50 6 = some (eI tc 6 (fun _ => 0)) := by rw [ect_50, kw_up_n (by omega)]; exact h_45
  have h_53 : ct_50 7 = some (eI tc 6 (fun _ => 0)) := by rw [ect_50, kw_up_n (by omega)]; exact h_46
  have h_54 : ct_50 8 = some (eI tc 8 (fun _ => 0)) := by rw [ect_50, kw_up_n (by omega)]; exact h_48
  have h_55 : ct_50 4 = some (.inr (0, [.ref (ad 5), .ref (ad 6), .ref (ad 7), .ref (ad 8), .int 0, .int 0, .int 0, .int 0])) := by rw [ect_50]; exact kw_up_s
  have hfr_56 : ∀ j, j ≠ 4 → j ≠ 5 → j ≠ 6 → j ≠ 7 → j ≠ 8 → ct_50 j = ct j := fun j a0 a1 a2 a3 a4 => by rw [ect_50]; exact (kw_up_n a0).trans (hfr_49 j a0 a1 a2 a3 a4)
  have hq_57 : ct_50 4 = some (.inr (0, [.ref (ad 5), .ref (ad 6), .ref (ad 7), .ref (ad 8), .int (nI 0), .int 0, .int 0, .int (kb (false = true))])) := h_55.trans (congrArg some (show (.inr (0, [.ref (ad 5), .ref (ad 6), .ref (ad 7), .ref (ad 8), .int 0, .int 0, .int 0, .int 0]) : va_E) = .inr (0, [.ref (ad 5), .ref (ad 6), .ref (ad 7), .ref (ad 8), .int (nI 0), .int 0, .int 0, .int (kb (false = true))]) from by rfl))
  have hq_58 := h_51
  have hq_59 := h_52
  have hq_60 := h_53
  have hq_61 := h_54
  have hend := kw_eq5 hq_57 hq_58 hq_59 hq_60 hq_61 hfr_56
  rw [hend] at hw
  refine W.widen (k := 4) (n := 26) (Nat.le_of_ble_eq_true rfl) (Nat.le_of_ble_eq_true rfl) ?_
  exact W.vret hx hb hr (fun t ht _ => ⟨rfl, by rw [ht]; exact hw.1, hw.2.2.1, hw.2.1.F ht, by rw [ht]; exact hw.2.2.2⟩) hw.2.1.2.2 dX0_init_37
set_option maxHeartbeats 4000000 in
set_option maxRecDepth 100000 in
theorem c_X0_empty (l : Launch) (D : va_G) (tc : Nat → ClassId) (sz : Nat) (ad : Nat → Nat) (ct : Nat → Option va_E) {no : Nat} {co bg : Int32}     {se : Bool}  (h4 : ct 4 = some (.inr (0, [.ref (ad 5), .ref (ad 6), .ref (ad 7), .ref (ad 8), .int (nI no), .int co, .int bg, .int (kb (se = true))]))) : Met l yX0_empty wsX0_empty ({ frames := 0, cells := 0, slots := 0, locals := 0 }) (va_Pc [.ref (ad 4)] (kw_B D tc sz ad ct)) (kw_Q D ad (kw_A ad ct sz) (none) (kw_up ct 4 (.inr (0, [.ref (ad 5), .ref (ad 6), .ref (ad 7), .ref (ad 8), .int (nI 0), .int co, .int bg, .int (kb (false = true))]))) 0) 0 0 (kw_A ad ct sz) := by
  refine Met.ofW (cc := cX0_empty) (maxL := 1) (ret := none) (by decide) rfl ?_
  intro pg en s m args below meth cod s₁ B hml hv
  obtain ⟨rfl, hsz, hP0, hK⟩ := hv
  have hx := B.exec
  have hb := B.bytes
  have hr := B.returns
  have hts := atoms_spec (ws := wsX0_empty) B.pre
  have hown : s.vm.findClass RX0 = some m.cls := findClass_of_methodNamed B.named
  have hlocks := B.notSynchronized
  subst hsz
  have hw := kw_H.start hP0
  generalize hAe : kw_A ad ct s.heap.size = A at hw ⊢
  have hA : ∀ q, s.heap.size ≤ q → A q := fun q h => by rw [← hAe]; exact Or.inr h
  have hinX0 : ∀ w ∈ wsX00, w ∈ wsX0_empty := by decide +kernel
  have hl := lv_entry ([.ref (ad 4)]) (n := 1) (Nat.le_of_ble_eq_true rfl)
  rw [lg_entry_eq]
  generalize (lg_sl ([.ref (ad 4)]) ++ List.replicate (1 - (lg_sl ([.ref (ad 4)])).length) Slot.unset).toArray = ls at hl ⊢
  have hl : lv_has ls 1 [(0, .ref (ad 4))] := hl
  have S0 : CallFix pg m cod cX0_empty 1 s _ wsX0_empty RX0 := ⟨hx, hb, hml, hown, hts⟩
  have hfr : ∀ j, j ≠ 4 → ct j = ct j := fun _ _ => rfl
  refine lv_aload_n hx hb dX0_empty_0 rfl (lv_at hl 0 rfl) ?_
  refine lv_iconst (v := 0) hx hb dX0_empty_1 (by decide) ?_
  refine kg_put (v := .int 0) (ty := .int) (C := RX0) (T := TX0) (N := 8) (fs' := [.ref (ad 5), .ref (ad 6), .ref (ad 7), .ref (ad 8), .int 0, .int co, .int bg, .int (kb (se = true))]) hx hb hts hinX0 tyX0 tyX0_ok nmX0 hown hK hw h4 rfl 4 (by decide) (hts (.fieldLink RX0 27 "BetMaker$Board" "size" "I") (by decide +kernel)) (fun _ h9 => h9) rfl (by decide +kernel) rfl rfl (Nat.le_of_ble_eq_true rfl) rfl dX0_empty_2 (fun H locs hw => ?_)
  obtain ⟨ct_1, ect_1⟩ : ∃ z, z = kw_up ct 4 (.inr (0, [.ref (ad 5), .ref (ad 6), .ref (ad 7), .ref (ad 8), .int 0, .int co, .int bg, .int (kb (se = true))])) := ⟨_, rfl⟩
  rw [← ect_1] at hw
  have h_2 : ct_1 4 = some (.inr (0, [.ref (ad 5), .ref (ad 6), .ref (ad 7), .ref (ad 8), .int 0, .int co, .int bg, .int (kb (se = true))])) := by rw [ect_1]; exact kw_up_s
  have hfr_3 : ∀ j, j ≠ 4 → ct_1 j = ct j := fun j a0 => by rw [ect_1]; exact (kw_up_n a0).trans (hfr j a0)
  refine lv_aload_n hx hb dX0_empty_5 rfl (lv_at hl 0 rfl) ?_
  refine lv_iconst (v := 0) hx hb dX0_empty_6 (by decide) ?_
  refine kg_put (v := .int 0) (ty := .boolean) (C := RX0) (T := TX0) (N := 8) (fs' := [.ref (ad 5), .ref (ad 6), .ref (ad 7), .ref (ad 8), .int 0, .int co, .int bg, .int 0]) hx hb hts hinX0 tyX0 tyX0_ok nmX0 hown hK hw h_2 rfl 7 (by decide) (hts (.fieldLink RX0 31 "BetMaker$Board" "searched" "Z") (by decide +kernel)) (fun _ h9 => h9) rfl (by decide +kernel) rfl rfl (Nat.le_of_ble_eq_true rfl) rfl dX0_empty_7 (fun H locs hw => ?_)
  obtain ⟨ct_4, ect_4⟩ : ∃ z, z = kw_up ct_1 4 (.inr (0, [.ref (ad 5), .ref (ad 6), .ref (ad 7), .ref (ad 8), .int 0, .int co, .int bg, .int 0])) := ⟨_, rfl⟩
  rw [← ect_4] at hw
  have h_5 : ct_4 4 = some (.inr (0, [.ref (ad 5), .ref (ad 6), .ref (ad 7), .ref (ad 8), .int 0, .int co, .int bg, .int 0])) := by rw [ect_4]; exact kw_up_s
  have hfr_6 : ∀ j, j ≠ 4 → ct_4 j = ct j := fun j a0 => by rw [ect_4]; exact (kw_up_n a0).trans (hfr_3 j a0)
  have hq_7 : ct_4 4 = some (.inr (0, [.ref (ad 5), .ref (ad 6), .ref (ad 7), .ref (ad 8), .int (nI 0), .int co, .int bg, .int (kb (false = true))])) := h_5.trans (congrArg some (show (.inr (0, [.ref (ad 5), .ref (ad 6), .ref (ad 7), .ref (ad 8), .int 0, .int co, .int bg, .int 0]) : va_E) = .inr (0, [.ref (ad 5), .ref (ad 6), .ref (ad 7), .ref (ad 8), .int (nI 0), .int co, .int bg, .int (kb (false = true))]) from by rfl))
  have hend := kw_eq1 hq_7 hfr_6
  rw [hend] at hw
  exact W.vret hx hb hr (fun t ht _ => ⟨rfl, by rw [ht]; exact hw.1, hw.2.2.1, hw.2.1.F ht, by rw [ht]; exact hw.2.2.2⟩) hw.2.1.2.2 dX0_empty_10
set_option maxHeartbeats 4000000 in
set_option maxRecDepth 100000 in
theorem c_X0_size (l : Launch) (D : va_G) (tc : Nat → ClassId) (sz : Nat) (ad : Nat → Nat) (ct : Nat → Option va_E) {no : Nat} {co bg : Int32}     {se : Bool}  (h4 : ct 4 = some (.inr (0, [.ref (ad 5), .ref (ad 6), .ref (ad 7), .ref (ad 8), .int (nI no), .int co, .int bg, .int (kb (se = true))]))) : Met l yX0_size wsX0_size ({ frames := 0, cells := 0, slots := 0, locals := 0 }) (va_Pc [.ref (ad 4)] (kw_B D tc sz ad ct)) (k2_QcV (.int (nI no))) 0 0 (fun _ => False) := by
  refine Met.ofW (cc := cX0_size) (maxL := 1) (ret := (some .int)) (by decide) rfl ?_
  intro pg en s m args below meth cod s₁ B hml hv
  obtain ⟨rfl, hsz, hP0, hK⟩ := hv
  have hx := B.exec
  have hb := B.bytes
  have hr := B.returns
  have hts := atoms_spec (ws := wsX0_size) B.pre
  have hown : s.vm.findClass RX0 = some m.cls := findClass_of_methodNamed B.named
  have hlocks := B.notSynchronized
  subst hsz
  have hw := kw_H.start hP0
  generalize kw_A ad ct s.heap.size = A at hw
  have hinX0 : ∀ w ∈ wsX00, w ∈ wsX0_size := by decide +kernel
  have hl := lv_entry ([.ref (ad 4)]) (n := 1) (Nat.le_of_ble_eq_true rfl)
  rw [lg_entry_eq]
  generalize (lg_sl ([.ref (ad 4)]) ++ List.replicate (1 - (lg_sl ([.ref (ad 4)])).length) Slot.unset).toArray = ls at hl ⊢
  have hl : lv_has ls 1 [(0, .ref (ad 4))] := hl
  have S0 : CallFix pg m cod cX0_size 1 s _ wsX0_size RX0 := ⟨hx, hb, hml, hown, hts⟩
  refine lv_aload_n hx hb dX0_size_0 rfl (lv_at hl 0 rfl) ?_
  refine kg_get (v := .int (nI no)) (C := RX0) (T := TX0) (N := 8) hx hb hts hinX0 hown hK hw h4 rfl 4 (by decide) (hts (.fieldLink RX0 27 "BetMaker$Board" "size" "I") (by decide +kernel)) (fun _ h9 => h9) rfl dX0_size_1 ?_
  exact W.iret hx hb hr (fun t ht _ => ⟨rfl, ht⟩) (fun _ h => absurd h List.not_mem_nil) dX0_size_4
set_option maxHeartbeats 4000000 in
set_option maxRecDepth 100000 in
theorem c_X0_find (l : Launch) (D : va_G) (tc : Nat → ClassId) (sz : Nat) (ad : Nat → Nat) (ct : Nat → Option va_E) {no fx : Nat} {co bg : Int32}   {qo : Nat → Option Nat}  {se : Bool}  (h4 : ct 4 = some (.inr (0, [.ref (ad 5), .ref (ad 6), .ref (ad 7), .ref (ad 8), .int (nI no), .int co, .int bg, .int (kb (se = true))]))) (h5 : ct 5 = some (eQ tc 3 6 qo)) (hf : fx < no) (hno : no ≤ 6) (hq : qo fx = some (ad (60 + fx))) : Met l yX0_find wsX0_find ({ frames := 0, cells := 0, slots := 0, locals := 0 }) (va_Pc [.ref (ad 4), .int (nI fx)] (kw_B D tc sz ad ct)) (k2_QcV (.ref (ad (60 + fx)))) 0 0 (fun _ => False) := by
  refine Met.ofW (cc := cX0_find) (maxL := 2) (ret := (some (.object "BetMaker$Offer"))) (by decide) rfl ?_
  intro pg en s m args below meth cod s₁ B hml hv
  obtain ⟨rfl, hsz, hP0, hK⟩ := hv
  have hx := B.exec
  have hb := B.bytes
  have hr := B.returns
  have hts := atoms_spec (ws := wsX0_find) B.pre
  have hown : s.vm.findClass RX0 = some m.cls := findClass_of_methodNamed B.named
  have hlocks := B.notSynchronized
  subst hsz
  have hw := kw_H.start hP0
  generalize kw_A ad ct s.heap.size = A at hw
  have hinX0 : ∀ w ∈ wsX00, w ∈ wsX0_find := by decide +kernel
  have hl := lv_entry ([.ref (ad 4), .int (nI fx)]) (n := 2) (Nat.le_of_ble_eq_true rfl)
  rw [lg_entry_eq]
  generalize (lg_sl ([.ref (ad 4), .int (nI fx)]) ++ List.replicate (2 - (lg_sl ([.ref (ad 4), .int (nI fx)])).length) Slot.unset).toArray = ls at hl ⊢
  have hl : lv_has ls 2 [(0, .ref (ad 4)), (1, .int (nI fx))] := hl
  have S0 : CallFix pg m cod cX0_find 2 s _ wsX0_find RX0 := ⟨hx, hb, hml, hown, hts⟩
  refine lv_iload_n hx hb dX0_find_0 rfl (lv_at hl 1 rfl) ?_
  refine lv_if_lt (tgt := 27) hx hb dX0_find_1 (by decide) (fun c_1 => ?_) (fun c_1 => ?_)
  · exact absurd c_1 (nI_pos (by omega))
  · refine lv_iload_n hx hb dX0_find_4 rfl (lv_at hl 1 rfl) ?_
    refine lv_aload_n hx hb dX0_find_5 rfl (lv_at hl 0 rfl) ?_
    refine kg_get (v := .int (nI no)) (C := RX0) (T := TX0) (N := 8) hx hb hts hinX0 hown hK hw h4 rfl 4 (by decide) (hts (.fieldLink RX0 27 "BetMaker$Board" "size" "I") (by decide +kernel)) (fun _ h9 => h9) rfl dX0_find_6 ?_
    refine kn_ge fx no rfl rfl (by omega) (by omega) (tgt := 27) hx hb dX0_find_9 (by decide) (fun c_2 => ?_) (fun c_2 => ?_)
    · exfalso; omega
    · refine lv_iload_n hx hb dX0_find_12 rfl (lv_at hl 1 rfl) ?_
      refine lv_bipush (v := 6) hx hb dX0_find_13 (by decide) ?_
      refine kn_ge fx 6 rfl rfl (by omega) (by omega) (tgt := 27) hx hb dX0_find_15 (by decide) (fun c_3 => ?_) (fun c_3 => ?_)
      · exfalso; omega
      · refine lv_aload_n hx hb dX0_find_18 rfl (lv_at hl 0 rfl) ?_
        refine kg_get (v := .ref (ad 5)) (C := RX0) (T := TX0) (N := 8) hx hb hts hinX0 hown hK hw h4 rfl 0 (by decide) (hts (.fieldLink RX0 11 "BetMaker$Board" "offers" "[LBetMaker$Offer;") (by decide +kernel)) (fun _ h9 => h9) rfl dX0_find_19 ?_
        refine lv_iload_n hx hb dX0_find_22 rfl (lv_at hl 1 rfl) ?_
        refine kg_aald hx hb hK hw 3 h5 rfl fx rfl (by omega) (by omega) dX0_find_23 ?_
        rw [hq]
        show W _ _ _ _ _ _ _ _ _ _ _ _ _ _ _ (F0 m 24 ls (.ref (ad (60 + fx)) :: []))
        refine lv_goto (tgt := 28) hx hb dX0_find_24 (by decide) ?_
        exact W.aret hx hb hr (Or.inl ⟨_, rfl⟩) (Or.inr ⟨_, rfl⟩) (fun t ht _ => ⟨rfl, ht⟩) (fun _ h => absurd h List.not_mem_nil) dX0_find_28
set_option maxHeartbeats 4000000 in
set_option maxRecDepth 100000 in
theorem c_X0_find_n (l : Launch) (D : va_G) (tc : Nat → ClassId) (sz : Nat) (ad : Nat → Nat) (ct : Nat → Option va_E) {no : Nat} {co bg : Int32}     {se : Bool} {f1 : Int32} (h4 : ct 4 = some (.inr (0, [.ref (ad 5), .ref (ad 6), .ref (ad 7), .ref (ad 8), .int (nI no), .int co, .int bg, .int (kb (se = true))]))) (hf : ¬ (0 ≤ f1 ∧ f1 < nI no)) : Met l yX0_find wsX0_find ({ frames := 0, cells := 0, slots := 0, locals := 0 }) (va_Pc [.ref (ad 4), .int f1] (kw_B D tc sz ad ct)) (k2_QcV (.null)) 0 0 (fun _ => False) := by
  refine Met.ofW (cc := cX0_find) (maxL := 2) (ret := (some (.object "BetMaker$Offer"))) (by decide) rfl ?_
  intro pg en s m args below meth cod s₁ B hml hv
  obtain ⟨rfl, hsz, hP0, hK⟩ := hv
  have hx := B.exec
  have hb := B.bytes
  have hr := B.returns
  have hts := atoms_spec (ws := wsX0_find) B.pre
  have hown : s.vm.findClass RX0 = some m.cls := findClass_of_methodNamed B.named
  have hlocks := B.notSynchronized
  subst hsz
  have hw := kw_H.start hP0
  generalize kw_A ad ct s.heap.size = A at hw
  have hinX0 : ∀ w ∈ wsX00, w ∈ wsX0_find := by decide +kernel
  have hl := lv_entry ([.ref (ad 4), .int f1]) (n := 2) (Nat.le_of_ble_eq_true rfl)
  rw [lg_entry_eq]
  generalize (lg_sl ([.ref (ad 4), .int f1]) ++ List.replicate (2 - (lg_sl ([.ref (ad 4), .int f1])).length) Slot.unset).toArray = ls at hl ⊢
  have hl : lv_has ls 2 [(0, .ref (ad 4)), (1, .int f1)] := hl
  have S0 : CallFix pg m cod cX0_find 2 s _ wsX0_find RX0 := ⟨hx, hb, hml, hown, hts⟩
  refine lv_iload_n hx hb dX0_find_0 rfl (lv_at hl 1 rfl) ?_
  refine lv_if_lt (tgt := 27) hx hb dX0_find_1 (by decide) (fun c_1 => ?_) (fun c_1 => ?_)
  · refine lv_null hx hb dX0_find_27 ?_
    exact W.aret hx hb hr (Or.inl ⟨_, rfl⟩) (Or.inl rfl) (fun t ht _ => ⟨rfl, ht⟩) (fun _ h => absurd h List.not_mem_nil) dX0_find_28
  · refine lv_iload_n hx hb dX0_find_4 rfl (lv_at hl 1 rfl) ?_
    refine lv_aload_n hx hb dX0_find_5 rfl (lv_at hl 0 rfl) ?_
    refine kg_get (v := .int (nI no)) (C := RX0) (T := TX0) (N := 8) hx hb hts hinX0 hown hK hw h4 rfl 4 (by decide) (hts (.fieldLink RX0 27 "BetMaker$Board" "size" "I") (by decide +kernel)) (fun _ h9 => h9) rfl dX0_find_6 ?_
    refine lv_icmp_ge (tgt := 27) hx hb dX0_find_9 (by decide) (fun c_2 => ?_) (fun c_2 => ?_)
    · refine lv_null hx hb dX0_find_27 ?_
      exact W.aret hx hb hr (Or.inl ⟨_, rfl⟩) (Or.inl rfl) (fun t ht _ => ⟨rfl, ht⟩) (fun _ h => absurd h List.not_mem_nil) dX0_find_28
    · exact absurd ⟨kq_1 c_1, kq_2 c_2⟩ hf
set_option maxHeartbeats 4000000 in
set_option maxRecDepth 100000 in
theorem c_X0_isFull (l : Launch) (D : va_G) (tc : Nat → ClassId) (sz : Nat) (ad : Nat → Nat) (ct : Nat → Option va_E) {no : Nat} {co bg : Int32}     {se : Bool}  (h4 : ct 4 = some (.inr (0, [.ref (ad 5), .ref (ad 6), .ref (ad 7), .ref (ad 8), .int (nI no), .int co, .int bg, .int (kb (se = true))]))) (hno : no ≤ 6) : Met l yX0_isFull wsX0_isFull ({ frames := 0, cells := 0, slots := 0, locals := 0 }) (va_Pc [.ref (ad 4)] (kw_B D tc sz ad ct)) (k2_QcV (.int (kb (6 ≤ no)))) 0 0 (fun _ => False) := by
  refine Met.ofW (cc := cX0_isFull) (maxL := 1) (ret := (some .boolean)) (by decide) rfl ?_
  intro pg en s m args below meth cod s₁ B hml hv
  obtain ⟨rfl, hsz, hP0, hK⟩ := hv
  have hx := B.exec
  have hb := B.bytes
  have hr := B.returns
  have hts := atoms_spec (ws := wsX0_isFull) B.pre
  have hown : s.vm.findClass RX0 = some m.cls := findClass_of_methodNamed B.named
  have hlocks := B.notSynchronized
  subst hsz
  have hw := kw_H.start hP0
  generalize kw_A ad ct s.heap.size = A at hw
  have hinX0 : ∀ w ∈ wsX00, w ∈ wsX0_isFull := by decide +kernel
  have hl := lv_entry ([.ref (ad 4)]) (n := 1) (Nat.le_of_ble_eq_true rfl)
  rw [lg_entry_eq]
  generalize (lg_sl ([.ref (ad 4)]) ++ List.replicate (1 - (lg_sl ([.ref (ad 4)])).length) Slot.unset).toArray = ls at hl ⊢
  have hl : lv_has ls 1 [(0, .ref (ad 4))] := hl
  have S0 : CallFix pg m cod cX0_isFull 1 s _ wsX0_isFull RX0 := ⟨hx, hb, hml, hown, hts⟩
  refine lv_aload_n hx hb dX0_isFull_0 rfl (lv_at hl 0 rfl) ?_
  refine kg_get (v := .int (nI no)) (C := RX0) (T := TX0) (N := 8) hx hb hts hinX0 hown hK hw h4 rfl 4 (by decide) (hts (.fieldLink RX0 27 "BetMaker$Board" "size" "I") (by decide +kernel)) (fun _ h9 => h9) rfl dX0_isFull_1 ?_
  refine lv_bipush (v := 6) hx hb dX0_isFull_4 (by decide) ?_
  refine kn_lt no 6 rfl rfl (by omega) (by omega) (tgt := 13) hx hb dX0_isFull_6 (by decide) (fun c_1 => ?_) (fun c_1 => ?_)
  · refine lv_iconst (v := 0) hx hb dX0_isFull_13 (by decide) ?_
    refine W.eq (congrArg (fun z => F0 m 14 ls [.int z]) (show 0 = (kb (6 ≤ no)) from by exact (kb_f (by omega)).symm)) ?_
    exact W.zret hx hb hr kb_nar (fun t ht _ => ⟨rfl, ht⟩) (fun _ h => absurd h List.not_mem_nil) dX0_isFull_14
  · refine lv_iconst (v := 1) hx hb dX0_isFull_9 (by decide) ?_
    refine lv_goto (tgt := 14) hx hb dX0_isFull_10 (by decide) ?_
    refine W.eq (congrArg (fun z => F0 m 14 ls [.int z]) (show 1 = (kb (6 ≤ no)) from by exact (kb_t (by omega)).symm)) ?_
    exact W.zret hx hb hr kb_nar (fun t ht _ => ⟨rfl, ht⟩) (fun _ h => absurd h List.not_mem_nil) dX0_isFull_14
set_option maxHeartbeats 4000000 in
set_option maxRecDepth 100000 in
theorem c_X0_add (l : Launch) (D : va_G) (tc : Nat → ClassId) (sz : Nat) (ad : Nat → Nat) (ct : Nat → Option va_E) {no fx : Nat} {co bg st oc sh : Int32}   {qo : Nat → Option Nat}  {se : Bool}  (h4 : ct 4 = some (.inr (0, [.ref (ad 5), .ref (ad 6), .ref (ad 7), .ref (ad 8), .int (nI no), .int co, .int bg, .int (kb (se = true))]))) (h5 : ct 5 = some (eQ tc 3 6 qo)) (h60 : ct (60 + fx) = some (.inr (4, [.int st, .int oc, .int sh]))) (hno : no < 6) : Met l yX0_add wsX0_add ({ frames := 1, cells := 0, slots := 0, locals := 24 }) (va_Pc [.ref (ad 4), .ref (ad (60 + fx))] (kw_B D tc sz ad ct)) (kw_Q D ad (kw_A ad ct sz) (some (.int (nI no))) (kw_up (kw_up ct 4 (.inr (0, [.ref (ad 5), .ref (ad 6), .ref (ad 7), .ref (ad 8), .int (nI (no + 1)), .int co, .int bg, .int (kb (false = true))]))) 5 (eQ tc 3 6 (va_up qo no (some (ad (60 + fx)))))) 0) 0 0 (kw_A ad ct sz) := by
  refine Met.ofW (cc := cX0_add) (maxL := 2) (ret := (some .int)) (by decide) rfl ?_
  intro pg en s m args below meth cod s₁ B hml hv
  obtain ⟨rfl, hsz, hP0, hK⟩ := hv
  have hx := B.exec
  have hb := B.bytes
  have hr := B.returns
  have hts := atoms_spec (ws := wsX0_add) B.pre
  have hown : s.vm.findClass RX0 = some m.cls := findClass_of_methodNamed B.named
  have hlocks := B.notSynchronized
  subst hsz
  have hw := kw_H.start hP0
  generalize hAe : kw_A ad ct s.heap.size = A at hw ⊢
  have hA : ∀ q, s.heap.size ≤ q → A q := fun q h => by rw [← hAe]; exact Or.inr h
  have hinX0 : ∀ w ∈ wsX00, w ∈ wsX0_add := by decide +kernel
  have hl := lv_entry ([.ref (ad 4), .ref (ad (60 + fx))]) (n := 2) (Nat.le_of_ble_eq_true rfl)
  rw [lg_entry_eq]
  generalize (lg_sl ([.ref (ad 4), .ref (ad (60 + fx))]) ++ List.replicate (2 - (lg_sl ([.ref (ad 4), .ref (ad (60 + fx))])).length) Slot.unset).toArray = ls at hl ⊢
  have hl : lv_has ls 2 [(0, .ref (ad 4)), (1, .ref (ad (60 + fx)))] := hl
  have S0 : CallFix pg m cod cX0_add 2 s _ wsX0_add RX0 := ⟨hx, hb, hml, hown, hts⟩
  have hfr : ∀ j, j ≠ 4 → j ≠ 5 → ct j = ct j := fun _ _ _ => rfl
  refine lv_aload_n hx hb dX0_add_0 rfl (lv_at hl 0 rfl) ?_
  refine kc_v (As := []) (rest := []) S0 (c_X0_isFull l D tc s.heap.size ad ct (no := no) h4 (by omega)) (cwV 0 hts gX0_add_X0_isFull rfl rfl rfl (by decide +kernel) ⟨Nat.le_of_ble_eq_true rfl, Nat.le_of_ble_eq_true rfl⟩) hK hw h4 rfl rfl hl.1 rfl (Nat.le_of_ble_eq_true rfl) dX0_add_1 ⟨Nat.le_of_ble_eq_true rfl, (Nat.le_of_ble_eq_true rfl)⟩ ?_
  refine kb_ifeq (tgt := 10) hx hb dX0_add_4 (by decide) (fun c_1 => ?_) (fun c_1 => ?_)
  · refine lv_aload_n hx hb dX0_add_10 rfl (lv_at hl 0 rfl) ?_
    refine kg_get (v := .ref (ad 5)) (C := RX0) (T := TX0) (N := 8) hx hb hts hinX0 hown hK hw h4 rfl 0 (by decide) (hts (.fieldLink RX0 11 "BetMaker$Board" "offers" "[LBetMaker$Offer;") (by decide +kernel)) (fun _ h9 => h9) rfl dX0_add_11 ?_
    refine lv_aload_n hx hb dX0_add_14 rfl (lv_at hl 0 rfl) ?_
    refine kg_get (v := .int (nI no)) (C := RX0) (T := TX0) (N := 8) hx hb hts hinX0 hown hK hw h4 rfl 4 (by decide) (hts (.fieldLink RX0 27 "BetMaker$Board" "size" "I") (by decide +kernel)) (fun _ h9 => h9) rfl dX0_add_15 ?_
    refine lv_aload_n hx hb dX0_add_18 rfl (lv_at hl 1 rfl) ?_
    refine kg_aast (r := (RX4, TX4, 3)) hx hb hK hw 3 h5 rfl h60 rfl (Or.inl rfl) no rfl (by omega) (by omega) dX0_add_19 (fun H locs hw => ?_)
    obtain ⟨ct_2, ect_2⟩ : ∃ z, z = kw_up ct 5 (eQ tc 3 6 (va_up qo no (some (ad (60 + fx))))) := ⟨_, rfl⟩
    rw [← ect_2] at hw
    have h_3 : ct_2 4 = some (.inr (0, [.ref (ad 5), .ref (ad 6), .ref (ad 7), .ref (ad 8), .int (nI no), .int co, .int bg, .int (kb (se = true))])) := by rw [ect_2, kw_up_n (by omega)]; exact h4
    have h_4 : ct_2 (60 + fx) = some (.inr (4, [.int st, .int oc, .int sh])) := by rw [ect_2, kw_up_n (by omega)]; exact h60
    have h_5 : ct_2 5 = some (eQ tc 3 6 (va_up qo no (some (ad (60 + fx))))) := by rw [ect_2]; exact kw_up_s
    have hfr_6 : ∀ j, j ≠ 4 → j ≠ 5 → ct_2 j = ct j := fun j a0 a1 => by rw [ect_2]; exact (kw_up_n a1).trans (hfr j a0 a1)
    refine lv_aload_n hx hb dX0_add_20 rfl (lv_at hl 0 rfl) ?_
    refine lv_dup hx hb dX0_add_21 rfl ?_
    refine kg_get (v := .int (nI no)) (C := RX0) (T := TX0) (N := 8) hx hb hts hinX0 hown hK hw h_3 rfl 4 (by decide) (hts (.fieldLink RX0 27 "BetMaker$Board" "size" "I") (by decide +kernel)) (fun _ h9 => h9) rfl dX0_add_22 ?_
    refine lv_iconst (v := 1) hx hb dX0_add_25 (by decide) ?_
    refine lv_iadd hx hb dX0_add_26 ?_
    refine kg_put (v := .int ((nI no) + 1)) (ty := .int) (C := RX0) (T := TX0) (N := 8) (fs' := [.ref (ad 5), .ref (ad 6), .ref (ad 7), .ref (ad 8), .int ((nI no) + 1), .int co, .int bg, .int (kb (se = true))]) hx hb hts hinX0 tyX0 tyX0_ok nmX0 hown hK hw h_3 rfl 4 (by decide) (hts (.fieldLink RX0 27 "BetMaker$Board" "size" "I") (by decide +kernel)) (fun _ h9 => h9) rfl (by decide +kernel) rfl rfl (Nat.le_of_ble_eq_true rfl) rfl dX0_add_27 (fun H locs hw => ?_)
    obtain ⟨ct_7, ect_7⟩ : ∃ z, z = kw_up ct_2 4 (.inr (0, [.ref (ad 5), .ref (ad 6), .ref (ad 7), .ref (ad 8), .int ((nI no) + 1), .int co, .int bg, .int (kb (se = true))])) := ⟨_, rfl⟩
    rw [← ect_7] at hw
    have h_8 : ct_7 (60 + fx) = some (.inr (4, [.int st, .int oc, .int sh])) := by rw [ect_7, kw_up_n (by omega)]; exact h_4
    have h_9 : ct_7 5 = some (eQ tc 3 6 (va_up qo no (some (ad (60 + fx))))) := by rw [ect_7, kw_up_n (by omega)]; exact h_5
    have h_10 : ct_7 4 = some (.inr (0, [.ref (ad 5), .ref (ad 6), .ref (ad 7), .ref (ad 8), .int ((nI no) + 1), .int co, .int bg, .int (kb (se = true))])) := by rw [ect_7]; exact kw_up_s
    have hfr_11 : ∀ j, j ≠ 4 → j ≠ 5 → ct_7 j = ct j := fun j a0 a1 => by rw [ect_7]; exact (kw_up_n a0).trans (hfr_6 j a0 a1)
    refine lv_aload_n hx hb dX0_add_30 rfl (lv_at hl 0 rfl) ?_
    refine lv_iconst (v := 0) hx hb dX0_add_31 (by decide) ?_
    refine kg_put (v := .int 0) (ty := .boolean) (C := RX0) (T := TX0) (N := 8) (fs' := [.ref (ad 5), .ref (ad 6), .ref (ad 7), .ref (ad 8), .int ((nI no) + 1), .int co, .int bg, .int 0]) hx hb hts hinX0 tyX0 tyX0_ok nmX0 hown hK hw h_10 rfl 7 (by decide) (hts (.fieldLink RX0 31 "BetMaker$Board" "searched" "Z") (by decide +kernel)) (fun _ h9 => h9) rfl (by decide +kernel) rfl rfl (Nat.le_of_ble_eq_true rfl) rfl dX0_add_32 (fun H locs hw => ?_)
    obtain ⟨ct_12, ect_12⟩ : ∃ z, z = kw_up ct_7 4 (.inr (0, [.ref (ad 5), .ref (ad 6), .ref (ad 7), .ref (ad 8), .int ((nI no) + 1), .int co, .int bg, .int 0])) := ⟨_, rfl⟩
    rw [← ect_12] at hw
    have h_13 : ct_12 (60 + fx) = some (.inr (4, [.int st, .int oc, .int sh])) := by rw [ect_12, kw_up_n (by omega)]; exact h_8
    have h_14 : ct_12 5 = some (eQ tc 3 6 (va_up qo no (some (ad (60 + fx))))) := by rw [ect_12, kw_up_n (by omega)]; exact h_9
    have h_15 : ct_12 4 = some (.inr (0, [.ref (ad 5), .ref (ad 6), .ref (ad 7), .ref (ad 8), .int ((nI no) + 1), .int co, .int bg, .int 0])) := by rw [ect_12]; exact kw_up_s
    have hfr_16 : ∀ j, j ≠ 4 → j ≠ 5 → ct_12 j = ct j := fun j a0 a1 => by rw [ect_12]; exact (kw_up_n a0).trans (hfr_11 j a0 a1)
    refine lv_aload_n hx hb dX0_add_35 rfl (lv_at hl 0 rfl) ?_
    refine kg_get (v := .int ((nI no) + 1)) (C := RX0) (T := TX0) (N := 8) hx hb hts hinX0 hown hK hw h_15 rfl 4 (by decide) (hts (.fieldLink RX0 27 "BetMaker$Board" "size" "I") (by decide +kernel)) (fun _ h9 => h9) rfl dX0_add_36 ?_
    refine lv_iconst (v := 1) hx hb dX0_add_39 (by decide) ?_
    refine lv_isub hx hb dX0_add_40 ?_
    refine W.eq (congrArg (fun z => F0 m 41 ls [.int z]) (show (((nI no) + 1) - 1) = (nI no) from by exact Int32.add_sub_cancel _ _)) ?_
    have hq_17 : ct_12 4 = some (.inr (0, [.ref (ad 5), .ref (ad 6), .ref (ad 7), .ref (ad 8), .int (nI (no + 1)), .int co, .int bg, .int (kb (false = true))])) := h_15.trans (congrArg some (show (.inr (0, [.ref (ad 5), .ref (ad 6), .ref (ad 7), .ref (ad 8), .int ((nI no) + 1), .int co, .int bg, .int 0]) : va_E) = .inr (0, [.ref (ad 5), .ref (ad 6), .ref (ad 7), .ref (ad 8), .int (nI (no + 1)), .int co, .int bg, .int (kb (false = true))]) from by rw [← nI_1]; rfl))
    have hq_18 := h_14
    have hend := kw_eq2 hq_17 hq_18 hfr_16
    rw [hend] at hw
    exact W.iret hx hb hr (fun t ht _ => ⟨rfl, by rw [ht]; exact hw.1, hw.2.2.1, hw.2.1.F ht, by rw [ht]; exact hw.2.2.2⟩) hw.2.1.2.2 dX0_add_41
  · exfalso; omega
set_option maxHeartbeats 4000000 in
set_option maxRecDepth 100000 in
theorem c_X0_limit (l : Launch) (D : va_G) (tc : Nat → ClassId) (sz : Nat) (ad : Nat → Nat) (ct : Nat → Option va_E) {no fx : Nat} {co bg st oc sh : Int32}     {se : Bool} {m1 : Int32} (h4 : ct 4 = some (.inr (0, [.ref (ad 5), .ref (ad 6), .ref (ad 7), .ref (ad 8), .int (nI no), .int co, .int bg, .int (kb (se = true))]))) (h60 : ct (60 + fx) = some (.inr (4, [.int st, .int oc, .int sh]))) : Met l yX0_limit wsX0_limit ({ frames := 1, cells := 0, slots := 0, locals := 25 }) (va_Pc [.ref (ad 4), .ref (ad (60 + fx)), .int m1] (kw_B D tc sz ad ct)) (kw_Q D ad (kw_A ad ct sz) (some (.int sh)) (kw_up (kw_up ct 4 (.inr (0, [.ref (ad 5), .ref (ad 6), .ref (ad 7), .ref (ad 8), .int (nI no), .int co, .int bg, .int (kb (false = true))]))) (60 + fx) (.inr (4, [.int st, .int oc, .int m1]))) 0) 0 0 (kw_A ad ct sz) := by
  refine Met.ofW (cc := cX0_limit) (maxL := 4) (ret := (some .int)) (by decide) rfl ?_
  intro pg en s m args below meth cod s₁ B hml hv
  obtain ⟨rfl, hsz, hP0, hK⟩ := hv
  have hx := B.exec
  have hb := B.bytes
  have hr := B.returns
  have hts := atoms_spec (ws := wsX0_limit) B.pre
  have hown : s.vm.findClass RX0 = some m.cls := findClass_of_methodNamed B.named
  have hlocks := B.notSynchronized
  subst hsz
  have hw := kw_H.start hP0
  generalize hAe : kw_A ad ct s.heap.size = A at hw ⊢
  have hA : ∀ q, s.heap.size ≤ q → A q := fun q h => by rw [← hAe]; exact Or.inr h
  have hinX0 : ∀ w ∈ wsX00, w ∈ wsX0_limit := by decide +kernel
  have hl := lv_entry ([.ref (ad 4), .ref (ad (60 + fx)), .int m1]) (n := 4) (Nat.le_of_ble_eq_true rfl)
  rw [lg_entry_eq]
  generalize (lg_sl ([.ref (ad 4), .ref (ad (60 + fx)), .int m1]) ++ List.replicate (4 - (lg_sl ([.ref (ad 4), .ref (ad (60 + fx)), .int m1])).length) Slot.unset).toArray = ls at hl ⊢
  have hl : lv_has ls 4 [(0, .ref (ad 4)), (1, .ref (ad (60 + fx))), (2, .int m1)] := hl
  have S0 : CallFix pg m cod cX0_limit 4 s _ wsX0_limit RX0 := ⟨hx, hb, hml, hown, hts⟩
  have hfr : ∀ j, j ≠ 4 → j ≠ (60 + fx) → ct j = ct j := fun _ _ _ => rfl
  refine lv_aload_n hx hb dX0_limit_0 rfl (lv_at hl 1 rfl) ?_
  refine kc_v (As := []) (rest := []) S0 (c_X4_shares l D tc s.heap.size ad ct h60) (cwV 0 hts gX0_limit_X4_shares rfl rfl rfl (by decide +kernel) ⟨Nat.le_of_ble_eq_true rfl, Nat.le_of_ble_eq_true rfl⟩) hK hw h60 rfl rfl hl.1 rfl (Nat.le_of_ble_eq_true rfl) dX0_limit_1 ⟨Nat.le_of_ble_eq_true rfl, (Nat.le_of_ble_eq_true rfl)⟩ ?_
  refine lv_istore_n (lv' := [(3, .int sh), (0, .ref (ad 4)), (1, .ref (ad (60 + fx))), (2, .int m1)]) hx hb dX0_limit_4 rfl hl (by decide) rfl (fun ls hl => ?_)
  refine lv_aload_n hx hb dX0_limit_5 rfl (lv_at hl 2 rfl) ?_
  refine lv_iload_n hx hb dX0_limit_6 rfl (lv_at hl 3 rfl) ?_
  refine kc_vu (As := [.int m1]) (rest := []) S0 (c_X4_limit l D tc s.heap.size ad ct h60) (cwV 1 hts gX0_limit_X4_limit rfl rfl rfl (by decide +kernel) ⟨Nat.le_of_ble_eq_true rfl, Nat.le_of_ble_eq_true rfl⟩) hK hw hA h60 rfl rfl hl.1 rfl (Nat.le_of_ble_eq_true rfl) dX0_limit_7 ⟨Nat.le_of_ble_eq_true rfl, (Nat.le_of_ble_eq_true rfl)⟩ (fun H locs hw => ?_)
  obtain ⟨ct_1, ect_1⟩ : ∃ z, z = kw_up ct (60 + fx) (.inr (4, [.int st, .int oc, .int m1])) := ⟨_, rfl⟩
  rw [← ect_1] at hw
  have h_2 : ct_1 4 = some (.inr (0, [.ref (ad 5), .ref (ad 6), .ref (ad 7), .ref (ad 8), .int (nI no), .int co, .int bg, .int (kb (se = true))])) := by rw [ect_1, kw_up_n (by omega)]; exact h4
  have h_3 : ct_1 (60 + fx) = some (.inr (4, [.int st, .int oc, .int m1])) := by rw [ect_1]; exact kw_up_s
  have hfr_4 : ∀ j, j ≠ 4 → j ≠ (60 + fx) → ct_1 j = ct j := fun j a0 a1 => by rw [ect_1]; exact (kw_up_n a1).trans (hfr j a0 a1)
  refine lv_aload_n hx hb dX0_limit_10 rfl (lv_at hl 1 rfl) ?_
  refine lv_iconst (v := 0) hx hb dX0_limit_11 (by decide) ?_
  refine kg_put (v := .int 0) (ty := .boolean) (C := RX0) (T := TX0) (N := 8) (fs' := [.ref (ad 5), .ref (ad 6), .ref (ad 7), .ref (ad 8), .int (nI no), .int co, .int bg, .int 0]) hx hb hts hinX0 tyX0 tyX0_ok nmX0 hown hK hw h_2 rfl 7 (by decide) (hts (.fieldLink RX0 31 "BetMaker$Board" "searched" "Z") (by decide +kernel)) (fun _ h9 => h9) rfl (by decide +kernel) rfl rfl (Nat.le_of_ble_eq_true rfl) rfl dX0_limit_12 (fun H locs hw => ?_)
  obtain ⟨ct_5, ect_5⟩ : ∃ z, z = kw_up ct_1 4 (.inr (0, [.ref (ad 5), .ref (ad 6), .ref (ad 7), .ref (ad 8), .int (nI no), .int co, .int bg, .int 0])) := ⟨_, rfl⟩
  rw [← ect_5] at hw
  have h_6 : ct_5 (60 + fx) = some (.inr (4, [.int st, .int oc, .int m1])) := by rw [ect_5, kw_up_n (by omega)]; exact h_3
  have h_7 : ct_5 4 = some (.inr (0, [.ref (ad 5), .ref (ad 6), .ref (ad 7), .ref (ad 8), .int (nI no), .int co, .int bg, .int 0])) := by rw [ect_5]; exact kw_up_s
  have hfr_8 : ∀ j, j ≠ 4 → j ≠ (60 + fx) → ct_5 j = ct j := fun j a0 a1 => by rw [ect_5]; exact (kw_up_n a0).trans (hfr_4 j a0 a1)
  refine lv_iload_n hx hb dX0_limit_15 rfl (lv_at hl 0 rfl) ?_
  have hq_9 : ct_5 4 = some (.inr (0, [.ref (ad 5), .ref (ad 6), .ref (ad 7), .ref (ad 8), .int (nI no), .int co, .int bg, .int (kb (false = true))])) := h_7.trans (congrArg some (show (.inr (0, [.ref (ad 5), .ref (ad 6), .ref (ad 7), .ref (ad 8), .int (nI no), .int co, .int bg, .int 0]) : va_E) = .inr (0, [.ref (ad 5), .ref (ad 6), .ref (ad 7), .ref (ad 8), .int (nI no), .int co, .int bg, .int (kb (false = true))]) from by rfl))
  have hq_10 := h_6
  have hend := kw_eq2 hq_9 hq_10 hfr_8
  rw [hend] at hw
  exact W.iret hx hb hr (fun t ht _ => ⟨rfl, by rw [ht]; exact hw.1, hw.2.2.1, hw.2.1.F ht, by rw [ht]; exact hw.2.2.2⟩) hw.2.1.2.2 dX0_limit_16
set_option maxHeartbeats 4000000 in
set_option maxRecDepth 100000 in
theorem c_X10_isKind (l : Launch) (D : va_G) (tc : Nat → ClassId) (sz : Nat) (ad : Nat → Nat) (ct : Nat → Option va_E)        {x : Int32} : Met l yX10_isKind wsX10_isKind ({ frames := 0, cells := 0, slots := 0, locals := 0 }) (va_Pc [.int x] (kw_B D tc sz ad ct)) (k2_QcV (.int (kb (0 ≤ x ∧ x ≤ 2)))) 0 0 (fun _ => False) := by
  refine Met.ofW (cc := cX10_isKind) (maxL := 1) (ret := (some .boolean)) (by decide) rfl ?_
  intro pg en s m args below meth cod s₁ B hml hv
  obtain ⟨rfl, hsz, hP0, hK⟩ := hv
  have hx := B.exec
  have hb := B.bytes
  have hr := B.returns
  have hts := atoms_spec (ws := wsX10_isKind) B.pre
  have hown : s.vm.findClass RX10 = some m.cls := findClass_of_methodNamed B.named
  have hlocks := B.notSynchronized
  subst hsz
  have hw := kw_H.start hP0
  generalize kw_A ad ct s.heap.size = A at hw
  have hl := lv_entry ([.int x]) (n := 1) (Nat.le_of_ble_eq_true rfl)
  rw [lg_entry_eq]
  generalize (lg_sl ([.int x]) ++ List.replicate (1 - (lg_sl ([.int x])).length) Slot.unset).toArray = ls at hl ⊢
  have hl : lv_has ls 1 [(0, .int x)] := hl
  have S0 : CallFix pg m cod cX10_isKind 1 s _ wsX10_isKind RX10 := ⟨hx, hb, hml, hown, hts⟩
  refine lv_iload_n hx hb dX10_isKind_0 rfl (lv_at hl 0 rfl) ?_
  refine lv_if_lt (tgt := 13) hx hb dX10_isKind_1 (by decide) (fun c_1 => ?_) (fun c_1 => ?_)
  · refine lv_iconst (v := 0) hx hb dX10_isKind_13 (by decide) ?_
    refine W.eq (congrArg (fun z => F0 m 14 ls [.int z]) (show 0 = (kb (0 ≤ x ∧ x ≤ 2)) from by exact (kb_f (fun q => kq_3 c_1 q.1)).symm)) ?_
    exact W.zret hx hb hr kb_nar (fun t ht _ => ⟨rfl, ht⟩) (fun _ h => absurd h List.not_mem_nil) dX10_isKind_14
  · refine lv_iload_n hx hb dX10_isKind_4 rfl (lv_at hl 0 rfl) ?_
    refine lv_iconst (v := 2) hx hb dX10_isKind_5 (by decide) ?_
    refine lv_icmp_gt (tgt := 13) hx hb dX10_isKind_6 (by decide) (fun c_2 => ?_) (fun c_2 => ?_)
    · refine lv_iconst (v := 0) hx hb dX10_isKind_13 (by decide) ?_
      refine W.eq (congrArg (fun z => F0 m 14 ls [.int z]) (show 0 = (kb (0 ≤ x ∧ x ≤ 2)) from by exact (kb_f (fun q => kq_3 c_2 q.2)).symm)) ?_
      exact W.zret hx hb hr kb_nar (fun t ht _ => ⟨rfl, ht⟩) (fun _ h => absurd h List.not_mem_nil) dX10_isKind_14
    · refine lv_iconst (v := 1) hx hb dX10_isKind_9 (by decide) ?_
      refine lv_goto (tgt := 14) hx hb dX10_isKind_10 (by decide) ?_
      refine W.eq (congrArg (fun z => F0 m 14 ls [.int z]) (show 1 = (kb (0 ≤ x ∧ x ≤ 2)) from by exact (kb_t ⟨kq_1 c_1, kq_1 c_2⟩).symm)) ?_
      exact W.zret hx hb hr kb_nar (fun t ht _ => ⟨rfl, ht⟩) (fun _ h => absurd h List.not_mem_nil) dX10_isKind_14
set_option maxHeartbeats 4000000 in
set_option maxRecDepth 100000 in
theorem c_X10_isLane (l : Launch) (D : va_G) (tc : Nat → ClassId) (sz : Nat) (ad : Nat → Nat) (ct : Nat → Option va_E)        {x : Int32} : Met l yX10_isLane wsX10_isLane ({ frames := 0, cells := 0, slots := 0, locals := 0 }) (va_Pc [.int x] (kw_B D tc sz ad ct)) (k2_QcV (.int (kb (0 ≤ x ∧ x ≤ 2)))) 0 0 (fun _ => False) := by
  refine Met.ofW (cc := cX10_isLane) (maxL := 1) (ret := (some .boolean)) (by decide) rfl ?_
  intro pg en s m args below meth cod s₁ B hml hv
  obtain ⟨rfl, hsz, hP0, hK⟩ := hv
  have hx := B.exec
  have hb := B.bytes
  have hr := B.returns
  have hts := atoms_spec (ws := wsX10_isLane) B.pre
  have hown : s.vm.findClass RX10 = some m.cls := findClass_of_methodNamed B.named
  have hlocks := B.notSynchronized
  subst hsz
  have hw := kw_H.start hP0
  generalize kw_A ad ct s.heap.size = A at hw
  have hl := lv_entry ([.int x]) (n := 1) (Nat.le_of_ble_eq_true rfl)
  rw [lg_entry_eq]
  generalize (lg_sl ([.int x]) ++ List.replicate (1 - (lg_sl ([.int x])).length) Slot.unset).toArray = ls at hl ⊢
  have hl : lv_has ls 1 [(0, .int x)] := hl
  have S0 : CallFix pg m cod cX10_isLane 1 s _ wsX10_isLane RX10 := ⟨hx, hb, hml, hown, hts⟩
  refine lv_iload_n hx hb dX10_isLane_0 rfl (lv_at hl 0 rfl) ?_
  refine lv_if_lt (tgt := 13) hx hb dX10_isLane_1 (by decide) (fun c_1 => ?_) (fun c_1 => ?_)
  · refine lv_iconst (v := 0) hx hb dX10_isLane_13 (by decide) ?_
    refine W.eq (congrArg (fun z => F0 m 14 ls [.int z]) (show 0 = (kb (0 ≤ x ∧ x ≤ 2)) from by exact (kb_f (fun q => kq_3 c_1 q.1)).symm)) ?_
    exact W.zret hx hb hr kb_nar (fun t ht _ => ⟨rfl, ht⟩) (fun _ h => absurd h List.not_mem_nil) dX10_isLane_14
  · refine lv_iload_n hx hb dX10_isLane_4 rfl (lv_at hl 0 rfl) ?_
    refine lv_iconst (v := 2) hx hb dX10_isLane_5 (by decide) ?_
    refine lv_icmp_gt (tgt := 13) hx hb dX10_isLane_6 (by decide) (fun c_2 => ?_) (fun c_2 => ?_)
    · refine lv_iconst (v := 0) hx hb dX10_isLane_13 (by decide) ?_
      refine W.eq (congrArg (fun z => F0 m 14 ls [.int z]) (show 0 = (kb (0 ≤ x ∧ x ≤ 2)) from by exact (kb_f (fun q => kq_3 c_2 q.2)).symm)) ?_
      exact W.zret hx hb hr kb_nar (fun t ht _ => ⟨rfl, ht⟩) (fun _ h => absurd h List.not_mem_nil) dX10_isLane_14
    · refine lv_iconst (v := 1) hx hb dX10_isLane_9 (by decide) ?_
      refine lv_goto (tgt := 14) hx hb dX10_isLane_10 (by decide) ?_
      refine W.eq (congrArg (fun z => F0 m 14 ls [.int z]) (show 1 = (kb (0 ≤ x ∧ x ≤ 2)) from by exact (kb_t ⟨kq_1 c_1, kq_1 c_2⟩).symm)) ?_
      exact W.zret hx hb hr kb_nar (fun t ht _ => ⟨rfl, ht⟩) (fun _ h => absurd h List.not_mem_nil) dX10_isLane_14
set_option maxHeartbeats 4000000 in
set_option maxRecDepth 100000 in
theorem c_X10_isWeight (l : Launch) (D : va_G) (tc : Nat → ClassId) (sz : Nat) (ad : Nat → Nat) (ct : Nat → Option va_E)        {x : Int32} : Met l yX10_isWeight wsX10_isWeight ({ frames := 0, cells := 0, slots := 0, locals := 0 }) (va_Pc [.int x] (kw_B D tc sz ad ct)) (k2_QcV (.int (kb (0 ≤ x ∧ x ≤ 100)))) 0 0 (fun _ => False) := by
  refine Met.ofW (cc := cX10_isWeight) (maxL := 1) (ret := (some .boolean)) (by decide) rfl ?_
  intro pg en s m args below meth cod s₁ B hml hv
  obtain ⟨rfl, hsz, hP0, hK⟩ := hv
  have hx := B.exec
  have hb := B.bytes
  have hr := B.returns
  have hts := atoms_spec (ws := wsX10_isWeight) B.pre
  have hown : s.vm.findClass RX10 = some m.cls := findClass_of_methodNamed B.named
  have hlocks := B.notSynchronized
  subst hsz
  have hw := kw_H.start hP0
  generalize kw_A ad ct s.heap.size = A at hw
  have hl := lv_entry ([.int x]) (n := 1) (Nat.le_of_ble_eq_true rfl)
  rw [lg_entry_eq]
  generalize (lg_sl ([.int x]) ++ List.replicate (1 - (lg_sl ([.int x])).length) Slot.unset).toArray = ls at hl ⊢
  have hl : lv_has ls 1 [(0, .int x)] := hl
  have S0 : CallFix pg m cod cX10_isWeight 1 s _ wsX10_isWeight RX10 := ⟨hx, hb, hml, hown, hts⟩
  refine lv_iload_n hx hb dX10_isWeight_0 rfl (lv_at hl 0 rfl) ?_
  refine lv_if_lt (tgt := 14) hx hb dX10_isWeight_1 (by decide) (fun c_1 => ?_) (fun c_1 => ?_)
  · refine lv_iconst (v := 0) hx hb dX10_isWeight_14 (by decide) ?_
    refine W.eq (congrArg (fun z => F0 m 15 ls [.int z]) (show 0 = (kb (0 ≤ x ∧ x ≤ 100)) from by exact (kb_f (fun q => kq_3 c_1 q.1)).symm)) ?_
    exact W.zret hx hb hr kb_nar (fun t ht _ => ⟨rfl, ht⟩) (fun _ h => absurd h List.not_mem_nil) dX10_isWeight_15
  · refine lv_iload_n hx hb dX10_isWeight_4 rfl (lv_at hl 0 rfl) ?_
    refine lv_bipush (v := 100) hx hb dX10_isWeight_5 (by decide) ?_
    refine lv_icmp_gt (tgt := 14) hx hb dX10_isWeight_7 (by decide) (fun c_2 => ?_) (fun c_2 => ?_)
    · refine lv_iconst (v := 0) hx hb dX10_isWeight_14 (by decide) ?_
      refine W.eq (congrArg (fun z => F0 m 15 ls [.int z]) (show 0 = (kb (0 ≤ x ∧ x ≤ 100)) from by exact (kb_f (fun q => kq_3 c_2 q.2)).symm)) ?_
      exact W.zret hx hb hr kb_nar (fun t ht _ => ⟨rfl, ht⟩) (fun _ h => absurd h List.not_mem_nil) dX10_isWeight_15
    · refine lv_iconst (v := 1) hx hb dX10_isWeight_10 (by decide) ?_
      refine lv_goto (tgt := 15) hx hb dX10_isWeight_11 (by decide) ?_
      refine W.eq (congrArg (fun z => F0 m 15 ls [.int z]) (show 1 = (kb (0 ≤ x ∧ x ≤ 100)) from by exact (kb_t ⟨kq_1 c_1, kq_1 c_2⟩).symm)) ?_
      exact W.zret hx hb hr kb_nar (fun t ht _ => ⟨rfl, ht⟩) (fun _ h => absurd h List.not_mem_nil) dX10_isWeight_15
set_option maxHeartbeats 4000000 in
set_option maxRecDepth 100000 in
theorem c_X10_isOrder (l : Launch) (D : va_G) (tc : Nat → ClassId) (sz : Nat) (ad : Nat → Nat) (ct : Nat → Option va_E) {N nt : Nat} {b cm lf : Int32} {ss g : Int64}     {set x : Int32} (h0 : ct 0 = some (.inr (10, [.ref (ad 1), .ref (ad 3), .int (nI nt), .ref (ad 4), .ref (ad 9), .ref (ad 11), .ref (ad 12), .ref (ad 13), .int lf]))) (h1 : ct 1 = some (.inr (3, [.ref (ad 2), .int (nI N), .int b, .long ss, .long g, .int cm]))) : Met l yX10_isOrder wsX10_isOrder ({ frames := 1, cells := 0, slots := 0, locals := 25 }) (va_Pc [.ref (ad 0), .int set, .int x] (kw_B D tc sz ad ct)) (k2_QcV (.int (kb ((1 ≤ set ∧ set ≤ 1 <<< (nI N &&& 31) - 2) ∧ ¬ x = 0 ∧ (-1000) ≤ x ∧ x ≤ 1000)))) 0 0 (fun _ => False) := by
  refine Met.ofW (cc := cX10_isOrder) (maxL := 3) (ret := (some .boolean)) (by decide) rfl ?_
  intro pg en s m args below meth cod s₁ B hml hv
  obtain ⟨rfl, hsz, hP0, hK⟩ := hv
  have hx := B.exec
  have hb := B.bytes
  have hr := B.returns
  have hts := atoms_spec (ws := wsX10_isOrder) B.pre
  have hown : s.vm.findClass RX10 = some m.cls := findClass_of_methodNamed B.named
  have hlocks := B.notSynchronized
  subst hsz
  have hw := kw_H.start hP0
  generalize kw_A ad ct s.heap.size = A at hw
  have hinX10 : ∀ w ∈ wsX100, w ∈ wsX10_isOrder := by decide +kernel
  have hl := lv_entry ([.ref (ad 0), .int set, .int x]) (n := 3) (Nat.le_of_ble_eq_true rfl)
  rw [lg_entry_eq]
  generalize (lg_sl ([.ref (ad 0), .int set, .int x]) ++ List.replicate (3 - (lg_sl ([.ref (ad 0), .int set, .int x])).length) Slot.unset).toArray = ls at hl ⊢
  have hl : lv_has ls 3 [(0, .ref (ad 0)), (1, .int set), (2, .int x)] := hl
  have S0 : CallFix pg m cod cX10_isOrder 3 s _ wsX10_isOrder RX10 := ⟨hx, hb, hml, hown, hts⟩
  refine lv_aload_n hx hb dX10_isOrder_0 rfl (lv_at hl 0 rfl) ?_
  refine kg_get (v := .ref (ad 1)) (C := RX10) (T := TX10) (N := 9) hx hb hts hinX10 hown hK hw h0 rfl 0 (by decide) (hts (.fieldLink RX10 12 "BetMaker" "maker" "LBetMaker$Maker;") (by decide +kernel)) (fun _ h9 => h9) rfl dX10_isOrder_1 ?_
  refine lv_iload_n hx hb dX10_isOrder_4 rfl (lv_at hl 1 rfl) ?_
  refine kc_v (As := [.int set]) (rest := []) S0 (c_X3_isSet l D tc s.heap.size ad ct (N := N) h1) (cwV 1 hts gX10_isOrder_X3_isSet rfl rfl rfl (by decide +kernel) ⟨Nat.le_of_ble_eq_true rfl, Nat.le_of_ble_eq_true rfl⟩) hK hw h1 rfl rfl hl.1 rfl (Nat.le_of_ble_eq_true rfl) dX10_isOrder_5 ⟨Nat.le_of_ble_eq_true rfl, (Nat.le_of_ble_eq_true rfl)⟩ ?_
  refine kb_ifeq (tgt := 33) hx hb dX10_isOrder_8 (by decide) (fun c_1 => ?_) (fun c_1 => ?_)
  · refine lv_iconst (v := 0) hx hb dX10_isOrder_33 (by decide) ?_
    refine W.eq (congrArg (fun z => F0 m 34 ls [.int z]) (show 0 = (kb ((1 ≤ set ∧ set ≤ 1 <<< (nI N &&& 31) - 2) ∧ ¬ x = 0 ∧ (-1000) ≤ x ∧ x ≤ 1000)) from by exact (kb_f (fun q => c_1 q.1)).symm)) ?_
    exact W.zret hx hb hr kb_nar (fun t ht _ => ⟨rfl, ht⟩) (fun _ h => absurd h List.not_mem_nil) dX10_isOrder_34
  · refine lv_iload_n hx hb dX10_isOrder_11 rfl (lv_at hl 2 rfl) ?_
    refine lv_if_eq (tgt := 33) hx hb dX10_isOrder_12 (by decide) (fun c_2 => ?_) (fun c_2 => ?_)
    · refine lv_iconst (v := 0) hx hb dX10_isOrder_33 (by decide) ?_
      refine W.eq (congrArg (fun z => F0 m 34 ls [.int z]) (show 0 = (kb ((1 ≤ set ∧ set ≤ 1 <<< (nI N &&& 31) - 2) ∧ ¬ x = 0 ∧ (-1000) ≤ x ∧ x ≤ 1000)) from by exact (kb_f (fun q => q.2.1 c_2)).symm)) ?_
      exact W.zret hx hb hr kb_nar (fun t ht _ => ⟨rfl, ht⟩) (fun _ h => absurd h List.not_mem_nil) dX10_isOrder_34
    · refine lv_iload_n hx hb dX10_isOrder_15 rfl (lv_at hl 2 rfl) ?_
      refine lv_sipush (v := (-1000)) hx hb dX10_isOrder_16 (by decide) ?_
      refine lv_icmp_lt (tgt := 33) hx hb dX10_isOrder_19 (by decide) (fun c_3 => ?_) (fun c_3 => ?_)
      · refine lv_iconst (v := 0) hx hb dX10_isOrder_33 (by decide) ?_
        refine W.eq (congrArg (fun z => F0 m 34 ls [.int z]) (show 0 = (kb ((1 ≤ set ∧ set ≤ 1 <<< (nI N &&& 31) - 2) ∧ ¬ x = 0 ∧ (-1000) ≤ x ∧ x ≤ 1000)) from by exact (kb_f (fun q => kq_3 c_3 q.2.2.1)).symm)) ?_
        exact W.zret hx hb hr kb_nar (fun t ht _ => ⟨rfl, ht⟩) (fun _ h => absurd h List.not_mem_nil) dX10_isOrder_34
      · refine lv_iload_n hx hb dX10_isOrder_22 rfl (lv_at hl 2 rfl) ?_
        refine lv_sipush (v := 1000) hx hb dX10_isOrder_23 (by decide) ?_
        refine lv_icmp_gt (tgt := 33) hx hb dX10_isOrder_26 (by decide) (fun c_4 => ?_) (fun c_4 => ?_)
        · refine lv_iconst (v := 0) hx hb dX10_isOrder_33 (by decide) ?_
          refine W.eq (congrArg (fun z => F0 m 34 ls [.int z]) (show 0 = (kb ((1 ≤ set ∧ set ≤ 1 <<< (nI N &&& 31) - 2) ∧ ¬ x = 0 ∧ (-1000) ≤ x ∧ x ≤ 1000)) from by exact (kb_f (fun q => kq_3 c_4 q.2.2.2)).symm)) ?_
          exact W.zret hx hb hr kb_nar (fun t ht _ => ⟨rfl, ht⟩) (fun _ h => absurd h List.not_mem_nil) dX10_isOrder_34
        · refine lv_iconst (v := 1) hx hb dX10_isOrder_29 (by decide) ?_
          refine lv_goto (tgt := 34) hx hb dX10_isOrder_30 (by decide) ?_
          refine W.eq (congrArg (fun z => F0 m 34 ls [.int z]) (show 1 = (kb ((1 ≤ set ∧ set ≤ 1 <<< (nI N &&& 31) - 2) ∧ ¬ x = 0 ∧ (-1000) ≤ x ∧ x ≤ 1000)) from by exact (kb_t ⟨c_1, c_2, kq_1 c_3, kq_1 c_4⟩).symm)) ?_
          exact W.zret hx hb hr kb_nar (fun t ht _ => ⟨rfl, ht⟩) (fun _ h => absurd h List.not_mem_nil) dX10_isOrder_34
set_option maxHeartbeats 4000000 in
set_option maxRecDepth 100000 in
theorem c_X10_findTrader (l : Launch) (D : va_G) (tc : Nat → ClassId) (sz : Nat) (ad : Nat → Nat) (ct : Nat → Option va_E) {nt t : Nat} {lf : Int32}   {qt : Nat → Option Nat}    (h0 : ct 0 = some (.inr (10, [.ref (ad 1), .ref (ad 3), .int (nI nt), .ref (ad 4), .ref (ad 9), .ref (ad 11), .ref (ad 12), .ref (ad 13), .int lf]))) (h3 : ct 3 = some (eQ tc 4 6 qt)) (ht : t < nt) (hnt : nt ≤ 6) (hqt : qt t = some (ad (30 + t))) : Met l yX10_findTrader wsX10_findTrader ({ frames := 0, cells := 0, slots := 0, locals := 0 }) (va_Pc [.ref (ad 0), .int (nI t)] (kw_B D tc sz ad ct)) (k2_QcV (.ref (ad (30 + t)))) 0 0 (fun _ => False) := by
  refine Met.ofW (cc := cX10_findTrader) (maxL := 2) (ret := (some (.object "BetMaker$Plain"))) (by decide) rfl ?_
  intro pg en s m args below meth cod s₁ B hml hv
  obtain ⟨rfl, hsz, hP0, hK⟩ := hv
  have hx := B.exec
  have hb := B.bytes
  have hr := B.returns
  have hts := atoms_spec (ws := wsX10_findTrader) B.pre
  have hown : s.vm.findClass RX10 = some m.cls := findClass_of_methodNamed B.named
  have hlocks := B.notSynchronized
  subst hsz
  have hw := kw_H.start hP0
  generalize kw_A ad ct s.heap.size = A at hw
  have hinX10 : ∀ w ∈ wsX100, w ∈ wsX10_findTrader := by decide +kernel
  have hl := lv_entry ([.ref (ad 0), .int (nI t)]) (n := 2) (Nat.le_of_ble_eq_true rfl)
  rw [lg_entry_eq]
  generalize (lg_sl ([.ref (ad 0), .int (nI t)]) ++ List.replicate (2 - (lg_sl ([.ref (ad 0), .int (nI t)])).length) Slot.unset).toArray = ls at hl ⊢
  have hl : lv_has ls 2 [(0, .ref (ad 0)), (1, .int (nI t))] := hl
  have S0 : CallFix pg m cod cX10_findTrader 2 s _ wsX10_findTrader RX10 := ⟨hx, hb, hml, hown, hts⟩
  refine lv_iload_n hx hb dX10_findTrader_0 rfl (lv_at hl 1 rfl) ?_
  refine lv_if_lt (tgt := 27) hx hb dX10_findTrader_1 (by decide) (fun c_1 => ?_) (fun c_1 => ?_)
  · exact absurd c_1 (nI_pos (by omega))
  · refine lv_iload_n hx hb dX10_findTrader_4 rfl (lv_at hl 1 rfl) ?_
    refine lv_aload_n hx hb dX10_findTrader_5 rfl (lv_at hl 0 rfl) ?_
    refine kg_get (v := .int (nI nt)) (C := RX10) (T := TX10) (N := 9) hx hb hts hinX10 hown hK hw h0 rfl 2 (by decide) (hts (.fieldLink RX10 60 "BetMaker" "traderCount" "I") (by decide +kernel)) (fun _ h9 => h9) rfl dX10_findTrader_6 ?_
    refine kn_ge t nt rfl rfl (by omega) (by omega) (tgt := 27) hx hb dX10_findTrader_9 (by decide) (fun c_2 => ?_) (fun c_2 => ?_)
    · exfalso; omega
    · refine lv_iload_n hx hb dX10_findTrader_12 rfl (lv_at hl 1 rfl) ?_
      refine lv_bipush (v := 6) hx hb dX10_findTrader_13 (by decide) ?_
      refine kn_ge t 6 rfl rfl (by omega) (by omega) (tgt := 27) hx hb dX10_findTrader_15 (by decide) (fun c_3 => ?_) (fun c_3 => ?_)
      · exfalso; omega
      · refine lv_aload_n hx hb dX10_findTrader_18 rfl (lv_at hl 0 rfl) ?_
        refine kg_get (v := .ref (ad 3)) (C := RX10) (T := TX10) (N := 9) hx hb hts hinX10 hown hK hw h0 rfl 1 (by decide) (hts (.fieldLink RX10 20 "BetMaker" "traders" "[LBetMaker$Plain;") (by decide +kernel)) (fun _ h9 => h9) rfl dX10_findTrader_19 ?_
        refine lv_iload_n hx hb dX10_findTrader_22 rfl (lv_at hl 1 rfl) ?_
        refine kg_aald hx hb hK hw 4 h3 rfl t rfl (by omega) (by omega) dX10_findTrader_23 ?_
        rw [hqt]
        show W _ _ _ _ _ _ _ _ _ _ _ _ _ _ _ (F0 m 24 ls (.ref (ad (30 + t)) :: []))
        refine lv_goto (tgt := 28) hx hb dX10_findTrader_24 (by decide) ?_
        exact W.aret hx hb hr (Or.inl ⟨_, rfl⟩) (Or.inr ⟨_, rfl⟩) (fun t ht _ => ⟨rfl, ht⟩) (fun _ h => absurd h List.not_mem_nil) dX10_findTrader_28
set_option maxHeartbeats 4000000 in
set_option maxRecDepth 100000 in
theorem c_X10_findTrader_n (l : Launch) (D : va_G) (tc : Nat → ClassId) (sz : Nat) (ad : Nat → Nat) (ct : Nat → Option va_E) {nt : Nat} {lf : Int32}      {t1 : Int32} (h0 : ct 0 = some (.inr (10, [.ref (ad 1), .ref (ad 3), .int (nI nt), .ref (ad 4), .ref (ad 9), .ref (ad 11), .ref (ad 12), .ref (ad 13), .int lf]))) (ht : ¬ (0 ≤ t1 ∧ t1 < nI nt)) : Met l yX10_findTrader wsX10_findTrader ({ frames := 0, cells := 0, slots := 0, locals := 0 }) (va_Pc [.ref (ad 0), .int t1] (kw_B D tc sz ad ct)) (k2_QcV (.null)) 0 0 (fun _ => False) := by
  refine Met.ofW (cc := cX10_findTrader) (maxL := 2) (ret := (some (.object "BetMaker$Plain"))) (by decide) rfl ?_
  intro pg en s m args below meth cod s₁ B hml hv
  obtain ⟨rfl, hsz, hP0, hK⟩ := hv
  have hx := B.exec
  have hb := B.bytes
  have hr := B.returns
  have hts := atoms_spec (ws := wsX10_findTrader) B.pre
  have hown : s.vm.findClass RX10 = some m.cls := findClass_of_methodNamed B.named
  have hlocks := B.notSynchronized
  subst hsz
  have hw := kw_H.start hP0
  generalize kw_A ad ct s.heap.size = A at hw
  have hinX10 : ∀ w ∈ wsX100, w ∈ wsX10_findTrader := by decide +kernel
  have hl := lv_entry ([.ref (ad 0), .int t1]) (n := 2) (Nat.le_of_ble_eq_true rfl)
  rw [lg_entry_eq]
  generalize (lg_sl ([.ref (ad 0), .int t1]) ++ List.replicate (2 - (lg_sl ([.ref (ad 0), .int t1])).length) Slot.unset).toArray = ls at hl ⊢
  have hl : lv_has ls 2 [(0, .ref (ad 0)), (1, .int t1)] := hl
  have S0 : CallFix pg m cod cX10_findTrader 2 s _ wsX10_findTrader RX10 := ⟨hx, hb, hml, hown, hts⟩
  refine lv_iload_n hx hb dX10_findTrader_0 rfl (lv_at hl 1 rfl) ?_
  refine lv_if_lt (tgt := 27) hx hb dX10_findTrader_1 (by decide) (fun c_1 => ?_) (fun c_1 => ?_)
  · refine lv_null hx hb dX10_findTrader_27 ?_
    exact W.aret hx hb hr (Or.inl ⟨_, rfl⟩) (Or.inl rfl) (fun t ht _ => ⟨rfl, ht⟩) (fun _ h => absurd h List.not_mem_nil) dX10_findTrader_28
  · refine lv_iload_n hx hb dX10_findTrader_4 rfl (lv_at hl 1 rfl) ?_
    refine lv_aload_n hx hb dX10_findTrader_5 rfl (lv_at hl 0 rfl) ?_
    refine kg_get (v := .int (nI nt)) (C := RX10) (T := TX10) (N := 9) hx hb hts hinX10 hown hK hw h0 rfl 2 (by decide) (hts (.fieldLink RX10 60 "BetMaker" "traderCount" "I") (by decide +kernel)) (fun _ h9 => h9) rfl dX10_findTrader_6 ?_
    refine lv_icmp_ge (tgt := 27) hx hb dX10_findTrader_9 (by decide) (fun c_2 => ?_) (fun c_2 => ?_)
    · refine lv_null hx hb dX10_findTrader_27 ?_
      exact W.aret hx hb hr (Or.inl ⟨_, rfl⟩) (Or.inl rfl) (fun t ht _ => ⟨rfl, ht⟩) (fun _ h => absurd h List.not_mem_nil) dX10_findTrader_28
    · exact absurd ⟨kq_1 c_1, kq_2 c_2⟩ ht
set_option maxHeartbeats 4000000 in
set_option maxRecDepth 100000 in
theorem c_X10_findSheet (l : Launch) (D : va_G) (tc : Nat → ClassId) (sz : Nat) (ad : Nat → Nat) (ct : Nat → Option va_E) {nt k : Nat} {lf : Int32}   {qs : Nat → Option Nat}    (h0 : ct 0 = some (.inr (10, [.ref (ad 1), .ref (ad 3), .int (nI nt), .ref (ad 4), .ref (ad 9), .ref (ad 11), .ref (ad 12), .ref (ad 13), .int lf]))) (h11 : ct 11 = some (eQ tc 5 4 qs)) (hk4 : k < 4) (hqs : qs k = some (ad (20 + k))) : Met l yX10_findSheet wsX10_findSheet ({ frames := 0, cells := 0, slots := 0, locals := 0 }) (va_Pc [.ref (ad 0), .int (nI k)] (kw_B D tc sz ad ct)) (k2_QcV (.ref (ad (20 + k)))) 0 0 (fun _ => False) := by
  refine Met.ofW (cc := cX10_findSheet) (maxL := 2) (ret := (some (.object "BetMaker$Sheet"))) (by decide) rfl ?_
  intro pg en s m args below meth cod s₁ B hml hv
  obtain ⟨rfl, hsz, hP0, hK⟩ := hv
  have hx := B.exec
  have hb := B.bytes
  have hr := B.returns
  have hts := atoms_spec (ws := wsX10_findSheet) B.pre
  have hown : s.vm.findClass RX10 = some m.cls := findClass_of_methodNamed B.named
  have hlocks := B.notSynchronized
  subst hsz
  have hw := kw_H.start hP0
  generalize kw_A ad ct s.heap.size = A at hw
  have hinX10 : ∀ w ∈ wsX100, w ∈ wsX10_findSheet := by decide +kernel
  have hl := lv_entry ([.ref (ad 0), .int (nI k)]) (n := 2) (Nat.le_of_ble_eq_true rfl)
  rw [lg_entry_eq]
  generalize (lg_sl ([.ref (ad 0), .int (nI k)]) ++ List.replicate (2 - (lg_sl ([.ref (ad 0), .int (nI k)])).length) Slot.unset).toArray = ls at hl ⊢
  have hl : lv_has ls 2 [(0, .ref (ad 0)), (1, .int (nI k))] := hl
  have S0 : CallFix pg m cod cX10_findSheet 2 s _ wsX10_findSheet RX10 := ⟨hx, hb, hml, hown, hts⟩
  refine lv_iload_n hx hb dX10_findSheet_0 rfl (lv_at hl 1 rfl) ?_
  refine lv_if_lt (tgt := 18) hx hb dX10_findSheet_1 (by decide) (fun c_1 => ?_) (fun c_1 => ?_)
  · exact absurd c_1 (nI_pos (by omega))
  · refine lv_iload_n hx hb dX10_findSheet_4 rfl (lv_at hl 1 rfl) ?_
    refine lv_iconst (v := 4) hx hb dX10_findSheet_5 (by decide) ?_
    refine kn_ge k 4 rfl rfl (by omega) (by omega) (tgt := 18) hx hb dX10_findSheet_6 (by decide) (fun c_2 => ?_) (fun c_2 => ?_)
    · exfalso; omega
    · refine lv_aload_n hx hb dX10_findSheet_9 rfl (lv_at hl 0 rfl) ?_
      refine kg_get (v := .ref (ad 11)) (C := RX10) (T := TX10) (N := 9) hx hb hts hinX10 hown hK hw h0 rfl 5 (by decide) (hts (.fieldLink RX10 40 "BetMaker" "sheets" "[LBetMaker$Sheet;") (by decide +kernel)) (fun _ h9 => h9) rfl dX10_findSheet_10 ?_
      refine lv_iload_n hx hb dX10_findSheet_13 rfl (lv_at hl 1 rfl) ?_
      refine kg_aald hx hb hK hw 5 h11 rfl k rfl (by omega) (by omega) dX10_findSheet_14 ?_
      rw [hqs]
      show W _ _ _ _ _ _ _ _ _ _ _ _ _ _ _ (F0 m 15 ls (.ref (ad (20 + k)) :: []))
      refine lv_goto (tgt := 19) hx hb dX10_findSheet_15 (by decide) ?_
      exact W.aret hx hb hr (Or.inl ⟨_, rfl⟩) (Or.inr ⟨_, rfl⟩) (fun t ht _ => ⟨rfl, ht⟩) (fun _ h => absurd h List.not_mem_nil) dX10_findSheet_19
set_option maxHeartbeats 4000000 in
set_option maxRecDepth 100000 in
theorem c_X10_findSheet_n (l : Launch) (D : va_G) (tc : Nat → ClassId) (sz : Nat) (ad : Nat → Nat) (ct : Nat → Option va_E) {nt : Nat} {lf : Int32}      {k1 : Int32} (h0 : ct 0 = some (.inr (10, [.ref (ad 1), .ref (ad 3), .int (nI nt), .ref (ad 4), .ref (ad 9), .ref (ad 11), .ref (ad 12), .ref (ad 13), .int lf]))) (hk : ¬ (0 ≤ k1 ∧ k1 < 4)) : Met l yX10_findSheet wsX10_findSheet ({ frames := 0, cells := 0, slots := 0, locals := 0 }) (va_Pc [.ref (ad 0), .int k1] (kw_B D tc sz ad ct)) (k2_QcV (.null)) 0 0 (fun _ => False) := by
  refine Met.ofW (cc := cX10_findSheet) (maxL := 2) (ret := (some (.object "BetMaker$Sheet"))) (by decide) rfl ?_
  intro pg en s m args below meth cod s₁ B hml hv
  obtain ⟨rfl, hsz, hP0, hK⟩ := hv
  have hx := B.exec
  have hb := B.bytes
  have hr := B.returns
  have hts := atoms_spec (ws := wsX10_findSheet) B.pre
  have hown : s.vm.findClass RX10 = some m.cls := findClass_of_methodNamed B.named
  have hlocks := B.notSynchronized
  subst hsz
  have hw := kw_H.start hP0
  generalize kw_A ad ct s.heap.size = A at hw
  have hinX10 : ∀ w ∈ wsX100, w ∈ wsX10_findSheet := by decide +kernel
  have hl := lv_entry ([.ref (ad 0), .int k1]) (n := 2) (Nat.le_of_ble_eq_true rfl)
  rw [lg_entry_eq]
  generalize (lg_sl ([.ref (ad 0), .int k1]) ++ List.replicate (2 - (lg_sl ([.ref (ad 0), .int k1])).length) Slot.unset).toArray = ls at hl ⊢
  have hl : lv_has ls 2 [(0, .ref (ad 0)), (1, .int k1)] := hl
  have S0 : CallFix pg m cod cX10_findSheet 2 s _ wsX10_findSheet RX10 := ⟨hx, hb, hml, hown, hts⟩
  refine lv_iload_n hx hb dX10_findSheet_0 rfl (lv_at hl 1 rfl) ?_
  refine lv_if_lt (tgt := 18) hx hb dX10_findSheet_1 (by decide) (fun c_1 => ?_) (fun c_1 => ?_)
  · refine lv_null hx hb dX10_findSheet_18 ?_
    exact W.aret hx hb hr (Or.inl ⟨_, rfl⟩) (Or.inl rfl) (fun t ht _ => ⟨rfl, ht⟩) (fun _ h => absurd h List.not_mem_nil) dX10_findSheet_19
  · refine lv_iload_n hx hb dX10_findSheet_4 rfl (lv_at hl 1 rfl) ?_
    refine lv_iconst (v := 4) hx hb dX10_findSheet_5 (by decide) ?_
    refine lv_icmp_ge (tgt := 18) hx hb dX10_findSheet_6 (by decide) (fun c_2 => ?_) (fun c_2 => ?_)
    · refine lv_null hx hb dX10_findSheet_18 ?_
      exact W.aret hx hb hr (Or.inl ⟨_, rfl⟩) (Or.inl rfl) (fun t ht _ => ⟨rfl, ht⟩) (fun _ h => absurd h List.not_mem_nil) dX10_findSheet_19
    · exact absurd ⟨kq_1 c_1, kq_2 c_2⟩ hk
set_option maxHeartbeats 4000000 in
set_option maxRecDepth 100000 in
theorem c_X10_meet (l : Launch) (D : va_G) (tc : Nat → ClassId) (sz : Nat) (ad : Nat → Nat) (ct : Nat → Option va_E) {nt : Nat} {lf : Int32}      {w1 : Int32} (h0 : ct 0 = some (.inr (10, [.ref (ad 1), .ref (ad 3), .int (nI nt), .ref (ad 4), .ref (ad 9), .ref (ad 11), .ref (ad 12), .ref (ad 13), .int lf]))) : Met l yX10_meet wsX10_meet ({ frames := 0, cells := 0, slots := 0, locals := 0 }) (va_Pc [.ref (ad 0), .int w1] (kw_B D tc sz ad ct)) (kw_Q D ad (kw_A ad ct sz) (some (.int ((-10) - w1))) (kw_up ct 0 (.inr (10, [.ref (ad 1), .ref (ad 3), .int (nI nt), .ref (ad 4), .ref (ad 9), .ref (ad 11), .ref (ad 12), .ref (ad 13), .int w1]))) 0) 0 0 (kw_A ad ct sz) := by
  refine Met.ofW (cc := cX10_meet) (maxL := 2) (ret := (some .int)) (by decide) rfl ?_
  intro pg en s m args below meth cod s₁ B hml hv
  obtain ⟨rfl, hsz, hP0, hK⟩ := hv
  have hx := B.exec
  have hb := B.bytes
  have hr := B.returns
  have hts := atoms_spec (ws := wsX10_meet) B.pre
  have hown : s.vm.findClass RX10 = some m.cls := findClass_of_methodNamed B.named
  have hlocks := B.notSynchronized
  subst hsz
  have hw := kw_H.start hP0
  generalize hAe : kw_A ad ct s.heap.size = A at hw ⊢
  have hA : ∀ q, s.heap.size ≤ q → A q := fun q h => by rw [← hAe]; exact Or.inr h
  have hinX10 : ∀ w ∈ wsX100, w ∈ wsX10_meet := by decide +kernel
  have hl := lv_entry ([.ref (ad 0), .int w1]) (n := 2) (Nat.le_of_ble_eq_true rfl)
  rw [lg_entry_eq]
  generalize (lg_sl ([.ref (ad 0), .int w1]) ++ List.replicate (2 - (lg_sl ([.ref (ad 0), .int w1])).length) Slot.unset).toArray = ls at hl ⊢
  have hl : lv_has ls 2 [(0, .ref (ad 0)), (1, .int w1)] := hl
  have S0 : CallFix pg m cod cX10_meet 2 s _ wsX10_meet RX10 := ⟨hx, hb, hml, hown, hts⟩
  have hfr : ∀ j, j ≠ 0 → ct j = ct j := fun _ _ => rfl
  refine lv_aload_n hx hb dX10_meet_0 rfl (lv_at hl 0 rfl) ?_
  refine lv_iload_n hx hb dX10_meet_1 rfl (lv_at hl 1 rfl) ?_
  refine kg_put (v := .int w1) (ty := .int) (C := RX10) (T := TX10) (N := 9) (fs' := [.ref (ad 1), .ref (ad 3), .int (nI nt), .ref (ad 4), .ref (ad 9), .ref (ad 11), .ref (ad 12), .ref (ad 13), .int w1]) hx hb hts hinX10 tyX10 tyX10_ok nmX10 hown hK hw h0 rfl 8 (by decide) (hts (.fieldLink RX10 179 "BetMaker" "latestFault" "I") (by decide +kernel)) (fun _ h9 => h9) rfl (by decide +kernel) rfl rfl (Nat.le_of_ble_eq_true rfl) rfl dX10_meet_2 (fun H locs hw => ?_)
  obtain ⟨ct_1, ect_1⟩ : ∃ z, z = kw_up ct 0 (.inr (10, [.ref (ad 1), .ref (ad 3), .int (nI nt), .ref (ad 4), .ref (ad 9), .ref (ad 11), .ref (ad 12), .ref (ad 13), .int w1])) := ⟨_, rfl⟩
  rw [← ect_1] at hw
  have h_2 : ct_1 0 = some (.inr (10, [.ref (ad 1), .ref (ad 3), .int (nI nt), .ref (ad 4), .ref (ad 9), .ref (ad 11), .ref (ad 12), .ref (ad 13), .int w1])) := by rw [ect_1]; exact kw_up_s
  have hfr_3 : ∀ j, j ≠ 0 → ct_1 j = ct j := fun j a0 => by rw [ect_1]; exact (kw_up_n a0).trans (hfr j a0)
  refine lv_bipush (v := (-10)) hx hb dX10_meet_5 (by decide) ?_
  refine lv_iload_n hx hb dX10_meet_7 rfl (lv_at hl 1 rfl) ?_
  refine lv_isub hx hb dX10_meet_8 ?_
  have hq_4 := h_2
  have hend := kw_eq1 hq_4 hfr_3
  rw [hend] at hw
  exact W.iret hx hb hr (fun t ht _ => ⟨rfl, by rw [ht]; exact hw.1, hw.2.2.1, hw.2.1.F ht, by rw [ht]; exact hw.2.2.2⟩) hw.2.1.2.2 dX10_meet_9
set_option maxHeartbeats 4000000 in
set_option maxRecDepth 100000 in
theorem c_X10_whyBarred (l : Launch) (D : va_G) (tc : Nat → ClassId) (sz : Nat) (ad : Nat → Nat) (ct : Nat → Option va_E) {N nt ci t : Nat} {b cm lf nb de : Int32} {ss g pu : Int64} {f ho : Nat → Int64}    {set x : Int32} (h0 : ct 0 = some (.inr (10, [.ref (ad 1), .ref (ad 3), .int (nI nt), .ref (ad 4), .ref (ad 9), .ref (ad 11), .ref (ad 12), .ref (ad 13), .int lf]))) (h1 : ct 1 = some (.inr (3, [.ref (ad 2), .int (nI N), .int b, .long ss, .long g, .int cm]))) (h2 : ct 2 = some (eJ tc 8 f)) (h30 : ct (30 + t) = some (.inr (ci, [.int nb, .ref (ad (36 + t)), .ref (ad (42 + t)), .long pu, .int de]))) (h36 : ct (36 + t) = some (eJ tc N ho)) (hci : ci = 5 ∨ ci = 7 ∨ ci = 9) (hN : N ≤ 8) : Met l yX10_whyBarred wsX10_whyBarred ({ frames := 5, cells := 0, slots := 0, locals := 131 }) (va_Pc [.ref (ad 0), .ref (ad (30 + t)), .int set, .int x] (kw_B D tc sz ad ct)) (k2_QcV (.int (kWb b N f ss set x pu ho))) 0 0 (fun _ => False) := by
  refine Met.ofW (cc := cX10_whyBarred) (maxL := 6) (ret := (some .int)) (by decide) rfl ?_
  intro pg en s m args below meth cod s₁ B hml hv
  obtain ⟨rfl, hsz, hP0, hK⟩ := hv
  have hx := B.exec
  have hb := B.bytes
  have hr := B.returns
  have hts := atoms_spec (ws := wsX10_whyBarred) B.pre
  have hown : s.vm.findClass RX10 = some m.cls := findClass_of_methodNamed B.named
  have hlocks := B.notSynchronized
  subst hsz
  have hw := kw_H.start hP0
  generalize kw_A ad ct s.heap.size = A at hw
  have hinX10 : ∀ w ∈ wsX100, w ∈ wsX10_whyBarred := by decide +kernel
  have hl := lv_entry ([.ref (ad 0), .ref (ad (30 + t)), .int set, .int x]) (n := 6) (Nat.le_of_ble_eq_true rfl)
  rw [lg_entry_eq]
  generalize (lg_sl ([.ref (ad 0), .ref (ad (30 + t)), .int set, .int x]) ++ List.replicate (6 - (lg_sl ([.ref (ad 0), .ref (ad (30 + t)), .int set, .int x])).length) Slot.unset).toArray = ls at hl ⊢
  have hl : lv_has ls 6 [(0, .ref (ad 0)), (1, .ref (ad (30 + t))), (2, .int set), (3, .int x)] := hl
  have S0 : CallFix pg m cod cX10_whyBarred 6 s _ wsX10_whyBarred RX10 := ⟨hx, hb, hml, hown, hts⟩
  refine lv_aload_n hx hb dX10_whyBarred_0 rfl (lv_at hl 0 rfl) ?_
  refine kg_get (v := .ref (ad 1)) (C := RX10) (T := TX10) (N := 9) hx hb hts hinX10 hown hK hw h0 rfl 0 (by decide) (hts (.fieldLink RX10 12 "BetMaker" "maker" "LBetMaker$Maker;") (by decide +kernel)) (fun _ h9 => h9) rfl dX10_whyBarred_1 ?_
  refine lv_iload_n hx hb dX10_whyBarred_4 rfl (lv_at hl 2 rfl) ?_
  refine lv_iload_n hx hb dX10_whyBarred_5 rfl (lv_at hl 3 rfl) ?_
  refine kc_v (As := [.int set, .int x]) (rest := []) S0 (c_X3_allowsPrices l D tc s.heap.size ad ct (N := N) h1 h2 (by omega)) (cwV 2 hts gX10_whyBarred_X3_allowsPrices rfl rfl rfl (by decide +kernel) ⟨Nat.le_of_ble_eq_true rfl, Nat.le_of_ble_eq_true rfl⟩) hK hw h1 rfl rfl hl.1 rfl (Nat.le_of_ble_eq_true rfl) dX10_whyBarred_6 ⟨Nat.le_of_ble_eq_true rfl, (Nat.le_of_ble_eq_true rfl)⟩ ?_
  refine kb_ifne (tgt := 14) hx hb dX10_whyBarred_9 (by decide) (fun c_1 => ?_) (fun c_1 => ?_)
  · refine lv_aload_n hx hb dX10_whyBarred_14 rfl (lv_at hl 1 rfl) ?_
    refine kt_v (As := []) (rest := []) S0 hci (c_X5_purse l D tc s.heap.size ad ct h30 hci) (cwV 0 hts gX10_whyBarred_X5_purse rfl rfl rfl (by decide +kernel) ⟨Nat.le_of_ble_eq_true rfl, Nat.le_of_ble_eq_true rfl⟩) (va_cwU 0 hts gX10_whyBarred_X5_purse_u154X7 rfl rfl rfl rfl (by decide +kernel) ⟨Nat.le_of_ble_eq_true rfl, Nat.le_of_ble_eq_true rfl⟩) (va_cwU 0 hts gX10_whyBarred_X5_purse_u154X9 rfl rfl rfl rfl (by decide +kernel) ⟨Nat.le_of_ble_eq_true rfl, Nat.le_of_ble_eq_true rfl⟩) hK hw h30 rfl hl.1 rfl (Nat.le_of_ble_eq_true rfl) dX10_whyBarred_15 ⟨Nat.le_of_ble_eq_true rfl, (Nat.le_of_ble_eq_true rfl)⟩ ?_
    refine lv_aload_n hx hb dX10_whyBarred_18 rfl (lv_at hl 0 rfl) ?_
    refine kg_get (v := .ref (ad 1)) (C := RX10) (T := TX10) (N := 9) hx hb hts hinX10 hown hK hw h0 rfl 0 (by decide) (hts (.fieldLink RX10 12 "BetMaker" "maker" "LBetMaker$Maker;") (by decide +kernel)) (fun _ h9 => h9) rfl dX10_whyBarred_19 ?_
    refine lv_iload_n hx hb dX10_whyBarred_22 rfl (lv_at hl 2 rfl) ?_
    refine lv_iload_n hx hb dX10_whyBarred_23 rfl (lv_at hl 3 rfl) ?_
    refine kc_v (As := [.int set, .int x]) (rest := [.long pu]) S0 (c_X3_cost l D tc s.heap.size ad ct (N := N) h1 h2 (by omega)) (cwV 2 hts gX10_whyBarred_X3_cost rfl rfl rfl (by decide +kernel) ⟨Nat.le_of_ble_eq_true rfl, Nat.le_of_ble_eq_true rfl⟩) hK hw h1 rfl rfl hl.1 rfl (Nat.le_of_ble_eq_true rfl) dX10_whyBarred_24 ⟨Nat.le_of_ble_eq_true rfl, (Nat.le_of_ble_eq_true rfl)⟩ ?_
    refine lv_lsub hx hb dX10_whyBarred_27 ?_
    refine lv_lstore (lv' := [(4, .long (pu - (kCost b N f ss set x))), (0, .ref (ad 0)), (1, .ref (ad (30 + t))), (2, .int set), (3, .int x)]) hx hb dX10_whyBarred_28 hl (by decide) rfl (fun ls hl => ?_)
    refine lv_lload hx hb dX10_whyBarred_30 (lv_at hl 0 rfl) ?_
    refine lv_aload_n hx hb dX10_whyBarred_32 rfl (lv_at hl 1 rfl) ?_
    refine kg_get (v := .ref (ad 1)) (C := RX10) (T := TX10) (N := 9) hx hb hts hinX10 hown hK hw h0 rfl 0 (by decide) (hts (.fieldLink RX10 12 "BetMaker" "maker" "LBetMaker$Maker;") (by decide +kernel)) (fun _ h9 => h9) rfl dX10_whyBarred_33 ?_
    refine kc_v (As := []) (rest := [.long (pu - (kCost b N f ss set x))]) S0 (c_X3_unit l D tc s.heap.size ad ct (N := N) h1) (cwV 0 hts gX10_whyBarred_X3_unit rfl rfl rfl (by decide +kernel) ⟨Nat.le_of_ble_eq_true rfl, Nat.le_of_ble_eq_true rfl⟩) hK hw h1 rfl rfl hl.1 rfl (Nat.le_of_ble_eq_true rfl) dX10_whyBarred_36 ⟨Nat.le_of_ble_eq_true rfl, (Nat.le_of_ble_eq_true rfl)⟩ ?_
    refine lv_aload_n hx hb dX10_whyBarred_39 rfl (lv_at hl 2 rfl) ?_
    refine lv_iload_n hx hb dX10_whyBarred_40 rfl (lv_at hl 3 rfl) ?_
    refine lv_iload_n hx hb dX10_whyBarred_41 rfl (lv_at hl 4 rfl) ?_
    refine kt_v (As := [.int set, .int x]) (rest := [.long (kU b N), .long (pu - (kCost b N f ss set x))]) S0 hci (c_X5_leastHeld l D tc s.heap.size ad ct h30 h36 hci (by omega)) (cwV 2 hts gX10_whyBarred_X5_leastHeld rfl rfl rfl (by decide +kernel) ⟨Nat.le_of_ble_eq_true rfl, Nat.le_of_ble_eq_true rfl⟩) (va_cwU 2 hts gX10_whyBarred_X5_leastHeld_u157X7 rfl rfl rfl rfl (by decide +kernel) ⟨Nat.le_of_ble_eq_true rfl, Nat.le_of_ble_eq_true rfl⟩) (va_cwU 2 hts gX10_whyBarred_X5_leastHeld_u157X9 rfl rfl rfl rfl (by decide +kernel) ⟨Nat.le_of_ble_eq_true rfl, Nat.le_of_ble_eq_true rfl⟩) hK hw h30 rfl hl.1 rfl (Nat.le_of_ble_eq_true rfl) dX10_whyBarred_42 ⟨Nat.le_of_ble_eq_true rfl, (Nat.le_of_ble_eq_true rfl)⟩ ?_
    refine lv_lmul hx hb dX10_whyBarred_45 ?_
    refine lv_ladd hx hb dX10_whyBarred_46 ?_
    refine lv_lconst (v := 0) hx hb dX10_whyBarred_47 (by decide) ?_
    refine W.lcmp hx hb dX10_whyBarred_48 ?_
    refine kl_ge (tgt := 56) hx hb dX10_whyBarred_49 (by decide) (fun c_2 => ?_) (fun c_2 => ?_)
    · refine lv_iconst (v := 0) hx hb dX10_whyBarred_56 (by decide) ?_
      refine W.eq (congrArg (fun z => F0 m 57 ls [.int z]) (show 0 = (kWb b N f ss set x pu ho) from by rw [kWb, if_pos c_1, if_pos c_2])) ?_
      exact W.iret hx hb hr (fun t ht _ => ⟨rfl, ht⟩) (fun _ h => absurd h List.not_mem_nil) dX10_whyBarred_57
    · refine lv_iconst (v := 2) hx hb dX10_whyBarred_52 (by decide) ?_
      refine lv_goto (tgt := 57) hx hb dX10_whyBarred_53 (by decide) ?_
      refine W.eq (congrArg (fun z => F0 m 57 ls [.int z]) (show 2 = (kWb b N f ss set x pu ho) from by rw [kWb, if_pos c_1, if_neg c_2])) ?_
      exact W.iret hx hb hr (fun t ht _ => ⟨rfl, ht⟩) (fun _ h => absurd h List.not_mem_nil) dX10_whyBarred_57
  · refine lv_iconst (v := 1) hx hb dX10_whyBarred_12 (by decide) ?_
    refine W.eq (congrArg (fun z => F0 m 13 ls [.int z]) (show 1 = (kWb b N f ss set x pu ho) from by rw [kWb, if_neg c_1])) ?_
    exact W.iret hx hb hr (fun t ht _ => ⟨rfl, ht⟩) (fun _ h => absurd h List.not_mem_nil) dX10_whyBarred_13
set_option maxHeartbeats 4000000 in
set_option maxRecDepth 100000 in
theorem c_X10_worthTo (l : Launch) (D : va_G) (tc : Nat → ClassId) (sz : Nat) (ad : Nat → Nat) (ct : Nat → Option va_E) {N nt ci t : Nat} {b cm lf nb de : Int32} {ss g pu : Int64} {f : Nat → Int64}  {we : Nat → Int32}  {set x : Int32} (h0 : ct 0 = some (.inr (10, [.ref (ad 1), .ref (ad 3), .int (nI nt), .ref (ad 4), .ref (ad 9), .ref (ad 11), .ref (ad 12), .ref (ad 13), .int lf]))) (h1 : ct 1 = some (.inr (3, [.ref (ad 2), .int (nI N), .int b, .long ss, .long g, .int cm]))) (h2 : ct 2 = some (eJ tc 8 f)) (h30 : ct (30 + t) = some (.inr (ci, [.int nb, .ref (ad (36 + t)), .ref (ad (42 + t)), .long pu, .int de]))) (h42 : ct (42 + t) = some (eI tc N we)) (hci : ci = 5 ∨ ci = 7 ∨ ci = 9) (hN : N ≤ 8) : Met l yX10_worthTo wsX10_worthTo ({ frames := 5, cells := 0, slots := 0, locals := 131 }) (va_Pc [.ref (ad 0), .ref (ad (30 + t)), .int set, .int x] (kw_B D tc sz ad ct)) (k2_QcV (.long (kWt b N f ss we set x))) 0 0 (fun _ => False) := by
  refine Met.ofW (cc := cX10_worthTo) (maxL := 4) (ret := (some .long)) (by decide) rfl ?_
  intro pg en s m args below meth cod s₁ B hml hv
  obtain ⟨rfl, hsz, hP0, hK⟩ := hv
  have hx := B.exec
  have hb := B.bytes
  have hr := B.returns
  have hts := atoms_spec (ws := wsX10_worthTo) B.pre
  have hown : s.vm.findClass RX10 = some m.cls := findClass_of_methodNamed B.named
  have hlocks := B.notSynchronized
  subst hsz
  have hw := kw_H.start hP0
  generalize kw_A ad ct s.heap.size = A at hw
  have hinX10 : ∀ w ∈ wsX100, w ∈ wsX10_worthTo := by decide +kernel
  have hl := lv_entry ([.ref (ad 0), .ref (ad (30 + t)), .int set, .int x]) (n := 4) (Nat.le_of_ble_eq_true rfl)
  rw [lg_entry_eq]
  generalize (lg_sl ([.ref (ad 0), .ref (ad (30 + t)), .int set, .int x]) ++ List.replicate (4 - (lg_sl ([.ref (ad 0), .ref (ad (30 + t)), .int set, .int x])).length) Slot.unset).toArray = ls at hl ⊢
  have hl : lv_has ls 4 [(0, .ref (ad 0)), (1, .ref (ad (30 + t))), (2, .int set), (3, .int x)] := hl
  have S0 : CallFix pg m cod cX10_worthTo 4 s _ wsX10_worthTo RX10 := ⟨hx, hb, hml, hown, hts⟩
  refine lv_aload_n hx hb dX10_worthTo_0 rfl (lv_at hl 1 rfl) ?_
  refine lv_iload_n hx hb dX10_worthTo_1 rfl (lv_at hl 2 rfl) ?_
  refine kt_v (As := [.int set]) (rest := []) S0 hci (c_X5_weightIn l D tc s.heap.size ad ct h30 h42 hci (by omega)) (cwV 1 hts gX10_worthTo_X5_weightIn rfl rfl rfl (by decide +kernel) ⟨Nat.le_of_ble_eq_true rfl, Nat.le_of_ble_eq_true rfl⟩) (va_cwU 1 hts gX10_worthTo_X5_weightIn_u328X7 rfl rfl rfl rfl (by decide +kernel) ⟨Nat.le_of_ble_eq_true rfl, Nat.le_of_ble_eq_true rfl⟩) (va_cwU 1 hts gX10_worthTo_X5_weightIn_u328X9 rfl rfl rfl rfl (by decide +kernel) ⟨Nat.le_of_ble_eq_true rfl, Nat.le_of_ble_eq_true rfl⟩) hK hw h30 rfl hl.1 rfl (Nat.le_of_ble_eq_true rfl) dX10_worthTo_2 ⟨Nat.le_of_ble_eq_true rfl, (Nat.le_of_ble_eq_true rfl)⟩ ?_
  refine lv_iload_n hx hb dX10_worthTo_5 rfl (lv_at hl 3 rfl) ?_
  refine lv_i2l (v := x.toInt64) hx hb dX10_worthTo_6 rfl ?_
  refine lv_lmul hx hb dX10_worthTo_7 ?_
  refine lv_aload_n hx hb dX10_worthTo_8 rfl (lv_at hl 0 rfl) ?_
  refine kg_get (v := .ref (ad 1)) (C := RX10) (T := TX10) (N := 9) hx hb hts hinX10 hown hK hw h0 rfl 0 (by decide) (hts (.fieldLink RX10 12 "BetMaker" "maker" "LBetMaker$Maker;") (by decide +kernel)) (fun _ h9 => h9) rfl dX10_worthTo_9 ?_
  refine kc_v (As := []) (rest := [.long ((su (kIn set (fun c => (we c).toInt64)) N) * x.toInt64)]) S0 (c_X3_unit l D tc s.heap.size ad ct (N := N) h1) (cwV 0 hts gX10_worthTo_X3_unit rfl rfl rfl (by decide +kernel) ⟨Nat.le_of_ble_eq_true rfl, Nat.le_of_ble_eq_true rfl⟩) hK hw h1 rfl rfl hl.1 rfl (Nat.le_of_ble_eq_true rfl) dX10_worthTo_12 ⟨Nat.le_of_ble_eq_true rfl, (Nat.le_of_ble_eq_true rfl)⟩ ?_
  refine lv_lmul hx hb dX10_worthTo_15 ?_
  refine lv_aload_n hx hb dX10_worthTo_16 rfl (lv_at hl 1 rfl) ?_
  refine kt_v (As := []) (rest := [.long (((su (kIn set (fun c => (we c).toInt64)) N) * x.toInt64) * (kU b N))]) S0 hci (c_X5_weightSum l D tc s.heap.size ad ct h30 h42 hci (by omega)) (cwV 0 hts gX10_worthTo_X5_weightSum rfl rfl rfl (by decide +kernel) ⟨Nat.le_of_ble_eq_true rfl, Nat.le_of_ble_eq_true rfl⟩) (va_cwU 0 hts gX10_worthTo_X5_weightSum_u163X7 rfl rfl rfl rfl (by decide +kernel) ⟨Nat.le_of_ble_eq_true rfl, Nat.le_of_ble_eq_true rfl⟩) (va_cwU 0 hts gX10_worthTo_X5_weightSum_u163X9 rfl rfl rfl rfl (by decide +kernel) ⟨Nat.le_of_ble_eq_true rfl, Nat.le_of_ble_eq_true rfl⟩) hK hw h30 rfl hl.1 rfl (Nat.le_of_ble_eq_true rfl) dX10_worthTo_17 ⟨Nat.le_of_ble_eq_true rfl, (Nat.le_of_ble_eq_true rfl)⟩ ?_
  refine lv_aload_n hx hb dX10_worthTo_20 rfl (lv_at hl 0 rfl) ?_
  refine kg_get (v := .ref (ad 1)) (C := RX10) (T := TX10) (N := 9) hx hb hts hinX10 hown hK hw h0 rfl 0 (by decide) (hts (.fieldLink RX10 12 "BetMaker" "maker" "LBetMaker$Maker;") (by decide +kernel)) (fun _ h9 => h9) rfl dX10_worthTo_21 ?_
  refine lv_iload_n hx hb dX10_worthTo_24 rfl (lv_at hl 2 rfl) ?_
  refine lv_iload_n hx hb dX10_worthTo_25 rfl (lv_at hl 3 rfl) ?_
  refine kc_v (As := [.int set, .int x]) (rest := [.long (su (fun c => (we c).toInt64) N), .long (((su (kIn set (fun c => (we c).toInt64)) N) * x.toInt64) * (kU b N))]) S0 (c_X3_cost l D tc s.heap.size ad ct (N := N) h1 h2 (by omega)) (cwV 2 hts gX10_worthTo_X3_cost rfl rfl rfl (by decide +kernel) ⟨Nat.le_of_ble_eq_true rfl, Nat.le_of_ble_eq_true rfl⟩) hK hw h1 rfl rfl hl.1 rfl (Nat.le_of_ble_eq_true rfl) dX10_worthTo_26 ⟨Nat.le_of_ble_eq_true rfl, (Nat.le_of_ble_eq_true rfl)⟩ ?_
  refine lv_lmul hx hb dX10_worthTo_29 ?_
  refine lv_lsub hx hb dX10_worthTo_30 ?_
  refine W.eq (congrArg (fun z => F0 m 31 ls [.long z]) (show ((((su (kIn set (fun c => (we c).toInt64)) N) * x.toInt64) * (kU b N)) - ((su (fun c => (we c).toInt64) N) * (kCost b N f ss set x))) = (kWt b N f ss we set x) from by rfl)) ?_
  exact W.lret hx hb hr (fun t ht _ => ⟨rfl, ht⟩) (fun _ h => absurd h List.not_mem_nil) dX10_worthTo_31
set_option maxHeartbeats 4000000 in
set_option maxRecDepth 100000 in
theorem c_X10_countHolders (l : Launch) (D : va_G) (tc : Nat → ClassId) (sz : Nat) (ad : Nat → Nat) (ct : Nat → Option va_E) {N nt c : Nat} {lf : Int32}   {qt : Nat → Option Nat}   {ci : Nat → Nat} {nb de : Nat → Int32} {pu : Nat → Int64} {ho : Nat → Nat → Int64} {we : Nat → Nat → Int32} (h0 : ct 0 = some (.inr (10, [.ref (ad 1), .ref (ad 3), .int (nI nt), .ref (ad 4), .ref (ad 9), .ref (ad 11), .ref (ad 12), .ref (ad 13), .int lf]))) (h3 : ct 3 = some (eQ tc 4 6 qt)) (hnt : nt ≤ 6) (hc : c < N) (hN : N ≤ 8) (hfam : ∀ yy, yy < nt → (qt yy = some (ad (30 + yy)) ∧ (ci yy = 5 ∨ ci yy = 7 ∨ ci yy = 9)) ∧ ct (30 + yy) = some (.inr (ci yy, [.int (nb yy), .ref (ad (36 + yy)), .ref (ad (42 + yy)), .long (pu yy), .int (de yy)])) ∧ ct (36 + yy) = some (eJ tc N (ho yy)) ∧ ct (42 + yy) = some (eI tc N (we yy))) : Met l yX10_countHolders wsX10_countHolders ({ frames := 1, cells := 0, slots := 0, locals := 25 }) (va_Pc [.ref (ad 0), .int (nI c)] (kw_B D tc sz ad ct)) (k2_QcV (.int (nI (kcn (fun z => !decide (ho z c ≤ 0)) nt)))) 0 0 (fun _ => False) := by
  refine Met.ofW (cc := cX10_countHolders) (maxL := 5) (ret := (some .int)) (by decide) rfl ?_
  intro pg en s m args below meth cod s₁ B hml hv
  obtain ⟨rfl, hsz, hP0, hK⟩ := hv
  have hx := B.exec
  have hb := B.bytes
  have hr := B.returns
  have hts := atoms_spec (ws := wsX10_countHolders) B.pre
  have hown : s.vm.findClass RX10 = some m.cls := findClass_of_methodNamed B.named
  have hlocks := B.notSynchronized
  subst hsz
  have hw := kw_H.start hP0
  generalize kw_A ad ct s.heap.size = A at hw
  have hinX10 : ∀ w ∈ wsX100, w ∈ wsX10_countHolders := by decide +kernel
  have hl := lv_entry ([.ref (ad 0), .int (nI c)]) (n := 5) (Nat.le_of_ble_eq_true rfl)
  rw [lg_entry_eq]
  generalize (lg_sl ([.ref (ad 0), .int (nI c)]) ++ List.replicate (5 - (lg_sl ([.ref (ad 0), .int (nI c)])).length) Slot.unset).toArray = ls at hl ⊢
  have hl : lv_has ls 5 [(0, .ref (ad 0)), (1, .int (nI c))] := hl
  have S0 : CallFix pg m cod cX10_countHolders 5 s _ wsX10_countHolders RX10 := ⟨hx, hb, hml, hown, hts⟩
  refine lv_iconst (v := 0) hx hb dX10_countHolders_0 (by decide) ?_
  refine lv_istore_n (lv' := [(2, .int 0), (0, .ref (ad 0)), (1, .int (nI c))]) hx hb dX10_countHolders_1 rfl hl (by decide) rfl (fun ls hl => ?_)
  refine lv_iconst (v := 0) hx hb dX10_countHolders_2 (by decide) ?_
  refine lv_istore_n (lv' := [(3, .int 0), (2, .int 0), (0, .ref (ad 0)), (1, .int (nI c))]) hx hb dX10_countHolders_3 rfl hl (by decide) rfl (fun ls hl => ?_)
  suffices lp4 : ∀ (nfu : Nat) (i a1 : Nat) (ls : Array Slot), nt - i < nfu → i ≤ nt → a1 = kcn (fun z => !decide (ho z c ≤ 0)) i → lv_has ls 5 [(0, .ref (ad 0)), (1, .int (nI c)), (2, .int (nI a1)), (3, .int (nI i))] → W pg l en (headSpec wsX10_countHolders ({ frames := 1, cells := 0, slots := 0, locals := 25 })).room s m (([.ref (ad 0), .int (nI c)] : List Value).toArray) below meth cod s.heap [] 0 0 (MQ below (k2_QcV (.int (nI (kcn (fun z => !decide (ho z c ≤ 0)) nt)))) (([.ref (ad 0), .int (nI c)] : List Value).toArray) s 0 0 (fun _ => False)) (F0 m 4 ls []) by
    exact lp4 (nt - 0 + 1) 0 0 ls (by omega) (by omega) (by rfl) (by have hl9 := lv_sub hl (l' := [(0, .ref (ad 0)), (1, .int (nI c)), (2, .int 0), (3, .int 0)]) [2, 3, 1, 0] rfl; exact hl9)
  intro n4
  induction n4 with
  | zero => intro i a1 ls hfu; exact absurd hfu (Nat.not_lt_zero _)
  | succ n4 ih4 =>
    intro i a1 ls hfu4 hi ha hl
    refine lv_iload_n hx hb dX10_countHolders_4 rfl (lv_at hl 3 rfl) ?_
    refine lv_aload_n hx hb dX10_countHolders_5 rfl (lv_at hl 0 rfl) ?_
    refine kg_get (v := .int (nI nt)) (C := RX10) (T := TX10) (N := 9) hx hb hts hinX10 hown hK hw h0 rfl 2 (by decide) (hts (.fieldLink RX10 60 "BetMaker" "traderCount" "I") (by decide +kernel)) (fun _ h9 => h9) rfl dX10_countHolders_6 ?_
    refine kn_ge i nt rfl rfl (by omega) (by omega) (tgt := 44) hx hb dX10_countHolders_9 (by decide) (fun c_1 => ?_) (fun c_1 => ?_)
    · refine lv_iload_n hx hb dX10_countHolders_44 rfl (lv_at hl 2 rfl) ?_
      refine W.eq (congrArg (fun z => F0 m 45 ls [.int z]) (show (nI a1) = (nI (kcn (fun z => !decide (ho z c ≤ 0)) nt)) from by rw [ha, show i = nt by omega])) ?_
      exact W.iret hx hb hr (fun t ht _ => ⟨rfl, ht⟩) (fun _ h => absurd h List.not_mem_nil) dX10_countHolders_45
    · obtain ⟨⟨hqt, hci⟩, hTo, hTh, hTw⟩ := hfam i (by omega)
      refine lv_aload_n hx hb dX10_countHolders_12 rfl (lv_at hl 0 rfl) ?_
      refine lv_iload_n hx hb dX10_countHolders_13 rfl (lv_at hl 3 rfl) ?_
      refine kc_v (As := [.int (nI i)]) (rest := []) S0 (c_X10_findTrader l D tc s.heap.size ad ct (t := i) (nt := nt) h0 h3 (by omega) (by omega) hqt) (cwV 1 hts gX10_countHolders_X10_findTrader rfl rfl rfl (by decide +kernel) ⟨Nat.le_of_ble_eq_true rfl, Nat.le_of_ble_eq_true rfl⟩) hK hw h0 rfl rfl hl.1 rfl (Nat.le_of_ble_eq_true rfl) dX10_countHolders_14 ⟨Nat.le_of_ble_eq_true rfl, (Nat.le_of_ble_eq_true rfl)⟩ ?_
      refine lv_astore (lv' := [(4, .ref (ad (30 + i))), (0, .ref (ad 0)), (1, .int (nI c)), (2, .int (nI a1)), (3, .int (nI i))]) hx hb dX10_countHolders_17 hl (by decide) rfl (fun ls hl => ?_)
      refine lv_aload hx hb dX10_countHolders_19 (lv_at hl 0 rfl) ?_
      refine lv_ifnull hx hb dX10_countHolders_21 ?_
      refine lv_aload hx hb dX10_countHolders_24 (lv_at hl 0 rfl) ?_
      refine lv_iload_n hx hb dX10_countHolders_26 rfl (lv_at hl 2 rfl) ?_
      refine kt_v (As := [.int (nI c)]) (rest := []) S0 hci (c_X5_heldOf l D tc s.heap.size ad ct (c := c) hTo hTh hci hc (by omega)) (cwV 1 hts gX10_countHolders_X5_heldOf rfl rfl rfl (by decide +kernel) ⟨Nat.le_of_ble_eq_true rfl, Nat.le_of_ble_eq_true rfl⟩) (va_cwU 1 hts gX10_countHolders_X5_heldOf_u331X7 rfl rfl rfl rfl (by decide +kernel) ⟨Nat.le_of_ble_eq_true rfl, Nat.le_of_ble_eq_true rfl⟩) (va_cwU 1 hts gX10_countHolders_X5_heldOf_u331X9 rfl rfl rfl rfl (by decide +kernel) ⟨Nat.le_of_ble_eq_true rfl, Nat.le_of_ble_eq_true rfl⟩) hK hw hTo rfl hl.1 rfl (Nat.le_of_ble_eq_true rfl) dX10_countHolders_27 ⟨Nat.le_of_ble_eq_true rfl, (Nat.le_of_ble_eq_true rfl)⟩ ?_
      refine lv_lconst (v := 0) hx hb dX10_countHolders_30 (by decide) ?_
      refine W.lcmp hx hb dX10_countHolders_31 ?_
      refine kl_le (tgt := 38) hx hb dX10_countHolders_32 (by decide) (fun c_2 => ?_) (fun c_2 => ?_)
      · refine lv_iinc (v := (nI (i + 1))) (lv' := [(3, .int (nI (i + 1))), (4, .ref (ad (30 + i))), (0, .ref (ad 0)), (1, .int (nI c)), (2, .int (nI a1))]) hx hb dX10_countHolders_38 hl (k := 4) rfl (nI_1 i) (by decide) rfl (fun ls hl => ?_)
        refine lv_goto (tgt := 4) hx hb dX10_countHolders_41 (by decide) ?_
        exact ih4 (i + 1) a1 ls (by omega) (by omega) (by rw [ha]; exact kcn_f (p := (fun z => !decide (ho z c ≤ 0))) (by simp only [decide_eq_true c_2, Bool.not_true]; decide)) (lv_sub hl [2, 3, 4, 0] rfl)
      · refine lv_iinc (v := (nI (a1 + 1))) (lv' := [(2, .int (nI (a1 + 1))), (4, .ref (ad (30 + i))), (0, .ref (ad 0)), (1, .int (nI c)), (3, .int (nI i))]) hx hb dX10_countHolders_35 hl (k := 3) rfl (nI_1 a1) (by decide) rfl (fun ls hl => ?_)
        refine lv_iinc (v := (nI (i + 1))) (lv' := [(3, .int (nI (i + 1))), (2, .int (nI (a1 + 1))), (4, .ref (ad (30 + i))), (0, .ref (ad 0)), (1, .int (nI c))]) hx hb dX10_countHolders_38 hl (k := 4) rfl (nI_1 i) (by decide) rfl (fun ls hl => ?_)
        refine lv_goto (tgt := 4) hx hb dX10_countHolders_41 (by decide) ?_
        exact ih4 (i + 1) (a1 + 1) ls (by omega) (by omega) (by rw [ha]; exact kcn_t (p := (fun z => !decide (ho z c ≤ 0))) (by simp only [decide_eq_false c_2, Bool.not_false])) (lv_sub hl [3, 4, 1, 0] rfl)
set_option maxHeartbeats 4000000 in
set_option maxRecDepth 100000 in
theorem c_X10_countDeals (l : Launch) (D : va_G) (tc : Nat → ClassId) (sz : Nat) (ad : Nat → Nat) (ct : Nat → Option va_E) {N nt : Nat} {lf : Int32}   {qt : Nat → Option Nat}   {ci : Nat → Nat} {nb de : Nat → Int32} {pu : Nat → Int64} {ho : Nat → Nat → Int64} {we : Nat → Nat → Int32} (h0 : ct 0 = some (.inr (10, [.ref (ad 1), .ref (ad 3), .int (nI nt), .ref (ad 4), .ref (ad 9), .ref (ad 11), .ref (ad 12), .ref (ad 13), .int lf]))) (h3 : ct 3 = some (eQ tc 4 6 qt)) (hnt : nt ≤ 6) (hfam : ∀ yy, yy < nt → (qt yy = some (ad (30 + yy)) ∧ (ci yy = 5 ∨ ci yy = 7 ∨ ci yy = 9)) ∧ ct (30 + yy) = some (.inr (ci yy, [.int (nb yy), .ref (ad (36 + yy)), .ref (ad (42 + yy)), .long (pu yy), .int (de yy)])) ∧ ct (36 + yy) = some (eJ tc N (ho yy)) ∧ ct (42 + yy) = some (eI tc N (we yy))) : Met l yX10_countDeals wsX10_countDeals ({ frames := 1, cells := 0, slots := 0, locals := 25 }) (va_Pc [.ref (ad 0)] (kw_B D tc sz ad ct)) (k2_QcV (.int (sw de nt))) 0 0 (fun _ => False) := by
  refine Met.ofW (cc := cX10_countDeals) (maxL := 4) (ret := (some .int)) (by decide) rfl ?_
  intro pg en s m args below meth cod s₁ B hml hv
  obtain ⟨rfl, hsz, hP0, hK⟩ := hv
  have hx := B.exec
  have hb := B.bytes
  have hr := B.returns
  have hts := atoms_spec (ws := wsX10_countDeals) B.pre
  have hown : s.vm.findClass RX10 = some m.cls := findClass_of_methodNamed B.named
  have hlocks := B.notSynchronized
  subst hsz
  have hw := kw_H.start hP0
  generalize kw_A ad ct s.heap.size = A at hw
  have hinX10 : ∀ w ∈ wsX100, w ∈ wsX10_countDeals := by decide +kernel
  have hl := lv_entry ([.ref (ad 0)]) (n := 4) (Nat.le_of_ble_eq_true rfl)
  rw [lg_entry_eq]
  generalize (lg_sl ([.ref (ad 0)]) ++ List.replicate (4 - (lg_sl ([.ref (ad 0)])).length) Slot.unset).toArray = ls at hl ⊢
  have hl : lv_has ls 4 [(0, .ref (ad 0))] := hl
  have S0 : CallFix pg m cod cX10_countDeals 4 s _ wsX10_countDeals RX10 := ⟨hx, hb, hml, hown, hts⟩
  refine lv_iconst (v := 0) hx hb dX10_countDeals_0 (by decide) ?_
  refine lv_istore_n (lv' := [(1, .int 0), (0, .ref (ad 0))]) hx hb dX10_countDeals_1 rfl hl (by decide) rfl (fun ls hl => ?_)
  refine lv_iconst (v := 0) hx hb dX10_countDeals_2 (by decide) ?_
  refine lv_istore_n (lv' := [(2, .int 0), (1, .int 0), (0, .ref (ad 0))]) hx hb dX10_countDeals_3 rfl hl (by decide) rfl (fun ls hl => ?_)
  suffices lp4 : ∀ (nfu : Nat) (i : Nat) (acc : Int32) (ls : Array Slot), nt - i < nfu → i ≤ nt → acc = sw de i → lv_has ls 4 [(0, .ref (ad 0)), (1, .int acc), (2, .int (nI i))] → W pg l en (headSpec wsX10_countDeals ({ frames := 1, cells := 0, slots := 0, locals := 25 })).room s m (([.ref (ad 0)] : List Value).toArray) below meth cod s.heap [] 0 0 (MQ below (k2_QcV (.int (sw de nt))) (([.ref (ad 0)] : List Value).toArray) s 0 0 (fun _ => False)) (F0 m 4 ls []) by
    exact lp4 (nt - 0 + 1) 0 0 ls (by omega) (by omega) (by rfl) (by have hl9 := lv_sub hl (l' := [(0, .ref (ad 0)), (1, .int 0), (2, .int 0)]) [2, 1, 0] rfl; exact hl9)
  intro n4
  induction n4 with
  | zero => intro i acc ls hfu; exact absurd hfu (Nat.not_lt_zero _)
  | succ n4 ih4 =>
    intro i acc ls hfu4 hi ha hl
    refine lv_iload_n hx hb dX10_countDeals_4 rfl (lv_at hl 2 rfl) ?_
    refine lv_aload_n hx hb dX10_countDeals_5 rfl (lv_at hl 0 rfl) ?_
    refine kg_get (v := .int (nI nt)) (C := RX10) (T := TX10) (N := 9) hx hb hts hinX10 hown hK hw h0 rfl 2 (by decide) (hts (.fieldLink RX10 60 "BetMaker" "traderCount" "I") (by decide +kernel)) (fun _ h9 => h9) rfl dX10_countDeals_6 ?_
    refine kn_ge i nt rfl rfl (by omega) (by omega) (tgt := 35) hx hb dX10_countDeals_9 (by decide) (fun c_1 => ?_) (fun c_1 => ?_)
    · refine lv_iload_n hx hb dX10_countDeals_35 rfl (lv_at hl 1 rfl) ?_
      refine W.eq (congrArg (fun z => F0 m 36 ls [.int z]) (show acc = (sw de nt) from by rw [ha, show i = nt by omega])) ?_
      exact W.iret hx hb hr (fun t ht _ => ⟨rfl, ht⟩) (fun _ h => absurd h List.not_mem_nil) dX10_countDeals_36
    · obtain ⟨⟨hqt, hci⟩, hTo, hTh, hTw⟩ := hfam i (by omega)
      refine lv_aload_n hx hb dX10_countDeals_12 rfl (lv_at hl 0 rfl) ?_
      refine lv_iload_n hx hb dX10_countDeals_13 rfl (lv_at hl 2 rfl) ?_
      refine kc_v (As := [.int (nI i)]) (rest := []) S0 (c_X10_findTrader l D tc s.heap.size ad ct (t := i) (nt := nt) h0 h3 (by omega) (by omega) hqt) (cwV 1 hts gX10_countDeals_X10_findTrader rfl rfl rfl (by decide +kernel) ⟨Nat.le_of_ble_eq_true rfl, Nat.le_of_ble_eq_true rfl⟩) hK hw h0 rfl rfl hl.1 rfl (Nat.le_of_ble_eq_true rfl) dX10_countDeals_14 ⟨Nat.le_of_ble_eq_true rfl, (Nat.le_of_ble_eq_true rfl)⟩ ?_
      refine lv_astore_n (lv' := [(3, .ref (ad (30 + i))), (0, .ref (ad 0)), (1, .int acc), (2, .int (nI i))]) hx hb dX10_countDeals_17 rfl hl (by decide) rfl (fun ls hl => ?_)
      refine lv_aload_n hx hb dX10_countDeals_18 rfl (lv_at hl 0 rfl) ?_
      refine lv_ifnull hx hb dX10_countDeals_19 ?_
      refine lv_iload_n hx hb dX10_countDeals_22 rfl (lv_at hl 2 rfl) ?_
      refine lv_aload_n hx hb dX10_countDeals_23 rfl (lv_at hl 0 rfl) ?_
      refine kt_v (As := []) (rest := [.int acc]) S0 hci (c_X5_deals l D tc s.heap.size ad ct hTo hci) (cwV 0 hts gX10_countDeals_X5_deals rfl rfl rfl (by decide +kernel) ⟨Nat.le_of_ble_eq_true rfl, Nat.le_of_ble_eq_true rfl⟩) (va_cwU 0 hts gX10_countDeals_X5_deals_u114X7 rfl rfl rfl rfl (by decide +kernel) ⟨Nat.le_of_ble_eq_true rfl, Nat.le_of_ble_eq_true rfl⟩) (va_cwU 0 hts gX10_countDeals_X5_deals_u114X9 rfl rfl rfl rfl (by decide +kernel) ⟨Nat.le_of_ble_eq_true rfl, Nat.le_of_ble_eq_true rfl⟩) hK hw hTo rfl hl.1 rfl (Nat.le_of_ble_eq_true rfl) dX10_countDeals_24 ⟨Nat.le_of_ble_eq_true rfl, (Nat.le_of_ble_eq_true rfl)⟩ ?_
      refine lv_iadd hx hb dX10_countDeals_27 ?_
      refine lv_istore_n (lv' := [(1, .int (acc + (de i))), (3, .ref (ad (30 + i))), (0, .ref (ad 0)), (2, .int (nI i))]) hx hb dX10_countDeals_28 rfl hl (by decide) rfl (fun ls hl => ?_)
      refine lv_iinc (v := (nI (i + 1))) (lv' := [(2, .int (nI (i + 1))), (1, .int (acc + (de i))), (3, .ref (ad (30 + i))), (0, .ref (ad 0))]) hx hb dX10_countDeals_29 hl (k := 3) rfl (nI_1 i) (by decide) rfl (fun ls hl => ?_)
      refine lv_goto (tgt := 4) hx hb dX10_countDeals_32 (by decide) ?_
      exact ih4 (i + 1) (acc + (de i)) ls (by omega) (by omega) (by rw [ha]; rfl) (lv_sub hl [3, 1, 0] rfl)
