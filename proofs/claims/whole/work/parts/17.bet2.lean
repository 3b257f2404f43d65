set_option maxHeartbeats 4000000 in
set_option maxRecDepth 100000 in
theorem c_X10_isOfKind_50 (l : Launch) (D : va_G) (tc : Nat → ClassId) (sz : Nat) (ad : Nat → Nat) (ct : Nat → Option va_E) {t : Nat} {nb de : Int32} {pu : Int64}      (h30 : ct (30 + t) = some (.inr (5, [.int nb, .ref (ad (36 + t)), .ref (ad (42 + t)), .long pu, .int de]))) : Met l yX10_isOfKind wsX10_isOfKind ({ frames := 0, cells := 0, slots := 0, locals := 0 }) (va_Pc [.ref (ad (30 + t)), .int 0] (kw_B D tc sz ad ct)) (k2_QcV (.int 1)) 0 0 (fun _ => False) := by
  refine Met.ofW (cc := cX10_isOfKind) (maxL := 2) (ret := (some .boolean)) (by decide) rfl ?_
  intro pg en s m args below meth cod s₁ B hml hv
  obtain ⟨rfl, hsz, hP0, hK⟩ := hv
  have hx := B.exec
  have hb := B.bytes
  have hr := B.returns
  have hts := atoms_spec (ws := wsX10_isOfKind) B.pre
  have hown : s.vm.findClass RX10 = some m.cls := findClass_of_methodNamed B.named
  have hlocks := B.notSynchronized
  subst hsz
  have hw := kw_H.start hP0
  generalize kw_A ad ct s.heap.size = A at hw
  have hl := lv_entry ([.ref (ad (30 + t)), .int 0]) (n := 2) (Nat.le_of_ble_eq_true rfl)
  rw [lg_entry_eq]
  generalize (lg_sl ([.ref (ad (30 + t)), .int 0]) ++ List.replicate (2 - (lg_sl ([.ref (ad (30 + t)), .int 0])).length) Slot.unset).toArray = ls at hl ⊢
  have hl : lv_has ls 2 [(0, .ref (ad (30 + t))), (1, .int 0)] := hl
  have S0 : CallFix pg m cod cX10_isOfKind 2 s _ wsX10_isOfKind RX10 := ⟨hx, hb, hml, hown, hts⟩
  refine lv_iload_n hx hb dX10_isOfKind_0 rfl (lv_at hl 1 rfl) ?_
  refine lv_lookup (off := 37) (tgt := 38) hx hb dX10_isOfKind_1 (by decide) (by decide) (by decide) ?_
  refine lv_iconst (v := 1) hx hb dX10_isOfKind_38 (by decide) ?_
  exact W.zret hx hb hr rfl (fun t ht _ => ⟨rfl, ht⟩) (fun _ h => absurd h List.not_mem_nil) dX10_isOfKind_39
set_option maxHeartbeats 4000000 in
set_option maxRecDepth 100000 in
theorem c_X10_isOfKind_51 (l : Launch) (D : va_G) (tc : Nat → ClassId) (sz : Nat) (ad : Nat → Nat) (ct : Nat → Option va_E) {t : Nat} {nb de : Int32} {pu : Int64}      (h30 : ct (30 + t) = some (.inr (5, [.int nb, .ref (ad (36 + t)), .ref (ad (42 + t)), .long pu, .int de]))) : Met l yX10_isOfKind wsX10_isOfKind ({ frames := 0, cells := 0, slots := 0, locals := 0 }) (va_Pc [.ref (ad (30 + t)), .int 1] (kw_B D tc sz ad ct)) (k2_QcV (.int 0)) 0 0 (fun _ => False) := by
  refine Met.ofW (cc := cX10_isOfKind) (maxL := 2) (ret := (some .boolean)) (by decide) rfl ?_
  intro pg en s m args below meth cod s₁ B hml hv
  obtain ⟨rfl, hsz, hP0, hK⟩ := hv
  have hx := B.exec
  have hb := B.bytes
  have hr := B.returns
  have hts := atoms_spec (ws := wsX10_isOfKind) B.pre
  have hown : s.vm.findClass RX10 = some m.cls := findClass_of_methodNamed B.named
  have hlocks := B.notSynchronized
  subst hsz
  have hw := kw_H.start hP0
  generalize kw_A ad ct s.heap.size = A at hw
  have hl := lv_entry ([.ref (ad (30 + t)), .int 1]) (n := 2) (Nat.le_of_ble_eq_true rfl)
  rw [lg_entry_eq]
  generalize (lg_sl ([.ref (ad (30 + t)), .int 1]) ++ List.replicate (2 - (lg_sl ([.ref (ad (30 + t)), .int 1])).length) Slot.unset).toArray = ls at hl ⊢
  have hl : lv_has ls 2 [(0, .ref (ad (30 + t))), (1, .int 1)] := hl
  have S0 : CallFix pg m cod cX10_isOfKind 2 s _ wsX10_isOfKind RX10 := ⟨hx, hb, hml, hown, hts⟩
  refine lv_iload_n hx hb dX10_isOfKind_0 rfl (lv_at hl 1 rfl) ?_
  refine lv_lookup (off := 32) (tgt := 33) hx hb dX10_isOfKind_1 (by decide) (by decide) (by decide) ?_
  refine lv_aload_n hx hb dX10_isOfKind_33 rfl (lv_at hl 0 rfl) ?_
  refine va_instNo hx hb hown (hts (.classLink RX10 321 RX9) (by decide +kernel)) hK.2.2.2.2.2.2.1.1 (kc_recv (q := (RX5, TX5, 5)) hK hw h30 rfl) dX10_isOfKind_34 ?_
  exact W.zret hx hb hr rfl (fun t ht _ => ⟨rfl, ht⟩) (fun _ h => absurd h List.not_mem_nil) dX10_isOfKind_37
set_option maxHeartbeats 4000000 in
set_option maxRecDepth 100000 in
theorem c_X10_isOfKind_52 (l : Launch) (D : va_G) (tc : Nat → ClassId) (sz : Nat) (ad : Nat → Nat) (ct : Nat → Option va_E) {t : Nat} {nb de : Int32} {pu : Int64}      (h30 : ct (30 + t) = some (.inr (5, [.int nb, .ref (ad (36 + t)), .ref (ad (42 + t)), .long pu, .int de]))) : Met l yX10_isOfKind wsX10_isOfKind ({ frames := 0, cells := 0, slots := 0, locals := 0 }) (va_Pc [.ref (ad (30 + t)), .int 2] (kw_B D tc sz ad ct)) (k2_QcV (.int 0)) 0 0 (fun _ => False) := by
  refine Met.ofW (cc := cX10_isOfKind) (maxL := 2) (ret := (some .boolean)) (by decide) rfl ?_
  intro pg en s m args below meth cod s₁ B hml hv
  obtain ⟨rfl, hsz, hP0, hK⟩ := hv
  have hx := B.exec
  have hb := B.bytes
  have hr := B.returns
  have hts := atoms_spec (ws := wsX10_isOfKind) B.pre
  have hown : s.vm.findClass RX10 = some m.cls := findClass_of_methodNamed B.named
  have hlocks := B.notSynchronized
  subst hsz
  have hw := kw_H.start hP0
  generalize kw_A ad ct s.heap.size = A at hw
  have hl := lv_entry ([.ref (ad (30 + t)), .int 2]) (n := 2) (Nat.le_of_ble_eq_true rfl)
  rw [lg_entry_eq]
  generalize (lg_sl ([.ref (ad (30 + t)), .int 2]) ++ List.replicate (2 - (lg_sl ([.ref (ad (30 + t)), .int 2])).length) Slot.unset).toArray = ls at hl ⊢
  have hl : lv_has ls 2 [(0, .ref (ad (30 + t))), (1, .int 2)] := hl
  have S0 : CallFix pg m cod cX10_isOfKind 2 s _ wsX10_isOfKind RX10 := ⟨hx, hb, hml, hown, hts⟩
  refine lv_iload_n hx hb dX10_isOfKind_0 rfl (lv_at hl 1 rfl) ?_
  refine lv_lookup (off := 27) (tgt := 28) hx hb dX10_isOfKind_1 (by decide) (by decide) (by decide) ?_
  refine lv_aload_n hx hb dX10_isOfKind_28 rfl (lv_at hl 0 rfl) ?_
  refine va_instNo hx hb hown (hts (.classLink RX10 316 RX7) (by decide +kernel)) hK.2.2.2.2.2.2.1.2.1 (kc_recv (q := (RX5, TX5, 5)) hK hw h30 rfl) dX10_isOfKind_29 ?_
  exact W.zret hx hb hr rfl (fun t ht _ => ⟨rfl, ht⟩) (fun _ h => absurd h List.not_mem_nil) dX10_isOfKind_32
set_option maxHeartbeats 4000000 in
set_option maxRecDepth 100000 in
theorem c_X10_isOfKind_70 (l : Launch) (D : va_G) (tc : Nat → ClassId) (sz : Nat) (ad : Nat → Nat) (ct : Nat → Option va_E) {t : Nat} {nb de : Int32} {pu : Int64}      (h30 : ct (30 + t) = some (.inr (7, [.int nb, .ref (ad (36 + t)), .ref (ad (42 + t)), .long pu, .int de]))) : Met l yX10_isOfKind wsX10_isOfKind ({ frames := 0, cells := 0, slots := 0, locals := 0 }) (va_Pc [.ref (ad (30 + t)), .int 0] (kw_B D tc sz ad ct)) (k2_QcV (.int 1)) 0 0 (fun _ => False) := by
  refine Met.ofW (cc := cX10_isOfKind) (maxL := 2) (ret := (some .boolean)) (by decide) rfl ?_
  intro pg en s m args below meth cod s₁ B hml hv
  obtain ⟨rfl, hsz, hP0, hK⟩ := hv
  have hx := B.exec
  have hb := B.bytes
  have hr := B.returns
  have hts := atoms_spec (ws := wsX10_isOfKind) B.pre
  have hown : s.vm.findClass RX10 = some m.cls := findClass_of_methodNamed B.named
  have hlocks := B.notSynchronized
  subst hsz
  have hw := kw_H.start hP0
  generalize kw_A ad ct s.heap.size = A at hw
  have hl := lv_entry ([.ref (ad (30 + t)), .int 0]) (n := 2) (Nat.le_of_ble_eq_true rfl)
  rw [lg_entry_eq]
  generalize (lg_sl ([.ref (ad (30 + t)), .int 0]) ++ List.replicate (2 - (lg_sl ([.ref (ad (30 + t)), .int 0])).length) Slot.unset).toArray = ls at hl ⊢
  have hl : lv_has ls 2 [(0, .ref (ad (30 + t))), (1, .int 0)] := hl
  have S0 : CallFix pg m cod cX10_isOfKind 2 s _ wsX10_isOfKind RX10 := ⟨hx, hb, hml, hown, hts⟩
  refine lv_iload_n hx hb dX10_isOfKind_0 rfl (lv_at hl 1 rfl) ?_
  refine lv_lookup (off := 37) (tgt := 38) hx hb dX10_isOfKind_1 (by decide) (by decide) (by decide) ?_
  refine lv_iconst (v := 1) hx hb dX10_isOfKind_38 (by decide) ?_
  exact W.zret hx hb hr rfl (fun t ht _ => ⟨rfl, ht⟩) (fun _ h => absurd h List.not_mem_nil) dX10_isOfKind_39
set_option maxHeartbeats 4000000 in
set_option maxRecDepth 100000 in
theorem c_X10_isOfKind_71 (l : Launch) (D : va_G) (tc : Nat → ClassId) (sz : Nat) (ad : Nat → Nat) (ct : Nat → Option va_E) {t : Nat} {nb de : Int32} {pu : Int64}      (h30 : ct (30 + t) = some (.inr (7, [.int nb, .ref (ad (36 + t)), .ref (ad (42 + t)), .long pu, .int de]))) : Met l yX10_isOfKind wsX10_isOfKind ({ frames := 0, cells := 0, slots := 0, locals := 0 }) (va_Pc [.ref (ad (30 + t)), .int 1] (kw_B D tc sz ad ct)) (k2_QcV (.int 1)) 0 0 (fun _ => False) := by
  refine Met.ofW (cc := cX10_isOfKind) (maxL := 2) (ret := (some .boolean)) (by decide) rfl ?_
  intro pg en s m args below meth cod s₁ B hml hv
  obtain ⟨rfl, hsz, hP0, hK⟩ := hv
  have hx := B.exec
  have hb := B.bytes
  have hr := B.returns
  have hts := atoms_spec (ws := wsX10_isOfKind) B.pre
  have hown : s.vm.findClass RX10 = some m.cls := findClass_of_methodNamed B.named
  have hlocks := B.notSynchronized
  subst hsz
  have hw := kw_H.start hP0
  generalize kw_A ad ct s.heap.size = A at hw
  have hl := lv_entry ([.ref (ad (30 + t)), .int 1]) (n := 2) (Nat.le_of_ble_eq_true rfl)
  rw [lg_entry_eq]
  generalize (lg_sl ([.ref (ad (30 + t)), .int 1]) ++ List.replicate (2 - (lg_sl ([.ref (ad (30 + t)), .int 1])).length) Slot.unset).toArray = ls at hl ⊢
  have hl : lv_has ls 2 [(0, .ref (ad (30 + t))), (1, .int 1)] := hl
  have S0 : CallFix pg m cod cX10_isOfKind 2 s _ wsX10_isOfKind RX10 := ⟨hx, hb, hml, hown, hts⟩
  refine lv_iload_n hx hb dX10_isOfKind_0 rfl (lv_at hl 1 rfl) ?_
  refine lv_lookup (off := 32) (tgt := 33) hx hb dX10_isOfKind_1 (by decide) (by decide) (by decide) ?_
  refine lv_aload_n hx hb dX10_isOfKind_33 rfl (lv_at hl 0 rfl) ?_
  refine va_instY hx hb hown (hts (.classLink RX10 321 RX9) (by decide +kernel)) hK.2.2.2.2.2.1.2.2 (kc_recv (q := (RX7, TX7, 5)) hK hw h30 rfl) dX10_isOfKind_34 ?_
  exact W.zret hx hb hr rfl (fun t ht _ => ⟨rfl, ht⟩) (fun _ h => absurd h List.not_mem_nil) dX10_isOfKind_37
set_option maxHeartbeats 4000000 in
set_option maxRecDepth 100000 in
theorem c_X10_isOfKind_72 (l : Launch) (D : va_G) (tc : Nat → ClassId) (sz : Nat) (ad : Nat → Nat) (ct : Nat → Option va_E) {t : Nat} {nb de : Int32} {pu : Int64}      (h30 : ct (30 + t) = some (.inr (7, [.int nb, .ref (ad (36 + t)), .ref (ad (42 + t)), .long pu, .int de]))) : Met l yX10_isOfKind wsX10_isOfKind ({ frames := 0, cells := 0, slots := 0, locals := 0 }) (va_Pc [.ref (ad (30 + t)), .int 2] (kw_B D tc sz ad ct)) (k2_QcV (.int 1)) 0 0 (fun _ => False) := by
  refine Met.ofW (cc := cX10_isOfKind) (maxL := 2) (ret := (some .boolean)) (by decide) rfl ?_
  intro pg en s m args below meth cod s₁ B hml hv
  obtain ⟨rfl, hsz, hP0, hK⟩ := hv
  have hx := B.exec
  have hb := B.bytes
  have hr := B.returns
  have hts := atoms_spec (ws := wsX10_isOfKind) B.pre
  have hown : s.vm.findClass RX10 = some m.cls := findClass_of_methodNamed B.named
  have hlocks := B.notSynchronized
  subst hsz
  have hw := kw_H.start hP0
  generalize kw_A ad ct s.heap.size = A at hw
  have hl := lv_entry ([.ref (ad (30 + t)), .int 2]) (n := 2) (Nat.le_of_ble_eq_true rfl)
  rw [lg_entry_eq]
  generalize (lg_sl ([.ref (ad (30 + t)), .int 2]) ++ List.replicate (2 - (lg_sl ([.ref (ad (30 + t)), .int 2])).length) Slot.unset).toArray = ls at hl ⊢
  have hl : lv_has ls 2 [(0, .ref (ad (30 + t))), (1, .int 2)] := hl
  have S0 : CallFix pg m cod cX10_isOfKind 2 s _ wsX10_isOfKind RX10 := ⟨hx, hb, hml, hown, hts⟩
  refine lv_iload_n hx hb dX10_isOfKind_0 rfl (lv_at hl 1 rfl) ?_
  refine lv_lookup (off := 27) (tgt := 28) hx hb dX10_isOfKind_1 (by decide) (by decide) (by decide) ?_
  refine lv_aload_n hx hb dX10_isOfKind_28 rfl (lv_at hl 0 rfl) ?_
  refine va_instS hx hb hown (hts (.classLink RX10 316 RX7) (by decide +kernel)) (hK.1.1 7 _ rfl).2 (kc_recv (q := (RX7, TX7, 5)) hK hw h30 rfl) dX10_isOfKind_29 ?_
  exact W.zret hx hb hr rfl (fun t ht _ => ⟨rfl, ht⟩) (fun _ h => absurd h List.not_mem_nil) dX10_isOfKind_32
set_option maxHeartbeats 4000000 in
set_option maxRecDepth 100000 in
theorem c_X10_isOfKind_90 (l : Launch) (D : va_G) (tc : Nat → ClassId) (sz : Nat) (ad : Nat → Nat) (ct : Nat → Option va_E) {t : Nat} {nb de : Int32} {pu : Int64}      (h30 : ct (30 + t) = some (.inr (9, [.int nb, .ref (ad (36 + t)), .ref (ad (42 + t)), .long pu, .int de]))) : Met l yX10_isOfKind wsX10_isOfKind ({ frames := 0, cells := 0, slots := 0, locals := 0 }) (va_Pc [.ref (ad (30 + t)), .int 0] (kw_B D tc sz ad ct)) (k2_QcV (.int 1)) 0 0 (fun _ => False) := by
  refine Met.ofW (cc := cX10_isOfKind) (maxL := 2) (ret := (some .boolean)) (by decide) rfl ?_
  intro pg en s m args below meth cod s₁ B hml hv
  obtain ⟨rfl, hsz, hP0, hK⟩ := hv
  have hx := B.exec
  have hb := B.bytes
  have hr := B.returns
  have hts := atoms_spec (ws := wsX10_isOfKind) B.pre
  have hown : s.vm.findClass RX10 = some m.cls := findClass_of_methodNamed B.named
  have hlocks := B.notSynchronized
  subst hsz
  have hw := kw_H.start hP0
  generalize kw_A ad ct s.heap.size = A at hw
  have hl := lv_entry ([.ref (ad (30 + t)), .int 0]) (n := 2) (Nat.le_of_ble_eq_true rfl)
  rw [lg_entry_eq]
  generalize (lg_sl ([.ref (ad (30 + t)), .int 0]) ++ List.replicate (2 - (lg_sl ([.ref (ad (30 + t)), .int 0])).length) Slot.unset).toArray = ls at hl ⊢
  have hl : lv_has ls 2 [(0, .ref (ad (30 + t))), (1, .int 0)] := hl
  have S0 : CallFix pg m cod cX10_isOfKind 2 s _ wsX10_isOfKind RX10 := ⟨hx, hb, hml, hown, hts⟩
  refine lv_iload_n hx hb dX10_isOfKind_0 rfl (lv_at hl 1 rfl) ?_
  refine lv_lookup (off := 37) (tgt := 38) hx hb dX10_isOfKind_1 (by decide) (by decide) (by decide) ?_
  refine lv_iconst (v := 1) hx hb dX10_isOfKind_38 (by decide) ?_
  exact W.zret hx hb hr rfl (fun t ht _ => ⟨rfl, ht⟩) (fun _ h => absurd h List.not_mem_nil) dX10_isOfKind_39
set_option maxHeartbeats 4000000 in
set_option maxRecDepth 100000 in
theorem c_X10_isOfKind_91 (l : Launch) (D : va_G) (tc : Nat → ClassId) (sz : Nat) (ad : Nat → Nat) (ct : Nat → Option va_E) {t : Nat} {nb de : Int32} {pu : Int64}      (h30 : ct (30 + t) = some (.inr (9, [.int nb, .ref (ad (36 + t)), .ref (ad (42 + t)), .long pu, .int de]))) : Met l yX10_isOfKind wsX10_isOfKind ({ frames := 0, cells := 0, slots := 0, locals := 0 }) (va_Pc [.ref (ad (30 + t)), .int 1] (kw_B D tc sz ad ct)) (k2_QcV (.int 1)) 0 0 (fun _ => False) := by
  refine Met.ofW (cc := cX10_isOfKind) (maxL := 2) (ret := (some .boolean)) (by decide) rfl ?_
  intro pg en s m args below meth cod s₁ B hml hv
  obtain ⟨rfl, hsz, hP0, hK⟩ := hv
  have hx := B.exec
  have hb := B.bytes
  have hr := B.returns
  have hts := atoms_spec (ws := wsX10_isOfKind) B.pre
  have hown : s.vm.findClass RX10 = some m.cls := findClass_of_methodNamed B.named
  have hlocks := B.notSynchronized
  subst hsz
  have hw := kw_H.start hP0
  generalize kw_A ad ct s.heap.size = A at hw
  have hl := lv_entry ([.ref (ad (30 + t)), .int 1]) (n := 2) (Nat.le_of_ble_eq_true rfl)
  rw [lg_entry_eq]
  generalize (lg_sl ([.ref (ad (30 + t)), .int 1]) ++ List.replicate (2 - (lg_sl ([.ref (ad (30 + t)), .int 1])).length) Slot.unset).toArray = ls at hl ⊢
  have hl : lv_has ls 2 [(0, .ref (ad (30 + t))), (1, .int 1)] := hl
  have S0 : CallFix pg m cod cX10_isOfKind 2 s _ wsX10_isOfKind RX10 := ⟨hx, hb, hml, hown, hts⟩
  refine lv_iload_n hx hb dX10_isOfKind_0 rfl (lv_at hl 1 rfl) ?_
  refine lv_lookup (off := 32) (tgt := 33) hx hb dX10_isOfKind_1 (by decide) (by decide) (by decide) ?_
  refine lv_aload_n hx hb dX10_isOfKind_33 rfl (lv_at hl 0 rfl) ?_
  refine va_instS hx hb hown (hts (.classLink RX10 321 RX9) (by decide +kernel)) (hK.1.1 9 _ rfl).2 (kc_recv (q := (RX9, TX9, 5)) hK hw h30 rfl) dX10_isOfKind_34 ?_
  exact W.zret hx hb hr rfl (fun t ht _ => ⟨rfl, ht⟩) (fun _ h => absurd h List.not_mem_nil) dX10_isOfKind_37
set_option maxHeartbeats 4000000 in
set_option maxRecDepth 100000 in
theorem c_X10_isOfKind_92 (l : Launch) (D : va_G) (tc : Nat → ClassId) (sz : Nat) (ad : Nat → Nat) (ct : Nat → Option va_E) {t : Nat} {nb de : Int32} {pu : Int64}      (h30 : ct (30 + t) = some (.inr (9, [.int nb, .ref (ad (36 + t)), .ref (ad (42 + t)), .long pu, .int de]))) : Met l yX10_isOfKind wsX10_isOfKind ({ frames := 0, cells := 0, slots := 0, locals := 0 }) (va_Pc [.ref (ad (30 + t)), .int 2] (kw_B D tc sz ad ct)) (k2_QcV (.int 0)) 0 0 (fun _ => False) := by
  refine Met.ofW (cc := cX10_isOfKind) (maxL := 2) (ret := (some .boolean)) (by decide) rfl ?_
  intro pg en s m args below meth cod s₁ B hml hv
  obtain ⟨rfl, hsz, hP0, hK⟩ := hv
  have hx := B.exec
  have hb := B.bytes
  have hr := B.returns
  have hts := atoms_spec (ws := wsX10_isOfKind) B.pre
  have hown : s.vm.findClass RX10 = some m.cls := findClass_of_methodNamed B.named
  have hlocks := B.notSynchronized
  subst hsz
  have hw := kw_H.start hP0
  generalize kw_A ad ct s.heap.size = A at hw
  have hl := lv_entry ([.ref (ad (30 + t)), .int 2]) (n := 2) (Nat.le_of_ble_eq_true rfl)
  rw [lg_entry_eq]
  generalize (lg_sl ([.ref (ad (30 + t)), .int 2]) ++ List.replicate (2 - (lg_sl ([.ref (ad (30 + t)), .int 2])).length) Slot.unset).toArray = ls at hl ⊢
  have hl : lv_has ls 2 [(0, .ref (ad (30 + t))), (1, .int 2)] := hl
  have S0 : CallFix pg m cod cX10_isOfKind 2 s _ wsX10_isOfKind RX10 := ⟨hx, hb, hml, hown, hts⟩
  refine lv_iload_n hx hb dX10_isOfKind_0 rfl (lv_at hl 1 rfl) ?_
  refine lv_lookup (off := 27) (tgt := 28) hx hb dX10_isOfKind_1 (by decide) (by decide) (by decide) ?_
  refine lv_aload_n hx hb dX10_isOfKind_28 rfl (lv_at hl 0 rfl) ?_
  refine va_instNo hx hb hown (hts (.classLink RX10 316 RX7) (by decide +kernel)) hK.2.2.2.2.2.2.1.2.2 (kc_recv (q := (RX9, TX9, 5)) hK hw h30 rfl) dX10_isOfKind_29 ?_
  exact W.zret hx hb hr rfl (fun t ht _ => ⟨rfl, ht⟩) (fun _ h => absurd h List.not_mem_nil) dX10_isOfKind_32
set_option maxHeartbeats 4000000 in
set_option maxRecDepth 100000 in
theorem c_X10_begin_o (l : Launch) (D : va_G) (tc : Nat → ClassId) (sz : Nat) (ad : Nat → Nat) (ct : Nat → Option va_E)        {n1 b1 : Int32} (hbad : ¬ (2 ≤ n1 ∧ n1 ≤ 8 ∧ 1 ≤ b1 ∧ b1 ≤ 1000)) : Met l yX10_begin wsX10_begin ({ frames := 2, cells := 0, slots := 0, locals := 54 }) (va_Pc [.ref (ad 0), .int n1, .int b1] (kw_B D tc sz ad ct)) (k2_QcV (.int (-2))) 0 0 (fun _ => False) := by
  refine Met.ofW (cc := cX10_begin) (maxL := 3) (ret := (some .int)) (by decide) rfl ?_
  intro pg en s m args below meth cod s₁ B hml hv
  obtain ⟨rfl, hsz, hP0, hK⟩ := hv
  have hx := B.exec
  have hb := B.bytes
  have hr := B.returns
  have hts := atoms_spec (ws := wsX10_begin) B.pre
  have hown : s.vm.findClass RX10 = some m.cls := findClass_of_methodNamed B.named
  have hlocks := B.notSynchronized
  subst hsz
  have hw := kw_H.start hP0
  generalize kw_A ad ct s.heap.size = A at hw
  have hinX10 : ∀ w ∈ wsX100, w ∈ wsX10_begin := by decide +kernel
  have hl := lv_entry ([.ref (ad 0), .int n1, .int b1]) (n := 3) (Nat.le_of_ble_eq_true rfl)
  rw [lg_entry_eq]
  generalize (lg_sl ([.ref (ad 0), .int n1, .int b1]) ++ List.replicate (3 - (lg_sl ([.ref (ad 0), .int n1, .int b1])).length) Slot.unset).toArray = ls at hl ⊢
  have hl : lv_has ls 3 [(0, .ref (ad 0)), (1, .int n1), (2, .int b1)] := hl
  have S0 : CallFix pg m cod cX10_begin 3 s _ wsX10_begin RX10 := ⟨hx, hb, hml, hown, hts⟩
  refine lv_iload_n hx hb dX10_begin_0 rfl (lv_at hl 1 rfl) ?_
  refine lv_iconst (v := 2) hx hb dX10_begin_1 (by decide) ?_
  refine lv_icmp_lt (tgt := 23) hx hb dX10_begin_2 (by decide) (fun c_1 => ?_) (fun c_1 => ?_)
  · refine lv_bipush (v := (-2)) hx hb dX10_begin_23 (by decide) ?_
    exact W.iret hx hb hr (fun t ht _ => ⟨rfl, ht⟩) (fun _ h => absurd h List.not_mem_nil) dX10_begin_25
  · refine lv_iload_n hx hb dX10_begin_5 rfl (lv_at hl 1 rfl) ?_
    refine lv_bipush (v := 8) hx hb dX10_begin_6 (by decide) ?_
    refine lv_icmp_gt (tgt := 23) hx hb dX10_begin_8 (by decide) (fun c_2 => ?_) (fun c_2 => ?_)
    · refine lv_bipush (v := (-2)) hx hb dX10_begin_23 (by decide) ?_
      exact W.iret hx hb hr (fun t ht _ => ⟨rfl, ht⟩) (fun _ h => absurd h List.not_mem_nil) dX10_begin_25
    · refine lv_iload_n hx hb dX10_begin_11 rfl (lv_at hl 2 rfl) ?_
      refine lv_iconst (v := 1) hx hb dX10_begin_12 (by decide) ?_
      refine lv_icmp_lt (tgt := 23) hx hb dX10_begin_13 (by decide) (fun c_3 => ?_) (fun c_3 => ?_)
      · refine lv_bipush (v := (-2)) hx hb dX10_begin_23 (by decide) ?_
        exact W.iret hx hb hr (fun t ht _ => ⟨rfl, ht⟩) (fun _ h => absurd h List.not_mem_nil) dX10_begin_25
      · refine lv_iload_n hx hb dX10_begin_16 rfl (lv_at hl 2 rfl) ?_
        refine lv_sipush (v := 1000) hx hb dX10_begin_17 (by decide) ?_
        refine lv_icmp_le (tgt := 26) hx hb dX10_begin_20 (by decide) (fun c_4 => ?_) (fun c_4 => ?_)
        · exact absurd ⟨kq_1 c_1, kq_1 c_2, kq_1 c_3, c_4⟩ hbad
        · refine lv_bipush (v := (-2)) hx hb dX10_begin_23 (by decide) ?_
          exact W.iret hx hb hr (fun t ht _ => ⟨rfl, ht⟩) (fun _ h => absurd h List.not_mem_nil) dX10_begin_25
set_option maxHeartbeats 4000000 in
set_option maxRecDepth 100000 in
theorem c_X10_begin (l : Launch) (D : va_G) (tc : Nat → ClassId) (sz : Nat) (ad : Nat → Nat) (ct : Nat → Option va_E) {N nt no nf : Nat} {b cm lf co bg : Int32} {ss g : Int64} {f : Nat → Int64}   {se : Bool} {n1 : Nat} {b1 : Int32} (h0 : ct 0 = some (.inr (10, [.ref (ad 1), .ref (ad 3), .int (nI nt), .ref (ad 4), .ref (ad 9), .ref (ad 11), .ref (ad 12), .ref (ad 13), .int lf]))) (h1 : ct 1 = some (.inr (3, [.ref (ad 2), .int (nI N), .int b, .long ss, .long g, .int cm]))) (h2 : ct 2 = some (eJ tc 8 f)) (h4 : ct 4 = some (.inr (0, [.ref (ad 5), .ref (ad 6), .ref (ad 7), .ref (ad 8), .int (nI no), .int co, .int bg, .int (kb (se = true))]))) (h9 : ct 9 = some (.inr (2, [.ref (ad 10), .int (nI nf)]))) (hn1 : 2 ≤ n1) (hn8 : n1 ≤ 8) (hb1 : 1 ≤ b1) (hb2 : b1 ≤ 1000) : Met l yX10_begin wsX10_begin ({ frames := 2, cells := 0, slots := 0, locals := 54 }) (va_Pc [.ref (ad 0), .int (nI n1), .int b1] (kw_B D tc sz ad ct)) (kw_Q D ad (kw_A ad ct sz) (some (.int 1)) (kw_up (kw_up (kw_up (kw_up (kw_up ct 0 (.inr (10, [.ref (ad 1), .ref (ad 3), .int (nI 0), .ref (ad 4), .ref (ad 9), .ref (ad 11), .ref (ad 12), .ref (ad 13), .int lf]))) 1 (.inr (3, [.ref (ad 2), .int (nI n1), .int b1, .long 0, .long 0, .int (-9)]))) 2 (eJ tc 8 (kFl f 0 8))) 4 (.inr (0, [.ref (ad 5), .ref (ad 6), .ref (ad 7), .ref (ad 8), .int (nI 0), .int co, .int bg, .int (kb (false = true))]))) 9 (.inr (2, [.ref (ad 10), .int (nI 0)]))) 0) 0 0 (kw_A ad ct sz) := by
  refine Met.ofW (cc := cX10_begin) (maxL := 3) (ret := (some .int)) (by decide) rfl ?_
  intro pg en s m args below meth cod s₁ B hml hv
  obtain ⟨rfl, hsz, hP0, hK⟩ := hv
  have hx := B.exec
  have hb := B.bytes
  have hr := B.returns
  have hts := atoms_spec (ws := wsX10_begin) B.pre
  have hown : s.vm.findClass RX10 = some m.cls := findClass_of_methodNamed B.named
  have hlocks := B.notSynchronized
  subst hsz
  have hw := kw_H.start hP0
  generalize hAe : kw_A ad ct s.heap.size = A at hw ⊢
  have hA : ∀ q, s.heap.size ≤ q → A q := fun q h => by rw [← hAe]; exact Or.inr h
  have hinX10 : ∀ w ∈ wsX100, w ∈ wsX10_begin := by decide +kernel
  have hl := lv_entry ([.ref (ad 0), .int (nI n1), .int b1]) (n := 3) (Nat.le_of_ble_eq_true rfl)
  rw [lg_entry_eq]
  generalize (lg_sl ([.ref (ad 0), .int (nI n1), .int b1]) ++ List.replicate (3 - (lg_sl ([.ref (ad 0), .int (nI n1), .int b1])).length) Slot.unset).toArray = ls at hl ⊢
  have hl : lv_has ls 3 [(0, .ref (ad 0)), (1, .int (nI n1)), (2, .int b1)] := hl
  have S0 : CallFix pg m cod cX10_begin 3 s _ wsX10_begin RX10 := ⟨hx, hb, hml, hown, hts⟩
  have hfr : ∀ j, j ≠ 0 → j ≠ 1 → j ≠ 2 → j ≠ 4 → j ≠ 9 → ct j = ct j := fun _ _ _ _ _ _ => rfl
  have hb3 : ¬ (b1 < 1) := kq_4 hb1
  refine lv_iload_n hx hb dX10_begin_0 rfl (lv_at hl 1 rfl) ?_
  refine lv_iconst (v := 2) hx hb dX10_begin_1 (by decide) ?_
  refine kn_lt n1 2 rfl rfl (by omega) (by omega) (tgt := 23) hx hb dX10_begin_2 (by decide) (fun c_1 => ?_) (fun c_1 => ?_)
  · exfalso; omega
  · refine lv_iload_n hx hb dX10_begin_5 rfl (lv_at hl 1 rfl) ?_
    refine lv_bipush (v := 8) hx hb dX10_begin_6 (by decide) ?_
    refine kn_gt n1 8 rfl rfl (by omega) (by omega) (tgt := 23) hx hb dX10_begin_8 (by decide) (fun c_2 => ?_) (fun c_2 => ?_)
    · exfalso; omega
    · refine lv_iload_n hx hb dX10_begin_11 rfl (lv_at hl 2 rfl) ?_
      refine lv_iconst (v := 1) hx hb dX10_begin_12 (by decide) ?_
      refine lv_icmp_lt (tgt := 23) hx hb dX10_begin_13 (by decide) (fun c_3 => ?_) (fun c_3 => ?_)
      · exact absurd c_3 hb3
      · refine lv_iload_n hx hb dX10_begin_16 rfl (lv_at hl 2 rfl) ?_
        refine lv_sipush (v := 1000) hx hb dX10_begin_17 (by decide) ?_
        refine lv_icmp_le (tgt := 26) hx hb dX10_begin_20 (by decide) (fun c_4 => ?_) (fun c_4 => ?_)
        · refine lv_aload_n hx hb dX10_begin_26 rfl (lv_at hl 0 rfl) ?_
          refine kg_get (v := .ref (ad 1)) (C := RX10) (T := TX10) (N := 9) hx hb hts hinX10 hown hK hw h0 rfl 0 (by decide) (hts (.fieldLink RX10 12 "BetMaker" "maker" "LBetMaker$Maker;") (by decide +kernel)) (fun _ h9 => h9) rfl dX10_begin_27 ?_
          refine lv_iload_n hx hb dX10_begin_30 rfl (lv_at hl 1 rfl) ?_
          refine lv_iload_n hx hb dX10_begin_31 rfl (lv_at hl 2 rfl) ?_
          refine kc_vu (As := [.int (nI n1), .int b1]) (rest := []) S0 (c_X3_restart l D tc s.heap.size ad ct (n1 := n1) (N := N) h1 h2) (cwV 2 hts gX10_begin_X3_restart rfl rfl rfl (by decide +kernel) ⟨Nat.le_of_ble_eq_true rfl, Nat.le_of_ble_eq_true rfl⟩) hK hw hA h1 rfl rfl hl.1 rfl (Nat.le_of_ble_eq_true rfl) dX10_begin_32 ⟨Nat.le_of_ble_eq_true rfl, (Nat.le_of_ble_eq_true rfl)⟩ (fun H locs hw => ?_)
          obtain ⟨ct_5, ect_5⟩ : ∃ z, z = kw_up (kw_up ct 1 (.inr (3, [.ref (ad 2), .int (nI n1), .int b1, .long 0, .long 0, .int (-9)]))) 2 (eJ tc 8 (kFl f 0 8)) := ⟨_, rfl⟩
          rw [← ect_5] at hw
          have h_6 : ct_5 0 = some (.inr (10, [.ref (ad 1), .ref (ad 3), .int (nI nt), .ref (ad 4), .ref (ad 9), .ref (ad 11), .ref (ad 12), .ref (ad 13), .int lf])) := by rw [ect_5, kw_up_n (by omega), kw_up_n (by omega)]; exact h0
          have h_7 : ct_5 4 = some (.inr (0, [.ref (ad 5), .ref (ad 6), .ref (ad 7), .ref (ad 8), .int (nI no), .int co, .int bg, .int (kb (se = true))])) := by rw [ect_5, kw_up_n (by omega), kw_up_n (by omega)]; exact h4
          have h_8 : ct_5 9 = some (.inr (2, [.ref (ad 10), .int (nI nf)])) := by rw [ect_5, kw_up_n (by omega), kw_up_n (by omega)]; exact h9
          have h_9 : ct_5 1 = some (.inr (3, [.ref (ad 2), .int (nI n1), .int b1, .long 0, .long 0, .int (-9)])) := by rw [ect_5, kw_up_n (by omega)]; exact kw_up_s
          have h_10 : ct_5 2 = some (eJ tc 8 (kFl f 0 8)) := by rw [ect_5]; exact kw_up_s
          have hfr_11 : ∀ j, j ≠ 0 → j ≠ 1 → j ≠ 2 → j ≠ 4 → j ≠ 9 → ct_5 j = ct j := fun j a0 a1 a2 a3 a4 => by rw [ect_5]; exact (kw_up_n a2).trans ((kw_up_n a1).trans (hfr j a0 a1 a2 a3 a4))
          refine lv_aload_n hx hb dX10_begin_35 rfl (lv_at hl 0 rfl) ?_
          refine lv_iconst (v := 0) hx hb dX10_begin_36 (by decide) ?_
          refine kg_put (v := .int 0) (ty := .int) (C := RX10) (T := TX10) (N := 9) (fs' := [.ref (ad 1), .ref (ad 3), .int 0, .ref (ad 4), .ref (ad 9), .ref (ad 11), .ref (ad 12), .ref (ad 13), .int lf]) hx hb hts hinX10 tyX10 tyX10_ok nmX10 hown hK hw h_6 rfl 2 (by decide) (hts (.fieldLink RX10 60 "BetMaker" "traderCount" "I") (by decide +kernel)) (fun _ h9 => h9) rfl (by decide +kernel) rfl rfl (Nat.le_of_ble_eq_true rfl) rfl dX10_begin_37 (fun H locs hw => ?_)
          obtain ⟨ct_12, ect_12⟩ : ∃ z, z = kw_up ct_5 0 (.inr (10, [.ref (ad 1), .ref (ad 3), .int 0, .ref (ad 4), .ref (ad 9), .ref (ad 11), .ref (ad 12), .ref (ad 13), .int lf])) := ⟨_, rfl⟩
          rw [← ect_12] at hw
          have h_13 : ct_12 4 = some (.inr (0, [.ref (ad 5), .ref (ad 6), .ref (ad 7), .ref (ad 8), .int (nI no), .int co, .int bg, .int (kb (se = true))])) := by rw [ect_12, kw_up_n (by omega)]; exact h_7
          have h_14 : ct_12 9 = some (.inr (2, [.ref (ad 10), .int (nI nf)])) := by rw [ect_12, kw_up_n (by omega)]; exact h_8
          have h_15 : ct_12 1 = some (.inr (3, [.ref (ad 2), .int (nI n1), .int b1, .long 0, .long 0, .int (-9)])) := by rw [ect_12, kw_up_n (by omega)]; exact h_9
          have h_16 : ct_12 2 = some (eJ tc 8 (kFl f 0 8)) := by rw [ect_12, kw_up_n (by omega)]; exact h_10
          have h_17 : ct_12 0 = some (.inr (10, [.ref (ad 1), .ref (ad 3), .int 0, .ref (ad 4), .ref (ad 9), .ref (ad 11), .ref (ad 12), .ref (ad 13), .int lf])) := by rw [ect_12]; exact kw_up_s
          have hfr_18 : ∀ j, j ≠ 0 → j ≠ 1 → j ≠ 2 → j ≠ 4 → j ≠ 9 → ct_12 j = ct j := fun j a0 a1 a2 a3 a4 => by rw [ect_12]; exact (kw_up_n a0).trans (hfr_11 j a0 a1 a2 a3 a4)
          refine lv_aload_n hx hb dX10_begin_40 rfl (lv_at hl 0 rfl) ?_
          refine kg_get (v := .ref (ad 4)) (C := RX10) (T := TX10) (N := 9) hx hb hts hinX10 hown hK hw h_17 rfl 3 (by decide) (hts (.fieldLink RX10 27 "BetMaker" "board" "LBetMaker$Board;") (by decide +kernel)) (fun _ h9 => h9) rfl dX10_begin_41 ?_
          refine kc_vu (As := []) (rest := []) S0 (c_X0_empty l D tc s.heap.size ad ct_12 (no := no) h_13) (cwV 0 hts gX10_begin_X0_empty rfl rfl rfl (by decide +kernel) ⟨Nat.le_of_ble_eq_true rfl, Nat.le_of_ble_eq_true rfl⟩) hK hw hA h_13 rfl rfl hl.1 rfl (Nat.le_of_ble_eq_true rfl) dX10_begin_44 ⟨Nat.le_of_ble_eq_true rfl, (Nat.le_of_ble_eq_true rfl)⟩ (fun H locs hw => ?_)
          obtain ⟨ct_19, ect_19⟩ : ∃ z, z = kw_up ct_12 4 (.inr (0, [.ref (ad 5), .ref (ad 6), .ref (ad 7), .ref (ad 8), .int (nI 0), .int co, .int bg, .int (kb (false = true))])) := ⟨_, rfl⟩
          rw [← ect_19] at hw
          have h_20 : ct_19 9 = some (.inr (2, [.ref (ad 10), .int (nI nf)])) := by rw [ect_19, kw_up_n (by omega)]; exact h_14
          have h_21 : ct_19 1 = some (.inr (3, [.ref (ad 2), .int (nI n1), .int b1, .long 0, .long 0, .int (-9)])) := by rw [ect_19, kw_up_n (by omega)]; exact h_15
          have h_22 : ct_19 2 = some (eJ tc 8 (kFl f 0 8)) := by rw [ect_19, kw_up_n (by omega)]; exact h_16
          have h_23 : ct_19 0 = some (.inr (10, [.ref (ad 1), .ref (ad 3), .int 0, .ref (ad 4), .ref (ad 9), .ref (ad 11), .ref (ad 12), .ref (ad 13), .int lf])) := by rw [ect_19, kw_up_n (by omega)]; exact h_17
          have h_24 : ct_19 4 = some (.inr (0, [.ref (ad 5), .ref (ad 6), .ref (ad 7), .ref (ad 8), .int (nI 0), .int co, .int bg, .int (kb (false = true))])) := by rw [ect_19]; exact kw_up_s
          have hfr_25 : ∀ j, j ≠ 0 → j ≠ 1 → j ≠ 2 → j ≠ 4 → j ≠ 9 → ct_19 j = ct j := fun j a0 a1 a2 a3 a4 => by rw [ect_19]; exact (kw_up_n a3).trans (hfr_18 j a0 a1 a2 a3 a4)
          refine lv_aload_n hx hb dX10_begin_47 rfl (lv_at hl 0 rfl) ?_
          refine kg_get (v := .ref (ad 9)) (C := RX10) (T := TX10) (N := 9) hx hb hts hinX10 hown hK hw h_23 rfl 4 (by decide) (hts (.fieldLink RX10 34 "BetMaker" "forecasts" "LBetMaker$Log;") (by decide +kernel)) (fun _ h9 => h9) rfl dX10_begin_48 ?_
          refine kc_vu (As := []) (rest := []) S0 (c_X2_empty l D tc s.heap.size ad ct_19 (nf := nf) h_20) (cwV 0 hts gX10_begin_X2_empty rfl rfl rfl (by decide +kernel) ⟨Nat.le_of_ble_eq_true rfl, Nat.le_of_ble_eq_true rfl⟩) hK hw hA h_20 rfl rfl hl.1 rfl (Nat.le_of_ble_eq_true rfl) dX10_begin_51 ⟨Nat.le_of_ble_eq_true rfl, (Nat.le_of_ble_eq_true rfl)⟩ (fun H locs hw => ?_)
          obtain ⟨ct_26, ect_26⟩ : ∃ z, z = kw_up ct_19 9 (.inr (2, [.ref (ad 10), .int (nI 0)])) := ⟨_, rfl⟩
          rw [← ect_26] at hw
          have h_27 : ct_26 1 = some (.inr (3, [.ref (ad 2), .int (nI n1), .int b1, .long 0, .long 0, .int (-9)])) := by rw [ect_26, kw_up_n (by omega)]; exact h_21
          have h_28 : ct_26 2 = some (eJ tc 8 (kFl f 0 8)) := by rw [ect_26, kw_up_n (by omega)]; exact h_22
          have h_29 : ct_26 0 = some (.inr (10, [.ref (ad 1), .ref (ad 3), .int 0, .ref (ad 4), .ref (ad 9), .ref (ad 11), .ref (ad 12), .ref (ad 13), .int lf])) := by rw [ect_26, kw_up_n (by omega)]; exact h_23
          have h_30 : ct_26 4 = some (.inr (0, [.ref (ad 5), .ref (ad 6), .ref (ad 7), .ref (ad 8), .int (nI 0), .int co, .int bg, .int (kb (false = true))])) := by rw [ect_26, kw_up_n (by omega)]; exact h_24
          have h_31 : ct_26 9 = some (.inr (2, [.ref (ad 10), .int (nI 0)])) := by rw [ect_26]; exact kw_up_s
          have hfr_32 : ∀ j, j ≠ 0 → j ≠ 1 → j ≠ 2 → j ≠ 4 → j ≠ 9 → ct_26 j = ct j := fun j a0 a1 a2 a3 a4 => by rw [ect_26]; exact (kw_up_n a4).trans (hfr_25 j a0 a1 a2 a3 a4)
          refine lv_iconst (v := 1) hx hb dX10_begin_54 (by decide) ?_
          have hq_33 : ct_26 0 = some (.inr (10, [.ref (ad 1), .ref (ad 3), .int (nI 0), .ref (ad 4), .ref (ad 9), .ref (ad 11), .ref (ad 12), .ref (ad 13), .int lf])) := h_29.trans (congrArg some (show (.inr (10, [.ref (ad 1), .ref (ad 3), .int 0, .ref (ad 4), .ref (ad 9), .ref (ad 11), .ref (ad 12), .ref (ad 13), .int lf]) : va_E) = .inr (10, [.ref (ad 1), .ref (ad 3), .int (nI 0), .ref (ad 4), .ref (ad 9), .ref (ad 11), .ref (ad 12), .ref (ad 13), .int lf]) from by rfl))
          have hq_34 := h_27
          have hq_35 := h_28
          have hq_36 := h_30
          have hq_37 := h_31
          have hend := kw_eq5 hq_33 hq_34 hq_35 hq_36 hq_37 hfr_32
          rw [hend] at hw
          exact W.iret hx hb hr (fun t ht _ => ⟨rfl, by rw [ht]; exact hw.1, hw.2.2.1, hw.2.1.F ht, by rw [ht]; exact hw.2.2.2⟩) hw.2.1.2.2 dX10_begin_55
        · exact absurd hb2 c_4
set_option maxHeartbeats 4000000 in
set_option maxRecDepth 100000 in
theorem c_X10_newTrader_0 (l : Launch) (D : va_G) (tc : Nat → ClassId) (sz : Nat) (ad : Nat → Nat) (ct : Nat → Option va_E) {N nt t : Nat} {b cm lf : Int32} {ss g : Int64}     {p1 : Int64} (h0 : ct 0 = some (.inr (10, [.ref (ad 1), .ref (ad 3), .int (nI nt), .ref (ad 4), .ref (ad 9), .ref (ad 11), .ref (ad 12), .ref (ad 13), .int lf]))) (h1 : ct 1 = some (.inr (3, [.ref (ad 2), .int (nI N), .int b, .long ss, .long g, .int cm]))) (hN : N ≤ 8) (hka : ct (30 + t) = none) (hkaa : ad (30 + t) = sz) (hkb : ct (36 + t) = none) (hkba : ad (36 + t) = sz + 1) (hkc : ct (42 + t) = none) (hkca : ad (42 + t) = sz + 2) : Met l yX10_newTrader wsX10_newTrader ({ frames := 4, cells := 3, slots := 21, locals := 124 }) (va_Pc [.ref (ad 0), .int 0, .int (nI t), .long p1] (kw_B D tc sz ad ct)) (kw_Q D ad (kw_A ad ct sz) (some (.ref (ad (30 + t)))) (kw_up (kw_up (kw_up ct (30 + t) (.inr (5, [.int (nI t), .ref (ad (36 + t)), .ref (ad (42 + t)), .long p1, .int 0]))) (36 + t) (eJ tc N (fun _ => 0))) (42 + t) (eI tc N (kFl (fun _ => 0) 1 N))) 3) 3 21 (kw_A ad ct sz) := by
  refine Met.ofW (cc := cX10_newTrader) (maxL := 5) (ret := (some (.object "BetMaker$Plain"))) (by decide) rfl ?_
  intro pg en s m args below meth cod s₁ B hml hv
  obtain ⟨rfl, hsz, hP0, hK⟩ := hv
  have hx := B.exec
  have hb := B.bytes
  have hr := B.returns
  have hts := atoms_spec (ws := wsX10_newTrader) B.pre
  have hown : s.vm.findClass RX10 = some m.cls := findClass_of_methodNamed B.named
  have hlocks := B.notSynchronized
  subst hsz
  have hw := kw_H.start hP0
  generalize hAe : kw_A ad ct s.heap.size = A at hw ⊢
  have hA : ∀ q, s.heap.size ≤ q → A q := fun q h => by rw [← hAe]; exact Or.inr h
  have hinX10 : ∀ w ∈ wsX100, w ∈ wsX10_newTrader := by decide +kernel
  have hinX5 : ∀ w ∈ wsX50, w ∈ wsX10_newTrader := by decide +kernel
  have hinX7 : ∀ w ∈ wsX70, w ∈ wsX10_newTrader := by decide +kernel
  have hinX9 : ∀ w ∈ wsX90, w ∈ wsX10_newTrader := by decide +kernel
  have hl := lv_entry ([.ref (ad 0), .int 0, .int (nI t), .long p1]) (n := 5) (Nat.le_of_ble_eq_true rfl)
  rw [lg_entry_eq]
  generalize (lg_sl ([.ref (ad 0), .int 0, .int (nI t), .long p1]) ++ List.replicate (5 - (lg_sl ([.ref (ad 0), .int 0, .int (nI t), .long p1])).length) Slot.unset).toArray = ls at hl ⊢
  have hl : lv_has ls 5 [(0, .ref (ad 0)), (1, .int 0), (2, .int (nI t)), (3, .long p1)] := hl
  have S0 : CallFix pg m cod cX10_newTrader 5 s _ wsX10_newTrader RX10 := ⟨hx, hb, hml, hown, hts⟩
  have hfr : ∀ j, j ≠ (30 + t) → j ≠ (36 + t) → j ≠ (42 + t) → ct j = ct j := fun _ _ _ _ => rfl
  refine lv_iload_n hx hb dX10_newTrader_0 rfl (lv_at hl 1 rfl) ?_
  refine lv_lookup (off := 61) (tgt := 62) hx hb dX10_newTrader_1 (by decide) (by decide) (by decide) ?_
  refine kg_new (ci := 5) (C := RX5) (T := TX5) (N := 5) (fs := [.int 0, .null, .null, .long 0, .int 0]) hx hb hts hinX5 tyX5 tyX5_ok hown (hts (.classLink RX10 18 RX5) (by decide +kernel)) (hts (.instantiable RX5 5) (by decide +kernel)) (hts (.initialized RX5) (by decide +kernel)) hK hw hA (30 + t) hka hkaa rfl (fun j hj => by rcases (show j = 0 ∨ j = 1 ∨ j = 2 ∨ j = 3 ∨ j = 4 by omega) with rfl | rfl | rfl | rfl | rfl <;> rfl) (Nat.le_of_ble_eq_true rfl) (Nat.le_of_ble_eq_true rfl) dX10_newTrader_62 (fun H hw => ?_)
  obtain ⟨ct_1, ect_1⟩ : ∃ z, z = kw_up ct (30 + t) (.inr (5, [.int 0, .null, .null, .long 0, .int 0])) := ⟨_, rfl⟩
  rw [← ect_1] at hw
  have h_2 : ct_1 0 = some (.inr (10, [.ref (ad 1), .ref (ad 3), .int (nI nt), .ref (ad 4), .ref (ad 9), .ref (ad 11), .ref (ad 12), .ref (ad 13), .int lf])) := by rw [ect_1, kw_up_n (by omega)]; exact h0
  have h_3 : ct_1 1 = some (.inr (3, [.ref (ad 2), .int (nI N), .int b, .long ss, .long g, .int cm])) := by rw [ect_1, kw_up_n (by omega)]; exact h1
  have h_4 : ct_1 (30 + t) = some (.inr (5, [.int 0, .null, .null, .long 0, .int 0])) := by rw [ect_1]; exact kw_up_s
  have h_5 : ct_1 (36 + t) = none := by rw [ect_1, kw_up_n (by omega)]; exact hkb
  have h_6 : ct_1 (42 + t) = none := by rw [ect_1, kw_up_n (by omega)]; exact hkc
  have hfr_7 : ∀ j, j ≠ (30 + t) → j ≠ (36 + t) → j ≠ (42 + t) → ct_1 j = ct j := fun j a0 a1 a2 => by rw [ect_1]; exact (kw_up_n a0).trans (hfr j a0 a1 a2)
  refine lv_dup hx hb dX10_newTrader_65 rfl ?_
  refine lv_iload_n hx hb dX10_newTrader_66 rfl (lv_at hl 2 rfl) ?_
  refine lv_lload_n hx hb dX10_newTrader_67 rfl (lv_at hl 3 rfl) ?_
  refine lv_aload_n hx hb dX10_newTrader_68 rfl (lv_at hl 0 rfl) ?_
  refine kg_get (v := .ref (ad 1)) (C := RX10) (T := TX10) (N := 9) hx hb hts hinX10 hown hK hw h_2 rfl 0 (by decide) (hts (.fieldLink RX10 12 "BetMaker" "maker" "LBetMaker$Maker;") (by decide +kernel)) (fun _ h9 => h9) rfl dX10_newTrader_69 ?_
  refine kc_v (As := []) (rest := [.long p1, .int (nI t), .ref (ad (30 + t)), .ref (ad (30 + t))]) S0 (c_X3_cases l D tc (s.heap.size + 1) ad ct_1 (N := N) h_3) (cwV 0 hts gX10_newTrader_X3_cases rfl rfl rfl (by decide +kernel) ⟨Nat.le_of_ble_eq_true rfl, Nat.le_of_ble_eq_true rfl⟩) hK hw h_3 rfl rfl hl.1 rfl (Nat.le_of_ble_eq_true rfl) dX10_newTrader_72 ⟨Nat.le_of_ble_eq_true rfl, (Nat.le_of_ble_eq_true rfl)⟩ ?_
  refine kc_iu (As := [.int (nI t), .long p1, .int (nI N)]) (rest := [.ref (ad (30 + t))]) S0 (c_X5_init l D tc (s.heap.size + 1) ad ct_1 (N := N) h_4 (Or.inl rfl) (by omega) (by omega) h_5 hkba h_6 hkca) (cwI 3 hts gX10_newTrader_X5_init rfl rfl rfl (hts (.initialized RX5) (by decide +kernel)) (hts (.methodLink RX10 324 yX5_init) (by decide +kernel)) (hts (.instanceMethod yX5_init) (by decide +kernel)) rfl (by decide +kernel) ⟨Nat.le_of_ble_eq_true rfl, Nat.le_of_ble_eq_true rfl⟩) hK hw hA rfl hl.1 rfl (Nat.le_of_ble_eq_true rfl) dX10_newTrader_75 ⟨Nat.le_of_ble_eq_true rfl, (Nat.le_of_ble_eq_true rfl)⟩ (fun H locs hw => ?_)
  obtain ⟨ct_8, ect_8⟩ : ∃ z, z = kw_up (kw_up (kw_up ct_1 (30 + t) (.inr (5, [.int (nI t), .ref (ad (36 + t)), .ref (ad (42 + t)), .long p1, .int 0]))) (36 + t) (eJ tc N (fun _ => 0))) (42 + t) (eI tc N (kFl (fun _ => 0) 1 N)) := ⟨_, rfl⟩
  rw [← ect_8] at hw
  have h_9 : ct_8 0 = some (.inr (10, [.ref (ad 1), .ref (ad 3), .int (nI nt), .ref (ad 4), .ref (ad 9), .ref (ad 11), .ref (ad 12), .ref (ad 13), .int lf])) := by rw [ect_8, kw_up_n (by omega), kw_up_n (by omega), kw_up_n (by omega)]; exact h_2
  have h_10 : ct_8 1 = some (.inr (3, [.ref (ad 2), .int (nI N), .int b, .long ss, .long g, .int cm])) := by rw [ect_8, kw_up_n (by omega), kw_up_n (by omega), kw_up_n (by omega)]; exact h_3
  have h_11 : ct_8 (30 + t) = some (.inr (5, [.int (nI t), .ref (ad (36 + t)), .ref (ad (42 + t)), .long p1, .int 0])) := by rw [ect_8, kw_up_n (by omega), kw_up_n (by omega)]; exact kw_up_s
  have h_12 : ct_8 (36 + t) = some (eJ tc N (fun _ => 0)) := by rw [ect_8, kw_up_n (by omega)]; exact kw_up_s
  have h_13 : ct_8 (42 + t) = some (eI tc N (kFl (fun _ => 0) 1 N)) := by rw [ect_8]; exact kw_up_s
  have hfr_14 : ∀ j, j ≠ (30 + t) → j ≠ (36 + t) → j ≠ (42 + t) → ct_8 j = ct j := fun j a0 a1 a2 => by rw [ect_8]; exact (kw_up_n a2).trans ((kw_up_n a1).trans ((kw_up_n a0).trans (hfr_7 j a0 a1 a2)))
  have hq_15 := h_11
  have hq_16 := h_12
  have hq_17 := h_13
  have hend := kw_eq3 hq_15 hq_16 hq_17 hfr_14
  rw [hend] at hw
  refine W.widen (k := 3) (n := 21) (Nat.le_of_ble_eq_true rfl) (Nat.le_of_ble_eq_true rfl) ?_
  exact W.aret hx hb hr (Or.inl ⟨_, rfl⟩) (Or.inr ⟨_, rfl⟩) (fun t ht _ => ⟨rfl, by rw [ht]; exact hw.1, hw.2.2.1, hw.2.1.F ht, by rw [ht]; exact hw.2.2.2⟩) hw.2.1.2.2 dX10_newTrader_78
set_option maxHeartbeats 4000000 in
set_option maxRecDepth 100000 in
theorem c_X10_newTrader_1 (l : Launch) (D : va_G) (tc : Nat → ClassId) (sz : Nat) (ad : Nat → Nat) (ct : Nat → Option va_E) {N nt t : Nat} {b cm lf : Int32} {ss g : Int64}     {p1 : Int64} (h0 : ct 0 = some (.inr (10, [.ref (ad 1), .ref (ad 3), .int (nI nt), .ref (ad 4), .ref (ad 9), .ref (ad 11), .ref (ad 12), .ref (ad 13), .int lf]))) (h1 : ct 1 = some (.inr (3, [.ref (ad 2), .int (nI N), .int b, .long ss, .long g, .int cm]))) (hN : N ≤ 8) (hka : ct (30 + t) = none) (hkaa : ad (30 + t) = sz) (hkb : ct (36 + t) = none) (hkba : ad (36 + t) = sz + 1) (hkc : ct (42 + t) = none) (hkca : ad (42 + t) = sz + 2) : Met l yX10_newTrader wsX10_newTrader ({ frames := 4, cells := 3, slots := 21, locals := 124 }) (va_Pc [.ref (ad 0), .int 1, .int (nI t), .long p1] (kw_B D tc sz ad ct)) (kw_Q D ad (kw_A ad ct sz) (some (.ref (ad (30 + t)))) (kw_up (kw_up (kw_up ct (30 + t) (.inr (9, [.int (nI t), .ref (ad (36 + t)), .ref (ad (42 + t)), .long p1, .int 0]))) (36 + t) (eJ tc N (fun _ => 0))) (42 + t) (eI tc N (kFl (fun _ => 0) 1 N))) 3) 3 21 (kw_A ad ct sz) := by
  refine Met.ofW (cc := cX10_newTrader) (maxL := 5) (ret := (some (.object "BetMaker$Plain"))) (by decide) rfl ?_
  intro pg en s m args below meth cod s₁ B hml hv
  obtain ⟨rfl, hsz, hP0, hK⟩ := hv
  have hx := B.exec
  have hb := B.bytes
  have hr := B.returns
  have hts := atoms_spec (ws := wsX10_newTrader) B.pre
  have hown : s.vm.findClass RX10 = some m.cls := findClass_of_methodNamed B.named
  have hlocks := B.notSynchronized
  subst hsz
  have hw := kw_H.start hP0
  generalize hAe : kw_A ad ct s.heap.size = A at hw ⊢
  have hA : ∀ q, s.heap.size ≤ q → A q := fun q h => by rw [← hAe]; exact Or.inr h
  have hinX10 : ∀ w ∈ wsX100, w ∈ wsX10_newTrader := by decide +kernel
  have hinX5 : ∀ w ∈ wsX50, w ∈ wsX10_newTrader := by decide +kernel
  have hinX7 : ∀ w ∈ wsX70, w ∈ wsX10_newTrader := by decide +kernel
  have hinX9 : ∀ w ∈ wsX90, w ∈ wsX10_newTrader := by decide +kernel
  have hl := lv_entry ([.ref (ad 0), .int 1, .int (nI t), .long p1]) (n := 5) (Nat.le_of_ble_eq_true rfl)
  rw [lg_entry_eq]
  generalize (lg_sl ([.ref (ad 0), .int 1, .int (nI t), .long p1]) ++ List.replicate (5 - (lg_sl ([.ref (ad 0), .int 1, .int (nI t), .long p1])).length) Slot.unset).toArray = ls at hl ⊢
  have hl : lv_has ls 5 [(0, .ref (ad 0)), (1, .int 1), (2, .int (nI t)), (3, .long p1)] := hl
  have S0 : CallFix pg m cod cX10_newTrader 5 s _ wsX10_newTrader RX10 := ⟨hx, hb, hml, hown, hts⟩
  have hfr : ∀ j, j ≠ (30 + t) → j ≠ (36 + t) → j ≠ (42 + t) → ct j = ct j := fun _ _ _ _ => rfl
  refine lv_iload_n hx hb dX10_newTrader_0 rfl (lv_at hl 1 rfl) ?_
  refine lv_lookup (off := 44) (tgt := 45) hx hb dX10_newTrader_1 (by decide) (by decide) (by decide) ?_
  refine kg_new (ci := 9) (C := RX9) (T := TX9) (N := 5) (fs := [.int 0, .null, .null, .long 0, .int 0]) hx hb hts hinX9 tyX9 tyX9_ok hown (hts (.classLink RX10 321 RX9) (by decide +kernel)) (hts (.instantiable RX9 5) (by decide +kernel)) (hts (.initialized RX9) (by decide +kernel)) hK hw hA (30 + t) hka hkaa rfl (fun j hj => by rcases (show j = 0 ∨ j = 1 ∨ j = 2 ∨ j = 3 ∨ j = 4 by omega) with rfl | rfl | rfl | rfl | rfl <;> rfl) (Nat.le_of_ble_eq_true rfl) (Nat.le_of_ble_eq_true rfl) dX10_newTrader_45 (fun H hw => ?_)
  obtain ⟨ct_1, ect_1⟩ : ∃ z, z = kw_up ct (30 + t) (.inr (9, [.int 0, .null, .null, .long 0, .int 0])) := ⟨_, rfl⟩
  rw [← ect_1] at hw
  have h_2 : ct_1 0 = some (.inr (10, [.ref (ad 1), .ref (ad 3), .int (nI nt), .ref (ad 4), .ref (ad 9), .ref (ad 11), .ref (ad 12), .ref (ad 13), .int lf])) := by rw [ect_1, kw_up_n (by omega)]; exact h0
  have h_3 : ct_1 1 = some (.inr (3, [.ref (ad 2), .int (nI N), .int b, .long ss, .long g, .int cm])) := by rw [ect_1, kw_up_n (by omega)]; exact h1
  have h_4 : ct_1 (30 + t) = some (.inr (9, [.int 0, .null, .null, .long 0, .int 0])) := by rw [ect_1]; exact kw_up_s
  have h_5 : ct_1 (36 + t) = none := by rw [ect_1, kw_up_n (by omega)]; exact hkb
  have h_6 : ct_1 (42 + t) = none := by rw [ect_1, kw_up_n (by omega)]; exact hkc
  have hfr_7 : ∀ j, j ≠ (30 + t) → j ≠ (36 + t) → j ≠ (42 + t) → ct_1 j = ct j := fun j a0 a1 a2 => by rw [ect_1]; exact (kw_up_n a0).trans (hfr j a0 a1 a2)
  refine lv_dup hx hb dX10_newTrader_48 rfl ?_
  refine lv_iload_n hx hb dX10_newTrader_49 rfl (lv_at hl 2 rfl) ?_
  refine lv_lload_n hx hb dX10_newTrader_50 rfl (lv_at hl 3 rfl) ?_
  refine lv_aload_n hx hb dX10_newTrader_51 rfl (lv_at hl 0 rfl) ?_
  refine kg_get (v := .ref (ad 1)) (C := RX10) (T := TX10) (N := 9) hx hb hts hinX10 hown hK hw h_2 rfl 0 (by decide) (hts (.fieldLink RX10 12 "BetMaker" "maker" "LBetMaker$Maker;") (by decide +kernel)) (fun _ h9 => h9) rfl dX10_newTrader_52 ?_
  refine kc_v (As := []) (rest := [.long p1, .int (nI t), .ref (ad (30 + t)), .ref (ad (30 + t))]) S0 (c_X3_cases l D tc (s.heap.size + 1) ad ct_1 (N := N) h_3) (cwV 0 hts gX10_newTrader_X3_cases rfl rfl rfl (by decide +kernel) ⟨Nat.le_of_ble_eq_true rfl, Nat.le_of_ble_eq_true rfl⟩) hK hw h_3 rfl rfl hl.1 rfl (Nat.le_of_ble_eq_true rfl) dX10_newTrader_55 ⟨Nat.le_of_ble_eq_true rfl, (Nat.le_of_ble_eq_true rfl)⟩ ?_
  refine kc_iu (As := [.int (nI t), .long p1, .int (nI N)]) (rest := [.ref (ad (30 + t))]) S0 (c_X9_init l D tc (s.heap.size + 1) ad ct_1 (N := N) h_4 (Or.inr (Or.inr rfl)) (by omega) (by omega) h_5 hkba h_6 hkca) (cwI 3 hts gX10_newTrader_X9_init rfl rfl rfl (hts (.initialized RX9) (by decide +kernel)) (hts (.methodLink RX10 323 yX9_init) (by decide +kernel)) (hts (.instanceMethod yX9_init) (by decide +kernel)) rfl (by decide +kernel) ⟨Nat.le_of_ble_eq_true rfl, Nat.le_of_ble_eq_true rfl⟩) hK hw hA rfl hl.1 rfl (Nat.le_of_ble_eq_true rfl) dX10_newTrader_58 ⟨Nat.le_of_ble_eq_true rfl, (Nat.le_of_ble_eq_true rfl)⟩ (fun H locs hw => ?_)
  obtain ⟨ct_8, ect_8⟩ : ∃ z, z = kw_up (kw_up (kw_up ct_1 (30 + t) (.inr (9, [.int (nI t), .ref (ad (36 + t)), .ref (ad (42 + t)), .long p1, .int 0]))) (36 + t) (eJ tc N (fun _ => 0))) (42 + t) (eI tc N (kFl (fun _ => 0) 1 N)) := ⟨_, rfl⟩
  rw [← ect_8] at hw
  have h_9 : ct_8 0 = some (.inr (10, [.ref (ad 1), .ref (ad 3), .int (nI nt), .ref (ad 4), .ref (ad 9), .ref (ad 11), .ref (ad 12), .ref (ad 13), .int lf])) := by rw [ect_8, kw_up_n (by omega), kw_up_n (by omega), kw_up_n (by omega)]; exact h_2
  have h_10 : ct_8 1 = some (.inr (3, [.ref (ad 2), .int (nI N), .int b, .long ss, .long g, .int cm])) := by rw [ect_8, kw_up_n (by omega), kw_up_n (by omega), kw_up_n (by omega)]; exact h_3
  have h_11 : ct_8 (30 + t) = some (.inr (9, [.int (nI t), .ref (ad (36 + t)), .ref (ad (42 + t)), .long p1, .int 0])) := by rw [ect_8, kw_up_n (by omega), kw_up_n (by omega)]; exact kw_up_s
  have h_12 : ct_8 (36 + t) = some (eJ tc N (fun _ => 0)) := by rw [ect_8, kw_up_n (by omega)]; exact kw_up_s
  have h_13 : ct_8 (42 + t) = some (eI tc N (kFl (fun _ => 0) 1 N)) := by rw [ect_8]; exact kw_up_s
  have hfr_14 : ∀ j, j ≠ (30 + t) → j ≠ (36 + t) → j ≠ (42 + t) → ct_8 j = ct j := fun j a0 a1 a2 => by rw [ect_8]; exact (kw_up_n a2).trans ((kw_up_n a1).trans ((kw_up_n a0).trans (hfr_7 j a0 a1 a2)))
  have hq_15 := h_11
  have hq_16 := h_12
  have hq_17 := h_13
  have hend := kw_eq3 hq_15 hq_16 hq_17 hfr_14
  rw [hend] at hw
  refine W.widen (k := 3) (n := 21) (Nat.le_of_ble_eq_true rfl) (Nat.le_of_ble_eq_true rfl) ?_
  exact W.aret hx hb hr (Or.inl ⟨_, rfl⟩) (Or.inr ⟨_, rfl⟩) (fun t ht _ => ⟨rfl, by rw [ht]; exact hw.1, hw.2.2.1, hw.2.1.F ht, by rw [ht]; exact hw.2.2.2⟩) hw.2.1.2.2 dX10_newTrader_61
set_option maxHeartbeats 4000000 in
set_option maxRecDepth 100000 in
theorem c_X10_newTrader_2 (l : Launch) (D : va_G) (tc : Nat → ClassId) (sz : Nat) (ad : Nat → Nat) (ct : Nat → Option va_E) {N nt t : Nat} {b cm lf : Int32} {ss g : Int64}     {p1 : Int64} (h0 : ct 0 = some (.inr (10, [.ref (ad 1), .ref (ad 3), .int (nI nt), .ref (ad 4), .ref (ad 9), .ref (ad 11), .ref (ad 12), .ref (ad 13), .int lf]))) (h1 : ct 1 = some (.inr (3, [.ref (ad 2), .int (nI N), .int b, .long ss, .long g, .int cm]))) (hN : N ≤ 8) (hka : ct (30 + t) = none) (hkaa : ad (30 + t) = sz) (hkb : ct (36 + t) = none) (hkba : ad (36 + t) = sz + 1) (hkc : ct (42 + t) = none) (hkca : ad (42 + t) = sz + 2) : Met l yX10_newTrader wsX10_newTrader ({ frames := 4, cells := 3, slots := 21, locals := 124 }) (va_Pc [.ref (ad 0), .int 2, .int (nI t), .long p1] (kw_B D tc sz ad ct)) (kw_Q D ad (kw_A ad ct sz) (some (.ref (ad (30 + t)))) (kw_up (kw_up (kw_up ct (30 + t) (.inr (7, [.int (nI t), .ref (ad (36 + t)), .ref (ad (42 + t)), .long p1, .int 0]))) (36 + t) (eJ tc N (fun _ => 0))) (42 + t) (eI tc N (kFl (fun _ => 0) 1 N))) 3) 3 21 (kw_A ad ct sz) := by
  refine Met.ofW (cc := cX10_newTrader) (maxL := 5) (ret := (some (.object "BetMaker$Plain"))) (by decide) rfl ?_
  intro pg en s m args below meth cod s₁ B hml hv
  obtain ⟨rfl, hsz, hP0, hK⟩ := hv
  have hx := B.exec
  have hb := B.bytes
  have hr := B.returns
  have hts := atoms_spec (ws := wsX10_newTrader) B.pre
  have hown : s.vm.findClass RX10 = some m.cls := findClass_of_methodNamed B.named
  have hlocks := B.notSynchronized
  subst hsz
  have hw := kw_H.start hP0
  generalize hAe : kw_A ad ct s.heap.size = A at hw ⊢
  have hA : ∀ q, s.heap.size ≤ q → A q := fun q h => by rw [← hAe]; exact Or.inr h
  have hinX10 : ∀ w ∈ wsX100, w ∈ wsX10_newTrader := by decide +kernel
  have hinX5 : ∀ w ∈ wsX50, w ∈ wsX10_newTrader := by decide +kernel
  have hinX7 : ∀ w ∈ wsX70, w ∈ wsX10_newTrader := by decide +kernel
  have hinX9 : ∀ w ∈ wsX90, w ∈ wsX10_newTrader := by decide +kernel
  have hl := lv_entry ([.ref (ad 0), .int 2, .int (nI t), .long p1]) (n := 5) (Nat.le_of_ble_eq_true rfl)
  rw [lg_entry_eq]
  generalize (lg_sl ([.ref (ad 0), .int 2, .int (nI t), .long p1]) ++ List.replicate (5 - (lg_sl ([.ref (ad 0), .int 2, .int (nI t), .long p1])).length) Slot.unset).toArray = ls at hl ⊢
  have hl : lv_has ls 5 [(0, .ref (ad 0)), (1, .int 2), (2, .int (nI t)), (3, .long p1)] := hl
  have S0 : CallFix pg m cod cX10_newTrader 5 s _ wsX10_newTrader RX10 := ⟨hx, hb, hml, hown, hts⟩
  have hfr : ∀ j, j ≠ (30 + t) → j ≠ (36 + t) → j ≠ (42 + t) → ct j = ct j := fun _ _ _ _ => rfl
  refine lv_iload_n hx hb dX10_newTrader_0 rfl (lv_at hl 1 rfl) ?_
  refine lv_lookup (off := 27) (tgt := 28) hx hb dX10_newTrader_1 (by decide) (by decide) (by decide) ?_
  refine kg_new (ci := 7) (C := RX7) (T := TX7) (N := 5) (fs := [.int 0, .null, .null, .long 0, .int 0]) hx hb hts hinX7 tyX7 tyX7_ok hown (hts (.classLink RX10 316 RX7) (by decide +kernel)) (hts (.instantiable RX7 5) (by decide +kernel)) (hts (.initialized RX7) (by decide +kernel)) hK hw hA (30 + t) hka hkaa rfl (fun j hj => by rcases (show j = 0 ∨ j = 1 ∨ j = 2 ∨ j = 3 ∨ j = 4 by omega) with rfl | rfl | rfl | rfl | rfl <;> rfl) (Nat.le_of_ble_eq_true rfl) (Nat.le_of_ble_eq_true rfl) dX10_newTrader_28 (fun H hw => ?_)
  obtain ⟨ct_1, ect_1⟩ : ∃ z, z = kw_up ct (30 + t) (.inr (7, [.int 0, .null, .null, .long 0, .int 0])) := ⟨_, rfl⟩
  rw [← ect_1] at hw
  have h_2 : ct_1 0 = some (.inr (10, [.ref (ad 1), .ref (ad 3), .int (nI nt), .ref (ad 4), .ref (ad 9), .ref (ad 11), .ref (ad 12), .ref (ad 13), .int lf])) := by rw [ect_1, kw_up_n (by omega)]; exact h0
  have h_3 : ct_1 1 = some (.inr (3, [.ref (ad 2), .int (nI N), .int b, .long ss, .long g, .int cm])) := by rw [ect_1, kw_up_n (by omega)]; exact h1
  have h_4 : ct_1 (30 + t) = some (.inr (7, [.int 0, .null, .null, .long 0, .int 0])) := by rw [ect_1]; exact kw_up_s
  have h_5 : ct_1 (36 + t) = none := by rw [ect_1, kw_up_n (by omega)]; exact hkb
  have h_6 : ct_1 (42 + t) = none := by rw [ect_1, kw_up_n (by omega)]; exact hkc
  have hfr_7 : ∀ j, j ≠ (30 + t) → j ≠ (36 + t) → j ≠ (42 + t) → ct_1 j = ct j := fun j a0 a1 a2 => by rw [ect_1]; exact (kw_up_n a0).trans (hfr j a0 a1 a2)
  refine lv_dup hx hb dX10_newTrader_31 rfl ?_
  refine lv_iload_n hx hb dX10_newTrader_32 rfl (lv_at hl 2 rfl) ?_
  refine lv_lload_n hx hb dX10_newTrader_33 rfl (lv_at hl 3 rfl) ?_
  refine lv_aload_n hx hb dX10_newTrader_34 rfl (lv_at hl 0 rfl) ?_
  refine kg_get (v := .ref (ad 1)) (C := RX10) (T := TX10) (N := 9) hx hb hts hinX10 hown hK hw h_2 rfl 0 (by decide) (hts (.fieldLink RX10 12 "BetMaker" "maker" "LBetMaker$Maker;") (by decide +kernel)) (fun _ h9 => h9) rfl dX10_newTrader_35 ?_
  refine kc_v (As := []) (rest := [.long p1, .int (nI t), .ref (ad (30 + t)), .ref (ad (30 + t))]) S0 (c_X3_cases l D tc (s.heap.size + 1) ad ct_1 (N := N) h_3) (cwV 0 hts gX10_newTrader_X3_cases rfl rfl rfl (by decide +kernel) ⟨Nat.le_of_ble_eq_true rfl, Nat.le_of_ble_eq_true rfl⟩) hK hw h_3 rfl rfl hl.1 rfl (Nat.le_of_ble_eq_true rfl) dX10_newTrader_38 ⟨Nat.le_of_ble_eq_true rfl, (Nat.le_of_ble_eq_true rfl)⟩ ?_
  refine kc_iu (As := [.int (nI t), .long p1, .int (nI N)]) (rest := [.ref (ad (30 + t))]) S0 (c_X7_init l D tc (s.heap.size + 1) ad ct_1 (N := N) h_4 (Or.inr (Or.inl rfl)) (by omega) (by omega) h_5 hkba h_6 hkca) (cwI 3 hts gX10_newTrader_X7_init rfl rfl rfl (hts (.initialized RX7) (by decide +kernel)) (hts (.methodLink RX10 318 yX7_init) (by decide +kernel)) (hts (.instanceMethod yX7_init) (by decide +kernel)) rfl (by decide +kernel) ⟨Nat.le_of_ble_eq_true rfl, Nat.le_of_ble_eq_true rfl⟩) hK hw hA rfl hl.1 rfl (Nat.le_of_ble_eq_true rfl) dX10_newTrader_41 ⟨Nat.le_of_ble_eq_true rfl, (Nat.le_of_ble_eq_true rfl)⟩ (fun H locs hw => ?_)
  obtain ⟨ct_8, ect_8⟩ : ∃ z, z = kw_up (kw_up (kw_up ct_1 (30 + t) (.inr (7, [.int (nI t), .ref (ad (36 + t)), .ref (ad (42 + t)), .long p1, .int 0]))) (36 + t) (eJ tc N (fun _ => 0))) (42 + t) (eI tc N (kFl (fun _ => 0) 1 N)) := ⟨_, rfl⟩
  rw [← ect_8] at hw
  have h_9 : ct_8 0 = some (.inr (10, [.ref (ad 1), .ref (ad 3), .int (nI nt), .ref (ad 4), .ref (ad 9), .ref (ad 11), .ref (ad 12), .ref (ad 13), .int lf])) := by rw [ect_8, kw_up_n (by omega), kw_up_n (by omega), kw_up_n (by omega)]; exact h_2
  have h_10 : ct_8 1 = some (.inr (3, [.ref (ad 2), .int (nI N), .int b, .long ss, .long g, .int cm])) := by rw [ect_8, kw_up_n (by omega), kw_up_n (by omega), kw_up_n (by omega)]; exact h_3
  have h_11 : ct_8 (30 + t) = some (.inr (7, [.int (nI t), .ref (ad (36 + t)), .ref (ad (42 + t)), .long p1, .int 0])) := by rw [ect_8, kw_up_n (by omega), kw_up_n (by omega)]; exact kw_up_s
  have h_12 : ct_8 (36 + t) = some (eJ tc N (fun _ => 0)) := by rw [ect_8, kw_up_n (by omega)]; exact kw_up_s
  have h_13 : ct_8 (42 + t) = some (eI tc N (kFl (fun _ => 0) 1 N)) := by rw [ect_8]; exact kw_up_s
  have hfr_14 : ∀ j, j ≠ (30 + t) → j ≠ (36 + t) → j ≠ (42 + t) → ct_8 j = ct j := fun j a0 a1 a2 => by rw [ect_8]; exact (kw_up_n a2).trans ((kw_up_n a1).trans ((kw_up_n a0).trans (hfr_7 j a0 a1 a2)))
  have hq_15 := h_11
  have hq_16 := h_12
  have hq_17 := h_13
  have hend := kw_eq3 hq_15 hq_16 hq_17 hfr_14
  rw [hend] at hw
  refine W.widen (k := 3) (n := 21) (Nat.le_of_ble_eq_true rfl) (Nat.le_of_ble_eq_true rfl) ?_
  exact W.aret hx hb hr (Or.inl ⟨_, rfl⟩) (Or.inr ⟨_, rfl⟩) (fun t ht _ => ⟨rfl, by rw [ht]; exact hw.1, hw.2.2.1, hw.2.1.F ht, by rw [ht]; exact hw.2.2.2⟩) hw.2.1.2.2 dX10_newTrader_44
set_option maxHeartbeats 4000000 in
set_option maxRecDepth 100000 in
theorem c_X10_trader_o (l : Launch) (D : va_G) (tc : Nat → ClassId) (sz : Nat) (ad : Nat → Nat) (ct : Nat → Option va_E)        {kind : Int32} {p1 : Int64} (hbad : ¬ ((0 ≤ kind ∧ kind ≤ 2) ∧ 0 ≤ p1 ∧ p1 ≤ 1000000000000)) : Met l yX10_trader wsX10_trader ({ frames := 5, cells := 0, slots := 0, locals := 152 }) (va_Pc [.ref (ad 0), .int kind, .long p1] (kw_B D tc sz ad ct)) (k2_QcV (.int (-2))) 0 0 (fun _ => False) := by
  refine Met.ofW (cc := cX10_trader) (maxL := 4) (ret := (some .int)) (by decide) rfl ?_
  intro pg en s m args below meth cod s₁ B hml hv
  obtain ⟨rfl, hsz, hP0, hK⟩ := hv
  have hx := B.exec
  have hb := B.bytes
  have hr := B.returns
  have hts := atoms_spec (ws := wsX10_trader) B.pre
  have hown : s.vm.findClass RX10 = some m.cls := findClass_of_methodNamed B.named
  have hlocks := B.notSynchronized
  subst hsz
  have hw := kw_H.start hP0
  generalize kw_A ad ct s.heap.size = A at hw
  have hinX10 : ∀ w ∈ wsX100, w ∈ wsX10_trader := by decide +kernel
  have hl := lv_entry ([.ref (ad 0), .int kind, .long p1]) (n := 4) (Nat.le_of_ble_eq_true rfl)
  rw [lg_entry_eq]
  generalize (lg_sl ([.ref (ad 0), .int kind, .long p1]) ++ List.replicate (4 - (lg_sl ([.ref (ad 0), .int kind, .long p1])).length) Slot.unset).toArray = ls at hl ⊢
  have hl : lv_has ls 4 [(0, .ref (ad 0)), (1, .int kind), (2, .long p1)] := hl
  have S0 : CallFix pg m cod cX10_trader 4 s _ wsX10_trader RX10 := ⟨hx, hb, hml, hown, hts⟩
  refine lv_iload_n hx hb dX10_trader_0 rfl (lv_at hl 1 rfl) ?_
  refine kc_s (As := [.int kind]) (rest := []) S0 (c_X10_isKind l D tc s.heap.size ad ct ) (va_cwS 1 hts gX10_trader_X10_isKind rfl rfl rfl (by decide +kernel) ⟨Nat.le_of_ble_eq_true rfl, Nat.le_of_ble_eq_true rfl⟩) hK hw rfl hl.1 rfl (Nat.le_of_ble_eq_true rfl) dX10_trader_1 ⟨Nat.le_of_ble_eq_true rfl, (Nat.le_of_ble_eq_true rfl)⟩ ?_
  refine kb_ifeq (tgt := 21) hx hb dX10_trader_4 (by decide) (fun c_1 => ?_) (fun c_1 => ?_)
  · refine lv_bipush (v := (-2)) hx hb dX10_trader_21 (by decide) ?_
    exact W.iret hx hb hr (fun t ht _ => ⟨rfl, ht⟩) (fun _ h => absurd h List.not_mem_nil) dX10_trader_23
  · refine lv_lload_n hx hb dX10_trader_7 rfl (lv_at hl 2 rfl) ?_
    refine lv_lconst (v := 0) hx hb dX10_trader_8 (by decide) ?_
    refine W.lcmp hx hb dX10_trader_9 ?_
    refine kl_lt (tgt := 21) hx hb dX10_trader_10 (by decide) (fun c_2 => ?_) (fun c_2 => ?_)
    · refine lv_bipush (v := (-2)) hx hb dX10_trader_21 (by decide) ?_
      exact W.iret hx hb hr (fun t ht _ => ⟨rfl, ht⟩) (fun _ h => absurd h List.not_mem_nil) dX10_trader_23
    · refine lv_lload_n hx hb dX10_trader_13 rfl (lv_at hl 2 rfl) ?_
      refine lv_ldc2 (v := 1000000000000) hx hb hown (hts (.constantLong RX10 72 (1000000000000)) (by decide +kernel)) dX10_trader_14 ?_
      refine W.lcmp hx hb dX10_trader_17 ?_
      refine kl_le (tgt := 24) hx hb dX10_trader_18 (by decide) (fun c_3 => ?_) (fun c_3 => ?_)
      · exact absurd ⟨c_1, kr_1 c_2, c_3⟩ hbad
      · refine lv_bipush (v := (-2)) hx hb dX10_trader_21 (by decide) ?_
        exact W.iret hx hb hr (fun t ht _ => ⟨rfl, ht⟩) (fun _ h => absurd h List.not_mem_nil) dX10_trader_23
set_option maxHeartbeats 4000000 in
set_option maxRecDepth 100000 in
theorem c_X10_trader_f (l : Launch) (D : va_G) (tc : Nat → ClassId) (sz : Nat) (ad : Nat → Nat) (ct : Nat → Option va_E) {nt : Nat} {lf : Int32}      {kind : Int32} {p1 : Int64} (h0 : ct 0 = some (.inr (10, [.ref (ad 1), .ref (ad 3), .int (nI nt), .ref (ad 4), .ref (ad 9), .ref (ad 11), .ref (ad 12), .ref (ad 13), .int lf]))) (hk : 0 ≤ kind ∧ kind ≤ 2) (hp0 : 0 ≤ p1) (hp1 : p1 ≤ 1000000000000) (hfull : nt = 6) : Met l yX10_trader wsX10_trader ({ frames := 5, cells := 0, slots := 0, locals := 152 }) (va_Pc [.ref (ad 0), .int kind, .long p1] (kw_B D tc sz ad ct)) (k2_QcV (.int (-4))) 0 0 (fun _ => False) := by
  refine Met.ofW (cc := cX10_trader) (maxL := 4) (ret := (some .int)) (by decide) rfl ?_
  intro pg en s m args below meth cod s₁ B hml hv
  obtain ⟨rfl, hsz, hP0, hK⟩ := hv
  have hx := B.exec
  have hb := B.bytes
  have hr := B.returns
  have hts := atoms_spec (ws := wsX10_trader) B.pre
  have hown : s.vm.findClass RX10 = some m.cls := findClass_of_methodNamed B.named
  have hlocks := B.notSynchronized
  subst hsz
  have hw := kw_H.start hP0
  generalize kw_A ad ct s.heap.size = A at hw
  have hinX10 : ∀ w ∈ wsX100, w ∈ wsX10_trader := by decide +kernel
  have hl := lv_entry ([.ref (ad 0), .int kind, .long p1]) (n := 4) (Nat.le_of_ble_eq_true rfl)
  rw [lg_entry_eq]
  generalize (lg_sl ([.ref (ad 0), .int kind, .long p1]) ++ List.replicate (4 - (lg_sl ([.ref (ad 0), .int kind, .long p1])).length) Slot.unset).toArray = ls at hl ⊢
  have hl : lv_has ls 4 [(0, .ref (ad 0)), (1, .int kind), (2, .long p1)] := hl
  have S0 : CallFix pg m cod cX10_trader 4 s _ wsX10_trader RX10 := ⟨hx, hb, hml, hown, hts⟩
  have hp2 : ¬ (p1 < 0) := kr_4 hp0
  refine lv_iload_n hx hb dX10_trader_0 rfl (lv_at hl 1 rfl) ?_
  refine kc_s (As := [.int kind]) (rest := []) S0 (c_X10_isKind l D tc s.heap.size ad ct ) (va_cwS 1 hts gX10_trader_X10_isKind rfl rfl rfl (by decide +kernel) ⟨Nat.le_of_ble_eq_true rfl, Nat.le_of_ble_eq_true rfl⟩) hK hw rfl hl.1 rfl (Nat.le_of_ble_eq_true rfl) dX10_trader_1 ⟨Nat.le_of_ble_eq_true rfl, (Nat.le_of_ble_eq_true rfl)⟩ ?_
  refine kb_ifeq (tgt := 21) hx hb dX10_trader_4 (by decide) (fun c_1 => ?_) (fun c_1 => ?_)
  · exact absurd hk c_1
  · refine lv_lload_n hx hb dX10_trader_7 rfl (lv_at hl 2 rfl) ?_
    refine lv_lconst (v := 0) hx hb dX10_trader_8 (by decide) ?_
    refine W.lcmp hx hb dX10_trader_9 ?_
    refine kl_lt (tgt := 21) hx hb dX10_trader_10 (by decide) (fun c_2 => ?_) (fun c_2 => ?_)
    · exact absurd c_2 hp2
    · refine lv_lload_n hx hb dX10_trader_13 rfl (lv_at hl 2 rfl) ?_
      refine lv_ldc2 (v := 1000000000000) hx hb hown (hts (.constantLong RX10 72 (1000000000000)) (by decide +kernel)) dX10_trader_14 ?_
      refine W.lcmp hx hb dX10_trader_17 ?_
      refine kl_le (tgt := 24) hx hb dX10_trader_18 (by decide) (fun c_3 => ?_) (fun c_3 => ?_)
      · refine lv_aload_n hx hb dX10_trader_24 rfl (lv_at hl 0 rfl) ?_
        refine kg_get (v := .int (nI nt)) (C := RX10) (T := TX10) (N := 9) hx hb hts hinX10 hown hK hw h0 rfl 2 (by decide) (hts (.fieldLink RX10 60 "BetMaker" "traderCount" "I") (by decide +kernel)) (fun _ h9 => h9) rfl dX10_trader_25 ?_
        refine lv_bipush (v := 6) hx hb dX10_trader_28 (by decide) ?_
        refine kn_lt nt 6 rfl rfl (by omega) (by omega) (tgt := 36) hx hb dX10_trader_30 (by decide) (fun c_4 => ?_) (fun c_4 => ?_)
        · exfalso; omega
        · refine lv_bipush (v := (-4)) hx hb dX10_trader_33 (by decide) ?_
          exact W.iret hx hb hr (fun t ht _ => ⟨rfl, ht⟩) (fun _ h => absurd h List.not_mem_nil) dX10_trader_35
      · exact absurd hp1 c_3
set_option maxHeartbeats 4000000 in
set_option maxRecDepth 100000 in
theorem c_X10_trader_0 (l : Launch) (D : va_G) (tc : Nat → ClassId) (sz : Nat) (ad : Nat → Nat) (ct : Nat → Option va_E) {N nt : Nat} {b cm lf : Int32} {ss g : Int64}  {qt : Nat → Option Nat}   {p1 : Int64} (h0 : ct 0 = some (.inr (10, [.ref (ad 1), .ref (ad 3), .int (nI nt), .ref (ad 4), .ref (ad 9), .ref (ad 11), .ref (ad 12), .ref (ad 13), .int lf]))) (h1 : ct 1 = some (.inr (3, [.ref (ad 2), .int (nI N), .int b, .long ss, .long g, .int cm]))) (h3 : ct 3 = some (eQ tc 4 6 qt)) (hp0 : 0 ≤ p1) (hp1 : p1 ≤ 1000000000000) (hnt : nt < 6) (hN : N ≤ 8) (hka : ct (30 + nt) = none) (hkaa : ad (30 + nt) = sz) (hkb : ct (36 + nt) = none) (hkba : ad (36 + nt) = sz + 1) (hkc : ct (42 + nt) = none) (hkca : ad (42 + nt) = sz + 2) : Met l yX10_trader wsX10_trader ({ frames := 5, cells := 3, slots := 21, locals := 152 }) (va_Pc [.ref (ad 0), .int 0, .long p1] (kw_B D tc sz ad ct)) (kw_Q D ad (kw_A ad ct sz) (some (.int (nI nt))) (kw_up (kw_up (kw_up (kw_up (kw_up ct 0 (.inr (10, [.ref (ad 1), .ref (ad 3), .int (nI (nt + 1)), .ref (ad 4), .ref (ad 9), .ref (ad 11), .ref (ad 12), .ref (ad 13), .int lf]))) 3 (eQ tc 4 6 (va_up qt nt (some (ad (30 + nt)))))) (30 + nt) (.inr (5, [.int (nI nt), .ref (ad (36 + nt)), .ref (ad (42 + nt)), .long p1, .int 0]))) (36 + nt) (eJ tc N (fun _ => 0))) (42 + nt) (eI tc N (kFl (fun _ => 0) 1 N))) 3) 3 21 (kw_A ad ct sz) := by
  refine Met.ofW (cc := cX10_trader) (maxL := 4) (ret := (some .int)) (by decide) rfl ?_
  intro pg en s m args below meth cod s₁ B hml hv
  obtain ⟨rfl, hsz, hP0, hK⟩ := hv
  have hx := B.exec
  have hb := B.bytes
  have hr := B.returns
  have hts := atoms_spec (ws := wsX10_trader) B.pre
  have hown : s.vm.findClass RX10 = some m.cls := findClass_of_methodNamed B.named
  have hlocks := B.notSynchronized
  subst hsz
  have hw := kw_H.start hP0
  generalize hAe : kw_A ad ct s.heap.size = A at hw ⊢
  have hA : ∀ q, s.heap.size ≤ q → A q := fun q h => by rw [← hAe]; exact Or.inr h
  have hinX10 : ∀ w ∈ wsX100, w ∈ wsX10_trader := by decide +kernel
  have hl := lv_entry ([.ref (ad 0), .int 0, .long p1]) (n := 4) (Nat.le_of_ble_eq_true rfl)
  rw [lg_entry_eq]
  generalize (lg_sl ([.ref (ad 0), .int 0, .long p1]) ++ List.replicate (4 - (lg_sl ([.ref (ad 0), .int 0, .long p1])).length) Slot.unset).toArray = ls at hl ⊢
  have hl : lv_has ls 4 [(0, .ref (ad 0)), (1, .int 0), (2, .long p1)] := hl
  have S0 : CallFix pg m cod cX10_trader 4 s _ wsX10_trader RX10 := ⟨hx, hb, hml, hown, hts⟩
  have hfr : ∀ j, j ≠ 0 → j ≠ 3 → j ≠ (30 + nt) → j ≠ (36 + nt) → j ≠ (42 + nt) → ct j = ct j := fun _ _ _ _ _ _ => rfl
  have hp2 : ¬ (p1 < 0) := kr_4 hp0
  have hk : (0 : Int32) ≤ 0 ∧ (0 : Int32) ≤ 2 := by decide
  refine lv_iload_n hx hb dX10_trader_0 rfl (lv_at hl 1 rfl) ?_
  refine kc_s (As := [.int 0]) (rest := []) S0 (c_X10_isKind l D tc s.heap.size ad ct ) (va_cwS 1 hts gX10_trader_X10_isKind rfl rfl rfl (by decide +kernel) ⟨Nat.le_of_ble_eq_true rfl, Nat.le_of_ble_eq_true rfl⟩) hK hw rfl hl.1 rfl (Nat.le_of_ble_eq_true rfl) dX10_trader_1 ⟨Nat.le_of_ble_eq_true rfl, (Nat.le_of_ble_eq_true rfl)⟩ ?_
  refine kb_ifeq (tgt := 21) hx hb dX10_trader_4 (by decide) (fun c_1 => ?_) (fun c_1 => ?_)
  · exact absurd hk c_1
  · refine lv_lload_n hx hb dX10_trader_7 rfl (lv_at hl 2 rfl) ?_
    refine lv_lconst (v := 0) hx hb dX10_trader_8 (by decide) ?_
    refine W.lcmp hx hb dX10_trader_9 ?_
    refine kl_lt (tgt := 21) hx hb dX10_trader_10 (by decide) (fun c_2 => ?_) (fun c_2 => ?_)
    · exact absurd c_2 hp2
    · refine lv_lload_n hx hb dX10_trader_13 rfl (lv_at hl 2 rfl) ?_
      refine lv_ldc2 (v := 1000000000000) hx hb hown (hts (.constantLong RX10 72 (1000000000000)) (by decide +kernel)) dX10_trader_14 ?_
      refine W.lcmp hx hb dX10_trader_17 ?_
      refine kl_le (tgt := 24) hx hb dX10_trader_18 (by decide) (fun c_3 => ?_) (fun c_3 => ?_)
      · refine lv_aload_n hx hb dX10_trader_24 rfl (lv_at hl 0 rfl) ?_
        refine kg_get (v := .int (nI nt)) (C := RX10) (T := TX10) (N := 9) hx hb hts hinX10 hown hK hw h0 rfl 2 (by decide) (hts (.fieldLink RX10 60 "BetMaker" "traderCount" "I") (by decide +kernel)) (fun _ h9 => h9) rfl dX10_trader_25 ?_
        refine lv_bipush (v := 6) hx hb dX10_trader_28 (by decide) ?_
        refine kn_lt nt 6 rfl rfl (by omega) (by omega) (tgt := 36) hx hb dX10_trader_30 (by decide) (fun c_4 => ?_) (fun c_4 => ?_)
        · refine lv_aload_n hx hb dX10_trader_36 rfl (lv_at hl 0 rfl) ?_
          refine kg_get (v := .ref (ad 3)) (C := RX10) (T := TX10) (N := 9) hx hb hts hinX10 hown hK hw h0 rfl 1 (by decide) (hts (.fieldLink RX10 20 "BetMaker" "traders" "[LBetMaker$Plain;") (by decide +kernel)) (fun _ h9 => h9) rfl dX10_trader_37 ?_
          refine lv_aload_n hx hb dX10_trader_40 rfl (lv_at hl 0 rfl) ?_
          refine kg_get (v := .int (nI nt)) (C := RX10) (T := TX10) (N := 9) hx hb hts hinX10 hown hK hw h0 rfl 2 (by decide) (hts (.fieldLink RX10 60 "BetMaker" "traderCount" "I") (by decide +kernel)) (fun _ h9 => h9) rfl dX10_trader_41 ?_
          refine lv_aload_n hx hb dX10_trader_44 rfl (lv_at hl 0 rfl) ?_
          refine lv_iload_n hx hb dX10_trader_45 rfl (lv_at hl 1 rfl) ?_
          refine lv_aload_n hx hb dX10_trader_46 rfl (lv_at hl 0 rfl) ?_
          refine kg_get (v := .int (nI nt)) (C := RX10) (T := TX10) (N := 9) hx hb hts hinX10 hown hK hw h0 rfl 2 (by decide) (hts (.fieldLink RX10 60 "BetMaker" "traderCount" "I") (by decide +kernel)) (fun _ h9 => h9) rfl dX10_trader_47 ?_
          refine lv_lload_n hx hb dX10_trader_50 rfl (lv_at hl 2 rfl) ?_
          refine kc_vu (As := [.int 0, .int (nI nt), .long p1]) (rest := [.int (nI nt), .ref (ad 3)]) S0 (c_X10_newTrader_0 l D tc s.heap.size ad ct (t := nt) (nt := nt) (N := N) h0 h1 (by omega) hka hkaa hkb hkba hkc hkca) (cwV 3 hts gX10_trader_X10_newTrader rfl rfl rfl (by decide +kernel) ⟨Nat.le_of_ble_eq_true rfl, Nat.le_of_ble_eq_true rfl⟩) hK hw hA h0 rfl rfl hl.1 rfl (Nat.le_of_ble_eq_true rfl) dX10_trader_51 ⟨Nat.le_of_ble_eq_true rfl, (Nat.le_of_ble_eq_true rfl)⟩ (fun H locs hw => ?_)
          obtain ⟨ct_5, ect_5⟩ : ∃ z, z = kw_up (kw_up (kw_up ct (30 + nt) (.inr (5, [.int (nI nt), .ref (ad (36 + nt)), .ref (ad (42 + nt)), .long p1, .int 0]))) (36 + nt) (eJ tc N (fun _ => 0))) (42 + nt) (eI tc N (kFl (fun _ => 0) 1 N)) := ⟨_, rfl⟩
          rw [← ect_5] at hw
          have h_6 : ct_5 0 = some (.inr (10, [.ref (ad 1), .ref (ad 3), .int (nI nt), .ref (ad 4), .ref (ad 9), .ref (ad 11), .ref (ad 12), .ref (ad 13), .int lf])) := by rw [ect_5, kw_up_n (by omega), kw_up_n (by omega), kw_up_n (by omega)]; exact h0
          have h_7 : ct_5 1 = some (.inr (3, [.ref (ad 2), .int (nI N), .int b, .long ss, .long g, .int cm])) := by rw [ect_5, kw_up_n (by omega), kw_up_n (by omega), kw_up_n (by omega)]; exact h1
          have h_8 : ct_5 3 = some (eQ tc 4 6 qt) := by rw [ect_5, kw_up_n (by omega), kw_up_n (by omega), kw_up_n (by omega)]; exact h3
          have h_9 : ct_5 (30 + nt) = some (.inr (5, [.int (nI nt), .ref (ad (36 + nt)), .ref (ad (42 + nt)), .long p1, .int 0])) := by rw [ect_5, kw_up_n (by omega), kw_up_n (by omega)]; exact kw_up_s
          have h_10 : ct_5 (36 + nt) = some (eJ tc N (fun _ => 0)) := by rw [ect_5, kw_up_n (by omega)]; exact kw_up_s
          have h_11 : ct_5 (42 + nt) = some (eI tc N (kFl (fun _ => 0) 1 N)) := by rw [ect_5]; exact kw_up_s
          have hfr_12 : ∀ j, j ≠ 0 → j ≠ 3 → j ≠ (30 + nt) → j ≠ (36 + nt) → j ≠ (42 + nt) → ct_5 j = ct j := fun j a0 a1 a2 a3 a4 => by rw [ect_5]; exact (kw_up_n a4).trans ((kw_up_n a3).trans ((kw_up_n a2).trans (hfr j a0 a1 a2 a3 a4)))
          refine kg_aast (r := (RX5, TX5, 5)) hx hb hK hw 4 h_8 rfl h_9 rfl (Or.inl rfl) nt rfl (by omega) (by omega) dX10_trader_54 (fun H locs hw => ?_)
          obtain ⟨ct_13, ect_13⟩ : ∃ z, z = kw_up ct_5 3 (eQ tc 4 6 (va_up qt nt (some (ad (30 + nt))))) := ⟨_, rfl⟩
          rw [← ect_13] at hw
          have h_14 : ct_13 0 = some (.inr (10, [.ref (ad 1), .ref (ad 3), .int (nI nt), .ref (ad 4), .ref (ad 9), .ref (ad 11), .ref (ad 12), .ref (ad 13), .int lf])) := by rw [ect_13, kw_up_n (by omega)]; exact h_6
          have h_15 : ct_13 1 = some (.inr (3, [.ref (ad 2), .int (nI N), .int b, .long ss, .long g, .int cm])) := by rw [ect_13, kw_up_n (by omega)]; exact h_7
          have h_16 : ct_13 (30 + nt) = some (.inr (5, [.int (nI nt), .ref (ad (36 + nt)), .ref (ad (42 + nt)), .long p1, .int 0])) := by rw [ect_13, kw_up_n (by omega)]; exact h_9
          have h_17 : ct_13 (36 + nt) = some (eJ tc N (fun _ => 0)) := by rw [ect_13, kw_up_n (by omega)]; exact h_10
          have h_18 : ct_13 (42 + nt) = some (eI tc N (kFl (fun _ => 0) 1 N)) := by rw [ect_13, kw_up_n (by omega)]; exact h_11
          have h_19 : ct_13 3 = some (eQ tc 4 6 (va_up qt nt (some (ad (30 + nt))))) := by rw [ect_13]; exact kw_up_s
          have hfr_20 : ∀ j, j ≠ 0 → j ≠ 3 → j ≠ (30 + nt) → j ≠ (36 + nt) → j ≠ (42 + nt) → ct_13 j = ct j := fun j a0 a1 a2 a3 a4 => by rw [ect_13]; exact (kw_up_n a1).trans (hfr_12 j a0 a1 a2 a3 a4)
          refine lv_aload_n hx hb dX10_trader_55 rfl (lv_at hl 0 rfl) ?_
          refine lv_dup hx hb dX10_trader_56 rfl ?_
          refine kg_get (v := .int (nI nt)) (C := RX10) (T := TX10) (N := 9) hx hb hts hinX10 hown hK hw h_14 rfl 2 (by decide) (hts (.fieldLink RX10 60 "BetMaker" "traderCount" "I") (by decide +kernel)) (fun _ h9 => h9) rfl dX10_trader_57 ?_
          refine lv_iconst (v := 1) hx hb dX10_trader_60 (by decide) ?_
          refine lv_iadd hx hb dX10_trader_61 ?_
          refine kg_put (v := .int ((nI nt) + 1)) (ty := .int) (C := RX10) (T := TX10) (N := 9) (fs' := [.ref (ad 1), .ref (ad 3), .int ((nI nt) + 1), .ref (ad 4), .ref (ad 9), .ref (ad 11), .ref (ad 12), .ref (ad 13), .int lf]) hx hb hts hinX10 tyX10 tyX10_ok nmX10 hown hK hw h_14 rfl 2 (by decide) (hts (.fieldLink RX10 60 "BetMaker" "traderCount" "I") (by decide +kernel)) (fun _ h9 => h9) rfl (by decide +kernel) rfl rfl (Nat.le_of_ble_eq_true rfl) rfl dX10_trader_62 (fun H locs hw => ?_)
          obtain ⟨ct_21, ect_21⟩ : ∃ z, z = kw_up ct_13 0 (.inr (10, [.ref (ad 1), .ref (ad 3), .int ((nI nt) + 1), .ref (ad 4), .ref (ad 9), .ref (ad 11), .ref (ad 12), .ref (ad 13), .int lf])) := ⟨_, rfl⟩
          rw [← ect_21] at hw
          have h_22 : ct_21 1 = some (.inr (3, [.ref (ad 2), .int (nI N), .int b, .long ss, .long g, .int cm])) := by rw [ect_21, kw_up_n (by omega)]; exact h_15
          have h_23 : ct_21 (30 + nt) = some (.inr (5, [.int (nI nt), .ref (ad (36 + nt)), .ref (ad (42 + nt)), .long p1, .int 0])) := by rw [ect_21, kw_up_n (by omega)]; exact h_16
          have h_24 : ct_21 (36 + nt) = some (eJ tc N (fun _ => 0)) := by rw [ect_21, kw_up_n (by omega)]; exact h_17
          have h_25 : ct_21 (42 + nt) = some (eI tc N (kFl (fun _ => 0) 1 N)) := by rw [ect_21, kw_up_n (by omega)]; exact h_18
          have h_26 : ct_21 3 = some (eQ tc 4 6 (va_up qt nt (some (ad (30 + nt))))) := by rw [ect_21, kw_up_n (by omega)]; exact h_19
          have h_27 : ct_21 0 = some (.inr (10, [.ref (ad 1), .ref (ad 3), .int ((nI nt) + 1), .ref (ad 4), .ref (ad 9), .ref (ad 11), .ref (ad 12), .ref (ad 13), .int lf])) := by rw [ect_21]; exact kw_up_s
          have hfr_28 : ∀ j, j ≠ 0 → j ≠ 3 → j ≠ (30 + nt) → j ≠ (36 + nt) → j ≠ (42 + nt) → ct_21 j = ct j := fun j a0 a1 a2 a3 a4 => by rw [ect_21]; exact (kw_up_n a0).trans (hfr_20 j a0 a1 a2 a3 a4)
          refine lv_aload_n hx hb dX10_trader_65 rfl (lv_at hl 0 rfl) ?_
          refine kg_get (v := .int ((nI nt) + 1)) (C := RX10) (T := TX10) (N := 9) hx hb hts hinX10 hown hK hw h_27 rfl 2 (by decide) (hts (.fieldLink RX10 60 "BetMaker" "traderCount" "I") (by decide +kernel)) (fun _ h9 => h9) rfl dX10_trader_66 ?_
          refine lv_iconst (v := 1) hx hb dX10_trader_69 (by decide) ?_
          refine lv_isub hx hb dX10_trader_70 ?_
          refine W.eq (congrArg (fun z => F0 m 71 ls [.int z]) (show (((nI nt) + 1) - 1) = (nI nt) from by exact Int32.add_sub_cancel _ _)) ?_
          have hq_29 : ct_21 0 = some (.inr (10, [.ref (ad 1), .ref (ad 3), .int (nI (nt + 1)), .ref (ad 4), .ref (ad 9), .ref (ad 11), .ref (ad 12), .ref (ad 13), .int lf])) := h_27.trans (congrArg some (show (.inr (10, [.ref (ad 1), .ref (ad 3), .int ((nI nt) + 1), .ref (ad 4), .ref (ad 9), .ref (ad 11), .ref (ad 12), .ref (ad 13), .int lf]) : va_E) = .inr (10, [.ref (ad 1), .ref (ad 3), .int (nI (nt + 1)), .ref (ad 4), .ref (ad 9), .ref (ad 11), .ref (ad 12), .ref (ad 13), .int lf]) from by rw [← nI_1]))
          have hq_30 := h_26
          have hq_31 := h_23
          have hq_32 := h_24
          have hq_33 := h_25
          have hend := kw_eq5 hq_29 hq_30 hq_31 hq_32 hq_33 hfr_28
          rw [hend] at hw
          refine W.widen (k := 3) (n := 21) (Nat.le_of_ble_eq_true rfl) (Nat.le_of_ble_eq_true rfl) ?_
          exact W.iret hx hb hr (fun t ht _ => ⟨rfl, by rw [ht]; exact hw.1, hw.2.2.1, hw.2.1.F ht, by rw [ht]; exact hw.2.2.2⟩) hw.2.1.2.2 dX10_trader_71
        · exfalso; omega
      · exact absurd hp1 c_3
set_option maxHeartbeats 4000000 in
set_option maxRecDepth 100000 in
theorem c_X10_trader_1 (l : Launch) (D : va_G) (tc : Nat → ClassId) (sz : Nat) (ad : Nat → Nat) (ct : Nat → Option va_E) {N nt : Nat} {b cm lf : Int32} {ss g : Int64}  {qt : Nat → Option Nat}   {p1 : Int64} (h0 : ct 0 = some (.inr (10, [.ref (ad 1), .ref (ad 3), .int (nI nt), .ref (ad 4), .ref (ad 9), .ref (ad 11), .ref (ad 12), .ref (ad 13), .int lf]))) (h1 : ct 1 = some (.inr (3, [.ref (ad 2), .int (nI N), .int b, .long ss, .long g, .int cm]))) (h3 : ct 3 = some (eQ tc 4 6 qt)) (hp0 : 0 ≤ p1) (hp1 : p1 ≤ 1000000000000) (hnt : nt < 6) (hN : N ≤ 8) (hka : ct (30 + nt) = none) (hkaa : ad (30 + nt) = sz) (hkb : ct (36 + nt) = none) (hkba : ad (36 + nt) = sz + 1) (hkc : ct (42 + nt) = none) (hkca : ad (42 + nt) = sz + 2) : Met l yX10_trader wsX10_trader ({ frames := 5, cells := 3, slots := 21, locals := 152 }) (va_Pc [.ref (ad 0), .int 1, .long p1] (kw_B D tc sz ad ct)) (kw_Q D ad (kw_A ad ct sz) (some (.int (nI nt))) (kw_up (kw_up (kw_up (kw_up (kw_up ct 0 (.inr (10, [.ref (ad 1), .ref (ad 3), .int (nI (nt + 1)), .ref (ad 4), .ref (ad 9), .ref (ad 11), .ref (ad 12), .ref (ad 13), .int lf]))) 3 (eQ tc 4 6 (va_up qt nt (some (ad (30 + nt)))))) (30 + nt) (.inr (9, [.int (nI nt), .ref (ad (36 + nt)), .ref (ad (42 + nt)), .long p1, .int 0]))) (36 + nt) (eJ tc N (fun _ => 0))) (42 + nt) (eI tc N (kFl (fun _ => 0) 1 N))) 3) 3 21 (kw_A ad ct sz) := by
  refine Met.ofW (cc := cX10_trader) (maxL := 4) (ret := (some .int)) (by decide) rfl ?_
  intro pg en s m args below meth cod s₁ B hml hv
  obtain ⟨rfl, hsz, hP0, hK⟩ := hv
  have hx := B.exec
  have hb := B.bytes
  have hr := B.returns
  have hts := atoms_spec (ws := wsX10_trader) B.pre
  have hown : s.vm.findClass RX10 = some m.cls := findClass_of_methodNamed B.named
  have hlocks := B.notSynchronized
  subst hsz
  have hw := kw_H.start hP0
  generalize hAe : kw_A ad ct s.heap.size = A at hw ⊢
  have hA : ∀ q, s.heap.size ≤ q → A q := fun q h => by rw [← hAe]; exact Or.inr h
  have hinX10 : ∀ w ∈ wsX100, w ∈ wsX10_trader := by decide +kernel
  have hl := lv_entry ([.ref (ad 0), .int 1, .long p1]) (n := 4) (Nat.le_of_ble_eq_true rfl)
  rw [lg_entry_eq]
  generalize (lg_sl ([.ref (ad 0), .int 1, .long p1]) ++ List.replicate (4 - (lg_sl ([.ref (ad 0), .int 1, .long p1])).length) Slot.unset).toArray = ls at hl ⊢
  have hl : lv_has ls 4 [(0, .ref (ad 0)), (1, .int 1), (2, .long p1)] := hl
  have S0 : CallFix pg m cod cX10_trader 4 s _ wsX10_trader RX10 := ⟨hx, hb, hml, hown, hts⟩
  have hfr : ∀ j, j ≠ 0 → j ≠ 3 → j ≠ (30 + nt) → j ≠ (36 + nt) → j ≠ (42 + nt) → ct j = ct j := fun _ _ _ _ _ _ => rfl
  have hp2 : ¬ (p1 < 0) := kr_4 hp0
  have hk : (0 : Int32) ≤ 1 ∧ (1 : Int32) ≤ 2 := by decide
  refine lv_iload_n hx hb dX10_trader_0 rfl (lv_at hl 1 rfl) ?_
  refine kc_s (As := [.int 1]) (rest := []) S0 (c_X10_isKind l D tc s.heap.size ad ct ) (va_cwS 1 hts gX10_trader_X10_isKind rfl rfl rfl (by decide +kernel) ⟨Nat.le_of_ble_eq_true rfl, Nat.le_of_ble_eq_true rfl⟩) hK hw rfl hl.1 rfl (Nat.le_of_ble_eq_true rfl) dX10_trader_1 ⟨Nat.le_of_ble_eq_true rfl, (Nat.le_of_ble_eq_true rfl)⟩ ?_
  refine kb_ifeq (tgt := 21) hx hb dX10_trader_4 (by decide) (fun c_1 => ?_) (fun c_1 => ?_)
  · exact absurd hk c_1
  · refine lv_lload_n hx hb dX10_trader_7 rfl (lv_at hl 2 rfl) ?_
    refine lv_lconst (v := 0) hx hb dX10_trader_8 (by decide) ?_
    refine W.lcmp hx hb dX10_trader_9 ?_
    refine kl_lt (tgt := 21) hx hb dX10_trader_10 (by decide) (fun c_2 => ?_) (fun c_2 => ?_)
    · exact absurd c_2 hp2
    · refine lv_lload_n hx hb dX10_trader_13 rfl (lv_at hl 2 rfl) ?_
      refine lv_ldc2 (v := 1000000000000) hx hb hown (hts (.constantLong RX10 72 (1000000000000)) (by decide +kernel)) dX10_trader_14 ?_
      refine W.lcmp hx hb dX10_trader_17 ?_
      refine kl_le (tgt := 24) hx hb dX10_trader_18 (by decide) (fun c_3 => ?_) (fun c_3 => ?_)
      · refine lv_aload_n hx hb dX10_trader_24 rfl (lv_at hl 0 rfl) ?_
        refine kg_get (v := .int (nI nt)) (C := RX10) (T := TX10) (N := 9) hx hb hts hinX10 hown hK hw h0 rfl 2 (by decide) (hts (.fieldLink RX10 60 "BetMaker" "traderCount" "I") (by decide +kernel)) (fun _ h9 => h9) rfl dX10_trader_25 ?_
        refine lv_bipush (v := 6) hx hb dX10_trader_28 (by decide) ?_
        refine kn_lt nt 6 rfl rfl (by omega) (by omega) (tgt := 36) hx hb dX10_trader_30 (by decide) (fun c_4 => ?_) (fun c_4 => ?_)
        · refine lv_aload_n hx hb dX10_trader_36 rfl (lv_at hl 0 rfl) ?_
          refine kg_get (v := .ref (ad 3)) (C := RX10) (T := TX10) (N := 9) hx hb hts hinX10 hown hK hw h0 rfl 1 (by decide) (hts (.fieldLink RX10 20 "BetMaker" "traders" "[LBetMaker$Plain;") (by decide +kernel)) (fun _ h9 => h9) rfl dX10_trader_37 ?_
          refine lv_aload_n hx hb dX10_trader_40 rfl (lv_at hl 0 rfl) ?_
          refine kg_get (v := .int (nI nt)) (C := RX10) (T := TX10) (N := 9) hx hb hts hinX10 hown hK hw h0 rfl 2 (by decide) (hts (.fieldLink RX10 60 "BetMaker" "traderCount" "I") (by decide +kernel)) (fun _ h9 => h9) rfl dX10_trader_41 ?_
          refine lv_aload_n hx hb dX10_trader_44 rfl (lv_at hl 0 rfl) ?_
          refine lv_iload_n hx hb dX10_trader_45 rfl (lv_at hl 1 rfl) ?_
          refine lv_aload_n hx hb dX10_trader_46 rfl (lv_at hl 0 rfl) ?_
          refine kg_get (v := .int (nI nt)) (C := RX10) (T := TX10) (N := 9) hx hb hts hinX10 hown hK hw h0 rfl 2 (by decide) (hts (.fieldLink RX10 60 "BetMaker" "traderCount" "I") (by decide +kernel)) (fun _ h9 => h9) rfl dX10_trader_47 ?_
          refine lv_lload_n hx hb dX10_trader_50 rfl (lv_at hl 2 rfl) ?_
          refine kc_vu (As := [.int 1, .int (nI nt), .long p1]) (rest := [.int (nI nt), .ref (ad 3)]) S0 (c_X10_newTrader_1 l D tc s.heap.size ad ct (t := nt) (nt := nt) (N := N) h0 h1 (by omega) hka hkaa hkb hkba hkc hkca) (cwV 3 hts gX10_trader_X10_newTrader rfl rfl rfl (by decide +kernel) ⟨Nat.le_of_ble_eq_true rfl, Nat.le_of_ble_eq_true rfl⟩) hK hw hA h0 rfl rfl hl.1 rfl (Nat.le_of_ble_eq_true rfl) dX10_trader_51 ⟨Nat.le_of_ble_eq_true rfl, (Nat.le_of_ble_eq_true rfl)⟩ (fun H locs hw => ?_)
          obtain ⟨ct_5, ect_5⟩ : ∃ z, z = kw_up (kw_up (kw_up ct (30 + nt) (.inr (9, [.int (nI nt), .ref (ad (36 + nt)), .ref (ad (42 + nt)), .long p1, .int 0]))) (36 + nt) (eJ tc N (fun _ => 0))) (42 + nt) (eI tc N (kFl (fun _ => 0) 1 N)) := ⟨_, rfl⟩
          rw [← ect_5] at hw
          have h_6 : ct_5 0 = some (.inr (10, [.ref (ad 1), .ref (ad 3), .int (nI nt), .ref (ad 4), .ref (ad 9), .ref (ad 11), .ref (ad 12), .ref (ad 13), .int lf])) := by rw [ect_5, kw_up_n (by omega), kw_up_n (by omega), kw_up_n (by omega)]; exact h0
          have h_7 : ct_5 1 = some (.inr (3, [.ref (ad 2), .int (nI N), .int b, .long ss, .long g, .int cm])) := by rw [ect_5, kw_up_n (by omega), kw_up_n (by omega), kw_up_n (by omega)]; exact h1
          have h_8 : ct_5 3 = some (eQ tc 4 6 qt) := by rw [ect_5, kw_up_n (by omega), kw_up_n (by omega), kw_up_n (by omega)]; exact h3
          have h_9 : ct_5 (30 + nt) = some (.inr (9, [.int (nI nt), .ref (ad (36 + nt)), .ref (ad (42 + nt)), .long p1, .int 0])) := by rw [ect_5, kw_up_n (by omega), kw_up_n (by omega)]; exact kw_up_s
          have h_10 : ct_5 (36 + nt) = some (eJ tc N (fun _ => 0)) := by rw [ect_5, kw_up_n (by omega)]; exact kw_up_s
          have h_11 : ct_5 (42 + nt) = some (eI tc N (kFl (fun _ => 0) 1 N)) := by rw [ect_5]; exact kw_up_s
          have hfr_12 : ∀ j, j ≠ 0 → j ≠ 3 → j ≠ (30 + nt) → j ≠ (36 + nt) → j ≠ (42 + nt) → ct_5 j = ct j := fun j a0 a1 a2 a3 a4 => by rw [ect_5]; exact (kw_up_n a4).trans ((kw_up_n a3).trans ((kw_up_n a2).trans (hfr j a0 a1 a2 a3 a4)))
          refine kg_aast (r := (RX9, TX9, 5)) hx hb hK hw 4 h_8 rfl h_9 rfl (Or.inr (va_Nw.use rfl hK.2.2.2.2.2.1.1)) nt rfl (by omega) (by omega) dX10_trader_54 (fun H locs hw => ?_)
          obtain ⟨ct_13, ect_13⟩ : ∃ z, z = kw_up ct_5 3 (eQ tc 4 6 (va_up qt nt (some (ad (30 + nt))))) := ⟨_, rfl⟩
          rw [← ect_13] at hw
          have h_14 : ct_13 0 = some (.inr (10, [.ref (ad 1), .ref (ad 3), .int (nI nt), .ref (ad 4), .ref (ad 9), .ref (ad 11), .ref (ad 12), .ref (ad 13), .int lf])) := by rw [ect_13, kw_up_n (by omega)]; exact h_6
          have h_15 : ct_13 1 = some (.inr (3, [.ref (ad 2), .int (nI N), .int b, .long ss, .long g, .int cm])) := by rw [ect_13, kw_up_n (by omega)]; exact h_7
          have h_16 : ct_13 (30 + nt) = some (.inr (9, [.int (nI nt), .ref (ad (36 + nt)), .ref (ad (42 + nt)), .long p1, .int 0])) := by rw [ect_13, kw_up_n (by omega)]; exact h_9
          have h_17 : ct_13 (36 + nt) = some (eJ tc N (fun _ => 0)) := by rw [ect_13, kw_up_n (by omega)]; exact h_10
          have h_18 : ct_13 (42 + nt) = some (eI tc N (kFl (fun _ => 0) 1 N)) := by rw [ect_13, kw_up_n (by omega)]; exact h_11
          have h_19 : ct_13 3 = some (eQ tc 4 6 (va_up qt nt (some (ad (30 + nt))))) := by rw [ect_13]; exact kw_up_s
          have hfr_20 : ∀ j, j ≠ 0 → j ≠ 3 → j ≠ (30 + nt) → j ≠ (36 + nt) → j ≠ (42 + nt) → ct_13 j = ct j := fun j a0 a1 a2 a3 a4 => by rw [ect_13]; exact (kw_up_n a1).trans (hfr_12 j a0 a1 a2 a3 a4)
          refine lv_aload_n hx hb dX10_trader_55 rfl (lv_at hl 0 rfl) ?_
          refine lv_dup hx hb dX10_trader_56 rfl ?_
          refine kg_get (v := .int (nI nt)) (C := RX10) (T := TX10) (N := 9) hx hb hts hinX10 hown hK hw h_14 rfl 2 (by decide) (hts (.fieldLink RX10 60 "BetMaker" "traderCount" "I") (by decide +kernel)) (fun _ h9 => h9) rfl dX10_trader_57 ?_
          refine lv_iconst (v := 1) hx hb dX10_trader_60 (by decide) ?_
          refine lv_iadd hx hb dX10_trader_61 ?_
          refine kg_put (v := .int ((nI nt) + 1)) (ty := .int) (C := RX10) (T := TX10) (N := 9) (fs' := [.ref (ad 1), .ref (ad 3), .int ((nI nt) + 1), .ref (ad 4), .ref (ad 9), .ref (ad 11), .ref (ad 12), .ref (ad 13), .int lf]) hx hb hts hinX10 tyX10 tyX10_ok nmX10 hown hK hw h_14 rfl 2 (by decide) (hts (.fieldLink RX10 60 "BetMaker" "traderCount" "I") (by decide +kernel)) (fun _ h9 => h9) rfl (by decide +kernel) rfl rfl (Nat.le_of_ble_eq_true rfl) rfl dX10_trader_62 (fun H locs hw => ?_)
          obtain ⟨ct_21, ect_21⟩ : ∃ z, z = kw_up ct_13 0 (.inr (10, [.ref (ad 1), .ref (ad 3), .int ((nI nt) + 1), .ref (ad 4), .ref (ad 9), .ref (ad 11), .ref (ad 12), .ref (ad 13), .int lf])) := ⟨_, rfl⟩
          rw [← ect_21] at hw
          have h_22 : ct_21 1 = some (.inr (3, [.ref (ad 2), .int (nI N), .int b, .long ss, .long g, .int cm])) := by rw [ect_21, kw_up_n (by omega)]; exact h_15
          have h_23 : ct_21 (30 + nt) = some (.inr (9, [.int (nI nt), .ref (ad (36 + nt)), .ref (ad (42 + nt)), .long p1, .int 0])) := by rw [ect_21, kw_up_n (by omega)]; exact h_16
          have h_24 : ct_21 (36 + nt) = some (eJ tc N (fun _ => 0)) := by rw [ect_21, kw_up_n (by omega)]; exact h_17
          have h_25 : ct_21 (42 + nt) = some (eI tc N (kFl (fun _ => 0) 1 N)) := by rw [ect_21, kw_up_n (by omega)]; exact h_18
          have h_26 : ct_21 3 = some (eQ tc 4 6 (va_up qt nt (some (ad (30 + nt))))) := by rw [ect_21, kw_up_n (by omega)]; exact h_19
          have h_27 : ct_21 0 = some (.inr (10, [.ref (ad 1), .ref (ad 3), .int ((nI nt) + 1), .ref (ad 4), .ref (ad 9), .ref (ad 11), .ref (ad 12), .ref (ad 13), .int lf])) := by rw [ect_21]; exact kw_up_s
          have hfr_28 : ∀ j, j ≠ 0 → j ≠ 3 → j ≠ (30 + nt) → j ≠ (36 + nt) → j ≠ (42 + nt) → ct_21 j = ct j := fun j a0 a1 a2 a3 a4 => by rw [ect_21]; exact (kw_up_n a0).trans (hfr_20 j a0 a1 a2 a3 a4)
          refine lv_aload_n hx hb dX10_trader_65 rfl (lv_at hl 0 rfl) ?_
          refine kg_get (v := .int ((nI nt) + 1)) (C := RX10) (T := TX10) (N := 9) hx hb hts hinX10 hown hK hw h_27 rfl 2 (by decide) (hts (.fieldLink RX10 60 "BetMaker" "traderCount" "I") (by decide +kernel)) (fun _ h9 => h9) rfl dX10_trader_66 ?_
          refine lv_iconst (v := 1) hx hb dX10_trader_69 (by decide) ?_
          refine lv_isub hx hb dX10_trader_70 ?_
          refine W.eq (congrArg (fun z => F0 m 71 ls [.int z]) (show (((nI nt) + 1) - 1) = (nI nt) from by exact Int32.add_sub_cancel _ _)) ?_
          have hq_29 : ct_21 0 = some (.inr (10, [.ref (ad 1), .ref (ad 3), .int (nI (nt + 1)), .ref (ad 4), .ref (ad 9), .ref (ad 11), .ref (ad 12), .ref (ad 13), .int lf])) := h_27.trans (congrArg some (show (.inr (10, [.ref (ad 1), .ref (ad 3), .int ((nI nt) + 1), .ref (ad 4), .ref (ad 9), .ref (ad 11), .ref (ad 12), .ref (ad 13), .int lf]) : va_E) = .inr (10, [.ref (ad 1), .ref (ad 3), .int (nI (nt + 1)), .ref (ad 4), .ref (ad 9), .ref (ad 11), .ref (ad 12), .ref (ad 13), .int lf]) from by rw [← nI_1]))
          have hq_30 := h_26
          have hq_31 := h_23
          have hq_32 := h_24
          have hq_33 := h_25
          have hend := kw_eq5 hq_29 hq_30 hq_31 hq_32 hq_33 hfr_28
          rw [hend] at hw
          refine W.widen (k := 3) (n := 21) (Nat.le_of_ble_eq_true rfl) (Nat.le_of_ble_eq_true rfl) ?_
          exact W.iret hx hb hr (fun t ht _ => ⟨rfl, by rw [ht]; exact hw.1, hw.2.2.1, hw.2.1.F ht, by rw [ht]; exact hw.2.2.2⟩) hw.2.1.2.2 dX10_trader_71
        · exfalso; omega
      · exact absurd hp1 c_3
set_option maxHeartbeats 4000000 in
set_option maxRecDepth 100000 in
theorem c_X10_trader_2 (l : Launch) (D : va_G) (tc : Nat → ClassId) (sz : Nat) (ad : Nat → Nat) (ct : Nat → Option va_E) {N nt : Nat} {b cm lf : Int32} {ss g : Int64}  {qt : Nat → Option Nat}   {p1 : Int64} (h0 : ct 0 = some (.inr (10, [.ref (ad 1), .ref (ad 3), .int (nI nt), .ref (ad 4), .ref (ad 9), .ref (ad 11), .ref (ad 12), .ref (ad 13), .int lf]))) (h1 : ct 1 = some (.inr (3, [.ref (ad 2), .int (nI N), .int b, .long ss, .long g, .int cm]))) (h3 : ct 3 = some (eQ tc 4 6 qt)) (hp0 : 0 ≤ p1) (hp1 : p1 ≤ 1000000000000) (hnt : nt < 6) (hN : N ≤ 8) (hka : ct (30 + nt) = none) (hkaa : ad (30 + nt) = sz) (hkb : ct (36 + nt) = none) (hkba : ad (36 + nt) = sz + 1) (hkc : ct (42 + nt) = none) (hkca : ad (42 + nt) = sz + 2) : Met l yX10_trader wsX10_trader ({ frames := 5, cells := 3, slots := 21, locals := 152 }) (va_Pc [.ref (ad 0), .int 2, .long p1] (kw_B D tc sz ad ct)) (kw_Q D ad (kw_A ad ct sz) (some (.int (nI nt))) (kw_up (kw_up (kw_up (kw_up (kw_up ct 0 (.inr (10, [.ref (ad 1), .ref (ad 3), .int (nI (nt + 1)), .ref (ad 4), .ref (ad 9), .ref (ad 11), .ref (ad 12), .ref (ad 13), .int lf]))) 3 (eQ tc 4 6 (va_up qt nt (some (ad (30 + nt)))))) (30 + nt) (.inr (7, [.int (nI nt), .ref (ad (36 + nt)), .ref (ad (42 + nt)), .long p1, .int 0]))) (36 + nt) (eJ tc N (fun _ => 0))) (42 + nt) (eI tc N (kFl (fun _ => 0) 1 N))) 3) 3 21 (kw_A ad ct sz) := by
  refine Met.ofW (cc := cX10_trader) (maxL := 4) (ret := (some .int)) (by decide) rfl ?_
  intro pg en s m args below meth cod s₁ B hml hv
  obtain ⟨rfl, hsz, hP0, hK⟩ := hv
  have hx := B.exec
  have hb := B.bytes
  have hr := B.returns
  have hts := atoms_spec (ws := wsX10_trader) B.pre
  have hown : s.vm.findClass RX10 = some m.cls := findClass_of_methodNamed B.named
  have hlocks := B.notSynchronized
  subst hsz
  have hw := kw_H.start hP0
  generalize hAe : kw_A ad ct s.heap.size = A at hw ⊢
  have hA : ∀ q, s.heap.size ≤ q → A q := fun q h => by rw [← hAe]; exact Or.inr h
  have hinX10 : ∀ w ∈ wsX100, w ∈ wsX10_trader := by decide +kernel
  have hl := lv_entry ([.ref (ad 0), .int 2, .long p1]) (n := 4) (Nat.le_of_ble_eq_true rfl)
  rw [lg_entry_eq]
  generalize (lg_sl ([.ref (ad 0), .int 2, .long p1]) ++ List.replicate (4 - (lg_sl ([.ref (ad 0), .int 2, .long p1])).length) Slot.unset).toArray = ls at hl ⊢
  have hl : lv_has ls 4 [(0, .ref (ad 0)), (1, .int 2), (2, .long p1)] := hl
  have S0 : CallFix pg m cod cX10_trader 4 s _ wsX10_trader RX10 := ⟨hx, hb, hml, hown, hts⟩
  have hfr : ∀ j, j ≠ 0 → j ≠ 3 → j ≠ (30 + nt) → j ≠ (36 + nt) → j ≠ (42 + nt) → ct j = ct j := fun _ _ _ _ _ _ => rfl
  have hp2 : ¬ (p1 < 0) := kr_4 hp0
  have hk : (0 : Int32) ≤ 2 ∧ (2 : Int32) ≤ 2 := by decide
  refine lv_iload_n hx hb dX10_trader_0 rfl (lv_at hl 1 rfl) ?_
  refine kc_s (As := [.int 2]) (rest := []) S0 (c_X10_isKind l D tc s.heap.size ad ct ) (va_cwS 1 hts gX10_trader_X10_isKind rfl rfl rfl (by decide +kernel) ⟨Nat.le_of_ble_eq_true rfl, Nat.le_of_ble_eq_true rfl⟩) hK hw rfl hl.1 rfl (Nat.le_of_ble_eq_true rfl) dX10_trader_1 ⟨Nat.le_of_ble_eq_true rfl, (Nat.le_of_ble_eq_true rfl)⟩ ?_
  refine kb_ifeq (tgt := 21) hx hb dX10_trader_4 (by decide) (fun c_1 => ?_) (fun c_1 => ?_)
  · exact absurd hk c_1
  · refine lv_lload_n hx hb dX10_trader_7 rfl (lv_at hl 2 rfl) ?_
    refine lv_lconst (v := 0) hx hb dX10_trader_8 (by decide) ?_
    refine W.lcmp hx hb dX10_trader_9 ?_
    refine kl_lt (tgt := 21) hx hb dX10_trader_10 (by decide) (fun c_2 => ?_) (fun c_2 => ?_)
    · exact absurd c_2 hp2
    · refine lv_lload_n hx hb dX10_trader_13 rfl (lv_at hl 2 rfl) ?_
      refine lv_ldc2 (v := 1000000000000) hx hb hown (hts (.constantLong RX10 72 (1000000000000)) (by decide +kernel)) dX10_trader_14 ?_
      refine W.lcmp hx hb dX10_trader_17 ?_
      refine kl_le (tgt := 24) hx hb dX10_trader_18 (by decide) (fun c_3 => ?_) (fun c_3 => ?_)
      · refine lv_aload_n hx hb dX10_trader_24 rfl (lv_at hl 0 rfl) ?_
        refine kg_get (v := .int (nI nt)) (C := RX10) (T := TX10) (N := 9) hx hb hts hinX10 hown hK hw h0 rfl 2 (by decide) (hts (.fieldLink RX10 60 "BetMaker" "traderCount" "I") (by decide +kernel)) (fun _ h9 => h9) rfl dX10_trader_25 ?_
        refine lv_bipush (v := 6) hx hb dX10_trader_28 (by decide) ?_
        refine kn_lt nt 6 rfl rfl (by omega) (by omega) (tgt := 36) hx hb dX10_trader_30 (by decide) (fun c_4 => ?_) (fun c_4 => ?_)
        · refine lv_aload_n hx hb dX10_trader_36 rfl (lv_at hl 0 rfl) ?_
          refine kg_get (v := .ref (ad 3)) (C := RX10) (T := TX10) (N := 9) hx hb hts hinX10 hown hK hw h0 rfl 1 (by decide) (hts (.fieldLink RX10 20 "BetMaker" "traders" "[LBetMaker$Plain;") (by decide +kernel)) (fun _ h9 => h9) rfl dX10_trader_37 ?_
          refine lv_aload_n hx hb dX10_trader_40 rfl (lv_at hl 0 rfl) ?_
          refine kg_get (v := .int (nI nt)) (C := RX10) (T := TX10) (N := 9) hx hb hts hinX10 hown hK hw h0 rfl 2 (by decide) (hts (.fieldLink RX10 60 "BetMaker" "traderCount" "I") (by decide +kernel)) (fun _ h9 => h9) rfl dX10_trader_41 ?_
          refine lv_aload_n hx hb dX10_trader_44 rfl (lv_at hl 0 rfl) ?_
          refine lv_iload_n hx hb dX10_trader_45 rfl (lv_at hl 1 rfl) ?_
          refine lv_aload_n hx hb dX10_trader_46 rfl (lv_at hl 0 rfl) ?_
          refine kg_get (v := .int (nI nt)) (C := RX10) (T := TX10) (N := 9) hx hb hts hinX10 hown hK hw h0 rfl 2 (by decide) (hts (.fieldLink RX10 60 "BetMaker" "traderCount" "I") (by decide +kernel)) (fun _ h9 => h9) rfl dX10_trader_47 ?_
          refine lv_lload_n hx hb dX10_trader_50 rfl (lv_at hl 2 rfl) ?_
          refine kc_vu (As := [.int 2, .int (nI nt), .long p1]) (rest := [.int (nI nt), .ref (ad 3)]) S0 (c_X10_newTrader_2 l D tc s.heap.size ad ct (t := nt) (nt := nt) (N := N) h0 h1 (by omega) hka hkaa hkb hkba hkc hkca) (cwV 3 hts gX10_trader_X10_newTrader rfl rfl rfl (by decide +kernel) ⟨Nat.le_of_ble_eq_true rfl, Nat.le_of_ble_eq_true rfl⟩) hK hw hA h0 rfl rfl hl.1 rfl (Nat.le_of_ble_eq_true rfl) dX10_trader_51 ⟨Nat.le_of_ble_eq_true rfl, (Nat.le_of_ble_eq_true rfl)⟩ (fun H locs hw => ?_)
          obtain ⟨ct_5, ect_5⟩ : ∃ z, z = kw_up (kw_up (kw_up ct (30 + nt) (.inr (7, [.int (nI nt), .ref (ad (36 + nt)), .ref (ad (42 + nt)), .long p1, .int 0]))) (36 + nt) (eJ tc N (fun _ => 0))) (42 + nt) (eI tc N (kFl (fun _ => 0) 1 N)) := ⟨_, rfl⟩
          rw [← ect_5] at hw
          have h_6 : ct_5 0 = some (.inr (10, [.ref (ad 1), .ref (ad 3), .int (nI nt), .ref (ad 4), .ref (ad 9), .ref (ad 11), .ref (ad 12), .ref (ad 13), .int lf])) := by rw [ect_5, kw_up_n (by omega), kw_up_n (by omega), kw_up_n (by omega)]; exact h0
          have h_7 : ct_5 1 = some (.inr (3, [.ref (ad 2), .int (nI N), .int b, .long ss, .long g, .int cm])) := by rw [ect_5, kw_up_n (by omega), kw_up_n (by omega), kw_up_n (by omega)]; exact h1
          have h_8 : ct_5 3 = some (eQ tc 4 6 qt) := by rw [ect_5, kw_up_n (by omega), kw_up_n (by omega), kw_up_n (by omega)]; exact h3
          have h_9 : ct_5 (30 + nt) = some (.inr (7, [.int (nI nt), .ref (ad (36 + nt)), .ref (ad (42 + nt)), .long p1, .int 0])) := by rw [ect_5, kw_up_n (by omega), kw_up_n (by omega)]; exact kw_up_s
          have h_10 : ct_5 (36 + nt) = some (eJ tc N (fun _ => 0)) := by rw [ect_5, kw_up_n (by omega)]; exact kw_up_s
          have h_11 : ct_5 (42 + nt) = some (eI tc N (kFl (fun _ => 0) 1 N)) := by rw [ect_5]; exact kw_up_s
          have hfr_12 : ∀ j, j ≠ 0 → j ≠ 3 → j ≠ (30 + nt) → j ≠ (36 + nt) → j ≠ (42 + nt) → ct_5 j = ct j := fun j a0 a1 a2 a3 a4 => by rw [ect_5]; exact (kw_up_n a4).trans ((kw_up_n a3).trans ((kw_up_n a2).trans (hfr j a0 a1 a2 a3 a4)))
          refine kg_aast (r := (RX7, TX7, 5)) hx hb hK hw 4 h_8 rfl h_9 rfl (Or.inr (va_Nw.use rfl hK.2.2.2.2.2.1.2.1)) nt rfl (by omega) (by omega) dX10_trader_54 (fun H locs hw => ?_)
          obtain ⟨ct_13, ect_13⟩ : ∃ z, z = kw_up ct_5 3 (eQ tc 4 6 (va_up qt nt (some (ad (30 + nt))))) := ⟨_, rfl⟩
          rw [← ect_13] at hw
          have h_14 : ct_13 0 = some (.inr (10, [.ref (ad 1), .ref (ad 3), .int (nI nt), .ref (ad 4), .ref (ad 9), .ref (ad 11), .ref (ad 12), .ref (ad 13), .int lf])) := by rw [ect_13, kw_up_n (by omega)]; exact h_6
          have h_15 : ct_13 1 = some (.inr (3, [.ref (ad 2), .int (nI N), .int b, .long ss, .long g, .int cm])) := by rw [ect_13, kw_up_n (by omega)]; exact h_7
          have h_16 : ct_13 (30 + nt) = some (.inr (7, [.int (nI nt), .ref (ad (36 + nt)), .ref (ad (42 + nt)), .long p1, .int 0])) := by rw [ect_13, kw_up_n (by omega)]; exact h_9
          have h_17 : ct_13 (36 + nt) = some (eJ tc N (fun _ => 0)) := by rw [ect_13, kw_up_n (by omega)]; exact h_10
          have h_18 : ct_13 (42 + nt) = some (eI tc N (kFl (fun _ => 0) 1 N)) := by rw [ect_13, kw_up_n (by omega)]; exact h_11
          have h_19 : ct_13 3 = some (eQ tc 4 6 (va_up qt nt (some (ad (30 + nt))))) := by rw [ect_13]; exact kw_up_s
          have hfr_20 : ∀ j, j ≠ 0 → j ≠ 3 → j ≠ (30 + nt) → j ≠ (36 + nt) → j ≠ (42 + nt) → ct_13 j = ct j := fun j a0 a1 a2 a3 a4 => by rw [ect_13]; exact (kw_up_n a1).trans (hfr_12 j a0 a1 a2 a3 a4)
          refine lv_aload_n hx hb dX10_trader_55 rfl (lv_at hl 0 rfl) ?_
          refine lv_dup hx hb dX10_trader_56 rfl ?_
          refine kg_get (v := .int (nI nt)) (C := RX10) (T := TX10) (N := 9) hx hb hts hinX10 hown hK hw h_14 rfl 2 (by decide) (hts (.fieldLink RX10 60 "BetMaker" "traderCount" "I") (by decide +kernel)) (fun _ h9 => h9) rfl dX10_trader_57 ?_
          refine lv_iconst (v := 1) hx hb dX10_trader_60 (by decide) ?_
          refine lv_iadd hx hb dX10_trader_61 ?_
          refine kg_put (v := .int ((nI nt) + 1)) (ty := .int) (C := RX10) (T := TX10) (N := 9) (fs' := [.ref (ad 1), .ref (ad 3), .int ((nI nt) + 1), .ref (ad 4), .ref (ad 9), .ref (ad 11), .ref (ad 12), .ref (ad 13), .int lf]) hx hb hts hinX10 tyX10 tyX10_ok nmX10 hown hK hw h_14 rfl 2 (by decide) (hts (.fieldLink RX10 60 "BetMaker" "traderCount" "I") (by decide +kernel)) (fun _ h9 => h9) rfl (by decide +kernel) rfl rfl (Nat.le_of_ble_eq_true rfl) rfl dX10_trader_62 (fun H locs hw => ?_)
          obtain ⟨ct_21, ect_21⟩ : ∃ z, z = kw_up ct_13 0 (.inr (10, [.ref (ad 1), .ref (ad 3), .int ((nI nt) + 1), .ref (ad 4), .ref (ad 9), .ref (ad 11), .ref (ad 12), .ref (ad 13), .int lf])) := ⟨_, rfl⟩
          rw [← ect_21] at hw
          have h_22 : ct_21 1 = some (.inr (3, [.ref (ad 2), .int (nI N), .int b, .long ss, .long g, .int cm])) := by rw [ect_21, kw_up_n (by omega)]; exact h_15
          have h_23 : ct_21 (30 + nt) = some (.inr (7, [.int (nI nt), .ref (ad (36 + nt)), .ref (ad (42 + nt)), .long p1, .int 0])) := by rw [ect_21, kw_up_n (by omega)]; exact h_16
          have h_24 : ct_21 (36 + nt) = some (eJ tc N (fun _ => 0)) := by rw [ect_21, kw_up_n (by omega)]; exact h_17
          have h_25 : ct_21 (42 + nt) = some (eI tc N (kFl (fun _ => 0) 1 N)) := by rw [ect_21, kw_up_n (by omega)]; exact h_18
          have h_26 : ct_21 3 = some (eQ tc 4 6 (va_up qt nt (some (ad (30 + nt))))) := by rw [ect_21, kw_up_n (by omega)]; exact h_19
          have h_27 : ct_21 0 = some (.inr (10, [.ref (ad 1), .ref (ad 3), .int ((nI nt) + 1), .ref (ad 4), .ref (ad 9), .ref (ad 11), .ref (ad 12), .ref (ad 13), .int lf])) := by rw [ect_21]; exact kw_up_s
          have hfr_28 : ∀ j, j ≠ 0 → j ≠ 3 → j ≠ (30 + nt) → j ≠ (36 + nt) → j ≠ (42 + nt) → ct_21 j = ct j := fun j a0 a1 a2 a3 a4 => by rw [ect_21]; exact (kw_up_n a0).trans (hfr_20 j a0 a1 a2 a3 a4)
          refine lv_aload_n hx hb dX10_trader_65 rfl (lv_at hl 0 rfl) ?_
          refine kg_get (v := .int ((nI nt) + 1)) (C := RX10) (T := TX10) (N := 9) hx hb hts hinX10 hown hK hw h_27 rfl 2 (by decide) (hts (.fieldLink RX10 60 "BetMaker" "traderCount" "I") (by decide +kernel)) (fun _ h9 => h9) rfl dX10_trader_66 ?_
          refine lv_iconst (v := 1) hx hb dX10_trader_69 (by decide) ?_
          refine lv_isub hx hb dX10_trader_70 ?_
          refine W.eq (congrArg (fun z => F0 m 71 ls [.int z]) (show (((nI nt) + 1) - 1) = (nI nt) from by exact Int32.add_sub_cancel _ _)) ?_
          have hq_29 : ct_21 0 = some (.inr (10, [.ref (ad 1), .ref (ad 3), .int (nI (nt + 1)), .ref (ad 4), .ref (ad 9), .ref (ad 11), .ref (ad 12), .ref (ad 13), .int lf])) := h_27.trans (congrArg some (show (.inr (10, [.ref (ad 1), .ref (ad 3), .int ((nI nt) + 1), .ref (ad 4), .ref (ad 9), .ref (ad 11), .ref (ad 12), .ref (ad 13), .int lf]) : va_E) = .inr (10, [.ref (ad 1), .ref (ad 3), .int (nI (nt + 1)), .ref (ad 4), .ref (ad 9), .ref (ad 11), .ref (ad 12), .ref (ad 13), .int lf]) from by rw [← nI_1]))
          have hq_30 := h_26
          have hq_31 := h_23
          have hq_32 := h_24
          have hq_33 := h_25
          have hend := kw_eq5 hq_29 hq_30 hq_31 hq_32 hq_33 hfr_28
          rw [hend] at hw
          refine W.widen (k := 3) (n := 21) (Nat.le_of_ble_eq_true rfl) (Nat.le_of_ble_eq_true rfl) ?_
          exact W.iret hx hb hr (fun t ht _ => ⟨rfl, by rw [ht]; exact hw.1, hw.2.2.1, hw.2.1.F ht, by rw [ht]; exact hw.2.2.2⟩) hw.2.1.2.2 dX10_trader_71
        · exfalso; omega
      · exact absurd hp1 c_3
set_option maxHeartbeats 4000000 in
set_option maxRecDepth 100000 in
theorem c_X10_price (l : Launch) (D : va_G) (tc : Nat → ClassId) (sz : Nat) (ad : Nat → Nat) (ct : Nat → Option va_E) {N nt : Nat} {b cm lf : Int32} {ss g : Int64} {f : Nat → Int64}    {set : Int32} (h0 : ct 0 = some (.inr (10, [.ref (ad 1), .ref (ad 3), .int (nI nt), .ref (ad 4), .ref (ad 9), .ref (ad 11), .ref (ad 12), .ref (ad 13), .int lf]))) (h1 : ct 1 = some (.inr (3, [.ref (ad 2), .int (nI N), .int b, .long ss, .long g, .int cm]))) (h2 : ct 2 = some (eJ tc 8 f)) (hN : N ≤ 8) (hs : 1 ≤ set ∧ set ≤ 1 <<< (nI N &&& 31) - 2) : Met l yX10_price wsX10_price ({ frames := 4, cells := 0, slots := 0, locals := 103 }) (va_Pc [.ref (ad 0), .int set] (kw_B D tc sz ad ct)) (k2_QcV (.long (kSP b N f ss set))) 0 0 (fun _ => False) := by
  refine Met.ofW (cc := cX10_price) (maxL := 2) (ret := (some .long)) (by decide) rfl ?_
  intro pg en s m args below meth cod s₁ B hml hv
  obtain ⟨rfl, hsz, hP0, hK⟩ := hv
  have hx := B.exec
  have hb := B.bytes
  have hr := B.returns
  have hts := atoms_spec (ws := wsX10_price) B.pre
  have hown : s.vm.findClass RX10 = some m.cls := findClass_of_methodNamed B.named
  have hlocks := B.notSynchronized
  subst hsz
  have hw := kw_H.start hP0
  generalize kw_A ad ct s.heap.size = A at hw
  have hinX10 : ∀ w ∈ wsX100, w ∈ wsX10_price := by decide +kernel
  have hl := lv_entry ([.ref (ad 0), .int set]) (n := 2) (Nat.le_of_ble_eq_true rfl)
  rw [lg_entry_eq]
  generalize (lg_sl ([.ref (ad 0), .int set]) ++ List.replicate (2 - (lg_sl ([.ref (ad 0), .int set])).length) Slot.unset).toArray = ls at hl ⊢
  have hl : lv_has ls 2 [(0, .ref (ad 0)), (1, .int set)] := hl
  have S0 : CallFix pg m cod cX10_price 2 s _ wsX10_price RX10 := ⟨hx, hb, hml, hown, hts⟩
  refine lv_aload_n hx hb dX10_price_0 rfl (lv_at hl 0 rfl) ?_
  refine kg_get (v := .ref (ad 1)) (C := RX10) (T := TX10) (N := 9) hx hb hts hinX10 hown hK hw h0 rfl 0 (by decide) (hts (.fieldLink RX10 12 "BetMaker" "maker" "LBetMaker$Maker;") (by decide +kernel)) (fun _ h9 => h9) rfl dX10_price_1 ?_
  refine lv_iload_n hx hb dX10_price_4 rfl (lv_at hl 1 rfl) ?_
  refine kc_v (As := [.int set]) (rest := []) S0 (c_X3_isSet l D tc s.heap.size ad ct (N := N) h1) (cwV 1 hts gX10_price_X3_isSet rfl rfl rfl (by decide +kernel) ⟨Nat.le_of_ble_eq_true rfl, Nat.le_of_ble_eq_true rfl⟩) hK hw h1 rfl rfl hl.1 rfl (Nat.le_of_ble_eq_true rfl) dX10_price_5 ⟨Nat.le_of_ble_eq_true rfl, (Nat.le_of_ble_eq_true rfl)⟩ ?_
  refine kb_ifeq (tgt := 22) hx hb dX10_price_8 (by decide) (fun c_1 => ?_) (fun c_1 => ?_)
  · exact absurd hs c_1
  · refine lv_aload_n hx hb dX10_price_11 rfl (lv_at hl 0 rfl) ?_
    refine kg_get (v := .ref (ad 1)) (C := RX10) (T := TX10) (N := 9) hx hb hts hinX10 hown hK hw h0 rfl 0 (by decide) (hts (.fieldLink RX10 12 "BetMaker" "maker" "LBetMaker$Maker;") (by decide +kernel)) (fun _ h9 => h9) rfl dX10_price_12 ?_
    refine lv_iload_n hx hb dX10_price_15 rfl (lv_at hl 1 rfl) ?_
    refine kc_v (As := [.int set]) (rest := []) S0 (c_X3_setPrice l D tc s.heap.size ad ct (N := N) h1 h2 (by omega)) (cwV 1 hts gX10_price_X3_setPrice rfl rfl rfl (by decide +kernel) ⟨Nat.le_of_ble_eq_true rfl, Nat.le_of_ble_eq_true rfl⟩) hK hw h1 rfl rfl hl.1 rfl (Nat.le_of_ble_eq_true rfl) dX10_price_16 ⟨Nat.le_of_ble_eq_true rfl, (Nat.le_of_ble_eq_true rfl)⟩ ?_
    refine lv_goto (tgt := 25) hx hb dX10_price_19 (by decide) ?_
    exact W.lret hx hb hr (fun t ht _ => ⟨rfl, ht⟩) (fun _ h => absurd h List.not_mem_nil) dX10_price_25
set_option maxHeartbeats 4000000 in
set_option maxRecDepth 100000 in
theorem c_X10_price_n (l : Launch) (D : va_G) (tc : Nat → ClassId) (sz : Nat) (ad : Nat → Nat) (ct : Nat → Option va_E) {N nt : Nat} {b cm lf : Int32} {ss g : Int64}     {set : Int32} (h0 : ct 0 = some (.inr (10, [.ref (ad 1), .ref (ad 3), .int (nI nt), .ref (ad 4), .ref (ad 9), .ref (ad 11), .ref (ad 12), .ref (ad 13), .int lf]))) (h1 : ct 1 = some (.inr (3, [.ref (ad 2), .int (nI N), .int b, .long ss, .long g, .int cm]))) (hs : ¬ (1 ≤ set ∧ set ≤ 1 <<< (nI N &&& 31) - 2)) : Met l yX10_price wsX10_price ({ frames := 4, cells := 0, slots := 0, locals := 103 }) (va_Pc [.ref (ad 0), .int set] (kw_B D tc sz ad ct)) (k2_QcV (.long (-9223372036854775808))) 0 0 (fun _ => False) := by
  refine Met.ofW (cc := cX10_price) (maxL := 2) (ret := (some .long)) (by decide) rfl ?_
  intro pg en s m args below meth cod s₁ B hml hv
  obtain ⟨rfl, hsz, hP0, hK⟩ := hv
  have hx := B.exec
  have hb := B.bytes
  have hr := B.returns
  have hts := atoms_spec (ws := wsX10_price) B.pre
  have hown : s.vm.findClass RX10 = some m.cls := findClass_of_methodNamed B.named
  have hlocks := B.notSynchronized
  subst hsz
  have hw := kw_H.start hP0
  generalize kw_A ad ct s.heap.size = A at hw
  have hinX10 : ∀ w ∈ wsX100, w ∈ wsX10_price := by decide +kernel
  have hl := lv_entry ([.ref (ad 0), .int set]) (n := 2) (Nat.le_of_ble_eq_true rfl)
  rw [lg_entry_eq]
  generalize (lg_sl ([.ref (ad 0), .int set]) ++ List.replicate (2 - (lg_sl ([.ref (ad 0), .int set])).length) Slot.unset).toArray = ls at hl ⊢
  have hl : lv_has ls 2 [(0, .ref (ad 0)), (1, .int set)] := hl
  have S0 : CallFix pg m cod cX10_price 2 s _ wsX10_price RX10 := ⟨hx, hb, hml, hown, hts⟩
  refine lv_aload_n hx hb dX10_price_0 rfl (lv_at hl 0 rfl) ?_
  refine kg_get (v := .ref (ad 1)) (C := RX10) (T := TX10) (N := 9) hx hb hts hinX10 hown hK hw h0 rfl 0 (by decide) (hts (.fieldLink RX10 12 "BetMaker" "maker" "LBetMaker$Maker;") (by decide +kernel)) (fun _ h9 => h9) rfl dX10_price_1 ?_
  refine lv_iload_n hx hb dX10_price_4 rfl (lv_at hl 1 rfl) ?_
  refine kc_v (As := [.int set]) (rest := []) S0 (c_X3_isSet l D tc s.heap.size ad ct (N := N) h1) (cwV 1 hts gX10_price_X3_isSet rfl rfl rfl (by decide +kernel) ⟨Nat.le_of_ble_eq_true rfl, Nat.le_of_ble_eq_true rfl⟩) hK hw h1 rfl rfl hl.1 rfl (Nat.le_of_ble_eq_true rfl) dX10_price_5 ⟨Nat.le_of_ble_eq_true rfl, (Nat.le_of_ble_eq_true rfl)⟩ ?_
  refine kb_ifeq (tgt := 22) hx hb dX10_price_8 (by decide) (fun c_1 => ?_) (fun c_1 => ?_)
  · refine lv_ldc2 (v := (-9223372036854775808)) hx hb hown (hts (.constantLong RX10 85 (-9223372036854775808)) (by decide +kernel)) dX10_price_22 ?_
    exact W.lret hx hb hr (fun t ht _ => ⟨rfl, ht⟩) (fun _ h => absurd h List.not_mem_nil) dX10_price_25
  · exact absurd c_1 hs
set_option maxHeartbeats 4000000 in
set_option maxRecDepth 100000 in
theorem c_X10_quote (l : Launch) (D : va_G) (tc : Nat → ClassId) (sz : Nat) (ad : Nat → Nat) (ct : Nat → Option va_E) {N nt t : Nat} {b cm lf : Int32} {ss g : Int64} {f ho : Nat → Int64} {qt : Nat → Option Nat}   {set x : Int32} (h0 : ct 0 = some (.inr (10, [.ref (ad 1), .ref (ad 3), .int (nI nt), .ref (ad 4), .ref (ad 9), .ref (ad 11), .ref (ad 12), .ref (ad 13), .int lf]))) (h1 : ct 1 = some (.inr (3, [.ref (ad 2), .int (nI N), .int b, .long ss, .long g, .int cm]))) (h2 : ct 2 = some (eJ tc 8 f)) (h3 : ct 3 = some (eQ tc 4 6 qt)) (ht : t < nt) (hnt : nt ≤ 6) (hqt : qt t = some (ad (30 + t))) (hN : N ≤ 8) (ho : (1 ≤ set ∧ set ≤ 1 <<< (nI N &&& 31) - 2) ∧ ¬ x = 0 ∧ (-1000) ≤ x ∧ x ≤ 1000) : Met l yX10_quote wsX10_quote ({ frames := 5, cells := 0, slots := 0, locals := 131 }) (va_Pc [.ref (ad 0), .int (nI t), .int set, .int x] (kw_B D tc sz ad ct)) (k2_QcV (.long (kCost b N f ss set x))) 0 0 (fun _ => False) := by
  refine Met.ofW (cc := cX10_quote) (maxL := 4) (ret := (some .long)) (by decide) rfl ?_
  intro pg en s m args below meth cod s₁ B hml hv
  obtain ⟨rfl, hsz, hP0, hK⟩ := hv
  have hx := B.exec
  have hb := B.bytes
  have hr := B.returns
  have hts := atoms_spec (ws := wsX10_quote) B.pre
  have hown : s.vm.findClass RX10 = some m.cls := findClass_of_methodNamed B.named
  have hlocks := B.notSynchronized
  subst hsz
  have hw := kw_H.start hP0
  generalize kw_A ad ct s.heap.size = A at hw
  have hinX10 : ∀ w ∈ wsX100, w ∈ wsX10_quote := by decide +kernel
  have hl := lv_entry ([.ref (ad 0), .int (nI t), .int set, .int x]) (n := 4) (Nat.le_of_ble_eq_true rfl)
  rw [lg_entry_eq]
  generalize (lg_sl ([.ref (ad 0), .int (nI t), .int set, .int x]) ++ List.replicate (4 - (lg_sl ([.ref (ad 0), .int (nI t), .int set, .int x])).length) Slot.unset).toArray = ls at hl ⊢
  have hl : lv_has ls 4 [(0, .ref (ad 0)), (1, .int (nI t)), (2, .int set), (3, .int x)] := hl
  have S0 : CallFix pg m cod cX10_quote 4 s _ wsX10_quote RX10 := ⟨hx, hb, hml, hown, hts⟩
  refine lv_aload_n hx hb dX10_quote_0 rfl (lv_at hl 0 rfl) ?_
  refine lv_iload_n hx hb dX10_quote_1 rfl (lv_at hl 1 rfl) ?_
  refine kc_v (As := [.int (nI t)]) (rest := []) S0 (c_X10_findTrader l D tc s.heap.size ad ct (t := t) (nt := nt) h0 h3 (by omega) (by omega) hqt) (cwV 1 hts gX10_quote_X10_findTrader rfl rfl rfl (by decide +kernel) ⟨Nat.le_of_ble_eq_true rfl, Nat.le_of_ble_eq_true rfl⟩) hK hw h0 rfl rfl hl.1 rfl (Nat.le_of_ble_eq_true rfl) dX10_quote_2 ⟨Nat.le_of_ble_eq_true rfl, (Nat.le_of_ble_eq_true rfl)⟩ ?_
  refine lv_ifnull hx hb dX10_quote_5 ?_
  refine lv_aload_n hx hb dX10_quote_8 rfl (lv_at hl 0 rfl) ?_
  refine lv_iload_n hx hb dX10_quote_9 rfl (lv_at hl 2 rfl) ?_
  refine lv_iload_n hx hb dX10_quote_10 rfl (lv_at hl 3 rfl) ?_
  refine kc_v (As := [.int set, .int x]) (rest := []) S0 (c_X10_isOrder l D tc s.heap.size ad ct (nt := nt) (N := N) h0 h1) (cwV 2 hts gX10_quote_X10_isOrder rfl rfl rfl (by decide +kernel) ⟨Nat.le_of_ble_eq_true rfl, Nat.le_of_ble_eq_true rfl⟩) hK hw h0 rfl rfl hl.1 rfl (Nat.le_of_ble_eq_true rfl) dX10_quote_11 ⟨Nat.le_of_ble_eq_true rfl, (Nat.le_of_ble_eq_true rfl)⟩ ?_
  refine kb_ifne (tgt := 21) hx hb dX10_quote_14 (by decide) (fun c_1 => ?_) (fun c_1 => ?_)
  · refine lv_aload_n hx hb dX10_quote_21 rfl (lv_at hl 0 rfl) ?_
    refine kg_get (v := .ref (ad 1)) (C := RX10) (T := TX10) (N := 9) hx hb hts hinX10 hown hK hw h0 rfl 0 (by decide) (hts (.fieldLink RX10 12 "BetMaker" "maker" "LBetMaker$Maker;") (by decide +kernel)) (fun _ h9 => h9) rfl dX10_quote_22 ?_
    refine lv_iload_n hx hb dX10_quote_25 rfl (lv_at hl 2 rfl) ?_
    refine lv_iload_n hx hb dX10_quote_26 rfl (lv_at hl 3 rfl) ?_
    refine kc_v (As := [.int set, .int x]) (rest := []) S0 (c_X3_cost l D tc s.heap.size ad ct (N := N) h1 h2 (by omega)) (cwV 2 hts gX10_quote_X3_cost rfl rfl rfl (by decide +kernel) ⟨Nat.le_of_ble_eq_true rfl, Nat.le_of_ble_eq_true rfl⟩) hK hw h1 rfl rfl hl.1 rfl (Nat.le_of_ble_eq_true rfl) dX10_quote_27 ⟨Nat.le_of_ble_eq_true rfl, (Nat.le_of_ble_eq_true rfl)⟩ ?_
    exact W.lret hx hb hr (fun t ht _ => ⟨rfl, ht⟩) (fun _ h => absurd h List.not_mem_nil) dX10_quote_30
  · exact absurd ho c_1
set_option maxHeartbeats 4000000 in
set_option maxRecDepth 100000 in
theorem c_X10_quote_n (l : Launch) (D : va_G) (tc : Nat → ClassId) (sz : Nat) (ad : Nat → Nat) (ct : Nat → Option va_E) {nt : Nat} {lf : Int32}      {t1 set x : Int32} (h0 : ct 0 = some (.inr (10, [.ref (ad 1), .ref (ad 3), .int (nI nt), .ref (ad 4), .ref (ad 9), .ref (ad 11), .ref (ad 12), .ref (ad 13), .int lf]))) (ht : ¬ (0 ≤ t1 ∧ t1 < nI nt)) : Met l yX10_quote wsX10_quote ({ frames := 5, cells := 0, slots := 0, locals := 131 }) (va_Pc [.ref (ad 0), .int t1, .int set, .int x] (kw_B D tc sz ad ct)) (k2_QcV (.long (-9223372036854775808))) 0 0 (fun _ => False) := by
  refine Met.ofW (cc := cX10_quote) (maxL := 4) (ret := (some .long)) (by decide) rfl ?_
  intro pg en s m args below meth cod s₁ B hml hv
  obtain ⟨rfl, hsz, hP0, hK⟩ := hv
  have hx := B.exec
  have hb := B.bytes
  have hr := B.returns
  have hts := atoms_spec (ws := wsX10_quote) B.pre
  have hown : s.vm.findClass RX10 = some m.cls := findClass_of_methodNamed B.named
  have hlocks := B.notSynchronized
  subst hsz
  have hw := kw_H.start hP0
  generalize kw_A ad ct s.heap.size = A at hw
  have hinX10 : ∀ w ∈ wsX100, w ∈ wsX10_quote := by decide +kernel
  have hl := lv_entry ([.ref (ad 0), .int t1, .int set, .int x]) (n := 4) (Nat.le_of_ble_eq_true rfl)
  rw [lg_entry_eq]
  generalize (lg_sl ([.ref (ad 0), .int t1, .int set, .int x]) ++ List.replicate (4 - (lg_sl ([.ref (ad 0), .int t1, .int set, .int x])).length) Slot.unset).toArray = ls at hl ⊢
  have hl : lv_has ls 4 [(0, .ref (ad 0)), (1, .int t1), (2, .int set), (3, .int x)] := hl
  have S0 : CallFix pg m cod cX10_quote 4 s _ wsX10_quote RX10 := ⟨hx, hb, hml, hown, hts⟩
  refine lv_aload_n hx hb dX10_quote_0 rfl (lv_at hl 0 rfl) ?_
  refine lv_iload_n hx hb dX10_quote_1 rfl (lv_at hl 1 rfl) ?_
  refine kc_v (As := [.int t1]) (rest := []) S0 (c_X10_findTrader_n l D tc s.heap.size ad ct (nt := nt) h0 ht) (cwV 1 hts gX10_quote_X10_findTrader rfl rfl rfl (by decide +kernel) ⟨Nat.le_of_ble_eq_true rfl, Nat.le_of_ble_eq_true rfl⟩) hK hw h0 rfl rfl hl.1 rfl (Nat.le_of_ble_eq_true rfl) dX10_quote_2 ⟨Nat.le_of_ble_eq_true rfl, (Nat.le_of_ble_eq_true rfl)⟩ ?_
  refine lv_ifnullN (tgt := 17) hx hb dX10_quote_5 (by decide) ?_
  refine lv_ldc2 (v := (-9223372036854775808)) hx hb hown (hts (.constantLong RX10 85 (-9223372036854775808)) (by decide +kernel)) dX10_quote_17 ?_
  exact W.lret hx hb hr (fun t ht _ => ⟨rfl, ht⟩) (fun _ h => absurd h List.not_mem_nil) dX10_quote_20
set_option maxHeartbeats 4000000 in
set_option maxRecDepth 100000 in
theorem c_X10_quote_m (l : Launch) (D : va_G) (tc : Nat → ClassId) (sz : Nat) (ad : Nat → Nat) (ct : Nat → Option va_E) {N nt t : Nat} {b cm lf : Int32} {ss g : Int64} {ho : Nat → Int64} {qt : Nat → Option Nat}   {set x : Int32} (h0 : ct 0 = some (.inr (10, [.ref (ad 1), .ref (ad 3), .int (nI nt), .ref (ad 4), .ref (ad 9), .ref (ad 11), .ref (ad 12), .ref (ad 13), .int lf]))) (h1 : ct 1 = some (.inr (3, [.ref (ad 2), .int (nI N), .int b, .long ss, .long g, .int cm]))) (h3 : ct 3 = some (eQ tc 4 6 qt)) (ht : t < nt) (hnt : nt ≤ 6) (hqt : qt t = some (ad (30 + t))) (ho : ¬ ((1 ≤ set ∧ set ≤ 1 <<< (nI N &&& 31) - 2) ∧ ¬ x = 0 ∧ (-1000) ≤ x ∧ x ≤ 1000)) : Met l yX10_quote wsX10_quote ({ frames := 5, cells := 0, slots := 0, locals := 131 }) (va_Pc [.ref (ad 0), .int (nI t), .int set, .int x] (kw_B D tc sz ad ct)) (k2_QcV (.long (-9223372036854775808))) 0 0 (fun _ => False) := by
  refine Met.ofW (cc := cX10_quote) (maxL := 4) (ret := (some .long)) (by decide) rfl ?_
  intro pg en s m args below meth cod s₁ B hml hv
  obtain ⟨rfl, hsz, hP0, hK⟩ := hv
  have hx := B.exec
  have hb := B.bytes
  have hr := B.returns
  have hts := atoms_spec (ws := wsX10_quote) B.pre
  have hown : s.vm.findClass RX10 = some m.cls := findClass_of_methodNamed B.named
  have hlocks := B.notSynchronized
  subst hsz
  have hw := kw_H.start hP0
  generalize kw_A ad ct s.heap.size = A at hw
  have hinX10 : ∀ w ∈ wsX100, w ∈ wsX10_quote := by decide +kernel
  have hl := lv_entry ([.ref (ad 0), .int (nI t), .int set, .int x]) (n := 4) (Nat.le_of_ble_eq_true rfl)
  rw [lg_entry_eq]
  generalize (lg_sl ([.ref (ad 0), .int (nI t), .int set, .int x]) ++ List.replicate (4 - (lg_sl ([.ref (ad 0), .int (nI t), .int set, .int x])).length) Slot.unset).toArray = ls at hl ⊢
  have hl : lv_has ls 4 [(0, .ref (ad 0)), (1, .int (nI t)), (2, .int set), (3, .int x)] := hl
  have S0 : CallFix pg m cod cX10_quote 4 s _ wsX10_quote RX10 := ⟨hx, hb, hml, hown, hts⟩
  refine lv_aload_n hx hb dX10_quote_0 rfl (lv_at hl 0 rfl) ?_
  refine lv_iload_n hx hb dX10_quote_1 rfl (lv_at hl 1 rfl) ?_
  refine kc_v (As := [.int (nI t)]) (rest := []) S0 (c_X10_findTrader l D tc s.heap.size ad ct (t := t) (nt := nt) h0 h3 (by omega) (by omega) hqt) (cwV 1 hts gX10_quote_X10_findTrader rfl rfl rfl (by decide +kernel) ⟨Nat.le_of_ble_eq_true rfl, Nat.le_of_ble_eq_true rfl⟩) hK hw h0 rfl rfl hl.1 rfl (Nat.le_of_ble_eq_true rfl) dX10_quote_2 ⟨Nat.le_of_ble_eq_true rfl, (Nat.le_of_ble_eq_true rfl)⟩ ?_
  refine lv_ifnull hx hb dX10_quote_5 ?_
  refine lv_aload_n hx hb dX10_quote_8 rfl (lv_at hl 0 rfl) ?_
  refine lv_iload_n hx hb dX10_quote_9 rfl (lv_at hl 2 rfl) ?_
  refine lv_iload_n hx hb dX10_quote_10 rfl (lv_at hl 3 rfl) ?_
  refine kc_v (As := [.int set, .int x]) (rest := []) S0 (c_X10_isOrder l D tc s.heap.size ad ct (nt := nt) (N := N) h0 h1) (cwV 2 hts gX10_quote_X10_isOrder rfl rfl rfl (by decide +kernel) ⟨Nat.le_of_ble_eq_true rfl, Nat.le_of_ble_eq_true rfl⟩) hK hw h0 rfl rfl hl.1 rfl (Nat.le_of_ble_eq_true rfl) dX10_quote_11 ⟨Nat.le_of_ble_eq_true rfl, (Nat.le_of_ble_eq_true rfl)⟩ ?_
  refine kb_ifne (tgt := 21) hx hb dX10_quote_14 (by decide) (fun c_1 => ?_) (fun c_1 => ?_)
  · exact absurd c_1 ho
  · refine lv_ldc2 (v := (-9223372036854775808)) hx hb hown (hts (.constantLong RX10 85 (-9223372036854775808)) (by decide +kernel)) dX10_quote_17 ?_
    exact W.lret hx hb hr (fun t ht _ => ⟨rfl, ht⟩) (fun _ h => absurd h List.not_mem_nil) dX10_quote_20
set_option maxHeartbeats 4000000 in
set_option maxRecDepth 100000 in
theorem c_X10_barred_u (l : Launch) (D : va_G) (tc : Nat → ClassId) (sz : Nat) (ad : Nat → Nat) (ct : Nat → Option va_E) {nt : Nat} {lf : Int32}      {t1 set x : Int32} (h0 : ct 0 = some (.inr (10, [.ref (ad 1), .ref (ad 3), .int (nI nt), .ref (ad 4), .ref (ad 9), .ref (ad 11), .ref (ad 12), .ref (ad 13), .int lf]))) (ht : ¬ (0 ≤ t1 ∧ t1 < nI nt)) : Met l yX10_barred wsX10_barred ({ frames := 6, cells := 0, slots := 0, locals := 160 }) (va_Pc [.ref (ad 0), .int t1, .int set, .int x] (kw_B D tc sz ad ct)) (k2_QcV (.int (-1))) 0 0 (fun _ => False) := by
  refine Met.ofW (cc := cX10_barred) (maxL := 5) (ret := (some .int)) (by decide) rfl ?_
  intro pg en s m args below meth cod s₁ B hml hv
  obtain ⟨rfl, hsz, hP0, hK⟩ := hv
  have hx := B.exec
  have hb := B.bytes
  have hr := B.returns
  have hts := atoms_spec (ws := wsX10_barred) B.pre
  have hown : s.vm.findClass RX10 = some m.cls := findClass_of_methodNamed B.named
  have hlocks := B.notSynchronized
  subst hsz
  have hw := kw_H.start hP0
  generalize kw_A ad ct s.heap.size = A at hw
  have hinX10 : ∀ w ∈ wsX100, w ∈ wsX10_barred := by decide +kernel
  have hl := lv_entry ([.ref (ad 0), .int t1, .int set, .int x]) (n := 5) (Nat.le_of_ble_eq_true rfl)
  rw [lg_entry_eq]
  generalize (lg_sl ([.ref (ad 0), .int t1, .int set, .int x]) ++ List.replicate (5 - (lg_sl ([.ref (ad 0), .int t1, .int set, .int x])).length) Slot.unset).toArray = ls at hl ⊢
  have hl : lv_has ls 5 [(0, .ref (ad 0)), (1, .int t1), (2, .int set), (3, .int x)] := hl
  have S0 : CallFix pg m cod cX10_barred 5 s _ wsX10_barred RX10 := ⟨hx, hb, hml, hown, hts⟩
  refine lv_aload_n hx hb dX10_barred_0 rfl (lv_at hl 0 rfl) ?_
  refine lv_iload_n hx hb dX10_barred_1 rfl (lv_at hl 1 rfl) ?_
  refine kc_v (As := [.int t1]) (rest := []) S0 (c_X10_findTrader_n l D tc s.heap.size ad ct (nt := nt) h0 ht) (cwV 1 hts gX10_barred_X10_findTrader rfl rfl rfl (by decide +kernel) ⟨Nat.le_of_ble_eq_true rfl, Nat.le_of_ble_eq_true rfl⟩) hK hw h0 rfl rfl hl.1 rfl (Nat.le_of_ble_eq_true rfl) dX10_barred_2 ⟨Nat.le_of_ble_eq_true rfl, (Nat.le_of_ble_eq_true rfl)⟩ ?_
  refine lv_astoreN (lv' := [(4, .null), (0, .ref (ad 0)), (1, .int t1), (2, .int set), (3, .int x)]) hx hb dX10_barred_5 hl (by decide) rfl (fun ls hl => ?_)
  refine lv_aloadN hx hb dX10_barred_7 (lv_at hl 0 rfl) ?_
  refine lv_ifnonnullN hx hb dX10_barred_9 ?_
  refine lv_iconst (v := (-1)) hx hb dX10_barred_12 (by decide) ?_
  exact W.iret hx hb hr (fun t ht _ => ⟨rfl, ht⟩) (fun _ h => absurd h List.not_mem_nil) dX10_barred_13
set_option maxHeartbeats 4000000 in
set_option maxRecDepth 100000 in
theorem c_X10_barred_o (l : Launch) (D : va_G) (tc : Nat → ClassId) (sz : Nat) (ad : Nat → Nat) (ct : Nat → Option va_E) {N nt t : Nat} {b cm lf : Int32} {ss g : Int64} {ho : Nat → Int64} {qt : Nat → Option Nat}   {set x : Int32} (h0 : ct 0 = some (.inr (10, [.ref (ad 1), .ref (ad 3), .int (nI nt), .ref (ad 4), .ref (ad 9), .ref (ad 11), .ref (ad 12), .ref (ad 13), .int lf]))) (h1 : ct 1 = some (.inr (3, [.ref (ad 2), .int (nI N), .int b, .long ss, .long g, .int cm]))) (h3 : ct 3 = some (eQ tc 4 6 qt)) (ht : t < nt) (hnt : nt ≤ 6) (hqt : qt t = some (ad (30 + t))) (ho : ¬ ((1 ≤ set ∧ set ≤ 1 <<< (nI N &&& 31) - 2) ∧ ¬ x = 0 ∧ (-1000) ≤ x ∧ x ≤ 1000)) : Met l yX10_barred wsX10_barred ({ frames := 6, cells := 0, slots := 0, locals := 160 }) (va_Pc [.ref (ad 0), .int (nI t), .int set, .int x] (kw_B D tc sz ad ct)) (k2_QcV (.int (-2))) 0 0 (fun _ => False) := by
  refine Met.ofW (cc := cX10_barred) (maxL := 5) (ret := (some .int)) (by decide) rfl ?_
  intro pg en s m args below meth cod s₁ B hml hv
  obtain ⟨rfl, hsz, hP0, hK⟩ := hv
  have hx := B.exec
  have hb := B.bytes
  have hr := B.returns
  have hts := atoms_spec (ws := wsX10_barred) B.pre
  have hown : s.vm.findClass RX10 = some m.cls := findClass_of_methodNamed B.named
  have hlocks := B.notSynchronized
  subst hsz
  have hw := kw_H.start hP0
  generalize kw_A ad ct s.heap.size = A at hw
  have hinX10 : ∀ w ∈ wsX100, w ∈ wsX10_barred := by decide +kernel
  have hl := lv_entry ([.ref (ad 0), .int (nI t), .int set, .int x]) (n := 5) (Nat.le_of_ble_eq_true rfl)
  rw [lg_entry_eq]
  generalize (lg_sl ([.ref (ad 0), .int (nI t), .int set, .int x]) ++ List.replicate (5 - (lg_sl ([.ref (ad 0), .int (nI t), .int set, .int x])).length) Slot.unset).toArray = ls at hl ⊢
  have hl : lv_has ls 5 [(0, .ref (ad 0)), (1, .int (nI t)), (2, .int set), (3, .int x)] := hl
  have S0 : CallFix pg m cod cX10_barred 5 s _ wsX10_barred RX10 := ⟨hx, hb, hml, hown, hts⟩
  refine lv_aload_n hx hb dX10_barred_0 rfl (lv_at hl 0 rfl) ?_
  refine lv_iload_n hx hb dX10_barred_1 rfl (lv_at hl 1 rfl) ?_
  refine kc_v (As := [.int (nI t)]) (rest := []) S0 (c_X10_findTrader l D tc s.heap.size ad ct (t := t) (nt := nt) h0 h3 (by omega) (by omega) hqt) (cwV 1 hts gX10_barred_X10_findTrader rfl rfl rfl (by decide +kernel) ⟨Nat.le_of_ble_eq_true rfl, Nat.le_of_ble_eq_true rfl⟩) hK hw h0 rfl rfl hl.1 rfl (Nat.le_of_ble_eq_true rfl) dX10_barred_2 ⟨Nat.le_of_ble_eq_true rfl, (Nat.le_of_ble_eq_true rfl)⟩ ?_
  refine lv_astore (lv' := [(4, .ref (ad (30 + t))), (0, .ref (ad 0)), (1, .int (nI t)), (2, .int set), (3, .int x)]) hx hb dX10_barred_5 hl (by decide) rfl (fun ls hl => ?_)
  refine lv_aload hx hb dX10_barred_7 (lv_at hl 0 rfl) ?_
  refine lv_ifnonnull (tgt := 14) hx hb dX10_barred_9 (by decide) ?_
  refine lv_aload_n hx hb dX10_barred_14 rfl (lv_at hl 1 rfl) ?_
  refine lv_iload_n hx hb dX10_barred_15 rfl (lv_at hl 3 rfl) ?_
  refine lv_iload_n hx hb dX10_barred_16 rfl (lv_at hl 4 rfl) ?_
  refine kc_v (As := [.int set, .int x]) (rest := []) S0 (c_X10_isOrder l D tc s.heap.size ad ct (nt := nt) (N := N) h0 h1) (cwV 2 hts gX10_barred_X10_isOrder rfl rfl rfl (by decide +kernel) ⟨Nat.le_of_ble_eq_true rfl, Nat.le_of_ble_eq_true rfl⟩) hK hw h0 rfl rfl hl.1 rfl (Nat.le_of_ble_eq_true rfl) dX10_barred_17 ⟨Nat.le_of_ble_eq_true rfl, (Nat.le_of_ble_eq_true rfl)⟩ ?_
  refine kb_ifne (tgt := 26) hx hb dX10_barred_20 (by decide) (fun c_1 => ?_) (fun c_1 => ?_)
  · exact absurd c_1 ho
  · refine lv_bipush (v := (-2)) hx hb dX10_barred_23 (by decide) ?_
    exact W.iret hx hb hr (fun t ht _ => ⟨rfl, ht⟩) (fun _ h => absurd h List.not_mem_nil) dX10_barred_25
set_option maxHeartbeats 4000000 in
set_option maxRecDepth 100000 in
theorem c_X10_barred_s (l : Launch) (D : va_G) (tc : Nat → ClassId) (sz : Nat) (ad : Nat → Nat) (ct : Nat → Option va_E) {N nt t : Nat} {b cm lf : Int32} {ss g : Int64} {ho : Nat → Int64} {qt : Nat → Option Nat}   {set x : Int32} (h0 : ct 0 = some (.inr (10, [.ref (ad 1), .ref (ad 3), .int (nI nt), .ref (ad 4), .ref (ad 9), .ref (ad 11), .ref (ad 12), .ref (ad 13), .int lf]))) (h1 : ct 1 = some (.inr (3, [.ref (ad 2), .int (nI N), .int b, .long ss, .long g, .int cm]))) (h3 : ct 3 = some (eQ tc 4 6 qt)) (ht : t < nt) (hnt : nt ≤ 6) (hqt : qt t = some (ad (30 + t))) (ho : (1 ≤ set ∧ set ≤ 1 <<< (nI N &&& 31) - 2) ∧ ¬ x = 0 ∧ (-1000) ≤ x ∧ x ≤ 1000) (hm : ¬ cm = (-9)) : Met l yX10_barred wsX10_barred ({ frames := 6, cells := 0, slots := 0, locals := 160 }) (va_Pc [.ref (ad 0), .int (nI t), .int set, .int x] (kw_B D tc sz ad ct)) (k2_QcV (.int (-3))) 0 0 (fun _ => False) := by
  refine Met.ofW (cc := cX10_barred) (maxL := 5) (ret := (some .int)) (by decide) rfl ?_
  intro pg en s m args below meth cod s₁ B hml hv
  obtain ⟨rfl, hsz, hP0, hK⟩ := hv
  have hx := B.exec
  have hb := B.bytes
  have hr := B.returns
  have hts := atoms_spec (ws := wsX10_barred) B.pre
  have hown : s.vm.findClass RX10 = some m.cls := findClass_of_methodNamed B.named
  have hlocks := B.notSynchronized
  subst hsz
  have hw := kw_H.start hP0
  generalize kw_A ad ct s.heap.size = A at hw
  have hinX10 : ∀ w ∈ wsX100, w ∈ wsX10_barred := by decide +kernel
  have hl := lv_entry ([.ref (ad 0), .int (nI t), .int set, .int x]) (n := 5) (Nat.le_of_ble_eq_true rfl)
  rw [lg_entry_eq]
  generalize (lg_sl ([.ref (ad 0), .int (nI t), .int set, .int x]) ++ List.replicate (5 - (lg_sl ([.ref (ad 0), .int (nI t), .int set, .int x])).length) Slot.unset).toArray = ls at hl ⊢
  have hl : lv_has ls 5 [(0, .ref (ad 0)), (1, .int (nI t)), (2, .int set), (3, .int x)] := hl
  have S0 : CallFix pg m cod cX10_barred 5 s _ wsX10_barred RX10 := ⟨hx, hb, hml, hown, hts⟩
  refine lv_aload_n hx hb dX10_barred_0 rfl (lv_at hl 0 rfl) ?_
  refine lv_iload_n hx hb dX10_barred_1 rfl (lv_at hl 1 rfl) ?_
  refine kc_v (As := [.int (nI t)]) (rest := []) S0 (c_X10_findTrader l D tc s.heap.size ad ct (t := t) (nt := nt) h0 h3 (by omega) (by omega) hqt) (cwV 1 hts gX10_barred_X10_findTrader rfl rfl rfl (by decide +kernel) ⟨Nat.le_of_ble_eq_true rfl, Nat.le_of_ble_eq_true rfl⟩) hK hw h0 rfl rfl hl.1 rfl (Nat.le_of_ble_eq_true rfl) dX10_barred_2 ⟨Nat.le_of_ble_eq_true rfl, (Nat.le_of_ble_eq_true rfl)⟩ ?_
  refine lv_astore (lv' := [(4, .ref (ad (30 + t))), (0, .ref (ad 0)), (1, .int (nI t)), (2, .int set), (3, .int x)]) hx hb dX10_barred_5 hl (by decide) rfl (fun ls hl => ?_)
  refine lv_aload hx hb dX10_barred_7 (lv_at hl 0 rfl) ?_
  refine lv_ifnonnull (tgt := 14) hx hb dX10_barred_9 (by decide) ?_
  refine lv_aload_n hx hb dX10_barred_14 rfl (lv_at hl 1 rfl) ?_
  refine lv_iload_n hx hb dX10_barred_15 rfl (lv_at hl 3 rfl) ?_
  refine lv_iload_n hx hb dX10_barred_16 rfl (lv_at hl 4 rfl) ?_
  refine kc_v (As := [.int set, .int x]) (rest := []) S0 (c_X10_isOrder l D tc s.heap.size ad ct (nt := nt) (N := N) h0 h1) (cwV 2 hts gX10_barred_X10_isOrder rfl rfl rfl (by decide +kernel) ⟨Nat.le_of_ble_eq_true rfl, Nat.le_of_ble_eq_true rfl⟩) hK hw h0 rfl rfl hl.1 rfl (Nat.le_of_ble_eq_true rfl) dX10_barred_17 ⟨Nat.le_of_ble_eq_true rfl, (Nat.le_of_ble_eq_true rfl)⟩ ?_
  refine kb_ifne (tgt := 26) hx hb dX10_barred_20 (by decide) (fun c_1 => ?_) (fun c_1 => ?_)
  · refine lv_aload_n hx hb dX10_barred_26 rfl (lv_at hl 1 rfl) ?_
    refine kg_get (v := .ref (ad 1)) (C := RX10) (T := TX10) (N := 9) hx hb hts hinX10 hown hK hw h0 rfl 0 (by decide) (hts (.fieldLink RX10 12 "BetMaker" "maker" "LBetMaker$Maker;") (by decide +kernel)) (fun _ h9 => h9) rfl dX10_barred_27 ?_
    refine kc_v (As := []) (rest := []) S0 (c_X3_hasCome l D tc s.heap.size ad ct (N := N) h1) (cwV 0 hts gX10_barred_X3_hasCome rfl rfl rfl (by decide +kernel) ⟨Nat.le_of_ble_eq_true rfl, Nat.le_of_ble_eq_true rfl⟩) hK hw h1 rfl rfl hl.1 rfl (Nat.le_of_ble_eq_true rfl) dX10_barred_30 ⟨Nat.le_of_ble_eq_true rfl, (Nat.le_of_ble_eq_true rfl)⟩ ?_
    refine kb_ifeq (tgt := 41) hx hb dX10_barred_33 (by decide) (fun c_2 => ?_) (fun c_2 => ?_)
    · exact absurd hm c_2
    · refine lv_bipush (v := (-3)) hx hb dX10_barred_36 (by decide) ?_
      refine lv_goto (tgt := 49) hx hb dX10_barred_38 (by decide) ?_
      exact W.iret hx hb hr (fun t ht _ => ⟨rfl, ht⟩) (fun _ h => absurd h List.not_mem_nil) dX10_barred_49
  · exact absurd ho c_1
set_option maxHeartbeats 4000000 in
set_option maxRecDepth 100000 in
theorem c_X10_barred (l : Launch) (D : va_G) (tc : Nat → ClassId) (sz : Nat) (ad : Nat → Nat) (ct : Nat → Option va_E) {N nt ci t : Nat} {b cm lf nb de : Int32} {ss g pu : Int64} {f ho : Nat → Int64} {qt : Nat → Option Nat}   {set x : Int32} (h0 : ct 0 = some (.inr (10, [.ref (ad 1), .ref (ad 3), .int (nI nt), .ref (ad 4), .ref (ad 9), .ref (ad 11), .ref (ad 12), .ref (ad 13), .int lf]))) (h1 : ct 1 = some (.inr (3, [.ref (ad 2), .int (nI N), .int b, .long ss, .long g, .int cm]))) (h2 : ct 2 = some (eJ tc 8 f)) (h3 : ct 3 = some (eQ tc 4 6 qt)) (h30 : ct (30 + t) = some (.inr (ci, [.int nb, .ref (ad (36 + t)), .ref (ad (42 + t)), .long pu, .int de]))) (h36 : ct (36 + t) = some (eJ tc N ho)) (ht : t < nt) (hnt : nt ≤ 6) (hqt : qt t = some (ad (30 + t))) (hci : ci = 5 ∨ ci = 7 ∨ ci = 9) (hN : N ≤ 8) (hor : (1 ≤ set ∧ set ≤ 1 <<< (nI N &&& 31) - 2) ∧ ¬ x = 0 ∧ (-1000) ≤ x ∧ x ≤ 1000) (hm : cm = (-9)) : Met l yX10_barred wsX10_barred ({ frames := 6, cells := 0, slots := 0, locals := 160 }) (va_Pc [.ref (ad 0), .int (nI t), .int set, .int x] (kw_B D tc sz ad ct)) (k2_QcV (.int (kWb b N f ss set x pu ho))) 0 0 (fun _ => False) := by
  refine Met.ofW (cc := cX10_barred) (maxL := 5) (ret := (some .int)) (by decide) rfl ?_
  intro pg en s m args below meth cod s₁ B hml hv
  obtain ⟨rfl, hsz, hP0, hK⟩ := hv
  have hx := B.exec
  have hb := B.bytes
  have hr := B.returns
  have hts := atoms_spec (ws := wsX10_barred) B.pre
  have hown : s.vm.findClass RX10 = some m.cls := findClass_of_methodNamed B.named
  have hlocks := B.notSynchronized
  subst hsz
  have hw := kw_H.start hP0
  generalize kw_A ad ct s.heap.size = A at hw
  have hinX10 : ∀ w ∈ wsX100, w ∈ wsX10_barred := by decide +kernel
  have hl := lv_entry ([.ref (ad 0), .int (nI t), .int set, .int x]) (n := 5) (Nat.le_of_ble_eq_true rfl)
  rw [lg_entry_eq]
  generalize (lg_sl ([.ref (ad 0), .int (nI t), .int set, .int x]) ++ List.replicate (5 - (lg_sl ([.ref (ad 0), .int (nI t), .int set, .int x])).length) Slot.unset).toArray = ls at hl ⊢
  have hl : lv_has ls 5 [(0, .ref (ad 0)), (1, .int (nI t)), (2, .int set), (3, .int x)] := hl
  have S0 : CallFix pg m cod cX10_barred 5 s _ wsX10_barred RX10 := ⟨hx, hb, hml, hown, hts⟩
  refine lv_aload_n hx hb dX10_barred_0 rfl (lv_at hl 0 rfl) ?_
  refine lv_iload_n hx hb dX10_barred_1 rfl (lv_at hl 1 rfl) ?_
  refine kc_v (As := [.int (nI t)]) (rest := []) S0 (c_X10_findTrader l D tc s.heap.size ad ct (t := t) (nt := nt) h0 h3 (by omega) (by omega) hqt) (cwV 1 hts gX10_barred_X10_findTrader rfl rfl rfl (by decide +kernel) ⟨Nat.le_of_ble_eq_true rfl, Nat.le_of_ble_eq_true rfl⟩) hK hw h0 rfl rfl hl.1 rfl (Nat.le_of_ble_eq_true rfl) dX10_barred_2 ⟨Nat.le_of_ble_eq_true rfl, (Nat.le_of_ble_eq_true rfl)⟩ ?_
  refine lv_astore (lv' := [(4, .ref (ad (30 + t))), (0, .ref (ad 0)), (1, .int (nI t)), (2, .int set), (3, .int x)]) hx hb dX10_barred_5 hl (by decide) rfl (fun ls hl => ?_)
  refine lv_aload hx hb dX10_barred_7 (lv_at hl 0 rfl) ?_
  refine lv_ifnonnull (tgt := 14) hx hb dX10_barred_9 (by decide) ?_
  refine lv_aload_n hx hb dX10_barred_14 rfl (lv_at hl 1 rfl) ?_
  refine lv_iload_n hx hb dX10_barred_15 rfl (lv_at hl 3 rfl) ?_
  refine lv_iload_n hx hb dX10_barred_16 rfl (lv_at hl 4 rfl) ?_
  refine kc_v (As := [.int set, .int x]) (rest := []) S0 (c_X10_isOrder l D tc s.heap.size ad ct (nt := nt) (N := N) h0 h1) (cwV 2 hts gX10_barred_X10_isOrder rfl rfl rfl (by decide +kernel) ⟨Nat.le_of_ble_eq_true rfl, Nat.le_of_ble_eq_true rfl⟩) hK hw h0 rfl rfl hl.1 rfl (Nat.le_of_ble_eq_true rfl) dX10_barred_17 ⟨Nat.le_of_ble_eq_true rfl, (Nat.le_of_ble_eq_true rfl)⟩ ?_
  refine kb_ifne (tgt := 26) hx hb dX10_barred_20 (by decide) (fun c_1 => ?_) (fun c_1 => ?_)
  · refine lv_aload_n hx hb dX10_barred_26 rfl (lv_at hl 1 rfl) ?_
    refine kg_get (v := .ref (ad 1)) (C := RX10) (T := TX10) (N := 9) hx hb hts hinX10 hown hK hw h0 rfl 0 (by decide) (hts (.fieldLink RX10 12 "BetMaker" "maker" "LBetMaker$Maker;") (by decide +kernel)) (fun _ h9 => h9) rfl dX10_barred_27 ?_
    refine kc_v (As := []) (rest := []) S0 (c_X3_hasCome l D tc s.heap.size ad ct (N := N) h1) (cwV 0 hts gX10_barred_X3_hasCome rfl rfl rfl (by decide +kernel) ⟨Nat.le_of_ble_eq_true rfl, Nat.le_of_ble_eq_true rfl⟩) hK hw h1 rfl rfl hl.1 rfl (Nat.le_of_ble_eq_true rfl) dX10_barred_30 ⟨Nat.le_of_ble_eq_true rfl, (Nat.le_of_ble_eq_true rfl)⟩ ?_
    refine kb_ifeq (tgt := 41) hx hb dX10_barred_33 (by decide) (fun c_2 => ?_) (fun c_2 => ?_)
    · refine lv_aload_n hx hb dX10_barred_41 rfl (lv_at hl 1 rfl) ?_
      refine lv_aload hx hb dX10_barred_42 (lv_at hl 0 rfl) ?_
      refine lv_iload_n hx hb dX10_barred_44 rfl (lv_at hl 3 rfl) ?_
      refine lv_iload_n hx hb dX10_barred_45 rfl (lv_at hl 4 rfl) ?_
      refine kc_v (As := [.ref (ad (30 + t)), .int set, .int x]) (rest := []) S0 (c_X10_whyBarred l D tc s.heap.size ad ct (t := t) (nt := nt) (N := N) h0 h1 h2 h30 h36 hci (by omega)) (cwV 3 hts gX10_barred_X10_whyBarred rfl rfl rfl (by decide +kernel) ⟨Nat.le_of_ble_eq_true rfl, Nat.le_of_ble_eq_true rfl⟩) hK hw h0 rfl rfl hl.1 rfl (Nat.le_of_ble_eq_true rfl) dX10_barred_46 ⟨Nat.le_of_ble_eq_true rfl, (Nat.le_of_ble_eq_true rfl)⟩ ?_
      exact W.iret hx hb hr (fun t ht _ => ⟨rfl, ht⟩) (fun _ h => absurd h List.not_mem_nil) dX10_barred_49
    · exact absurd hm c_2
  · exact absurd hor c_1
set_option maxHeartbeats 4000000 in
set_option maxRecDepth 100000 in
theorem c_X10_deal_u (l : Launch) (D : va_G) (tc : Nat → ClassId) (sz : Nat) (ad : Nat → Nat) (ct : Nat → Option va_E) {nt : Nat} {lf : Int32}      {t1 set x : Int32} (h0 : ct 0 = some (.inr (10, [.ref (ad 1), .ref (ad 3), .int (nI nt), .ref (ad 4), .ref (ad 9), .ref (ad 11), .ref (ad 12), .ref (ad 13), .int lf]))) (ht : ¬ (0 ≤ t1 ∧ t1 < nI nt)) : Met l yX10_deal wsX10_deal ({ frames := 6, cells := 0, slots := 0, locals := 160 }) (va_Pc [.ref (ad 0), .int t1, .int set, .int x] (kw_B D tc sz ad ct)) (k2_QcV (.int (-1))) 0 0 (fun _ => False) := by
  refine Met.ofW (cc := cX10_deal) (maxL := 8) (ret := (some .int)) (by decide) rfl ?_
  intro pg en s m args below meth cod s₁ B hml hv
  obtain ⟨rfl, hsz, hP0, hK⟩ := hv
  have hx := B.exec
  have hb := B.bytes
  have hr := B.returns
  have hts := atoms_spec (ws := wsX10_deal) B.pre
  have hown : s.vm.findClass RX10 = some m.cls := findClass_of_methodNamed B.named
  have hlocks := B.notSynchronized
  subst hsz
  have hw := kw_H.start hP0
  generalize kw_A ad ct s.heap.size = A at hw
  have hinX10 : ∀ w ∈ wsX100, w ∈ wsX10_deal := by decide +kernel
  have hl := lv_entry ([.ref (ad 0), .int t1, .int set, .int x]) (n := 8) (Nat.le_of_ble_eq_true rfl)
  rw [lg_entry_eq]
  generalize (lg_sl ([.ref (ad 0), .int t1, .int set, .int x]) ++ List.replicate (8 - (lg_sl ([.ref (ad 0), .int t1, .int set, .int x])).length) Slot.unset).toArray = ls at hl ⊢
  have hl : lv_has ls 8 [(0, .ref (ad 0)), (1, .int t1), (2, .int set), (3, .int x)] := hl
  have S0 : CallFix pg m cod cX10_deal 8 s _ wsX10_deal RX10 := ⟨hx, hb, hml, hown, hts⟩
  refine lv_aload_n hx hb dX10_deal_0 rfl (lv_at hl 0 rfl) ?_
  refine lv_iload_n hx hb dX10_deal_1 rfl (lv_at hl 1 rfl) ?_
  refine kc_v (As := [.int t1]) (rest := []) S0 (c_X10_findTrader_n l D tc s.heap.size ad ct (nt := nt) h0 ht) (cwV 1 hts gX10_deal_X10_findTrader rfl rfl rfl (by decide +kernel) ⟨Nat.le_of_ble_eq_true rfl, Nat.le_of_ble_eq_true rfl⟩) hK hw h0 rfl rfl hl.1 rfl (Nat.le_of_ble_eq_true rfl) dX10_deal_2 ⟨Nat.le_of_ble_eq_true rfl, (Nat.le_of_ble_eq_true rfl)⟩ ?_
  refine lv_astoreN (lv' := [(4, .null), (0, .ref (ad 0)), (1, .int t1), (2, .int set), (3, .int x)]) hx hb dX10_deal_5 hl (by decide) rfl (fun ls hl => ?_)
  refine lv_aloadN hx hb dX10_deal_7 (lv_at hl 0 rfl) ?_
  refine lv_ifnonnullN hx hb dX10_deal_9 ?_
  refine lv_iconst (v := (-1)) hx hb dX10_deal_12 (by decide) ?_
  exact W.iret hx hb hr (fun t ht _ => ⟨rfl, ht⟩) (fun _ h => absurd h List.not_mem_nil) dX10_deal_13
set_option maxHeartbeats 4000000 in
set_option maxRecDepth 100000 in
theorem c_X10_deal_o (l : Launch) (D : va_G) (tc : Nat → ClassId) (sz : Nat) (ad : Nat → Nat) (ct : Nat → Option va_E) {N nt t : Nat} {b cm lf : Int32} {ss g : Int64} {ho : Nat → Int64} {qt : Nat → Option Nat}   {set x : Int32} (h0 : ct 0 = some (.inr (10, [.ref (ad 1), .ref (ad 3), .int (nI nt), .ref (ad 4), .ref (ad 9), .ref (ad 11), .ref (ad 12), .ref (ad 13), .int lf]))) (h1 : ct 1 = some (.inr (3, [.ref (ad 2), .int (nI N), .int b, .long ss, .long g, .int cm]))) (h3 : ct 3 = some (eQ tc 4 6 qt)) (ht : t < nt) (hnt : nt ≤ 6) (hqt : qt t = some (ad (30 + t))) (ho : ¬ ((1 ≤ set ∧ set ≤ 1 <<< (nI N &&& 31) - 2) ∧ ¬ x = 0 ∧ (-1000) ≤ x ∧ x ≤ 1000)) : Met l yX10_deal wsX10_deal ({ frames := 6, cells := 0, slots := 0, locals := 160 }) (va_Pc [.ref (ad 0), .int (nI t), .int set, .int x] (kw_B D tc sz ad ct)) (k2_QcV (.int (-2))) 0 0 (fun _ => False) := by
  refine Met.ofW (cc := cX10_deal) (maxL := 8) (ret := (some .int)) (by decide) rfl ?_
  intro pg en s m args below meth cod s₁ B hml hv
  obtain ⟨rfl, hsz, hP0, hK⟩ := hv
  have hx := B.exec
  have hb := B.bytes
  have hr := B.returns
  have hts := atoms_spec (ws := wsX10_deal) B.pre
  have hown : s.vm.findClass RX10 = some m.cls := findClass_of_methodNamed B.named
  have hlocks := B.notSynchronized
  subst hsz
  have hw := kw_H.start hP0
  generalize kw_A ad ct s.heap.size = A at hw
  have hinX10 : ∀ w ∈ wsX100, w ∈ wsX10_deal := by decide +kernel
  have hl := lv_entry ([.ref (ad 0), .int (nI t), .int set, .int x]) (n := 8) (Nat.le_of_ble_eq_true rfl)
  rw [lg_entry_eq]
  generalize (lg_sl ([.ref (ad 0), .int (nI t), .int set, .int x]) ++ List.replicate (8 - (lg_sl ([.ref (ad 0), .int (nI t), .int set, .int x])).length) Slot.unset).toArray = ls at hl ⊢
  have hl : lv_has ls 8 [(0, .ref (ad 0)), (1, .int (nI t)), (2, .int set), (3, .int x)] := hl
  have S0 : CallFix pg m cod cX10_deal 8 s _ wsX10_deal RX10 := ⟨hx, hb, hml, hown, hts⟩
  refine lv_aload_n hx hb dX10_deal_0 rfl (lv_at hl 0 rfl) ?_
  refine lv_iload_n hx hb dX10_deal_1 rfl (lv_at hl 1 rfl) ?_
  refine kc_v (As := [.int (nI t)]) (rest := []) S0 (c_X10_findTrader l D tc s.heap.size ad ct (t := t) (nt := nt) h0 h3 (by omega) (by omega) hqt) (cwV 1 hts gX10_deal_X10_findTrader rfl rfl rfl (by decide +kernel) ⟨Nat.le_of_ble_eq_true rfl, Nat.le_of_ble_eq_true rfl⟩) hK hw h0 rfl rfl hl.1 rfl (Nat.le_of_ble_eq_true rfl) dX10_deal_2 ⟨Nat.le_of_ble_eq_true rfl, (Nat.le_of_ble_eq_true rfl)⟩ ?_
  refine lv_astore (lv' := [(4, .ref (ad (30 + t))), (0, .ref (ad 0)), (1, .int (nI t)), (2, .int set), (3, .int x)]) hx hb dX10_deal_5 hl (by decide) rfl (fun ls hl => ?_)
  refine lv_aload hx hb dX10_deal_7 (lv_at hl 0 rfl) ?_
  refine lv_ifnonnull (tgt := 14) hx hb dX10_deal_9 (by decide) ?_
  refine lv_aload_n hx hb dX10_deal_14 rfl (lv_at hl 1 rfl) ?_
  refine lv_iload_n hx hb dX10_deal_15 rfl (lv_at hl 3 rfl) ?_
  refine lv_iload_n hx hb dX10_deal_16 rfl (lv_at hl 4 rfl) ?_
  refine kc_v (As := [.int set, .int x]) (rest := []) S0 (c_X10_isOrder l D tc s.heap.size ad ct (nt := nt) (N := N) h0 h1) (cwV 2 hts gX10_deal_X10_isOrder rfl rfl rfl (by decide +kernel) ⟨Nat.le_of_ble_eq_true rfl, Nat.le_of_ble_eq_true rfl⟩) hK hw h0 rfl rfl hl.1 rfl (Nat.le_of_ble_eq_true rfl) dX10_deal_17 ⟨Nat.le_of_ble_eq_true rfl, (Nat.le_of_ble_eq_true rfl)⟩ ?_
  refine kb_ifne (tgt := 26) hx hb dX10_deal_20 (by decide) (fun c_1 => ?_) (fun c_1 => ?_)
  · exact absurd c_1 ho
  · refine lv_bipush (v := (-2)) hx hb dX10_deal_23 (by decide) ?_
    exact W.iret hx hb hr (fun t ht _ => ⟨rfl, ht⟩) (fun _ h => absurd h List.not_mem_nil) dX10_deal_25
set_option maxHeartbeats 4000000 in
set_option maxRecDepth 100000 in
theorem c_X10_deal_s (l : Launch) (D : va_G) (tc : Nat → ClassId) (sz : Nat) (ad : Nat → Nat) (ct : Nat → Option va_E) {N nt t : Nat} {b cm lf : Int32} {ss g : Int64} {ho : Nat → Int64} {qt : Nat → Option Nat}   {set x : Int32} (h0 : ct 0 = some (.inr (10, [.ref (ad 1), .ref (ad 3), .int (nI nt), .ref (ad 4), .ref (ad 9), .ref (ad 11), .ref (ad 12), .ref (ad 13), .int lf]))) (h1 : ct 1 = some (.inr (3, [.ref (ad 2), .int (nI N), .int b, .long ss, .long g, .int cm]))) (h3 : ct 3 = some (eQ tc 4 6 qt)) (ht : t < nt) (hnt : nt ≤ 6) (hqt : qt t = some (ad (30 + t))) (ho : (1 ≤ set ∧ set ≤ 1 <<< (nI N &&& 31) - 2) ∧ ¬ x = 0 ∧ (-1000) ≤ x ∧ x ≤ 1000) (hm : ¬ cm = (-9)) : Met l yX10_deal wsX10_deal ({ frames := 6, cells := 0, slots := 0, locals := 160 }) (va_Pc [.ref (ad 0), .int (nI t), .int set, .int x] (kw_B D tc sz ad ct)) (k2_QcV (.int (-3))) 0 0 (fun _ => False) := by
  refine Met.ofW (cc := cX10_deal) (maxL := 8) (ret := (some .int)) (by decide) rfl ?_
  intro pg en s m args below meth cod s₁ B hml hv
  obtain ⟨rfl, hsz, hP0, hK⟩ := hv
  have hx := B.exec
  have hb := B.bytes
  have hr := B.returns
  have hts := atoms_spec (ws := wsX10_deal) B.pre
  have hown : s.vm.findClass RX10 = some m.cls := findClass_of_methodNamed B.named
  have hlocks := B.notSynchronized
  subst hsz
  have hw := kw_H.start hP0
  generalize kw_A ad ct s.heap.size = A at hw
  have hinX10 : ∀ w ∈ wsX100, w ∈ wsX10_deal := by decide +kernel
  have hl := lv_entry ([.ref (ad 0), .int (nI t), .int set, .int x]) (n := 8) (Nat.le_of_ble_eq_true rfl)
  rw [lg_entry_eq]
  generalize (lg_sl ([.ref (ad 0), .int (nI t), .int set, .int x]) ++ List.replicate (8 - (lg_sl ([.ref (ad 0), .int (nI t), .int set, .int x])).length) Slot.unset).toArray = ls at hl ⊢
  have hl : lv_has ls 8 [(0, .ref (ad 0)), (1, .int (nI t)), (2, .int set), (3, .int x)] := hl
  have S0 : CallFix pg m cod cX10_deal 8 s _ wsX10_deal RX10 := ⟨hx, hb, hml, hown, hts⟩
  refine lv_aload_n hx hb dX10_deal_0 rfl (lv_at hl 0 rfl) ?_
  refine lv_iload_n hx hb dX10_deal_1 rfl (lv_at hl 1 rfl) ?_
  refine kc_v (As := [.int (nI t)]) (rest := []) S0 (c_X10_findTrader l D tc s.heap.size ad ct (t := t) (nt := nt) h0 h3 (by omega) (by omega) hqt) (cwV 1 hts gX10_deal_X10_findTrader rfl rfl rfl (by decide +kernel) ⟨Nat.le_of_ble_eq_true rfl, Nat.le_of_ble_eq_true rfl⟩) hK hw h0 rfl rfl hl.1 rfl (Nat.le_of_ble_eq_true rfl) dX10_deal_2 ⟨Nat.le_of_ble_eq_true rfl, (Nat.le_of_ble_eq_true rfl)⟩ ?_
  refine lv_astore (lv' := [(4, .ref (ad (30 + t))), (0, .ref (ad 0)), (1, .int (nI t)), (2, .int set), (3, .int x)]) hx hb dX10_deal_5 hl (by decide) rfl (fun ls hl => ?_)
  refine lv_aload hx hb dX10_deal_7 (lv_at hl 0 rfl) ?_
  refine lv_ifnonnull (tgt := 14) hx hb dX10_deal_9 (by decide) ?_
  refine lv_aload_n hx hb dX10_deal_14 rfl (lv_at hl 1 rfl) ?_
  refine lv_iload_n hx hb dX10_deal_15 rfl (lv_at hl 3 rfl) ?_
  refine lv_iload_n hx hb dX10_deal_16 rfl (lv_at hl 4 rfl) ?_
  refine kc_v (As := [.int set, .int x]) (rest := []) S0 (c_X10_isOrder l D tc s.heap.size ad ct (nt := nt) (N := N) h0 h1) (cwV 2 hts gX10_deal_X10_isOrder rfl rfl rfl (by decide +kernel) ⟨Nat.le_of_ble_eq_true rfl, Nat.le_of_ble_eq_true rfl⟩) hK hw h0 rfl rfl hl.1 rfl (Nat.le_of_ble_eq_true rfl) dX10_deal_17 ⟨Nat.le_of_ble_eq_true rfl, (Nat.le_of_ble_eq_true rfl)⟩ ?_
  refine kb_ifne (tgt := 26) hx hb dX10_deal_20 (by decide) (fun c_1 => ?_) (fun c_1 => ?_)
  · refine lv_aload_n hx hb dX10_deal_26 rfl (lv_at hl 1 rfl) ?_
    refine kg_get (v := .ref (ad 1)) (C := RX10) (T := TX10) (N := 9) hx hb hts hinX10 hown hK hw h0 rfl 0 (by decide) (hts (.fieldLink RX10 12 "BetMaker" "maker" "LBetMaker$Maker;") (by decide +kernel)) (fun _ h9 => h9) rfl dX10_deal_27 ?_
    refine kc_v (As := []) (rest := []) S0 (c_X3_hasCome l D tc s.heap.size ad ct (N := N) h1) (cwV 0 hts gX10_deal_X3_hasCome rfl rfl rfl (by decide +kernel) ⟨Nat.le_of_ble_eq_true rfl, Nat.le_of_ble_eq_true rfl⟩) hK hw h1 rfl rfl hl.1 rfl (Nat.le_of_ble_eq_true rfl) dX10_deal_30 ⟨Nat.le_of_ble_eq_true rfl, (Nat.le_of_ble_eq_true rfl)⟩ ?_
    refine kb_ifeq (tgt := 39) hx hb dX10_deal_33 (by decide) (fun c_2 => ?_) (fun c_2 => ?_)
    · exact absurd hm c_2
    · refine lv_bipush (v := (-3)) hx hb dX10_deal_36 (by decide) ?_
      exact W.iret hx hb hr (fun t ht _ => ⟨rfl, ht⟩) (fun _ h => absurd h List.not_mem_nil) dX10_deal_38
  · exact absurd ho c_1
set_option maxHeartbeats 4000000 in
set_option maxRecDepth 100000 in
theorem c_X10_deal_w (l : Launch) (D : va_G) (tc : Nat → ClassId) (sz : Nat) (ad : Nat → Nat) (ct : Nat → Option va_E) {N nt ci t : Nat} {b cm lf nb de : Int32} {ss g pu : Int64} {f ho : Nat → Int64} {qt : Nat → Option Nat}   {set x : Int32} (h0 : ct 0 = some (.inr (10, [.ref (ad 1), .ref (ad 3), .int (nI nt), .ref (ad 4), .ref (ad 9), .ref (ad 11), .ref (ad 12), .ref (ad 13), .int lf]))) (h1 : ct 1 = some (.inr (3, [.ref (ad 2), .int (nI N), .int b, .long ss, .long g, .int cm]))) (h2 : ct 2 = some (eJ tc 8 f)) (h3 : ct 3 = some (eQ tc 4 6 qt)) (h30 : ct (30 + t) = some (.inr (ci, [.int nb, .ref (ad (36 + t)), .ref (ad (42 + t)), .long pu, .int de]))) (h36 : ct (36 + t) = some (eJ tc N ho)) (ht : t < nt) (hnt : nt ≤ 6) (hqt : qt t = some (ad (30 + t))) (hci : ci = 5 ∨ ci = 7 ∨ ci = 9) (hN : N ≤ 8) (hor : (1 ≤ set ∧ set ≤ 1 <<< (nI N &&& 31) - 2) ∧ ¬ x = 0 ∧ (-1000) ≤ x ∧ x ≤ 1000) (hm : cm = (-9)) (hy : ¬ (kWb b N f ss set x pu ho = 0)) : Met l yX10_deal wsX10_deal ({ frames := 6, cells := 0, slots := 0, locals := 160 }) (va_Pc [.ref (ad 0), .int (nI t), .int set, .int x] (kw_B D tc sz ad ct)) (k2_QcV (.int ((-20) - kWb b N f ss set x pu ho))) 0 0 (fun _ => False) := by
  refine Met.ofW (cc := cX10_deal) (maxL := 8) (ret := (some .int)) (by decide) rfl ?_
  intro pg en s m args below meth cod s₁ B hml hv
  obtain ⟨rfl, hsz, hP0, hK⟩ := hv
  have hx := B.exec
  have hb := B.bytes
  have hr := B.returns
  have hts := atoms_spec (ws := wsX10_deal) B.pre
  have hown : s.vm.findClass RX10 = some m.cls := findClass_of_methodNamed B.named
  have hlocks := B.notSynchronized
  subst hsz
  have hw := kw_H.start hP0
  generalize kw_A ad ct s.heap.size = A at hw
  have hinX10 : ∀ w ∈ wsX100, w ∈ wsX10_deal := by decide +kernel
  have hl := lv_entry ([.ref (ad 0), .int (nI t), .int set, .int x]) (n := 8) (Nat.le_of_ble_eq_true rfl)
  rw [lg_entry_eq]
  generalize (lg_sl ([.ref (ad 0), .int (nI t), .int set, .int x]) ++ List.replicate (8 - (lg_sl ([.ref (ad 0), .int (nI t), .int set, .int x])).length) Slot.unset).toArray = ls at hl ⊢
  have hl : lv_has ls 8 [(0, .ref (ad 0)), (1, .int (nI t)), (2, .int set), (3, .int x)] := hl
  have S0 : CallFix pg m cod cX10_deal 8 s _ wsX10_deal RX10 := ⟨hx, hb, hml, hown, hts⟩
  refine lv_aload_n hx hb dX10_deal_0 rfl (lv_at hl 0 rfl) ?_
  refine lv_iload_n hx hb dX10_deal_1 rfl (lv_at hl 1 rfl) ?_
  refine kc_v (As := [.int (nI t)]) (rest := []) S0 (c_X10_findTrader l D tc s.heap.size ad ct (t := t) (nt := nt) h0 h3 (by omega) (by omega) hqt) (cwV 1 hts gX10_deal_X10_findTrader rfl rfl rfl (by decide +kernel) ⟨Nat.le_of_ble_eq_true rfl, Nat.le_of_ble_eq_true rfl⟩) hK hw h0 rfl rfl hl.1 rfl (Nat.le_of_ble_eq_true rfl) dX10_deal_2 ⟨Nat.le_of_ble_eq_true rfl, (Nat.le_of_ble_eq_true rfl)⟩ ?_
  refine lv_astore (lv' := [(4, .ref (ad (30 + t))), (0, .ref (ad 0)), (1, .int (nI t)), (2, .int set), (3, .int x)]) hx hb dX10_deal_5 hl (by decide) rfl (fun ls hl => ?_)
  refine lv_aload hx hb dX10_deal_7 (lv_at hl 0 rfl) ?_
  refine lv_ifnonnull (tgt := 14) hx hb dX10_deal_9 (by decide) ?_
  refine lv_aload_n hx hb dX10_deal_14 rfl (lv_at hl 1 rfl) ?_
  refine lv_iload_n hx hb dX10_deal_15 rfl (lv_at hl 3 rfl) ?_
  refine lv_iload_n hx hb dX10_deal_16 rfl (lv_at hl 4 rfl) ?_
  refine kc_v (As := [.int set, .int x]) (rest := []) S0 (c_X10_isOrder l D tc s.heap.size ad ct (nt := nt) (N := N) h0 h1) (cwV 2 hts gX10_deal_X10_isOrder rfl rfl rfl (by decide +kernel) ⟨Nat.le_of_ble_eq_true rfl, Nat.le_of_ble_eq_true rfl⟩) hK hw h0 rfl rfl hl.1 rfl (Nat.le_of_ble_eq_true rfl) dX10_deal_17 ⟨Nat.le_of_ble_eq_true rfl, (Nat.le_of_ble_eq_true rfl)⟩ ?_
  refine kb_ifne (tgt := 26) hx hb dX10_deal_20 (by decide) (fun c_1 => ?_) (fun c_1 => ?_)
  · refine lv_aload_n hx hb dX10_deal_26 rfl (lv_at hl 1 rfl) ?_
    refine kg_get (v := .ref (ad 1)) (C := RX10) (T := TX10) (N := 9) hx hb hts hinX10 hown hK hw h0 rfl 0 (by decide) (hts (.fieldLink RX10 12 "BetMaker" "maker" "LBetMaker$Maker;") (by decide +kernel)) (fun _ h9 => h9) rfl dX10_deal_27 ?_
    refine kc_v (As := []) (rest := []) S0 (c_X3_hasCome l D tc s.heap.size ad ct (N := N) h1) (cwV 0 hts gX10_deal_X3_hasCome rfl rfl rfl (by decide +kernel) ⟨Nat.le_of_ble_eq_true rfl, Nat.le_of_ble_eq_true rfl⟩) hK hw h1 rfl rfl hl.1 rfl (Nat.le_of_ble_eq_true rfl) dX10_deal_30 ⟨Nat.le_of_ble_eq_true rfl, (Nat.le_of_ble_eq_true rfl)⟩ ?_
    refine kb_ifeq (tgt := 39) hx hb dX10_deal_33 (by decide) (fun c_2 => ?_) (fun c_2 => ?_)
    · refine lv_aload_n hx hb dX10_deal_39 rfl (lv_at hl 1 rfl) ?_
      refine lv_aload hx hb dX10_deal_40 (lv_at hl 0 rfl) ?_
      refine lv_iload_n hx hb dX10_deal_42 rfl (lv_at hl 3 rfl) ?_
      refine lv_iload_n hx hb dX10_deal_43 rfl (lv_at hl 4 rfl) ?_
      refine kc_v (As := [.ref (ad (30 + t)), .int set, .int x]) (rest := []) S0 (c_X10_whyBarred l D tc s.heap.size ad ct (t := t) (nt := nt) (N := N) h0 h1 h2 h30 h36 hci (by omega)) (cwV 3 hts gX10_deal_X10_whyBarred rfl rfl rfl (by decide +kernel) ⟨Nat.le_of_ble_eq_true rfl, Nat.le_of_ble_eq_true rfl⟩) hK hw h0 rfl rfl hl.1 rfl (Nat.le_of_ble_eq_true rfl) dX10_deal_44 ⟨Nat.le_of_ble_eq_true rfl, (Nat.le_of_ble_eq_true rfl)⟩ ?_
      refine lv_istore (lv' := [(5, .int (kWb b N f ss set x pu ho)), (4, .ref (ad (30 + t))), (0, .ref (ad 0)), (1, .int (nI t)), (2, .int set), (3, .int x)]) hx hb dX10_deal_47 hl (by decide) rfl (fun ls hl => ?_)
      refine lv_iload hx hb dX10_deal_49 (lv_at hl 0 rfl) ?_
      refine lv_if_eq (tgt := 60) hx hb dX10_deal_51 (by decide) (fun c_3 => ?_) (fun c_3 => ?_)
      · exact absurd c_3 hy
      · refine lv_bipush (v := (-20)) hx hb dX10_deal_54 (by decide) ?_
        refine lv_iload hx hb dX10_deal_56 (lv_at hl 0 rfl) ?_
        refine lv_isub hx hb dX10_deal_58 ?_
        refine W.eq (congrArg (fun z => F0 m 59 ls [.int z]) (show ((-20) - (kWb b N f ss set x pu ho)) = ((-20) - kWb b N f ss set x pu ho) from by rfl)) ?_
        exact W.iret hx hb hr (fun t ht _ => ⟨rfl, ht⟩) (fun _ h => absurd h List.not_mem_nil) dX10_deal_59
    · exact absurd hm c_2
  · exact absurd hor c_1
set_option maxHeartbeats 4000000 in
set_option maxRecDepth 100000 in
theorem c_X10_deal (l : Launch) (D : va_G) (tc : Nat → ClassId) (sz : Nat) (ad : Nat → Nat) (ct : Nat → Option va_E) {N nt ci t : Nat} {b cm lf nb de : Int32} {ss g pu : Int64} {f ho : Nat → Int64} {qt : Nat → Option Nat}   {set x : Int32} (h0 : ct 0 = some (.inr (10, [.ref (ad 1), .ref (ad 3), .int (nI nt), .ref (ad 4), .ref (ad 9), .ref (ad 11), .ref (ad 12), .ref (ad 13), .int lf]))) (h1 : ct 1 = some (.inr (3, [.ref (ad 2), .int (nI N), .int b, .long ss, .long g, .int cm]))) (h2 : ct 2 = some (eJ tc 8 f)) (h3 : ct 3 = some (eQ tc 4 6 qt)) (h30 : ct (30 + t) = some (.inr (ci, [.int nb, .ref (ad (36 + t)), .ref (ad (42 + t)), .long pu, .int de]))) (h36 : ct (36 + t) = some (eJ tc N ho)) (ht : t < nt) (hnt : nt ≤ 6) (hqt : qt t = some (ad (30 + t))) (hci : ci = 5 ∨ ci = 7 ∨ ci = 9) (hN : N ≤ 8) (hor : (1 ≤ set ∧ set ≤ 1 <<< (nI N &&& 31) - 2) ∧ ¬ x = 0 ∧ (-1000) ≤ x ∧ x ≤ 1000) (hm : cm = (-9)) (hy : kWb b N f ss set x pu ho = 0) : Met l yX10_deal wsX10_deal ({ frames := 6, cells := 0, slots := 0, locals := 160 }) (va_Pc [.ref (ad 0), .int (nI t), .int set, .int x] (kw_B D tc sz ad ct)) (kw_Q D ad (kw_A ad ct sz) (some (.int (de + 1))) (kw_up (kw_up (kw_up (kw_up ct 1 (.inr (3, [.ref (ad 2), .int (nI N), .int b, .long (ss + su (kIn set (fun _ => x.toInt64)) N), .long (g + kCost b N f ss set x), .int cm]))) 2 (eJ tc 8 (kAd f set x.toInt64 N))) (30 + t) (.inr (ci, [.int nb, .ref (ad (36 + t)), .ref (ad (42 + t)), .long (pu - kCost b N f ss set x), .int (de + 1)]))) (36 + t) (eJ tc N (kAd ho set x.toInt64 N))) 0) 0 0 (kw_A ad ct sz) := by
  refine Met.ofW (cc := cX10_deal) (maxL := 8) (ret := (some .int)) (by decide) rfl ?_
  intro pg en s m args below meth cod s₁ B hml hv
  obtain ⟨rfl, hsz, hP0, hK⟩ := hv
  have hx := B.exec
  have hb := B.bytes
  have hr := B.returns
  have hts := atoms_spec (ws := wsX10_deal) B.pre
  have hown : s.vm.findClass RX10 = some m.cls := findClass_of_methodNamed B.named
  have hlocks := B.notSynchronized
  subst hsz
  have hw := kw_H.start hP0
  generalize hAe : kw_A ad ct s.heap.size = A at hw ⊢
  have hA : ∀ q, s.heap.size ≤ q → A q := fun q h => by rw [← hAe]; exact Or.inr h
  have hinX10 : ∀ w ∈ wsX100, w ∈ wsX10_deal := by decide +kernel
  have hl := lv_entry ([.ref (ad 0), .int (nI t), .int set, .int x]) (n := 8) (Nat.le_of_ble_eq_true rfl)
  rw [lg_entry_eq]
  generalize (lg_sl ([.ref (ad 0), .int (nI t), .int set, .int x]) ++ List.replicate (8 - (lg_sl ([.ref (ad 0), .int (nI t), .int set, .int x])).length) Slot.unset).toArray = ls at hl ⊢
  have hl : lv_has ls 8 [(0, .ref (ad 0)), (1, .int (nI t)), (2, .int set), (3, .int x)] := hl
  have S0 : CallFix pg m cod cX10_deal 8 s _ wsX10_deal RX10 := ⟨hx, hb, hml, hown, hts⟩
  have hfr : ∀ j, j ≠ 1 → j ≠ 2 → j ≠ (30 + t) → j ≠ (36 + t) → ct j = ct j := fun _ _ _ _ _ => rfl
  refine lv_aload_n hx hb dX10_deal_0 rfl (lv_at hl 0 rfl) ?_
  refine lv_iload_n hx hb dX10_deal_1 rfl (lv_at hl 1 rfl) ?_
  refine kc_v (As := [.int (nI t)]) (rest := []) S0 (c_X10_findTrader l D tc s.heap.size ad ct (t := t) (nt := nt) h0 h3 (by omega) (by omega) hqt) (cwV 1 hts gX10_deal_X10_findTrader rfl rfl rfl (by decide +kernel) ⟨Nat.le_of_ble_eq_true rfl, Nat.le_of_ble_eq_true rfl⟩) hK hw h0 rfl rfl hl.1 rfl (Nat.le_of_ble_eq_true rfl) dX10_deal_2 ⟨Nat.le_of_ble_eq_true rfl, (Nat.le_of_ble_eq_true rfl)⟩ ?_
  refine lv_astore (lv' := [(4, .ref (ad (30 + t))), (0, .ref (ad 0)), (1, .int (nI t)), (2, .int set), (3, .int x)]) hx hb dX10_deal_5 hl (by decide) rfl (fun ls hl => ?_)
  refine lv_aload hx hb dX10_deal_7 (lv_at hl 0 rfl) ?_
  refine lv_ifnonnull (tgt := 14) hx hb dX10_deal_9 (by decide) ?_
  refine lv_aload_n hx hb dX10_deal_14 rfl (lv_at hl 1 rfl) ?_
  refine lv_iload_n hx hb dX10_deal_15 rfl (lv_at hl 3 rfl) ?_
  refine lv_iload_n hx hb dX10_deal_16 rfl (lv_at hl 4 rfl) ?_
  refine kc_v (As := [.int set, .int x]) (rest := []) S0 (c_X10_isOrder l D tc s.heap.size ad ct (nt := nt) (N := N) h0 h1) (cwV 2 hts gX10_deal_X10_isOrder rfl rfl rfl (by decide +kernel) ⟨Nat.le_of_ble_eq_true rfl, Nat.le_of_ble_eq_true rfl⟩) hK hw h0 rfl rfl hl.1 rfl (Nat.le_of_ble_eq_true rfl) dX10_deal_17 ⟨Nat.le_of_ble_eq_true rfl, (Nat.le_of_ble_eq_true rfl)⟩ ?_
  refine kb_ifne (tgt := 26) hx hb dX10_deal_20 (by decide) (fun c_1 => ?_) (fun c_1 => ?_)
  · refine lv_aload_n hx hb dX10_deal_26 rfl (lv_at hl 1 rfl) ?_
    refine kg_get (v := .ref (ad 1)) (C := RX10) (T := TX10) (N := 9) hx hb hts hinX10 hown hK hw h0 rfl 0 (by decide) (hts (.fieldLink RX10 12 "BetMaker" "maker" "LBetMaker$Maker;") (by decide +kernel)) (fun _ h9 => h9) rfl dX10_deal_27 ?_
    refine kc_v (As := []) (rest := []) S0 (c_X3_hasCome l D tc s.heap.size ad ct (N := N) h1) (cwV 0 hts gX10_deal_X3_hasCome rfl rfl rfl (by decide +kernel) ⟨Nat.le_of_ble_eq_true rfl, Nat.le_of_ble_eq_true rfl⟩) hK hw h1 rfl rfl hl.1 rfl (Nat.le_of_ble_eq_true rfl) dX10_deal_30 ⟨Nat.le_of_ble_eq_true rfl, (Nat.le_of_ble_eq_true rfl)⟩ ?_
    refine kb_ifeq (tgt := 39) hx hb dX10_deal_33 (by decide) (fun c_2 => ?_) (fun c_2 => ?_)
    · refine lv_aload_n hx hb dX10_deal_39 rfl (lv_at hl 1 rfl) ?_
      refine lv_aload hx hb dX10_deal_40 (lv_at hl 0 rfl) ?_
      refine lv_iload_n hx hb dX10_deal_42 rfl (lv_at hl 3 rfl) ?_
      refine lv_iload_n hx hb dX10_deal_43 rfl (lv_at hl 4 rfl) ?_
      refine kc_v (As := [.ref (ad (30 + t)), .int set, .int x]) (rest := []) S0 (c_X10_whyBarred l D tc s.heap.size ad ct (t := t) (nt := nt) (N := N) h0 h1 h2 h30 h36 hci (by omega)) (cwV 3 hts gX10_deal_X10_whyBarred rfl rfl rfl (by decide +kernel) ⟨Nat.le_of_ble_eq_true rfl, Nat.le_of_ble_eq_true rfl⟩) hK hw h0 rfl rfl hl.1 rfl (Nat.le_of_ble_eq_true rfl) dX10_deal_44 ⟨Nat.le_of_ble_eq_true rfl, (Nat.le_of_ble_eq_true rfl)⟩ ?_
      refine lv_istore (lv' := [(5, .int (kWb b N f ss set x pu ho)), (4, .ref (ad (30 + t))), (0, .ref (ad 0)), (1, .int (nI t)), (2, .int set), (3, .int x)]) hx hb dX10_deal_47 hl (by decide) rfl (fun ls hl => ?_)
      refine lv_iload hx hb dX10_deal_49 (lv_at hl 0 rfl) ?_
      refine lv_if_eq (tgt := 60) hx hb dX10_deal_51 (by decide) (fun c_3 => ?_) (fun c_3 => ?_)
      · refine lv_aload_n hx hb dX10_deal_60 rfl (lv_at hl 2 rfl) ?_
        refine kg_get (v := .ref (ad 1)) (C := RX10) (T := TX10) (N := 9) hx hb hts hinX10 hown hK hw h0 rfl 0 (by decide) (hts (.fieldLink RX10 12 "BetMaker" "maker" "LBetMaker$Maker;") (by decide +kernel)) (fun _ h9 => h9) rfl dX10_deal_61 ?_
        refine lv_iload_n hx hb dX10_deal_64 rfl (lv_at hl 4 rfl) ?_
        refine lv_iload_n hx hb dX10_deal_65 rfl (lv_at hl 5 rfl) ?_
        refine kc_v (As := [.int set, .int x]) (rest := []) S0 (c_X3_cost l D tc s.heap.size ad ct (N := N) h1 h2 (by omega)) (cwV 2 hts gX10_deal_X3_cost rfl rfl rfl (by decide +kernel) ⟨Nat.le_of_ble_eq_true rfl, Nat.le_of_ble_eq_true rfl⟩) hK hw h1 rfl rfl hl.1 rfl (Nat.le_of_ble_eq_true rfl) dX10_deal_66 ⟨Nat.le_of_ble_eq_true rfl, (Nat.le_of_ble_eq_true rfl)⟩ ?_
        refine lv_lstore (lv' := [(6, .long (kCost b N f ss set x)), (5, .int (kWb b N f ss set x pu ho)), (4, .ref (ad (30 + t))), (0, .ref (ad 0)), (1, .int (nI t)), (2, .int set), (3, .int x)]) hx hb dX10_deal_69 hl (by decide) rfl (fun ls hl => ?_)
        refine lv_aload_n hx hb dX10_deal_71 rfl (lv_at hl 3 rfl) ?_
        refine kg_get (v := .ref (ad 1)) (C := RX10) (T := TX10) (N := 9) hx hb hts hinX10 hown hK hw h0 rfl 0 (by decide) (hts (.fieldLink RX10 12 "BetMaker" "maker" "LBetMaker$Maker;") (by decide +kernel)) (fun _ h9 => h9) rfl dX10_deal_72 ?_
        refine lv_iload_n hx hb dX10_deal_75 rfl (lv_at hl 5 rfl) ?_
        refine lv_iload_n hx hb dX10_deal_76 rfl (lv_at hl 6 rfl) ?_
        refine lv_lload hx hb dX10_deal_77 (lv_at hl 0 rfl) ?_
        refine kc_vu (As := [.int set, .int x, .long (kCost b N f ss set x)]) (rest := []) S0 (c_X3_sell l D tc s.heap.size ad ct (N := N) h1 h2 (by omega)) (cwV 3 hts gX10_deal_X3_sell rfl rfl rfl (by decide +kernel) ⟨Nat.le_of_ble_eq_true rfl, Nat.le_of_ble_eq_true rfl⟩) hK hw hA h1 rfl rfl hl.1 rfl (Nat.le_of_ble_eq_true rfl) dX10_deal_79 ⟨Nat.le_of_ble_eq_true rfl, (Nat.le_of_ble_eq_true rfl)⟩ (fun H locs hw => ?_)
        obtain ⟨ct_4, ect_4⟩ : ∃ z, z = kw_up (kw_up ct 1 (.inr (3, [.ref (ad 2), .int (nI N), .int b, .long (ss + su (kIn set (fun _ => x.toInt64)) N), .long (g + (kCost b N f ss set x)), .int cm]))) 2 (eJ tc 8 (kAd f set x.toInt64 N)) := ⟨_, rfl⟩
        rw [← ect_4] at hw
        have h_5 : ct_4 0 = some (.inr (10, [.ref (ad 1), .ref (ad 3), .int (nI nt), .ref (ad 4), .ref (ad 9), .ref (ad 11), .ref (ad 12), .ref (ad 13), .int lf])) := by rw [ect_4, kw_up_n (by omega), kw_up_n (by omega)]; exact h0
        have h_6 : ct_4 3 = some (eQ tc 4 6 qt) := by rw [ect_4, kw_up_n (by omega), kw_up_n (by omega)]; exact h3
        have h_7 : ct_4 (30 + t) = some (.inr (ci, [.int nb, .ref (ad (36 + t)), .ref (ad (42 + t)), .long pu, .int de])) := by rw [ect_4, kw_up_n (by omega), kw_up_n (by omega)]; exact h30
        have h_8 : ct_4 (36 + t) = some (eJ tc N ho) := by rw [ect_4, kw_up_n (by omega), kw_up_n (by omega)]; exact h36
        have h_9 : ct_4 1 = some (.inr (3, [.ref (ad 2), .int (nI N), .int b, .long (ss + su (kIn set (fun _ => x.toInt64)) N), .long (g + (kCost b N f ss set x)), .int cm])) := by rw [ect_4, kw_up_n (by omega)]; exact kw_up_s
        have h_10 : ct_4 2 = some (eJ tc 8 (kAd f set x.toInt64 N)) := by rw [ect_4]; exact kw_up_s
        have hfr_11 : ∀ j, j ≠ 1 → j ≠ 2 → j ≠ (30 + t) → j ≠ (36 + t) → ct_4 j = ct j := fun j a0 a1 a2 a3 => by rw [ect_4]; exact (kw_up_n a1).trans ((kw_up_n a0).trans (hfr j a0 a1 a2 a3))
        refine lv_aload hx hb dX10_deal_82 (lv_at hl 2 rfl) ?_
        refine lv_iload_n hx hb dX10_deal_84 rfl (lv_at hl 5 rfl) ?_
        refine lv_iload_n hx hb dX10_deal_85 rfl (lv_at hl 6 rfl) ?_
        refine lv_lload hx hb dX10_deal_86 (lv_at hl 0 rfl) ?_
        refine kt_vu (As := [.int set, .int x, .long (kCost b N f ss set x)]) (rest := []) S0 hci (c_X5_buy l D tc s.heap.size ad ct_4 h_7 h_8 hci (by omega)) (cwV 3 hts gX10_deal_X5_buy rfl rfl rfl (by decide +kernel) ⟨Nat.le_of_ble_eq_true rfl, Nat.le_of_ble_eq_true rfl⟩) (va_cwU 3 hts gX10_deal_X5_buy_u111X7 rfl rfl rfl rfl (by decide +kernel) ⟨Nat.le_of_ble_eq_true rfl, Nat.le_of_ble_eq_true rfl⟩) (va_cwU 3 hts gX10_deal_X5_buy_u111X9 rfl rfl rfl rfl (by decide +kernel) ⟨Nat.le_of_ble_eq_true rfl, Nat.le_of_ble_eq_true rfl⟩) hK hw hA h_7 rfl hl.1 rfl (Nat.le_of_ble_eq_true rfl) dX10_deal_88 ⟨Nat.le_of_ble_eq_true rfl, (Nat.le_of_ble_eq_true rfl)⟩ (fun H locs hw => ?_)
        obtain ⟨ct_12, ect_12⟩ : ∃ z, z = kw_up (kw_up ct_4 (30 + t) (.inr (ci, [.int nb, .ref (ad (36 + t)), .ref (ad (42 + t)), .long (pu - (kCost b N f ss set x)), .int (de + 1)]))) (36 + t) (eJ tc N (kAd ho set x.toInt64 N)) := ⟨_, rfl⟩
        rw [← ect_12] at hw
        have h_13 : ct_12 0 = some (.inr (10, [.ref (ad 1), .ref (ad 3), .int (nI nt), .ref (ad 4), .ref (ad 9), .ref (ad 11), .ref (ad 12), .ref (ad 13), .int lf])) := by rw [ect_12, kw_up_n (by omega), kw_up_n (by omega)]; exact h_5
        have h_14 : ct_12 3 = some (eQ tc 4 6 qt) := by rw [ect_12, kw_up_n (by omega), kw_up_n (by omega)]; exact h_6
        have h_15 : ct_12 1 = some (.inr (3, [.ref (ad 2), .int (nI N), .int b, .long (ss + su (kIn set (fun _ => x.toInt64)) N), .long (g + (kCost b N f ss set x)), .int cm])) := by rw [ect_12, kw_up_n (by omega), kw_up_n (by omega)]; exact h_9
        have h_16 : ct_12 2 = some (eJ tc 8 (kAd f set x.toInt64 N)) := by rw [ect_12, kw_up_n (by omega), kw_up_n (by omega)]; exact h_10
        have h_17 : ct_12 (30 + t) = some (.inr (ci, [.int nb, .ref (ad (36 + t)), .ref (ad (42 + t)), .long (pu - (kCost b N f ss set x)), .int (de + 1)])) := by rw [ect_12, kw_up_n (by omega)]; exact kw_up_s
        have h_18 : ct_12 (36 + t) = some (eJ tc N (kAd ho set x.toInt64 N)) := by rw [ect_12]; exact kw_up_s
        have hfr_19 : ∀ j, j ≠ 1 → j ≠ 2 → j ≠ (30 + t) → j ≠ (36 + t) → ct_12 j = ct j := fun j a0 a1 a2 a3 => by rw [ect_12]; exact (kw_up_n a3).trans ((kw_up_n a2).trans (hfr_11 j a0 a1 a2 a3))
        refine lv_aload hx hb dX10_deal_91 (lv_at hl 2 rfl) ?_
        refine kt_v (As := []) (rest := []) S0 hci (c_X5_deals l D tc s.heap.size ad ct_12 h_17 hci) (cwV 0 hts gX10_deal_X5_deals rfl rfl rfl (by decide +kernel) ⟨Nat.le_of_ble_eq_true rfl, Nat.le_of_ble_eq_true rfl⟩) (va_cwU 0 hts gX10_deal_X5_deals_u114X7 rfl rfl rfl rfl (by decide +kernel) ⟨Nat.le_of_ble_eq_true rfl, Nat.le_of_ble_eq_true rfl⟩) (va_cwU 0 hts gX10_deal_X5_deals_u114X9 rfl rfl rfl rfl (by decide +kernel) ⟨Nat.le_of_ble_eq_true rfl, Nat.le_of_ble_eq_true rfl⟩) hK hw h_17 rfl hl.1 rfl (Nat.le_of_ble_eq_true rfl) dX10_deal_93 ⟨Nat.le_of_ble_eq_true rfl, (Nat.le_of_ble_eq_true rfl)⟩ ?_
        have hq_20 : ct_12 1 = some (.inr (3, [.ref (ad 2), .int (nI N), .int b, .long (ss + su (kIn set (fun _ => x.toInt64)) N), .long (g + kCost b N f ss set x), .int cm])) := h_15.trans (congrArg some (show (.inr (3, [.ref (ad 2), .int (nI N), .int b, .long (ss + su (kIn set (fun _ => x.toInt64)) N), .long (g + (kCost b N f ss set x)), .int cm]) : va_E) = .inr (3, [.ref (ad 2), .int (nI N), .int b, .long (ss + su (kIn set (fun _ => x.toInt64)) N), .long (g + kCost b N f ss set x), .int cm]) from by rfl))
        have hq_21 := h_16
        have hq_22 : ct_12 (30 + t) = some (.inr (ci, [.int nb, .ref (ad (36 + t)), .ref (ad (42 + t)), .long (pu - kCost b N f ss set x), .int (de + 1)])) := h_17.trans (congrArg some (show (.inr (ci, [.int nb, .ref (ad (36 + t)), .ref (ad (42 + t)), .long (pu - (kCost b N f ss set x)), .int (de + 1)]) : va_E) = .inr (ci, [.int nb, .ref (ad (36 + t)), .ref (ad (42 + t)), .long (pu - kCost b N f ss set x), .int (de + 1)]) from by rfl))
        have hq_23 := h_18
        have hend := kw_eq4 hq_20 hq_21 hq_22 hq_23 hfr_19
        rw [hend] at hw
        exact W.iret hx hb hr (fun t ht _ => ⟨rfl, by rw [ht]; exact hw.1, hw.2.2.1, hw.2.1.F ht, by rw [ht]; exact hw.2.2.2⟩) hw.2.1.2.2 dX10_deal_96
      · exact absurd hy c_3
    · exact absurd hm c_2
  · exact absurd hor c_1
set_option maxHeartbeats 4000000 in
set_option maxRecDepth 100000 in
theorem c_X10_comes_u (l : Launch) (D : va_G) (tc : Nat → ClassId) (sz : Nat) (ad : Nat → Nat) (ct : Nat → Option va_E) {N nt : Nat} {b cm lf : Int32} {ss g : Int64}     {c : Int32} (h0 : ct 0 = some (.inr (10, [.ref (ad 1), .ref (ad 3), .int (nI nt), .ref (ad 4), .ref (ad 9), .ref (ad 11), .ref (ad 12), .ref (ad 13), .int lf]))) (h1 : ct 1 = some (.inr (3, [.ref (ad 2), .int (nI N), .int b, .long ss, .long g, .int cm]))) (hc : ¬ (0 ≤ c ∧ c < nI N)) : Met l yX10_comes wsX10_comes ({ frames := 2, cells := 0, slots := 0, locals := 57 }) (va_Pc [.ref (ad 0), .int c] (kw_B D tc sz ad ct)) (k2_QcV (.int (-1))) 0 0 (fun _ => False) := by
  refine Met.ofW (cc := cX10_comes) (maxL := 6) (ret := (some .int)) (by decide) rfl ?_
  intro pg en s m args below meth cod s₁ B hml hv
  obtain ⟨rfl, hsz, hP0, hK⟩ := hv
  have hx := B.exec
  have hb := B.bytes
  have hr := B.returns
  have hts := atoms_spec (ws := wsX10_comes) B.pre
  have hown : s.vm.findClass RX10 = some m.cls := findClass_of_methodNamed B.named
  have hlocks := B.notSynchronized
  subst hsz
  have hw := kw_H.start hP0
  generalize kw_A ad ct s.heap.size = A at hw
  have hinX10 : ∀ w ∈ wsX100, w ∈ wsX10_comes := by decide +kernel
  have hl := lv_entry ([.ref (ad 0), .int c]) (n := 6) (Nat.le_of_ble_eq_true rfl)
  rw [lg_entry_eq]
  generalize (lg_sl ([.ref (ad 0), .int c]) ++ List.replicate (6 - (lg_sl ([.ref (ad 0), .int c])).length) Slot.unset).toArray = ls at hl ⊢
  have hl : lv_has ls 6 [(0, .ref (ad 0)), (1, .int c)] := hl
  have S0 : CallFix pg m cod cX10_comes 6 s _ wsX10_comes RX10 := ⟨hx, hb, hml, hown, hts⟩
  refine lv_aload_n hx hb dX10_comes_0 rfl (lv_at hl 0 rfl) ?_
  refine kg_get (v := .ref (ad 1)) (C := RX10) (T := TX10) (N := 9) hx hb hts hinX10 hown hK hw h0 rfl 0 (by decide) (hts (.fieldLink RX10 12 "BetMaker" "maker" "LBetMaker$Maker;") (by decide +kernel)) (fun _ h9 => h9) rfl dX10_comes_1 ?_
  refine lv_iload_n hx hb dX10_comes_4 rfl (lv_at hl 1 rfl) ?_
  refine kc_v (As := [.int c]) (rest := []) S0 (c_X3_isCase l D tc s.heap.size ad ct (N := N) h1) (cwV 1 hts gX10_comes_X3_isCase rfl rfl rfl (by decide +kernel) ⟨Nat.le_of_ble_eq_true rfl, Nat.le_of_ble_eq_true rfl⟩) hK hw h1 rfl rfl hl.1 rfl (Nat.le_of_ble_eq_true rfl) dX10_comes_5 ⟨Nat.le_of_ble_eq_true rfl, (Nat.le_of_ble_eq_true rfl)⟩ ?_
  refine kb_ifne (tgt := 13) hx hb dX10_comes_8 (by decide) (fun c_1 => ?_) (fun c_1 => ?_)
  · exact absurd c_1 hc
  · refine lv_iconst (v := (-1)) hx hb dX10_comes_11 (by decide) ?_
    exact W.iret hx hb hr (fun t ht _ => ⟨rfl, ht⟩) (fun _ h => absurd h List.not_mem_nil) dX10_comes_12
set_option maxHeartbeats 4000000 in
set_option maxRecDepth 100000 in
theorem c_X10_comes_s (l : Launch) (D : va_G) (tc : Nat → ClassId) (sz : Nat) (ad : Nat → Nat) (ct : Nat → Option va_E) {N nt : Nat} {b cm lf : Int32} {ss g : Int64}     {c : Int32} (h0 : ct 0 = some (.inr (10, [.ref (ad 1), .ref (ad 3), .int (nI nt), .ref (ad 4), .ref (ad 9), .ref (ad 11), .ref (ad 12), .ref (ad 13), .int lf]))) (h1 : ct 1 = some (.inr (3, [.ref (ad 2), .int (nI N), .int b, .long ss, .long g, .int cm]))) (hc : 0 ≤ c ∧ c < nI N) (hm : ¬ cm = (-9)) : Met l yX10_comes wsX10_comes ({ frames := 2, cells := 0, slots := 0, locals := 57 }) (va_Pc [.ref (ad 0), .int c] (kw_B D tc sz ad ct)) (k2_QcV (.int (-3))) 0 0 (fun _ => False) := by
  refine Met.ofW (cc := cX10_comes) (maxL := 6) (ret := (some .int)) (by decide) rfl ?_
  intro pg en s m args below meth cod s₁ B hml hv
  obtain ⟨rfl, hsz, hP0, hK⟩ := hv
  have hx := B.exec
  have hb := B.bytes
  have hr := B.returns
  have hts := atoms_spec (ws := wsX10_comes) B.pre
  have hown : s.vm.findClass RX10 = some m.cls := findClass_of_methodNamed B.named
  have hlocks := B.notSynchronized
  subst hsz
  have hw := kw_H.start hP0
  generalize kw_A ad ct s.heap.size = A at hw
  have hinX10 : ∀ w ∈ wsX100, w ∈ wsX10_comes := by decide +kernel
  have hl := lv_entry ([.ref (ad 0), .int c]) (n := 6) (Nat.le_of_ble_eq_true rfl)
  rw [lg_entry_eq]
  generalize (lg_sl ([.ref (ad 0), .int c]) ++ List.replicate (6 - (lg_sl ([.ref (ad 0), .int c])).length) Slot.unset).toArray = ls at hl ⊢
  have hl : lv_has ls 6 [(0, .ref (ad 0)), (1, .int c)] := hl
  have S0 : CallFix pg m cod cX10_comes 6 s _ wsX10_comes RX10 := ⟨hx, hb, hml, hown, hts⟩
  refine lv_aload_n hx hb dX10_comes_0 rfl (lv_at hl 0 rfl) ?_
  refine kg_get (v := .ref (ad 1)) (C := RX10) (T := TX10) (N := 9) hx hb hts hinX10 hown hK hw h0 rfl 0 (by decide) (hts (.fieldLink RX10 12 "BetMaker" "maker" "LBetMaker$Maker;") (by decide +kernel)) (fun _ h9 => h9) rfl dX10_comes_1 ?_
  refine lv_iload_n hx hb dX10_comes_4 rfl (lv_at hl 1 rfl) ?_
  refine kc_v (As := [.int c]) (rest := []) S0 (c_X3_isCase l D tc s.heap.size ad ct (N := N) h1) (cwV 1 hts gX10_comes_X3_isCase rfl rfl rfl (by decide +kernel) ⟨Nat.le_of_ble_eq_true rfl, Nat.le_of_ble_eq_true rfl⟩) hK hw h1 rfl rfl hl.1 rfl (Nat.le_of_ble_eq_true rfl) dX10_comes_5 ⟨Nat.le_of_ble_eq_true rfl, (Nat.le_of_ble_eq_true rfl)⟩ ?_
  refine kb_ifne (tgt := 13) hx hb dX10_comes_8 (by decide) (fun c_1 => ?_) (fun c_1 => ?_)
  · refine lv_aload_n hx hb dX10_comes_13 rfl (lv_at hl 0 rfl) ?_
    refine kg_get (v := .ref (ad 1)) (C := RX10) (T := TX10) (N := 9) hx hb hts hinX10 hown hK hw h0 rfl 0 (by decide) (hts (.fieldLink RX10 12 "BetMaker" "maker" "LBetMaker$Maker;") (by decide +kernel)) (fun _ h9 => h9) rfl dX10_comes_14 ?_
    refine kc_v (As := []) (rest := []) S0 (c_X3_hasCome l D tc s.heap.size ad ct (N := N) h1) (cwV 0 hts gX10_comes_X3_hasCome rfl rfl rfl (by decide +kernel) ⟨Nat.le_of_ble_eq_true rfl, Nat.le_of_ble_eq_true rfl⟩) hK hw h1 rfl rfl hl.1 rfl (Nat.le_of_ble_eq_true rfl) dX10_comes_17 ⟨Nat.le_of_ble_eq_true rfl, (Nat.le_of_ble_eq_true rfl)⟩ ?_
    refine kb_ifeq (tgt := 26) hx hb dX10_comes_20 (by decide) (fun c_2 => ?_) (fun c_2 => ?_)
    · exact absurd hm c_2
    · refine lv_bipush (v := (-3)) hx hb dX10_comes_23 (by decide) ?_
      exact W.iret hx hb hr (fun t ht _ => ⟨rfl, ht⟩) (fun _ h => absurd h List.not_mem_nil) dX10_comes_25
  · exact absurd hc c_1
set_option maxHeartbeats 4000000 in
set_option maxRecDepth 100000 in
theorem c_X10_about_n (l : Launch) (D : va_G) (tc : Nat → ClassId) (sz : Nat) (ad : Nat → Nat) (ct : Nat → Option va_E) {N nt : Nat} {b cm lf : Int32} {ss g : Int64}     {c what : Int32} (h0 : ct 0 = some (.inr (10, [.ref (ad 1), .ref (ad 3), .int (nI nt), .ref (ad 4), .ref (ad 9), .ref (ad 11), .ref (ad 12), .ref (ad 13), .int lf]))) (h1 : ct 1 = some (.inr (3, [.ref (ad 2), .int (nI N), .int b, .long ss, .long g, .int cm]))) (hc : ¬ (0 ≤ c ∧ c < nI N)) : Met l yX10_about wsX10_about ({ frames := 3, cells := 0, slots := 0, locals := 75 }) (va_Pc [.ref (ad 0), .int c, .int what] (kw_B D tc sz ad ct)) (k2_QcV (.long (-9223372036854775808))) 0 0 (fun _ => False) := by
  refine Met.ofW (cc := cX10_about) (maxL := 3) (ret := (some .long)) (by decide) rfl ?_
  intro pg en s m args below meth cod s₁ B hml hv
  obtain ⟨rfl, hsz, hP0, hK⟩ := hv
  have hx := B.exec
  have hb := B.bytes
  have hr := B.returns
  have hts := atoms_spec (ws := wsX10_about) B.pre
  have hown : s.vm.findClass RX10 = some m.cls := findClass_of_methodNamed B.named
  have hlocks := B.notSynchronized
  subst hsz
  have hw := kw_H.start hP0
  generalize kw_A ad ct s.heap.size = A at hw
  have hinX10 : ∀ w ∈ wsX100, w ∈ wsX10_about := by decide +kernel
  have hl := lv_entry ([.ref (ad 0), .int c, .int what]) (n := 3) (Nat.le_of_ble_eq_true rfl)
  rw [lg_entry_eq]
  generalize (lg_sl ([.ref (ad 0), .int c, .int what]) ++ List.replicate (3 - (lg_sl ([.ref (ad 0), .int c, .int what])).length) Slot.unset).toArray = ls at hl ⊢
  have hl : lv_has ls 3 [(0, .ref (ad 0)), (1, .int c), (2, .int what)] := hl
  have S0 : CallFix pg m cod cX10_about 3 s _ wsX10_about RX10 := ⟨hx, hb, hml, hown, hts⟩
  refine lv_aload_n hx hb dX10_about_0 rfl (lv_at hl 0 rfl) ?_
  refine kg_get (v := .ref (ad 1)) (C := RX10) (T := TX10) (N := 9) hx hb hts hinX10 hown hK hw h0 rfl 0 (by decide) (hts (.fieldLink RX10 12 "BetMaker" "maker" "LBetMaker$Maker;") (by decide +kernel)) (fun _ h9 => h9) rfl dX10_about_1 ?_
  refine lv_iload_n hx hb dX10_about_4 rfl (lv_at hl 1 rfl) ?_
  refine kc_v (As := [.int c]) (rest := []) S0 (c_X3_isCase l D tc s.heap.size ad ct (N := N) h1) (cwV 1 hts gX10_about_X3_isCase rfl rfl rfl (by decide +kernel) ⟨Nat.le_of_ble_eq_true rfl, Nat.le_of_ble_eq_true rfl⟩) hK hw h1 rfl rfl hl.1 rfl (Nat.le_of_ble_eq_true rfl) dX10_about_5 ⟨Nat.le_of_ble_eq_true rfl, (Nat.le_of_ble_eq_true rfl)⟩ ?_
  refine kb_ifne (tgt := 15) hx hb dX10_about_8 (by decide) (fun c_1 => ?_) (fun c_1 => ?_)
  · exact absurd c_1 hc
  · refine lv_ldc2 (v := (-9223372036854775808)) hx hb hown (hts (.constantLong RX10 85 (-9223372036854775808)) (by decide +kernel)) dX10_about_11 ?_
    exact W.lret hx hb hr (fun t ht _ => ⟨rfl, ht⟩) (fun _ h => absurd h List.not_mem_nil) dX10_about_14
set_option maxHeartbeats 4000000 in
set_option maxRecDepth 100000 in
theorem c_X10_about_d (l : Launch) (D : va_G) (tc : Nat → ClassId) (sz : Nat) (ad : Nat → Nat) (ct : Nat → Option va_E) {N nt : Nat} {b cm lf : Int32} {ss g : Int64}     {c what : Int32} (h0 : ct 0 = some (.inr (10, [.ref (ad 1), .ref (ad 3), .int (nI nt), .ref (ad 4), .ref (ad 9), .ref (ad 11), .ref (ad 12), .ref (ad 13), .int lf]))) (h1 : ct 1 = some (.inr (3, [.ref (ad 2), .int (nI N), .int b, .long ss, .long g, .int cm]))) (hc : 0 ≤ c ∧ c < nI N) (w0 : ¬ what = 0) (w1 : ¬ what = 1) (w2 : ¬ what = 2) : Met l yX10_about wsX10_about ({ frames := 3, cells := 0, slots := 0, locals := 75 }) (va_Pc [.ref (ad 0), .int c, .int what] (kw_B D tc sz ad ct)) (k2_QcV (.long (-9223372036854775808))) 0 0 (fun _ => False) := by
  refine Met.ofW (cc := cX10_about) (maxL := 3) (ret := (some .long)) (by decide) rfl ?_
  intro pg en s m args below meth cod s₁ B hml hv
  obtain ⟨rfl, hsz, hP0, hK⟩ := hv
  have hx := B.exec
  have hb := B.bytes
  have hr := B.returns
  have hts := atoms_spec (ws := wsX10_about) B.pre
  have hown : s.vm.findClass RX10 = some m.cls := findClass_of_methodNamed B.named
  have hlocks := B.notSynchronized
  subst hsz
  have hw := kw_H.start hP0
  generalize kw_A ad ct s.heap.size = A at hw
  have hinX10 : ∀ w ∈ wsX100, w ∈ wsX10_about := by decide +kernel
  have hl := lv_entry ([.ref (ad 0), .int c, .int what]) (n := 3) (Nat.le_of_ble_eq_true rfl)
  rw [lg_entry_eq]
  generalize (lg_sl ([.ref (ad 0), .int c, .int what]) ++ List.replicate (3 - (lg_sl ([.ref (ad 0), .int c, .int what])).length) Slot.unset).toArray = ls at hl ⊢
  have hl : lv_has ls 3 [(0, .ref (ad 0)), (1, .int c), (2, .int what)] := hl
  have S0 : CallFix pg m cod cX10_about 3 s _ wsX10_about RX10 := ⟨hx, hb, hml, hown, hts⟩
  refine lv_aload_n hx hb dX10_about_0 rfl (lv_at hl 0 rfl) ?_
  refine kg_get (v := .ref (ad 1)) (C := RX10) (T := TX10) (N := 9) hx hb hts hinX10 hown hK hw h0 rfl 0 (by decide) (hts (.fieldLink RX10 12 "BetMaker" "maker" "LBetMaker$Maker;") (by decide +kernel)) (fun _ h9 => h9) rfl dX10_about_1 ?_
  refine lv_iload_n hx hb dX10_about_4 rfl (lv_at hl 1 rfl) ?_
  refine kc_v (As := [.int c]) (rest := []) S0 (c_X3_isCase l D tc s.heap.size ad ct (N := N) h1) (cwV 1 hts gX10_about_X3_isCase rfl rfl rfl (by decide +kernel) ⟨Nat.le_of_ble_eq_true rfl, Nat.le_of_ble_eq_true rfl⟩) hK hw h1 rfl rfl hl.1 rfl (Nat.le_of_ble_eq_true rfl) dX10_about_5 ⟨Nat.le_of_ble_eq_true rfl, (Nat.le_of_ble_eq_true rfl)⟩ ?_
  refine kb_ifne (tgt := 15) hx hb dX10_about_8 (by decide) (fun c_1 => ?_) (fun c_1 => ?_)
  · refine lv_iload_n hx hb dX10_about_15 rfl (lv_at hl 2 rfl) ?_
    refine lv_tableOut (tgt := 69) hx hb dX10_about_16 (by have q0 := lv_neT w0 (a := 0) (by decide); have q1 := lv_neT w1 (a := 1) (by decide); have q2 := lv_neT w2 (a := 2) (by decide); omega) (by decide) ?_
    refine lv_ldc2 (v := (-9223372036854775808)) hx hb hown (hts (.constantLong RX10 85 (-9223372036854775808)) (by decide +kernel)) dX10_about_69 ?_
    exact W.lret hx hb hr (fun t ht _ => ⟨rfl, ht⟩) (fun _ h => absurd h List.not_mem_nil) dX10_about_72
  · exact absurd hc c_1
set_option maxHeartbeats 4000000 in
set_option maxRecDepth 100000 in
theorem c_X10_about_0 (l : Launch) (D : va_G) (tc : Nat → ClassId) (sz : Nat) (ad : Nat → Nat) (ct : Nat → Option va_E) {N nt c : Nat} {b cm lf : Int32} {ss g : Int64} {f : Nat → Int64}     (h0 : ct 0 = some (.inr (10, [.ref (ad 1), .ref (ad 3), .int (nI nt), .ref (ad 4), .ref (ad 9), .ref (ad 11), .ref (ad 12), .ref (ad 13), .int lf]))) (h1 : ct 1 = some (.inr (3, [.ref (ad 2), .int (nI N), .int b, .long ss, .long g, .int cm]))) (h2 : ct 2 = some (eJ tc 8 f)) (hc : c < N) (hN : N ≤ 8) : Met l yX10_about wsX10_about ({ frames := 3, cells := 0, slots := 0, locals := 75 }) (va_Pc [.ref (ad 0), .int (nI c), .int 0] (kw_B D tc sz ad ct)) (k2_QcV (.long (f c))) 0 0 (fun _ => False) := by
  refine Met.ofW (cc := cX10_about) (maxL := 3) (ret := (some .long)) (by decide) rfl ?_
  intro pg en s m args below meth cod s₁ B hml hv
  obtain ⟨rfl, hsz, hP0, hK⟩ := hv
  have hx := B.exec
  have hb := B.bytes
  have hr := B.returns
  have hts := atoms_spec (ws := wsX10_about) B.pre
  have hown : s.vm.findClass RX10 = some m.cls := findClass_of_methodNamed B.named
  have hlocks := B.notSynchronized
  subst hsz
  have hw := kw_H.start hP0
  generalize kw_A ad ct s.heap.size = A at hw
  have hinX10 : ∀ w ∈ wsX100, w ∈ wsX10_about := by decide +kernel
  have hl := lv_entry ([.ref (ad 0), .int (nI c), .int 0]) (n := 3) (Nat.le_of_ble_eq_true rfl)
  rw [lg_entry_eq]
  generalize (lg_sl ([.ref (ad 0), .int (nI c), .int 0]) ++ List.replicate (3 - (lg_sl ([.ref (ad 0), .int (nI c), .int 0])).length) Slot.unset).toArray = ls at hl ⊢
  have hl : lv_has ls 3 [(0, .ref (ad 0)), (1, .int (nI c)), (2, .int 0)] := hl
  have S0 : CallFix pg m cod cX10_about 3 s _ wsX10_about RX10 := ⟨hx, hb, hml, hown, hts⟩
  have kC : 0 ≤ nI c ∧ nI c < nI N := ⟨nI_pos' (by omega), nI_lt hc (by omega)⟩
  refine lv_aload_n hx hb dX10_about_0 rfl (lv_at hl 0 rfl) ?_
  refine kg_get (v := .ref (ad 1)) (C := RX10) (T := TX10) (N := 9) hx hb hts hinX10 hown hK hw h0 rfl 0 (by decide) (hts (.fieldLink RX10 12 "BetMaker" "maker" "LBetMaker$Maker;") (by decide +kernel)) (fun _ h9 => h9) rfl dX10_about_1 ?_
  refine lv_iload_n hx hb dX10_about_4 rfl (lv_at hl 1 rfl) ?_
  refine kc_v (As := [.int (nI c)]) (rest := []) S0 (c_X3_isCase l D tc s.heap.size ad ct (N := N) h1) (cwV 1 hts gX10_about_X3_isCase rfl rfl rfl (by decide +kernel) ⟨Nat.le_of_ble_eq_true rfl, Nat.le_of_ble_eq_true rfl⟩) hK hw h1 rfl rfl hl.1 rfl (Nat.le_of_ble_eq_true rfl) dX10_about_5 ⟨Nat.le_of_ble_eq_true rfl, (Nat.le_of_ble_eq_true rfl)⟩ ?_
  refine kb_ifne (tgt := 15) hx hb dX10_about_8 (by decide) (fun c_1 => ?_) (fun c_1 => ?_)
  · refine lv_iload_n hx hb dX10_about_15 rfl (lv_at hl 2 rfl) ?_
    refine lv_tableIn (off := 28) (tgt := 44) hx hb dX10_about_16 (by decide) (by decide) (by decide) (by decide) ?_
    refine lv_aload_n hx hb dX10_about_44 rfl (lv_at hl 0 rfl) ?_
    refine kg_get (v := .ref (ad 1)) (C := RX10) (T := TX10) (N := 9) hx hb hts hinX10 hown hK hw h0 rfl 0 (by decide) (hts (.fieldLink RX10 12 "BetMaker" "maker" "LBetMaker$Maker;") (by decide +kernel)) (fun _ h9 => h9) rfl dX10_about_45 ?_
    refine lv_iload_n hx hb dX10_about_48 rfl (lv_at hl 1 rfl) ?_
    refine kc_v (As := [.int (nI c)]) (rest := []) S0 (c_X3_soldOf l D tc s.heap.size ad ct (c := c) (N := N) h1 h2 (by omega) (by omega)) (cwV 1 hts gX10_about_X3_soldOf rfl rfl rfl (by decide +kernel) ⟨Nat.le_of_ble_eq_true rfl, Nat.le_of_ble_eq_true rfl⟩) hK hw h1 rfl rfl hl.1 rfl (Nat.le_of_ble_eq_true rfl) dX10_about_49 ⟨Nat.le_of_ble_eq_true rfl, (Nat.le_of_ble_eq_true rfl)⟩ ?_
    exact W.lret hx hb hr (fun t ht _ => ⟨rfl, ht⟩) (fun _ h => absurd h List.not_mem_nil) dX10_about_52
  · exact absurd kC c_1
set_option maxHeartbeats 4000000 in
set_option maxRecDepth 100000 in
theorem c_X10_about_1 (l : Launch) (D : va_G) (tc : Nat → ClassId) (sz : Nat) (ad : Nat → Nat) (ct : Nat → Option va_E) {N nt c : Nat} {b cm lf : Int32} {ss g : Int64} {f : Nat → Int64}     (h0 : ct 0 = some (.inr (10, [.ref (ad 1), .ref (ad 3), .int (nI nt), .ref (ad 4), .ref (ad 9), .ref (ad 11), .ref (ad 12), .ref (ad 13), .int lf]))) (h1 : ct 1 = some (.inr (3, [.ref (ad 2), .int (nI N), .int b, .long ss, .long g, .int cm]))) (h2 : ct 2 = some (eJ tc 8 f)) (hc : c < N) (hN : N ≤ 8) : Met l yX10_about wsX10_about ({ frames := 3, cells := 0, slots := 0, locals := 75 }) (va_Pc [.ref (ad 0), .int (nI c), .int 1] (kw_B D tc sz ad ct)) (k2_QcV (.long (kPr b N f ss c))) 0 0 (fun _ => False) := by
  refine Met.ofW (cc := cX10_about) (maxL := 3) (ret := (some .long)) (by decide) rfl ?_
  intro pg en s m args below meth cod s₁ B hml hv
  obtain ⟨rfl, hsz, hP0, hK⟩ := hv
  have hx := B.exec
  have hb := B.bytes
  have hr := B.returns
  have hts := atoms_spec (ws := wsX10_about) B.pre
  have hown : s.vm.findClass RX10 = some m.cls := findClass_of_methodNamed B.named
  have hlocks := B.notSynchronized
  subst hsz
  have hw := kw_H.start hP0
  generalize kw_A ad ct s.heap.size = A at hw
  have hinX10 : ∀ w ∈ wsX100, w ∈ wsX10_about := by decide +kernel
  have hl := lv_entry ([.ref (ad 0), .int (nI c), .int 1]) (n := 3) (Nat.le_of_ble_eq_true rfl)
  rw [lg_entry_eq]
  generalize (lg_sl ([.ref (ad 0), .int (nI c), .int 1]) ++ List.replicate (3 - (lg_sl ([.ref (ad 0), .int (nI c), .int 1])).length) Slot.unset).toArray = ls at hl ⊢
  have hl : lv_has ls 3 [(0, .ref (ad 0)), (1, .int (nI c)), (2, .int 1)] := hl
  have S0 : CallFix pg m cod cX10_about 3 s _ wsX10_about RX10 := ⟨hx, hb, hml, hown, hts⟩
  have kC : 0 ≤ nI c ∧ nI c < nI N := ⟨nI_pos' (by omega), nI_lt hc (by omega)⟩
  refine lv_aload_n hx hb dX10_about_0 rfl (lv_at hl 0 rfl) ?_
  refine kg_get (v := .ref (ad 1)) (C := RX10) (T := TX10) (N := 9) hx hb hts hinX10 hown hK hw h0 rfl 0 (by decide) (hts (.fieldLink RX10 12 "BetMaker" "maker" "LBetMaker$Maker;") (by decide +kernel)) (fun _ h9 => h9) rfl dX10_about_1 ?_
  refine lv_iload_n hx hb dX10_about_4 rfl (lv_at hl 1 rfl) ?_
  refine kc_v (As := [.int (nI c)]) (rest := []) S0 (c_X3_isCase l D tc s.heap.size ad ct (N := N) h1) (cwV 1 hts gX10_about_X3_isCase rfl rfl rfl (by decide +kernel) ⟨Nat.le_of_ble_eq_true rfl, Nat.le_of_ble_eq_true rfl⟩) hK hw h1 rfl rfl hl.1 rfl (Nat.le_of_ble_eq_true rfl) dX10_about_5 ⟨Nat.le_of_ble_eq_true rfl, (Nat.le_of_ble_eq_true rfl)⟩ ?_
  refine kb_ifne (tgt := 15) hx hb dX10_about_8 (by decide) (fun c_1 => ?_) (fun c_1 => ?_)
  · refine lv_iload_n hx hb dX10_about_15 rfl (lv_at hl 2 rfl) ?_
    refine lv_tableIn (off := 37) (tgt := 53) hx hb dX10_about_16 (by decide) (by decide) (by decide) (by decide) ?_
    refine lv_aload_n hx hb dX10_about_53 rfl (lv_at hl 0 rfl) ?_
    refine kg_get (v := .ref (ad 1)) (C := RX10) (T := TX10) (N := 9) hx hb hts hinX10 hown hK hw h0 rfl 0 (by decide) (hts (.fieldLink RX10 12 "BetMaker" "maker" "LBetMaker$Maker;") (by decide +kernel)) (fun _ h9 => h9) rfl dX10_about_54 ?_
    refine lv_iload_n hx hb dX10_about_57 rfl (lv_at hl 1 rfl) ?_
    refine kc_v (As := [.int (nI c)]) (rest := []) S0 (c_X3_casePrice l D tc s.heap.size ad ct (c := c) (N := N) h1 h2 (by omega) (by omega)) (cwV 1 hts gX10_about_X3_casePrice rfl rfl rfl (by decide +kernel) ⟨Nat.le_of_ble_eq_true rfl, Nat.le_of_ble_eq_true rfl⟩) hK hw h1 rfl rfl hl.1 rfl (Nat.le_of_ble_eq_true rfl) dX10_about_58 ⟨Nat.le_of_ble_eq_true rfl, (Nat.le_of_ble_eq_true rfl)⟩ ?_
    exact W.lret hx hb hr (fun t ht _ => ⟨rfl, ht⟩) (fun _ h => absurd h List.not_mem_nil) dX10_about_61
  · exact absurd kC c_1
set_option maxHeartbeats 4000000 in
set_option maxRecDepth 100000 in
theorem c_X10_about_2 (l : Launch) (D : va_G) (tc : Nat → ClassId) (sz : Nat) (ad : Nat → Nat) (ct : Nat → Option va_E) {N nt c : Nat} {b cm lf : Int32} {ss g : Int64}  {qt : Nat → Option Nat}   {ci : Nat → Nat} {nb de : Nat → Int32} {pu : Nat → Int64} {ho : Nat → Nat → Int64} {we : Nat → Nat → Int32} (h0 : ct 0 = some (.inr (10, [.ref (ad 1), .ref (ad 3), .int (nI nt), .ref (ad 4), .ref (ad 9), .ref (ad 11), .ref (ad 12), .ref (ad 13), .int lf]))) (h1 : ct 1 = some (.inr (3, [.ref (ad 2), .int (nI N), .int b, .long ss, .long g, .int cm]))) (h3 : ct 3 = some (eQ tc 4 6 qt)) (hc : c < N) (hN : N ≤ 8) (hnt : nt ≤ 6) (hfam : ∀ yy, yy < nt → (qt yy = some (ad (30 + yy)) ∧ (ci yy = 5 ∨ ci yy = 7 ∨ ci yy = 9)) ∧ ct (30 + yy) = some (.inr (ci yy, [.int (nb yy), .ref (ad (36 + yy)), .ref (ad (42 + yy)), .long (pu yy), .int (de yy)])) ∧ ct (36 + yy) = some (eJ tc N (ho yy)) ∧ ct (42 + yy) = some (eI tc N (we yy))) : Met l yX10_about wsX10_about ({ frames := 3, cells := 0, slots := 0, locals := 75 }) (va_Pc [.ref (ad 0), .int (nI c), .int 2] (kw_B D tc sz ad ct)) (k2_QcV (.long ((nI (kcn (fun z => !decide (ho z c ≤ 0)) nt)).toInt64))) 0 0 (fun _ => False) := by
  refine Met.ofW (cc := cX10_about) (maxL := 3) (ret := (some .long)) (by decide) rfl ?_
  intro pg en s m args below meth cod s₁ B hml hv
  obtain ⟨rfl, hsz, hP0, hK⟩ := hv
  have hx := B.exec
  have hb := B.bytes
  have hr := B.returns
  have hts := atoms_spec (ws := wsX10_about) B.pre
  have hown : s.vm.findClass RX10 = some m.cls := findClass_of_methodNamed B.named
  have hlocks := B.notSynchronized
  subst hsz
  have hw := kw_H.start hP0
  generalize kw_A ad ct s.heap.size = A at hw
  have hinX10 : ∀ w ∈ wsX100, w ∈ wsX10_about := by decide +kernel
  have hl := lv_entry ([.ref (ad 0), .int (nI c), .int 2]) (n := 3) (Nat.le_of_ble_eq_true rfl)
  rw [lg_entry_eq]
  generalize (lg_sl ([.ref (ad 0), .int (nI c), .int 2]) ++ List.replicate (3 - (lg_sl ([.ref (ad 0), .int (nI c), .int 2])).length) Slot.unset).toArray = ls at hl ⊢
  have hl : lv_has ls 3 [(0, .ref (ad 0)), (1, .int (nI c)), (2, .int 2)] := hl
  have S0 : CallFix pg m cod cX10_about 3 s _ wsX10_about RX10 := ⟨hx, hb, hml, hown, hts⟩
  have kC : 0 ≤ nI c ∧ nI c < nI N := ⟨nI_pos' (by omega), nI_lt hc (by omega)⟩
  refine lv_aload_n hx hb dX10_about_0 rfl (lv_at hl 0 rfl) ?_
  refine kg_get (v := .ref (ad 1)) (C := RX10) (T := TX10) (N := 9) hx hb hts hinX10 hown hK hw h0 rfl 0 (by decide) (hts (.fieldLink RX10 12 "BetMaker" "maker" "LBetMaker$Maker;") (by decide +kernel)) (fun _ h9 => h9) rfl dX10_about_1 ?_
  refine lv_iload_n hx hb dX10_about_4 rfl (lv_at hl 1 rfl) ?_
  refine kc_v (As := [.int (nI c)]) (rest := []) S0 (c_X3_isCase l D tc s.heap.size ad ct (N := N) h1) (cwV 1 hts gX10_about_X3_isCase rfl rfl rfl (by decide +kernel) ⟨Nat.le_of_ble_eq_true rfl, Nat.le_of_ble_eq_true rfl⟩) hK hw h1 rfl rfl hl.1 rfl (Nat.le_of_ble_eq_true rfl) dX10_about_5 ⟨Nat.le_of_ble_eq_true rfl, (Nat.le_of_ble_eq_true rfl)⟩ ?_
  refine kb_ifne (tgt := 15) hx hb dX10_about_8 (by decide) (fun c_1 => ?_) (fun c_1 => ?_)
  · refine lv_iload_n hx hb dX10_about_15 rfl (lv_at hl 2 rfl) ?_
    refine lv_tableIn (off := 46) (tgt := 62) hx hb dX10_about_16 (by decide) (by decide) (by decide) (by decide) ?_
    refine lv_aload_n hx hb dX10_about_62 rfl (lv_at hl 0 rfl) ?_
    refine lv_iload_n hx hb dX10_about_63 rfl (lv_at hl 1 rfl) ?_
    refine kc_v (As := [.int (nI c)]) (rest := []) S0 (c_X10_countHolders l D tc s.heap.size ad ct (c := c) (nt := nt) h0 h3 (by omega) (by omega) (by omega) hfam) (cwV 1 hts gX10_about_X10_countHolders rfl rfl rfl (by decide +kernel) ⟨Nat.le_of_ble_eq_true rfl, Nat.le_of_ble_eq_true rfl⟩) hK hw h0 rfl rfl hl.1 rfl (Nat.le_of_ble_eq_true rfl) dX10_about_64 ⟨Nat.le_of_ble_eq_true rfl, (Nat.le_of_ble_eq_true rfl)⟩ ?_
    refine lv_i2l (v := (nI (kcn (fun z => !decide (ho z c ≤ 0)) nt)).toInt64) hx hb dX10_about_67 rfl ?_
    exact W.lret hx hb hr (fun t ht _ => ⟨rfl, ht⟩) (fun _ h => absurd h List.not_mem_nil) dX10_about_68
  · exact absurd kC c_1
set_option maxHeartbeats 4000000 in
set_option maxRecDepth 100000 in
theorem c_X10_maker_0 (l : Launch) (D : va_G) (tc : Nat → ClassId) (sz : Nat) (ad : Nat → Nat) (ct : Nat → Option va_E) {N nt : Nat} {b cm lf : Int32} {ss g : Int64} {f : Nat → Int64}     (h0 : ct 0 = some (.inr (10, [.ref (ad 1), .ref (ad 3), .int (nI nt), .ref (ad 4), .ref (ad 9), .ref (ad 11), .ref (ad 12), .ref (ad 13), .int lf]))) (h1 : ct 1 = some (.inr (3, [.ref (ad 2), .int (nI N), .int b, .long ss, .long g, .int cm]))) (h2 : ct 2 = some (eJ tc 8 f)) (hN : N ≤ 8) : Met l yX10_maker wsX10_maker ({ frames := 3, cells := 0, slots := 0, locals := 77 }) (va_Pc [.ref (ad 0), .int 0] (kw_B D tc sz ad ct)) (k2_QcV (.long (4 * b.toInt64 * ss + (nI N).toInt64 * su (fun c => f c * f c) N - ss * ss))) 0 0 (fun _ => False) := by
  refine Met.ofW (cc := cX10_maker) (maxL := 2) (ret := (some .long)) (by decide) rfl ?_
  intro pg en s m args below meth cod s₁ B hml hv
  obtain ⟨rfl, hsz, hP0, hK⟩ := hv
  have hx := B.exec
  have hb := B.bytes
  have hr := B.returns
  have hts := atoms_spec (ws := wsX10_maker) B.pre
  have hown : s.vm.findClass RX10 = some m.cls := findClass_of_methodNamed B.named
  have hlocks := B.notSynchronized
  subst hsz
  have hw := kw_H.start hP0
  generalize kw_A ad ct s.heap.size = A at hw
  have hinX10 : ∀ w ∈ wsX100, w ∈ wsX10_maker := by decide +kernel
  have hl := lv_entry ([.ref (ad 0), .int 0]) (n := 2) (Nat.le_of_ble_eq_true rfl)
  rw [lg_entry_eq]
  generalize (lg_sl ([.ref (ad 0), .int 0]) ++ List.replicate (2 - (lg_sl ([.ref (ad 0), .int 0])).length) Slot.unset).toArray = ls at hl ⊢
  have hl : lv_has ls 2 [(0, .ref (ad 0)), (1, .int 0)] := hl
  have S0 : CallFix pg m cod cX10_maker 2 s _ wsX10_maker RX10 := ⟨hx, hb, hml, hown, hts⟩
  refine lv_iload_n hx hb dX10_maker_0 rfl (lv_at hl 1 rfl) ?_
  refine lv_tableIn (off := 35) (tgt := 36) hx hb dX10_maker_1 (by decide) (by decide) (by decide) (by decide) ?_
  refine lv_aload_n hx hb dX10_maker_36 rfl (lv_at hl 0 rfl) ?_
  refine kg_get (v := .ref (ad 1)) (C := RX10) (T := TX10) (N := 9) hx hb hts hinX10 hown hK hw h0 rfl 0 (by decide) (hts (.fieldLink RX10 12 "BetMaker" "maker" "LBetMaker$Maker;") (by decide +kernel)) (fun _ h9 => h9) rfl dX10_maker_37 ?_
  refine kc_v (As := []) (rest := []) S0 (c_X3_level l D tc s.heap.size ad ct (N := N) h1 h2 (by omega)) (cwV 0 hts gX10_maker_X3_level rfl rfl rfl (by decide +kernel) ⟨Nat.le_of_ble_eq_true rfl, Nat.le_of_ble_eq_true rfl⟩) hK hw h1 rfl rfl hl.1 rfl (Nat.le_of_ble_eq_true rfl) dX10_maker_40 ⟨Nat.le_of_ble_eq_true rfl, (Nat.le_of_ble_eq_true rfl)⟩ ?_
  exact W.lret hx hb hr (fun t ht _ => ⟨rfl, ht⟩) (fun _ h => absurd h List.not_mem_nil) dX10_maker_43
set_option maxHeartbeats 4000000 in
set_option maxRecDepth 100000 in
theorem c_X10_maker_1 (l : Launch) (D : va_G) (tc : Nat → ClassId) (sz : Nat) (ad : Nat → Nat) (ct : Nat → Option va_E) {N nt : Nat} {b cm lf : Int32} {ss g : Int64}      (h0 : ct 0 = some (.inr (10, [.ref (ad 1), .ref (ad 3), .int (nI nt), .ref (ad 4), .ref (ad 9), .ref (ad 11), .ref (ad 12), .ref (ad 13), .int lf]))) (h1 : ct 1 = some (.inr (3, [.ref (ad 2), .int (nI N), .int b, .long ss, .long g, .int cm]))) : Met l yX10_maker wsX10_maker ({ frames := 3, cells := 0, slots := 0, locals := 77 }) (va_Pc [.ref (ad 0), .int 1] (kw_B D tc sz ad ct)) (k2_QcV (.long g)) 0 0 (fun _ => False) := by
  refine Met.ofW (cc := cX10_maker) (maxL := 2) (ret := (some .long)) (by decide) rfl ?_
  intro pg en s m args below meth cod s₁ B hml hv
  obtain ⟨rfl, hsz, hP0, hK⟩ := hv
  have hx := B.exec
  have hb := B.bytes
  have hr := B.returns
  have hts := atoms_spec (ws := wsX10_maker) B.pre
  have hown : s.vm.findClass RX10 = some m.cls := findClass_of_methodNamed B.named
  have hlocks := B.notSynchronized
  subst hsz
  have hw := kw_H.start hP0
  generalize kw_A ad ct s.heap.size = A at hw
  have hinX10 : ∀ w ∈ wsX100, w ∈ wsX10_maker := by decide +kernel
  have hl := lv_entry ([.ref (ad 0), .int 1]) (n := 2) (Nat.le_of_ble_eq_true rfl)
  rw [lg_entry_eq]
  generalize (lg_sl ([.ref (ad 0), .int 1]) ++ List.replicate (2 - (lg_sl ([.ref (ad 0), .int 1])).length) Slot.unset).toArray = ls at hl ⊢
  have hl : lv_has ls 2 [(0, .ref (ad 0)), (1, .int 1)] := hl
  have S0 : CallFix pg m cod cX10_maker 2 s _ wsX10_maker RX10 := ⟨hx, hb, hml, hown, hts⟩
  refine lv_iload_n hx hb dX10_maker_0 rfl (lv_at hl 1 rfl) ?_
  refine lv_tableIn (off := 43) (tgt := 44) hx hb dX10_maker_1 (by decide) (by decide) (by decide) (by decide) ?_
  refine lv_aload_n hx hb dX10_maker_44 rfl (lv_at hl 0 rfl) ?_
  refine kg_get (v := .ref (ad 1)) (C := RX10) (T := TX10) (N := 9) hx hb hts hinX10 hown hK hw h0 rfl 0 (by decide) (hts (.fieldLink RX10 12 "BetMaker" "maker" "LBetMaker$Maker;") (by decide +kernel)) (fun _ h9 => h9) rfl dX10_maker_45 ?_
  refine kc_v (As := []) (rest := []) S0 (c_X3_gain l D tc s.heap.size ad ct (N := N) h1) (cwV 0 hts gX10_maker_X3_gain rfl rfl rfl (by decide +kernel) ⟨Nat.le_of_ble_eq_true rfl, Nat.le_of_ble_eq_true rfl⟩) hK hw h1 rfl rfl hl.1 rfl (Nat.le_of_ble_eq_true rfl) dX10_maker_48 ⟨Nat.le_of_ble_eq_true rfl, (Nat.le_of_ble_eq_true rfl)⟩ ?_
  exact W.lret hx hb hr (fun t ht _ => ⟨rfl, ht⟩) (fun _ h => absurd h List.not_mem_nil) dX10_maker_51
set_option maxHeartbeats 4000000 in
set_option maxRecDepth 100000 in
theorem c_X10_maker_2 (l : Launch) (D : va_G) (tc : Nat → ClassId) (sz : Nat) (ad : Nat → Nat) (ct : Nat → Option va_E) {N nt : Nat} {b cm lf : Int32} {ss g : Int64} {f : Nat → Int64}     (h0 : ct 0 = some (.inr (10, [.ref (ad 1), .ref (ad 3), .int (nI nt), .ref (ad 4), .ref (ad 9), .ref (ad 11), .ref (ad 12), .ref (ad 13), .int lf]))) (h1 : ct 1 = some (.inr (3, [.ref (ad 2), .int (nI N), .int b, .long ss, .long g, .int cm]))) (h2 : ct 2 = some (eJ tc 8 f)) (hN : N ≤ 8) (hN2 : 2 ≤ N) : Met l yX10_maker wsX10_maker ({ frames := 3, cells := 0, slots := 0, locals := 77 }) (va_Pc [.ref (ad 0), .int 2] (kw_B D tc sz ad ct)) (k2_QcV (.long (if ¬ cm = (-9) then g else g - kU b N * kMx f (N - 1)))) 0 0 (fun _ => False) := by
  refine Met.ofW (cc := cX10_maker) (maxL := 2) (ret := (some .long)) (by decide) rfl ?_
  intro pg en s m args below meth cod s₁ B hml hv
  obtain ⟨rfl, hsz, hP0, hK⟩ := hv
  have hx := B.exec
  have hb := B.bytes
  have hr := B.returns
  have hts := atoms_spec (ws := wsX10_maker) B.pre
  have hown : s.vm.findClass RX10 = some m.cls := findClass_of_methodNamed B.named
  have hlocks := B.notSynchronized
  subst hsz
  have hw := kw_H.start hP0
  generalize kw_A ad ct s.heap.size = A at hw
  have hinX10 : ∀ w ∈ wsX100, w ∈ wsX10_maker := by decide +kernel
  have hl := lv_entry ([.ref (ad 0), .int 2]) (n := 2) (Nat.le_of_ble_eq_true rfl)
  rw [lg_entry_eq]
  generalize (lg_sl ([.ref (ad 0), .int 2]) ++ List.replicate (2 - (lg_sl ([.ref (ad 0), .int 2])).length) Slot.unset).toArray = ls at hl ⊢
  have hl : lv_has ls 2 [(0, .ref (ad 0)), (1, .int 2)] := hl
  have S0 : CallFix pg m cod cX10_maker 2 s _ wsX10_maker RX10 := ⟨hx, hb, hml, hown, hts⟩
  refine lv_iload_n hx hb dX10_maker_0 rfl (lv_at hl 1 rfl) ?_
  refine lv_tableIn (off := 51) (tgt := 52) hx hb dX10_maker_1 (by decide) (by decide) (by decide) (by decide) ?_
  refine lv_aload_n hx hb dX10_maker_52 rfl (lv_at hl 0 rfl) ?_
  refine kg_get (v := .ref (ad 1)) (C := RX10) (T := TX10) (N := 9) hx hb hts hinX10 hown hK hw h0 rfl 0 (by decide) (hts (.fieldLink RX10 12 "BetMaker" "maker" "LBetMaker$Maker;") (by decide +kernel)) (fun _ h9 => h9) rfl dX10_maker_53 ?_
  refine kc_v (As := []) (rest := []) S0 (c_X3_worst l D tc s.heap.size ad ct (N := N) h1 h2 (by omega) (by omega)) (cwV 0 hts gX10_maker_X3_worst rfl rfl rfl (by decide +kernel) ⟨Nat.le_of_ble_eq_true rfl, Nat.le_of_ble_eq_true rfl⟩) hK hw h1 rfl rfl hl.1 rfl (Nat.le_of_ble_eq_true rfl) dX10_maker_56 ⟨Nat.le_of_ble_eq_true rfl, (Nat.le_of_ble_eq_true rfl)⟩ ?_
  exact W.lret hx hb hr (fun t ht _ => ⟨rfl, ht⟩) (fun _ h => absurd h List.not_mem_nil) dX10_maker_59
set_option maxHeartbeats 4000000 in
set_option maxRecDepth 100000 in
theorem c_X10_maker_3 (l : Launch) (D : va_G) (tc : Nat → ClassId) (sz : Nat) (ad : Nat → Nat) (ct : Nat → Option va_E) {N nt : Nat} {b cm lf : Int32} {ss g : Int64}      (h0 : ct 0 = some (.inr (10, [.ref (ad 1), .ref (ad 3), .int (nI nt), .ref (ad 4), .ref (ad 9), .ref (ad 11), .ref (ad 12), .ref (ad 13), .int lf]))) (h1 : ct 1 = some (.inr (3, [.ref (ad 2), .int (nI N), .int b, .long ss, .long g, .int cm]))) : Met l yX10_maker wsX10_maker ({ frames := 3, cells := 0, slots := 0, locals := 77 }) (va_Pc [.ref (ad 0), .int 3] (kw_B D tc sz ad ct)) (k2_QcV (.long (kU b N))) 0 0 (fun _ => False) := by
  refine Met.ofW (cc := cX10_maker) (maxL := 2) (ret := (some .long)) (by decide) rfl ?_
  intro pg en s m args below meth cod s₁ B hml hv
  obtain ⟨rfl, hsz, hP0, hK⟩ := hv
  have hx := B.exec
  have hb := B.bytes
  have hr := B.returns
  have hts := atoms_spec (ws := wsX10_maker) B.pre
  have hown : s.vm.findClass RX10 = some m.cls := findClass_of_methodNamed B.named
  have hlocks := B.notSynchronized
  subst hsz
  have hw := kw_H.start hP0
  generalize kw_A ad ct s.heap.size = A at hw
  have hinX10 : ∀ w ∈ wsX100, w ∈ wsX10_maker := by decide +kernel
  have hl := lv_entry ([.ref (ad 0), .int 3]) (n := 2) (Nat.le_of_ble_eq_true rfl)
  rw [lg_entry_eq]
  generalize (lg_sl ([.ref (ad 0), .int 3]) ++ List.replicate (2 - (lg_sl ([.ref (ad 0), .int 3])).length) Slot.unset).toArray = ls at hl ⊢
  have hl : lv_has ls 2 [(0, .ref (ad 0)), (1, .int 3)] := hl
  have S0 : CallFix pg m cod cX10_maker 2 s _ wsX10_maker RX10 := ⟨hx, hb, hml, hown, hts⟩
  refine lv_iload_n hx hb dX10_maker_0 rfl (lv_at hl 1 rfl) ?_
  refine lv_tableIn (off := 59) (tgt := 60) hx hb dX10_maker_1 (by decide) (by decide) (by decide) (by decide) ?_
  refine lv_aload_n hx hb dX10_maker_60 rfl (lv_at hl 0 rfl) ?_
  refine kg_get (v := .ref (ad 1)) (C := RX10) (T := TX10) (N := 9) hx hb hts hinX10 hown hK hw h0 rfl 0 (by decide) (hts (.fieldLink RX10 12 "BetMaker" "maker" "LBetMaker$Maker;") (by decide +kernel)) (fun _ h9 => h9) rfl dX10_maker_61 ?_
  refine kc_v (As := []) (rest := []) S0 (c_X3_unit l D tc s.heap.size ad ct (N := N) h1) (cwV 0 hts gX10_maker_X3_unit rfl rfl rfl (by decide +kernel) ⟨Nat.le_of_ble_eq_true rfl, Nat.le_of_ble_eq_true rfl⟩) hK hw h1 rfl rfl hl.1 rfl (Nat.le_of_ble_eq_true rfl) dX10_maker_64 ⟨Nat.le_of_ble_eq_true rfl, (Nat.le_of_ble_eq_true rfl)⟩ ?_
  exact W.lret hx hb hr (fun t ht _ => ⟨rfl, ht⟩) (fun _ h => absurd h List.not_mem_nil) dX10_maker_67
set_option maxHeartbeats 4000000 in
set_option maxRecDepth 100000 in
theorem c_X10_maker_4 (l : Launch) (D : va_G) (tc : Nat → ClassId) (sz : Nat) (ad : Nat → Nat) (ct : Nat → Option va_E) {N nt : Nat} {b cm lf : Int32} {ss g : Int64}      (h0 : ct 0 = some (.inr (10, [.ref (ad 1), .ref (ad 3), .int (nI nt), .ref (ad 4), .ref (ad 9), .ref (ad 11), .ref (ad 12), .ref (ad 13), .int lf]))) (h1 : ct 1 = some (.inr (3, [.ref (ad 2), .int (nI N), .int b, .long ss, .long g, .int cm]))) : Met l yX10_maker wsX10_maker ({ frames := 3, cells := 0, slots := 0, locals := 77 }) (va_Pc [.ref (ad 0), .int 4] (kw_B D tc sz ad ct)) (k2_QcV (.long cm.toInt64)) 0 0 (fun _ => False) := by
  refine Met.ofW (cc := cX10_maker) (maxL := 2) (ret := (some .long)) (by decide) rfl ?_
  intro pg en s m args below meth cod s₁ B hml hv
  obtain ⟨rfl, hsz, hP0, hK⟩ := hv
  have hx := B.exec
  have hb := B.bytes
  have hr := B.returns
  have hts := atoms_spec (ws := wsX10_maker) B.pre
  have hown : s.vm.findClass RX10 = some m.cls := findClass_of_methodNamed B.named
  have hlocks := B.notSynchronized
  subst hsz
  have hw := kw_H.start hP0
  generalize kw_A ad ct s.heap.size = A at hw
  have hinX10 : ∀ w ∈ wsX100, w ∈ wsX10_maker := by decide +kernel
  have hl := lv_entry ([.ref (ad 0), .int 4]) (n := 2) (Nat.le_of_ble_eq_true rfl)
  rw [lg_entry_eq]
  generalize (lg_sl ([.ref (ad 0), .int 4]) ++ List.replicate (2 - (lg_sl ([.ref (ad 0), .int 4])).length) Slot.unset).toArray = ls at hl ⊢
  have hl : lv_has ls 2 [(0, .ref (ad 0)), (1, .int 4)] := hl
  have S0 : CallFix pg m cod cX10_maker 2 s _ wsX10_maker RX10 := ⟨hx, hb, hml, hown, hts⟩
  refine lv_iload_n hx hb dX10_maker_0 rfl (lv_at hl 1 rfl) ?_
  refine lv_tableIn (off := 67) (tgt := 68) hx hb dX10_maker_1 (by decide) (by decide) (by decide) (by decide) ?_
  refine lv_aload_n hx hb dX10_maker_68 rfl (lv_at hl 0 rfl) ?_
  refine kg_get (v := .ref (ad 1)) (C := RX10) (T := TX10) (N := 9) hx hb hts hinX10 hown hK hw h0 rfl 0 (by decide) (hts (.fieldLink RX10 12 "BetMaker" "maker" "LBetMaker$Maker;") (by decide +kernel)) (fun _ h9 => h9) rfl dX10_maker_69 ?_
  refine kc_v (As := []) (rest := []) S0 (c_X3_came l D tc s.heap.size ad ct (N := N) h1) (cwV 0 hts gX10_maker_X3_came rfl rfl rfl (by decide +kernel) ⟨Nat.le_of_ble_eq_true rfl, Nat.le_of_ble_eq_true rfl⟩) hK hw h1 rfl rfl hl.1 rfl (Nat.le_of_ble_eq_true rfl) dX10_maker_72 ⟨Nat.le_of_ble_eq_true rfl, (Nat.le_of_ble_eq_true rfl)⟩ ?_
  refine lv_i2l (v := cm.toInt64) hx hb dX10_maker_75 rfl ?_
  exact W.lret hx hb hr (fun t ht _ => ⟨rfl, ht⟩) (fun _ h => absurd h List.not_mem_nil) dX10_maker_76
set_option maxHeartbeats 4000000 in
set_option maxRecDepth 100000 in
theorem c_X10_maker_d (l : Launch) (D : va_G) (tc : Nat → ClassId) (sz : Nat) (ad : Nat → Nat) (ct : Nat → Option va_E)        {what : Int32} (w0 : ¬ what = 0) (w1 : ¬ what = 1) (w2 : ¬ what = 2) (w3 : ¬ what = 3) (w4 : ¬ what = 4) : Met l yX10_maker wsX10_maker ({ frames := 3, cells := 0, slots := 0, locals := 77 }) (va_Pc [.ref (ad 0), .int what] (kw_B D tc sz ad ct)) (k2_QcV (.long (-9223372036854775808))) 0 0 (fun _ => False) := by
  refine Met.ofW (cc := cX10_maker) (maxL := 2) (ret := (some .long)) (by decide) rfl ?_
  intro pg en s m args below meth cod s₁ B hml hv
  obtain ⟨rfl, hsz, hP0, hK⟩ := hv
  have hx := B.exec
  have hb := B.bytes
  have hr := B.returns
  have hts := atoms_spec (ws := wsX10_maker) B.pre
  have hown : s.vm.findClass RX10 = some m.cls := findClass_of_methodNamed B.named
  have hlocks := B.notSynchronized
  subst hsz
  have hw := kw_H.start hP0
  generalize kw_A ad ct s.heap.size = A at hw
  have hinX10 : ∀ w ∈ wsX100, w ∈ wsX10_maker := by decide +kernel
  have hl := lv_entry ([.ref (ad 0), .int what]) (n := 2) (Nat.le_of_ble_eq_true rfl)
  rw [lg_entry_eq]
  generalize (lg_sl ([.ref (ad 0), .int what]) ++ List.replicate (2 - (lg_sl ([.ref (ad 0), .int what])).length) Slot.unset).toArray = ls at hl ⊢
  have hl : lv_has ls 2 [(0, .ref (ad 0)), (1, .int what)] := hl
  have S0 : CallFix pg m cod cX10_maker 2 s _ wsX10_maker RX10 := ⟨hx, hb, hml, hown, hts⟩
  refine lv_iload_n hx hb dX10_maker_0 rfl (lv_at hl 1 rfl) ?_
  refine lv_tableOut (tgt := 77) hx hb dX10_maker_1 (by have q0 := lv_neT w0 (a := 0) (by decide); have q1 := lv_neT w1 (a := 1) (by decide); have q2 := lv_neT w2 (a := 2) (by decide); have q3 := lv_neT w3 (a := 3) (by decide); have q4 := lv_neT w4 (a := 4) (by decide); omega) (by decide) ?_
  refine lv_ldc2 (v := (-9223372036854775808)) hx hb hown (hts (.constantLong RX10 85 (-9223372036854775808)) (by decide +kernel)) dX10_maker_77 ?_
  exact W.lret hx hb hr (fun t ht _ => ⟨rfl, ht⟩) (fun _ h => absurd h List.not_mem_nil) dX10_maker_80
set_option maxHeartbeats 4000000 in
set_option maxRecDepth 100000 in
theorem c_X10_ofCase_d (l : Launch) (D : va_G) (tc : Nat → ClassId) (sz : Nat) (ad : Nat → Nat) (ct : Nat → Option va_E) {N nt t : Nat} {b cm lf : Int32} {ss g : Int64}     {what : Int32} (h0 : ct 0 = some (.inr (10, [.ref (ad 1), .ref (ad 3), .int (nI nt), .ref (ad 4), .ref (ad 9), .ref (ad 11), .ref (ad 12), .ref (ad 13), .int lf]))) (h1 : ct 1 = some (.inr (3, [.ref (ad 2), .int (nI N), .int b, .long ss, .long g, .int cm]))) (wa : ¬ (0 ≤ what - 10 ∧ what - 10 < nI N)) (wb : ¬ (0 ≤ what - 20 ∧ what - 20 < nI N)) : Met l yX10_ofCase wsX10_ofCase ({ frames := 1, cells := 0, slots := 0, locals := 25 }) (va_Pc [.ref (ad 0), .ref (ad (30 + t)), .int what] (kw_B D tc sz ad ct)) (k2_QcV (.long (-9223372036854775808))) 0 0 (fun _ => False) := by
  refine Met.ofW (cc := cX10_ofCase) (maxL := 3) (ret := (some .long)) (by decide) rfl ?_
  intro pg en s m args below meth cod s₁ B hml hv
  obtain ⟨rfl, hsz, hP0, hK⟩ := hv
  have hx := B.exec
  have hb := B.bytes
  have hr := B.returns
  have hts := atoms_spec (ws := wsX10_ofCase) B.pre
  have hown : s.vm.findClass RX10 = some m.cls := findClass_of_methodNamed B.named
  have hlocks := B.notSynchronized
  subst hsz
  have hw := kw_H.start hP0
  generalize kw_A ad ct s.heap.size = A at hw
  have hinX10 : ∀ w ∈ wsX100, w ∈ wsX10_ofCase := by decide +kernel
  have hl := lv_entry ([.ref (ad 0), .ref (ad (30 + t)), .int what]) (n := 3) (Nat.le_of_ble_eq_true rfl)
  rw [lg_entry_eq]
  generalize (lg_sl ([.ref (ad 0), .ref (ad (30 + t)), .int what]) ++ List.replicate (3 - (lg_sl ([.ref (ad 0), .ref (ad (30 + t)), .int what])).length) Slot.unset).toArray = ls at hl ⊢
  have hl : lv_has ls 3 [(0, .ref (ad 0)), (1, .ref (ad (30 + t))), (2, .int what)] := hl
  have S0 : CallFix pg m cod cX10_ofCase 3 s _ wsX10_ofCase RX10 := ⟨hx, hb, hml, hown, hts⟩
  refine lv_iload_n hx hb dX10_ofCase_0 rfl (lv_at hl 2 rfl) ?_
  refine lv_bipush (v := 10) hx hb dX10_ofCase_1 (by decide) ?_
  refine lv_icmp_lt (tgt := 29) hx hb dX10_ofCase_3 (by decide) (fun c_1 => ?_) (fun c_1 => ?_)
  · refine lv_iload_n hx hb dX10_ofCase_29 rfl (lv_at hl 2 rfl) ?_
    refine lv_bipush (v := 20) hx hb dX10_ofCase_30 (by decide) ?_
    refine lv_icmp_lt (tgt := 59) hx hb dX10_ofCase_32 (by decide) (fun c_2 => ?_) (fun c_2 => ?_)
    · refine lv_ldc2 (v := (-9223372036854775808)) hx hb hown (hts (.constantLong RX10 85 (-9223372036854775808)) (by decide +kernel)) dX10_ofCase_59 ?_
      exact W.lret hx hb hr (fun t ht _ => ⟨rfl, ht⟩) (fun _ h => absurd h List.not_mem_nil) dX10_ofCase_62
    · refine lv_aload_n hx hb dX10_ofCase_35 rfl (lv_at hl 0 rfl) ?_
      refine kg_get (v := .ref (ad 1)) (C := RX10) (T := TX10) (N := 9) hx hb hts hinX10 hown hK hw h0 rfl 0 (by decide) (hts (.fieldLink RX10 12 "BetMaker" "maker" "LBetMaker$Maker;") (by decide +kernel)) (fun _ h9 => h9) rfl dX10_ofCase_36 ?_
      refine lv_iload_n hx hb dX10_ofCase_39 rfl (lv_at hl 2 rfl) ?_
      refine lv_bipush (v := 20) hx hb dX10_ofCase_40 (by decide) ?_
      refine lv_isub hx hb dX10_ofCase_42 ?_
      refine kc_v (As := [.int (what - 20)]) (rest := []) S0 (c_X3_isCase l D tc s.heap.size ad ct (N := N) h1) (cwV 1 hts gX10_ofCase_X3_isCase rfl rfl rfl (by decide +kernel) ⟨Nat.le_of_ble_eq_true rfl, Nat.le_of_ble_eq_true rfl⟩) hK hw h1 rfl rfl hl.1 rfl (Nat.le_of_ble_eq_true rfl) dX10_ofCase_43 ⟨Nat.le_of_ble_eq_true rfl, (Nat.le_of_ble_eq_true rfl)⟩ ?_
      refine kb_ifeq (tgt := 59) hx hb dX10_ofCase_46 (by decide) (fun c_3 => ?_) (fun c_3 => ?_)
      · refine lv_ldc2 (v := (-9223372036854775808)) hx hb hown (hts (.constantLong RX10 85 (-9223372036854775808)) (by decide +kernel)) dX10_ofCase_59 ?_
        exact W.lret hx hb hr (fun t ht _ => ⟨rfl, ht⟩) (fun _ h => absurd h List.not_mem_nil) dX10_ofCase_62
      · exact absurd c_3 wb
  · refine lv_aload_n hx hb dX10_ofCase_6 rfl (lv_at hl 0 rfl) ?_
    refine kg_get (v := .ref (ad 1)) (C := RX10) (T := TX10) (N := 9) hx hb hts hinX10 hown hK hw h0 rfl 0 (by decide) (hts (.fieldLink RX10 12 "BetMaker" "maker" "LBetMaker$Maker;") (by decide +kernel)) (fun _ h9 => h9) rfl dX10_ofCase_7 ?_
    refine lv_iload_n hx hb dX10_ofCase_10 rfl (lv_at hl 2 rfl) ?_
    refine lv_bipush (v := 10) hx hb dX10_ofCase_11 (by decide) ?_
    refine lv_isub hx hb dX10_ofCase_13 ?_
    refine kc_v (As := [.int (what - 10)]) (rest := []) S0 (c_X3_isCase l D tc s.heap.size ad ct (N := N) h1) (cwV 1 hts gX10_ofCase_X3_isCase rfl rfl rfl (by decide +kernel) ⟨Nat.le_of_ble_eq_true rfl, Nat.le_of_ble_eq_true rfl⟩) hK hw h1 rfl rfl hl.1 rfl (Nat.le_of_ble_eq_true rfl) dX10_ofCase_14 ⟨Nat.le_of_ble_eq_true rfl, (Nat.le_of_ble_eq_true rfl)⟩ ?_
    refine kb_ifeq (tgt := 29) hx hb dX10_ofCase_17 (by decide) (fun c_4 => ?_) (fun c_4 => ?_)
    · refine lv_iload_n hx hb dX10_ofCase_29 rfl (lv_at hl 2 rfl) ?_
      refine lv_bipush (v := 20) hx hb dX10_ofCase_30 (by decide) ?_
      refine lv_icmp_lt (tgt := 59) hx hb dX10_ofCase_32 (by decide) (fun c_5 => ?_) (fun c_5 => ?_)
      · refine lv_ldc2 (v := (-9223372036854775808)) hx hb hown (hts (.constantLong RX10 85 (-9223372036854775808)) (by decide +kernel)) dX10_ofCase_59 ?_
        exact W.lret hx hb hr (fun t ht _ => ⟨rfl, ht⟩) (fun _ h => absurd h List.not_mem_nil) dX10_ofCase_62
      · refine lv_aload_n hx hb dX10_ofCase_35 rfl (lv_at hl 0 rfl) ?_
        refine kg_get (v := .ref (ad 1)) (C := RX10) (T := TX10) (N := 9) hx hb hts hinX10 hown hK hw h0 rfl 0 (by decide) (hts (.fieldLink RX10 12 "BetMaker" "maker" "LBetMaker$Maker;") (by decide +kernel)) (fun _ h9 => h9) rfl dX10_ofCase_36 ?_
        refine lv_iload_n hx hb dX10_ofCase_39 rfl (lv_at hl 2 rfl) ?_
        refine lv_bipush (v := 20) hx hb dX10_ofCase_40 (by decide) ?_
        refine lv_isub hx hb dX10_ofCase_42 ?_
        refine kc_v (As := [.int (what - 20)]) (rest := []) S0 (c_X3_isCase l D tc s.heap.size ad ct (N := N) h1) (cwV 1 hts gX10_ofCase_X3_isCase rfl rfl rfl (by decide +kernel) ⟨Nat.le_of_ble_eq_true rfl, Nat.le_of_ble_eq_true rfl⟩) hK hw h1 rfl rfl hl.1 rfl (Nat.le_of_ble_eq_true rfl) dX10_ofCase_43 ⟨Nat.le_of_ble_eq_true rfl, (Nat.le_of_ble_eq_true rfl)⟩ ?_
        refine kb_ifeq (tgt := 59) hx hb dX10_ofCase_46 (by decide) (fun c_6 => ?_) (fun c_6 => ?_)
        · refine lv_ldc2 (v := (-9223372036854775808)) hx hb hown (hts (.constantLong RX10 85 (-9223372036854775808)) (by decide +kernel)) dX10_ofCase_59 ?_
          exact W.lret hx hb hr (fun t ht _ => ⟨rfl, ht⟩) (fun _ h => absurd h List.not_mem_nil) dX10_ofCase_62
        · exact absurd c_6 wb
    · exact absurd c_4 wa
set_option maxHeartbeats 4000000 in
set_option maxRecDepth 100000 in
theorem c_X10_ofCase_h (l : Launch) (D : va_G) (tc : Nat → ClassId) (sz : Nat) (ad : Nat → Nat) (ct : Nat → Option va_E) {N nt ci t c : Nat} {b cm lf nb de : Int32} {ss g pu : Int64} {ho : Nat → Int64}     (h0 : ct 0 = some (.inr (10, [.ref (ad 1), .ref (ad 3), .int (nI nt), .ref (ad 4), .ref (ad 9), .ref (ad 11), .ref (ad 12), .ref (ad 13), .int lf]))) (h1 : ct 1 = some (.inr (3, [.ref (ad 2), .int (nI N), .int b, .long ss, .long g, .int cm]))) (h30 : ct (30 + t) = some (.inr (ci, [.int nb, .ref (ad (36 + t)), .ref (ad (42 + t)), .long pu, .int de]))) (h36 : ct (36 + t) = some (eJ tc N ho)) (hci : ci = 5 ∨ ci = 7 ∨ ci = 9) (hc : c < N) (hN : N ≤ 8) : Met l yX10_ofCase wsX10_ofCase ({ frames := 1, cells := 0, slots := 0, locals := 25 }) (va_Pc [.ref (ad 0), .ref (ad (30 + t)), .int (nI (10 + c))] (kw_B D tc sz ad ct)) (k2_QcV (.long (ho c))) 0 0 (fun _ => False) := by
  refine Met.ofW (cc := cX10_ofCase) (maxL := 3) (ret := (some .long)) (by decide) rfl ?_
  intro pg en s m args below meth cod s₁ B hml hv
  obtain ⟨rfl, hsz, hP0, hK⟩ := hv
  have hx := B.exec
  have hb := B.bytes
  have hr := B.returns
  have hts := atoms_spec (ws := wsX10_ofCase) B.pre
  have hown : s.vm.findClass RX10 = some m.cls := findClass_of_methodNamed B.named
  have hlocks := B.notSynchronized
  subst hsz
  have hw := kw_H.start hP0
  generalize kw_A ad ct s.heap.size = A at hw
  have hinX10 : ∀ w ∈ wsX100, w ∈ wsX10_ofCase := by decide +kernel
  have hl := lv_entry ([.ref (ad 0), .ref (ad (30 + t)), .int (nI (10 + c))]) (n := 3) (Nat.le_of_ble_eq_true rfl)
  rw [lg_entry_eq]
  generalize (lg_sl ([.ref (ad 0), .ref (ad (30 + t)), .int (nI (10 + c))]) ++ List.replicate (3 - (lg_sl ([.ref (ad 0), .ref (ad (30 + t)), .int (nI (10 + c))])).length) Slot.unset).toArray = ls at hl ⊢
  have hl : lv_has ls 3 [(0, .ref (ad 0)), (1, .ref (ad (30 + t))), (2, .int (nI (10 + c)))] := hl
  have S0 : CallFix pg m cod cX10_ofCase 3 s _ wsX10_ofCase RX10 := ⟨hx, hb, hml, hown, hts⟩
  have kA : 0 ≤ nI (10 + c) - 10 ∧ nI (10 + c) - 10 < nI N := by rw [show nI (10 + c) - 10 = nI c from kw_m 10 c (by omega)]; exact ⟨nI_pos' (by omega), nI_lt hc (by omega)⟩
  refine lv_iload_n hx hb dX10_ofCase_0 rfl (lv_at hl 2 rfl) ?_
  refine lv_bipush (v := 10) hx hb dX10_ofCase_1 (by decide) ?_
  refine kn_lt (10 + c) 10 rfl rfl (by omega) (by omega) (tgt := 29) hx hb dX10_ofCase_3 (by decide) (fun c_1 => ?_) (fun c_1 => ?_)
  · exfalso; omega
  · refine lv_aload_n hx hb dX10_ofCase_6 rfl (lv_at hl 0 rfl) ?_
    refine kg_get (v := .ref (ad 1)) (C := RX10) (T := TX10) (N := 9) hx hb hts hinX10 hown hK hw h0 rfl 0 (by decide) (hts (.fieldLink RX10 12 "BetMaker" "maker" "LBetMaker$Maker;") (by decide +kernel)) (fun _ h9 => h9) rfl dX10_ofCase_7 ?_
    refine lv_iload_n hx hb dX10_ofCase_10 rfl (lv_at hl 2 rfl) ?_
    refine lv_bipush (v := 10) hx hb dX10_ofCase_11 (by decide) ?_
    refine lv_isub hx hb dX10_ofCase_13 ?_
    refine kc_v (As := [.int ((nI (10 + c)) - 10)]) (rest := []) S0 (c_X3_isCase l D tc s.heap.size ad ct (N := N) h1) (cwV 1 hts gX10_ofCase_X3_isCase rfl rfl rfl (by decide +kernel) ⟨Nat.le_of_ble_eq_true rfl, Nat.le_of_ble_eq_true rfl⟩) hK hw h1 rfl rfl hl.1 rfl (Nat.le_of_ble_eq_true rfl) dX10_ofCase_14 ⟨Nat.le_of_ble_eq_true rfl, (Nat.le_of_ble_eq_true rfl)⟩ ?_
    refine kb_ifeq (tgt := 29) hx hb dX10_ofCase_17 (by decide) (fun c_2 => ?_) (fun c_2 => ?_)
    · exact absurd kA c_2
    · refine lv_aload_n hx hb dX10_ofCase_20 rfl (lv_at hl 1 rfl) ?_
      refine lv_iload_n hx hb dX10_ofCase_21 rfl (lv_at hl 2 rfl) ?_
      refine lv_bipush (v := 10) hx hb dX10_ofCase_22 (by decide) ?_
      refine lv_isub hx hb dX10_ofCase_24 ?_
      refine W.eq (congrArg (fun z => F0 m 25 ls (.int z :: .ref (ad (30 + t)) :: [])) (show (nI (10 + c)) - 10 = nI c from by exact kw_m 10 c (by omega))) ?_
      refine kt_v (As := [.int (nI c)]) (rest := []) S0 hci (c_X5_heldOf l D tc s.heap.size ad ct (c := c) h30 h36 hci (by omega) (by omega)) (cwV 1 hts gX10_ofCase_X5_heldOf rfl rfl rfl (by decide +kernel) ⟨Nat.le_of_ble_eq_true rfl, Nat.le_of_ble_eq_true rfl⟩) (va_cwU 1 hts gX10_ofCase_X5_heldOf_u331X7 rfl rfl rfl rfl (by decide +kernel) ⟨Nat.le_of_ble_eq_true rfl, Nat.le_of_ble_eq_true rfl⟩) (va_cwU 1 hts gX10_ofCase_X5_heldOf_u331X9 rfl rfl rfl rfl (by decide +kernel) ⟨Nat.le_of_ble_eq_true rfl, Nat.le_of_ble_eq_true rfl⟩) hK hw h30 rfl hl.1 rfl (Nat.le_of_ble_eq_true rfl) dX10_ofCase_25 ⟨Nat.le_of_ble_eq_true rfl, (Nat.le_of_ble_eq_true rfl)⟩ ?_
      exact W.lret hx hb hr (fun t ht _ => ⟨rfl, ht⟩) (fun _ h => absurd h List.not_mem_nil) dX10_ofCase_28
set_option maxHeartbeats 4000000 in
set_option maxRecDepth 100000 in
theorem c_X10_ofCase_w (l : Launch) (D : va_G) (tc : Nat → ClassId) (sz : Nat) (ad : Nat → Nat) (ct : Nat → Option va_E) {N nt ci t c : Nat} {b cm lf nb de : Int32} {ss g pu : Int64}   {we : Nat → Int32}   (h0 : ct 0 = some (.inr (10, [.ref (ad 1), .ref (ad 3), .int (nI nt), .ref (ad 4), .ref (ad 9), .ref (ad 11), .ref (ad 12), .ref (ad 13), .int lf]))) (h1 : ct 1 = some (.inr (3, [.ref (ad 2), .int (nI N), .int b, .long ss, .long g, .int cm]))) (h30 : ct (30 + t) = some (.inr (ci, [.int nb, .ref (ad (36 + t)), .ref (ad (42 + t)), .long pu, .int de]))) (h42 : ct (42 + t) = some (eI tc N we)) (hci : ci = 5 ∨ ci = 7 ∨ ci = 9) (hc : c < N) (hN : N ≤ 8) : Met l yX10_ofCase wsX10_ofCase ({ frames := 1, cells := 0, slots := 0, locals := 25 }) (va_Pc [.ref (ad 0), .ref (ad (30 + t)), .int (nI (20 + c))] (kw_B D tc sz ad ct)) (k2_QcV (.long ((we c).toInt64))) 0 0 (fun _ => False) := by
  refine Met.ofW (cc := cX10_ofCase) (maxL := 3) (ret := (some .long)) (by decide) rfl ?_
  intro pg en s m args below meth cod s₁ B hml hv
  obtain ⟨rfl, hsz, hP0, hK⟩ := hv
  have hx := B.exec
  have hb := B.bytes
  have hr := B.returns
  have hts := atoms_spec (ws := wsX10_ofCase) B.pre
  have hown : s.vm.findClass RX10 = some m.cls := findClass_of_methodNamed B.named
  have hlocks := B.notSynchronized
  subst hsz
  have hw := kw_H.start hP0
  generalize kw_A ad ct s.heap.size = A at hw
  have hinX10 : ∀ w ∈ wsX100, w ∈ wsX10_ofCase := by decide +kernel
  have hl := lv_entry ([.ref (ad 0), .ref (ad (30 + t)), .int (nI (20 + c))]) (n := 3) (Nat.le_of_ble_eq_true rfl)
  rw [lg_entry_eq]
  generalize (lg_sl ([.ref (ad 0), .ref (ad (30 + t)), .int (nI (20 + c))]) ++ List.replicate (3 - (lg_sl ([.ref (ad 0), .ref (ad (30 + t)), .int (nI (20 + c))])).length) Slot.unset).toArray = ls at hl ⊢
  have hl : lv_has ls 3 [(0, .ref (ad 0)), (1, .ref (ad (30 + t))), (2, .int (nI (20 + c)))] := hl
  have S0 : CallFix pg m cod cX10_ofCase 3 s _ wsX10_ofCase RX10 := ⟨hx, hb, hml, hown, hts⟩
  have kA : ¬ (0 ≤ nI (20 + c) - 10 ∧ nI (20 + c) - 10 < nI N) := by rw [show nI (20 + c) - 10 = nI (10 + c) from (by rw [show (20 + c) = 10 + (10 + c) by omega]; exact kw_m 10 (10 + c) (by omega))]; exact fun q => nI_nlt (a := 10 + c) (b := N) (by omega) (by omega) q.2
  have kB : 0 ≤ nI (20 + c) - 20 ∧ nI (20 + c) - 20 < nI N := by rw [show nI (20 + c) - 20 = nI c from kw_m 20 c (by omega)]; exact ⟨nI_pos' (by omega), nI_lt hc (by omega)⟩
  refine lv_iload_n hx hb dX10_ofCase_0 rfl (lv_at hl 2 rfl) ?_
  refine lv_bipush (v := 10) hx hb dX10_ofCase_1 (by decide) ?_
  refine kn_lt (20 + c) 10 rfl rfl (by omega) (by omega) (tgt := 29) hx hb dX10_ofCase_3 (by decide) (fun c_1 => ?_) (fun c_1 => ?_)
  · exfalso; omega
  · refine lv_aload_n hx hb dX10_ofCase_6 rfl (lv_at hl 0 rfl) ?_
    refine kg_get (v := .ref (ad 1)) (C := RX10) (T := TX10) (N := 9) hx hb hts hinX10 hown hK hw h0 rfl 0 (by decide) (hts (.fieldLink RX10 12 "BetMaker" "maker" "LBetMaker$Maker;") (by decide +kernel)) (fun _ h9 => h9) rfl dX10_ofCase_7 ?_
    refine lv_iload_n hx hb dX10_ofCase_10 rfl (lv_at hl 2 rfl) ?_
    refine lv_bipush (v := 10) hx hb dX10_ofCase_11 (by decide) ?_
    refine lv_isub hx hb dX10_ofCase_13 ?_
    refine kc_v (As := [.int ((nI (20 + c)) - 10)]) (rest := []) S0 (c_X3_isCase l D tc s.heap.size ad ct (N := N) h1) (cwV 1 hts gX10_ofCase_X3_isCase rfl rfl rfl (by decide +kernel) ⟨Nat.le_of_ble_eq_true rfl, Nat.le_of_ble_eq_true rfl⟩) hK hw h1 rfl rfl hl.1 rfl (Nat.le_of_ble_eq_true rfl) dX10_ofCase_14 ⟨Nat.le_of_ble_eq_true rfl, (Nat.le_of_ble_eq_true rfl)⟩ ?_
    refine kb_ifeq (tgt := 29) hx hb dX10_ofCase_17 (by decide) (fun c_2 => ?_) (fun c_2 => ?_)
    · refine lv_iload_n hx hb dX10_ofCase_29 rfl (lv_at hl 2 rfl) ?_
      refine lv_bipush (v := 20) hx hb dX10_ofCase_30 (by decide) ?_
      refine kn_lt (20 + c) 20 rfl rfl (by omega) (by omega) (tgt := 59) hx hb dX10_ofCase_32 (by decide) (fun c_3 => ?_) (fun c_3 => ?_)
      · exfalso; omega
      · refine lv_aload_n hx hb dX10_ofCase_35 rfl (lv_at hl 0 rfl) ?_
        refine kg_get (v := .ref (ad 1)) (C := RX10) (T := TX10) (N := 9) hx hb hts hinX10 hown hK hw h0 rfl 0 (by decide) (hts (.fieldLink RX10 12 "BetMaker" "maker" "LBetMaker$Maker;") (by decide +kernel)) (fun _ h9 => h9) rfl dX10_ofCase_36 ?_
        refine lv_iload_n hx hb dX10_ofCase_39 rfl (lv_at hl 2 rfl) ?_
        refine lv_bipush (v := 20) hx hb dX10_ofCase_40 (by decide) ?_
        refine lv_isub hx hb dX10_ofCase_42 ?_
        refine kc_v (As := [.int ((nI (20 + c)) - 20)]) (rest := []) S0 (c_X3_isCase l D tc s.heap.size ad ct (N := N) h1) (cwV 1 hts gX10_ofCase_X3_isCase rfl rfl rfl (by decide +kernel) ⟨Nat.le_of_ble_eq_true rfl, Nat.le_of_ble_eq_true rfl⟩) hK hw h1 rfl rfl hl.1 rfl (Nat.le_of_ble_eq_true rfl) dX10_ofCase_43 ⟨Nat.le_of_ble_eq_true rfl, (Nat.le_of_ble_eq_true rfl)⟩ ?_
        refine kb_ifeq (tgt := 59) hx hb dX10_ofCase_46 (by decide) (fun c_4 => ?_) (fun c_4 => ?_)
        · exact absurd kB c_4
        · refine lv_aload_n hx hb dX10_ofCase_49 rfl (lv_at hl 1 rfl) ?_
          refine lv_iload_n hx hb dX10_ofCase_50 rfl (lv_at hl 2 rfl) ?_
          refine lv_bipush (v := 20) hx hb dX10_ofCase_51 (by decide) ?_
          refine lv_isub hx hb dX10_ofCase_53 ?_
          refine W.eq (congrArg (fun z => F0 m 54 ls (.int z :: .ref (ad (30 + t)) :: [])) (show (nI (20 + c)) - 20 = nI c from by exact kw_m 20 c (by omega))) ?_
          refine kt_v (As := [.int (nI c)]) (rest := []) S0 hci (c_X5_weightOf l D tc s.heap.size ad ct (c := c) h30 h42 hci (by omega) (by omega)) (cwV 1 hts gX10_ofCase_X5_weightOf rfl rfl rfl (by decide +kernel) ⟨Nat.le_of_ble_eq_true rfl, Nat.le_of_ble_eq_true rfl⟩) (va_cwU 1 hts gX10_ofCase_X5_weightOf_u173X7 rfl rfl rfl rfl (by decide +kernel) ⟨Nat.le_of_ble_eq_true rfl, Nat.le_of_ble_eq_true rfl⟩) (va_cwU 1 hts gX10_ofCase_X5_weightOf_u173X9 rfl rfl rfl rfl (by decide +kernel) ⟨Nat.le_of_ble_eq_true rfl, Nat.le_of_ble_eq_true rfl⟩) hK hw h30 rfl hl.1 rfl (Nat.le_of_ble_eq_true rfl) dX10_ofCase_54 ⟨Nat.le_of_ble_eq_true rfl, (Nat.le_of_ble_eq_true rfl)⟩ ?_
          refine lv_i2l (v := (we c).toInt64) hx hb dX10_ofCase_57 rfl ?_
          exact W.lret hx hb hr (fun t ht _ => ⟨rfl, ht⟩) (fun _ h => absurd h List.not_mem_nil) dX10_ofCase_58
    · exact absurd c_2 kA
set_option maxHeartbeats 4000000 in
set_option maxRecDepth 100000 in
theorem c_X10_of_n (l : Launch) (D : va_G) (tc : Nat → ClassId) (sz : Nat) (ad : Nat → Nat) (ct : Nat → Option va_E) {nt : Nat} {lf : Int32}      {t1 what : Int32} (h0 : ct 0 = some (.inr (10, [.ref (ad 1), .ref (ad 3), .int (nI nt), .ref (ad 4), .ref (ad 9), .ref (ad 11), .ref (ad 12), .ref (ad 13), .int lf]))) (ht : ¬ (0 ≤ t1 ∧ t1 < nI nt)) : Met l yX10_of wsX10_of ({ frames := 2, cells := 0, slots := 0, locals := 56 }) (va_Pc [.ref (ad 0), .int t1, .int what] (kw_B D tc sz ad ct)) (k2_QcV (.long (-9223372036854775808))) 0 0 (fun _ => False) := by
  refine Met.ofW (cc := cX10_of) (maxL := 4) (ret := (some .long)) (by decide) rfl ?_
  intro pg en s m args below meth cod s₁ B hml hv
  obtain ⟨rfl, hsz, hP0, hK⟩ := hv
  have hx := B.exec
  have hb := B.bytes
  have hr := B.returns
  have hts := atoms_spec (ws := wsX10_of) B.pre
  have hown : s.vm.findClass RX10 = some m.cls := findClass_of_methodNamed B.named
  have hlocks := B.notSynchronized
  subst hsz
  have hw := kw_H.start hP0
  generalize kw_A ad ct s.heap.size = A at hw
  have hl := lv_entry ([.ref (ad 0), .int t1, .int what]) (n := 4) (Nat.le_of_ble_eq_true rfl)
  rw [lg_entry_eq]
  generalize (lg_sl ([.ref (ad 0), .int t1, .int what]) ++ List.replicate (4 - (lg_sl ([.ref (ad 0), .int t1, .int what])).length) Slot.unset).toArray = ls at hl ⊢
  have hl : lv_has ls 4 [(0, .ref (ad 0)), (1, .int t1), (2, .int what)] := hl
  have S0 : CallFix pg m cod cX10_of 4 s _ wsX10_of RX10 := ⟨hx, hb, hml, hown, hts⟩
  refine lv_aload_n hx hb dX10_of_0 rfl (lv_at hl 0 rfl) ?_
  refine lv_iload_n hx hb dX10_of_1 rfl (lv_at hl 1 rfl) ?_
  refine kc_v (As := [.int t1]) (rest := []) S0 (c_X10_findTrader_n l D tc s.heap.size ad ct (nt := nt) h0 ht) (cwV 1 hts gX10_of_X10_findTrader rfl rfl rfl (by decide +kernel) ⟨Nat.le_of_ble_eq_true rfl, Nat.le_of_ble_eq_true rfl⟩) hK hw h0 rfl rfl hl.1 rfl (Nat.le_of_ble_eq_true rfl) dX10_of_2 ⟨Nat.le_of_ble_eq_true rfl, (Nat.le_of_ble_eq_true rfl)⟩ ?_
  refine lv_astore_nN (lv' := [(3, .null), (0, .ref (ad 0)), (1, .int t1), (2, .int what)]) hx hb dX10_of_5 rfl hl (by decide) rfl (fun ls hl => ?_)
  refine lv_aload_nN hx hb dX10_of_6 rfl (lv_at hl 0 rfl) ?_
  refine lv_ifnonnullN hx hb dX10_of_7 ?_
  refine lv_ldc2 (v := (-9223372036854775808)) hx hb hown (hts (.constantLong RX10 85 (-9223372036854775808)) (by decide +kernel)) dX10_of_10 ?_
  exact W.lret hx hb hr (fun t ht _ => ⟨rfl, ht⟩) (fun _ h => absurd h List.not_mem_nil) dX10_of_13
set_option maxHeartbeats 4000000 in
set_option maxRecDepth 100000 in
theorem c_X10_of_d (l : Launch) (D : va_G) (tc : Nat → ClassId) (sz : Nat) (ad : Nat → Nat) (ct : Nat → Option va_E) {N nt t : Nat} {b cm lf : Int32} {ss g : Int64}  {qt : Nat → Option Nat}   {what : Int32} (h0 : ct 0 = some (.inr (10, [.ref (ad 1), .ref (ad 3), .int (nI nt), .ref (ad 4), .ref (ad 9), .ref (ad 11), .ref (ad 12), .ref (ad 13), .int lf]))) (h1 : ct 1 = some (.inr (3, [.ref (ad 2), .int (nI N), .int b, .long ss, .long g, .int cm]))) (h3 : ct 3 = some (eQ tc 4 6 qt)) (ht : t < nt) (hnt : nt ≤ 6) (hqt : qt t = some (ad (30 + t))) (wa : ¬ (0 ≤ what - 10 ∧ what - 10 < nI N)) (wb : ¬ (0 ≤ what - 20 ∧ what - 20 < nI N)) (w0 : ¬ what = 0) (w1 : ¬ what = 1) (w2 : ¬ what = 2) (w3 : ¬ what = 3) (w4 : ¬ what = 4) : Met l yX10_of wsX10_of ({ frames := 2, cells := 0, slots := 0, locals := 56 }) (va_Pc [.ref (ad 0), .int (nI t), .int what] (kw_B D tc sz ad ct)) (k2_QcV (.long (-9223372036854775808))) 0 0 (fun _ => False) := by
  refine Met.ofW (cc := cX10_of) (maxL := 4) (ret := (some .long)) (by decide) rfl ?_
  intro pg en s m args below meth cod s₁ B hml hv
  obtain ⟨rfl, hsz, hP0, hK⟩ := hv
  have hx := B.exec
  have hb := B.bytes
  have hr := B.returns
  have hts := atoms_spec (ws := wsX10_of) B.pre
  have hown : s.vm.findClass RX10 = some m.cls := findClass_of_methodNamed B.named
  have hlocks := B.notSynchronized
  subst hsz
  have hw := kw_H.start hP0
  generalize kw_A ad ct s.heap.size = A at hw
  have hl := lv_entry ([.ref (ad 0), .int (nI t), .int what]) (n := 4) (Nat.le_of_ble_eq_true rfl)
  rw [lg_entry_eq]
  generalize (lg_sl ([.ref (ad 0), .int (nI t), .int what]) ++ List.replicate (4 - (lg_sl ([.ref (ad 0), .int (nI t), .int what])).length) Slot.unset).toArray = ls at hl ⊢
  have hl : lv_has ls 4 [(0, .ref (ad 0)), (1, .int (nI t)), (2, .int what)] := hl
  have S0 : CallFix pg m cod cX10_of 4 s _ wsX10_of RX10 := ⟨hx, hb, hml, hown, hts⟩
  refine lv_aload_n hx hb dX10_of_0 rfl (lv_at hl 0 rfl) ?_
  refine lv_iload_n hx hb dX10_of_1 rfl (lv_at hl 1 rfl) ?_
  refine kc_v (As := [.int (nI t)]) (rest := []) S0 (c_X10_findTrader l D tc s.heap.size ad ct (t := t) (nt := nt) h0 h3 (by omega) (by omega) hqt) (cwV 1 hts gX10_of_X10_findTrader rfl rfl rfl (by decide +kernel) ⟨Nat.le_of_ble_eq_true rfl, Nat.le_of_ble_eq_true rfl⟩) hK hw h0 rfl rfl hl.1 rfl (Nat.le_of_ble_eq_true rfl) dX10_of_2 ⟨Nat.le_of_ble_eq_true rfl, (Nat.le_of_ble_eq_true rfl)⟩ ?_
  refine lv_astore_n (lv' := [(3, .ref (ad (30 + t))), (0, .ref (ad 0)), (1, .int (nI t)), (2, .int what)]) hx hb dX10_of_5 rfl hl (by decide) rfl (fun ls hl => ?_)
  refine lv_aload_n hx hb dX10_of_6 rfl (lv_at hl 0 rfl) ?_
  refine lv_ifnonnull (tgt := 14) hx hb dX10_of_7 (by decide) ?_
  refine lv_iload_n hx hb dX10_of_14 rfl (lv_at hl 3 rfl) ?_
  refine lv_tableOut (tgt := 77) hx hb dX10_of_15 (by have q0 := lv_neT w0 (a := 0) (by decide); have q1 := lv_neT w1 (a := 1) (by decide); have q2 := lv_neT w2 (a := 2) (by decide); have q3 := lv_neT w3 (a := 3) (by decide); have q4 := lv_neT w4 (a := 4) (by decide); omega) (by decide) ?_
  refine lv_aload_n hx hb dX10_of_77 rfl (lv_at hl 1 rfl) ?_
  refine lv_aload_n hx hb dX10_of_78 rfl (lv_at hl 0 rfl) ?_
  refine lv_iload_n hx hb dX10_of_79 rfl (lv_at hl 3 rfl) ?_
  refine kc_v (As := [.ref (ad (30 + t)), .int what]) (rest := []) S0 (c_X10_ofCase_d l D tc s.heap.size ad ct (t := t) (nt := nt) (N := N) h0 h1 wa wb) (cwV 2 hts gX10_of_X10_ofCase rfl rfl rfl (by decide +kernel) ⟨Nat.le_of_ble_eq_true rfl, Nat.le_of_ble_eq_true rfl⟩) hK hw h0 rfl rfl hl.1 rfl (Nat.le_of_ble_eq_true rfl) dX10_of_80 ⟨Nat.le_of_ble_eq_true rfl, (Nat.le_of_ble_eq_true rfl)⟩ ?_
  exact W.lret hx hb hr (fun t ht _ => ⟨rfl, ht⟩) (fun _ h => absurd h List.not_mem_nil) dX10_of_83
set_option maxHeartbeats 4000000 in
set_option maxRecDepth 100000 in
theorem c_X10_of_h (l : Launch) (D : va_G) (tc : Nat → ClassId) (sz : Nat) (ad : Nat → Nat) (ct : Nat → Option va_E) {N nt ci t c : Nat} {b cm lf nb de : Int32} {ss g pu : Int64} {ho : Nat → Int64} {qt : Nat → Option Nat}    (h0 : ct 0 = some (.inr (10, [.ref (ad 1), .ref (ad 3), .int (nI nt), .ref (ad 4), .ref (ad 9), .ref (ad 11), .ref (ad 12), .ref (ad 13), .int lf]))) (h1 : ct 1 = some (.inr (3, [.ref (ad 2), .int (nI N), .int b, .long ss, .long g, .int cm]))) (h3 : ct 3 = some (eQ tc 4 6 qt)) (h30 : ct (30 + t) = some (.inr (ci, [.int nb, .ref (ad (36 + t)), .ref (ad (42 + t)), .long pu, .int de]))) (h36 : ct (36 + t) = some (eJ tc N ho)) (ht : t < nt) (hnt : nt ≤ 6) (hqt : qt t = some (ad (30 + t))) (hci : ci = 5 ∨ ci = 7 ∨ ci = 9) (hc : c < N) (hN : N ≤ 8) : Met l yX10_of wsX10_of ({ frames := 2, cells := 0, slots := 0, locals := 56 }) (va_Pc [.ref (ad 0), .int (nI t), .int (nI (10 + c))] (kw_B D tc sz ad ct)) (k2_QcV (.long (ho c))) 0 0 (fun _ => False) := by
  refine Met.ofW (cc := cX10_of) (maxL := 4) (ret := (some .long)) (by decide) rfl ?_
  intro pg en s m args below meth cod s₁ B hml hv
  obtain ⟨rfl, hsz, hP0, hK⟩ := hv
  have hx := B.exec
  have hb := B.bytes
  have hr := B.returns
  have hts := atoms_spec (ws := wsX10_of) B.pre
  have hown : s.vm.findClass RX10 = some m.cls := findClass_of_methodNamed B.named
  have hlocks := B.notSynchronized
  subst hsz
  have hw := kw_H.start hP0
  generalize kw_A ad ct s.heap.size = A at hw
  have hl := lv_entry ([.ref (ad 0), .int (nI t), .int (nI (10 + c))]) (n := 4) (Nat.le_of_ble_eq_true rfl)
  rw [lg_entry_eq]
  generalize (lg_sl ([.ref (ad 0), .int (nI t), .int (nI (10 + c))]) ++ List.replicate (4 - (lg_sl ([.ref (ad 0), .int (nI t), .int (nI (10 + c))])).length) Slot.unset).toArray = ls at hl ⊢
  have hl : lv_has ls 4 [(0, .ref (ad 0)), (1, .int (nI t)), (2, .int (nI (10 + c)))] := hl
  have S0 : CallFix pg m cod cX10_of 4 s _ wsX10_of RX10 := ⟨hx, hb, hml, hown, hts⟩
  have w0 : ¬ (nI (10 + c) = 0) := fun q => absurd ((nI_eq (a := 10 + c) (b := 0) (by omega) (by omega)).mp q) (by omega)
  have w1 : ¬ (nI (10 + c) = 1) := fun q => absurd ((nI_eq (a := 10 + c) (b := 1) (by omega) (by omega)).mp q) (by omega)
  have w2 : ¬ (nI (10 + c) = 2) := fun q => absurd ((nI_eq (a := 10 + c) (b := 2) (by omega) (by omega)).mp q) (by omega)
  have w3 : ¬ (nI (10 + c) = 3) := fun q => absurd ((nI_eq (a := 10 + c) (b := 3) (by omega) (by omega)).mp q) (by omega)
  have w4 : ¬ (nI (10 + c) = 4) := fun q => absurd ((nI_eq (a := 10 + c) (b := 4) (by omega) (by omega)).mp q) (by omega)
  refine lv_aload_n hx hb dX10_of_0 rfl (lv_at hl 0 rfl) ?_
  refine lv_iload_n hx hb dX10_of_1 rfl (lv_at hl 1 rfl) ?_
  refine kc_v (As := [.int (nI t)]) (rest := []) S0 (c_X10_findTrader l D tc s.heap.size ad ct (t := t) (nt := nt) h0 h3 (by omega) (by omega) hqt) (cwV 1 hts gX10_of_X10_findTrader rfl rfl rfl (by decide +kernel) ⟨Nat.le_of_ble_eq_true rfl, Nat.le_of_ble_eq_true rfl⟩) hK hw h0 rfl rfl hl.1 rfl (Nat.le_of_ble_eq_true rfl) dX10_of_2 ⟨Nat.le_of_ble_eq_true rfl, (Nat.le_of_ble_eq_true rfl)⟩ ?_
  refine lv_astore_n (lv' := [(3, .ref (ad (30 + t))), (0, .ref (ad 0)), (1, .int (nI t)), (2, .int (nI (10 + c)))]) hx hb dX10_of_5 rfl hl (by decide) rfl (fun ls hl => ?_)
  refine lv_aload_n hx hb dX10_of_6 rfl (lv_at hl 0 rfl) ?_
  refine lv_ifnonnull (tgt := 14) hx hb dX10_of_7 (by decide) ?_
  refine lv_iload_n hx hb dX10_of_14 rfl (lv_at hl 3 rfl) ?_
  refine lv_tableOut (tgt := 77) hx hb dX10_of_15 (by have q0 := lv_neT w0 (a := 0) (by decide); have q1 := lv_neT w1 (a := 1) (by decide); have q2 := lv_neT w2 (a := 2) (by decide); have q3 := lv_neT w3 (a := 3) (by decide); have q4 := lv_neT w4 (a := 4) (by decide); omega) (by decide) ?_
  refine lv_aload_n hx hb dX10_of_77 rfl (lv_at hl 1 rfl) ?_
  refine lv_aload_n hx hb dX10_of_78 rfl (lv_at hl 0 rfl) ?_
  refine lv_iload_n hx hb dX10_of_79 rfl (lv_at hl 3 rfl) ?_
  refine kc_v (As := [.ref (ad (30 + t)), .int (nI (10 + c))]) (rest := []) S0 (c_X10_ofCase_h l D tc s.heap.size ad ct (t := t) (nt := nt) (N := N) h0 h1 h30 h36 hci hc (by omega)) (cwV 2 hts gX10_of_X10_ofCase rfl rfl rfl (by decide +kernel) ⟨Nat.le_of_ble_eq_true rfl, Nat.le_of_ble_eq_true rfl⟩) hK hw h0 rfl rfl hl.1 rfl (Nat.le_of_ble_eq_true rfl) dX10_of_80 ⟨Nat.le_of_ble_eq_true rfl, (Nat.le_of_ble_eq_true rfl)⟩ ?_
  exact W.lret hx hb hr (fun t ht _ => ⟨rfl, ht⟩) (fun _ h => absurd h List.not_mem_nil) dX10_of_83
set_option maxHeartbeats 4000000 in
set_option maxRecDepth 100000 in
theorem c_X10_of_w (l : Launch) (D : va_G) (tc : Nat → ClassId) (sz : Nat) (ad : Nat → Nat) (ct : Nat → Option va_E) {N nt ci t c : Nat} {b cm lf nb de : Int32} {ss g pu : Int64}  {qt : Nat → Option Nat} {we : Nat → Int32}   (h0 : ct 0 = some (.inr (10, [.ref (ad 1), .ref (ad 3), .int (nI nt), .ref (ad 4), .ref (ad 9), .ref (ad 11), .ref (ad 12), .ref (ad 13), .int lf]))) (h1 : ct 1 = some (.inr (3, [.ref (ad 2), .int (nI N), .int b, .long ss, .long g, .int cm]))) (h3 : ct 3 = some (eQ tc 4 6 qt)) (h30 : ct (30 + t) = some (.inr (ci, [.int nb, .ref (ad (36 + t)), .ref (ad (42 + t)), .long pu, .int de]))) (h42 : ct (42 + t) = some (eI tc N we)) (ht : t < nt) (hnt : nt ≤ 6) (hqt : qt t = some (ad (30 + t))) (hci : ci = 5 ∨ ci = 7 ∨ ci = 9) (hc : c < N) (hN : N ≤ 8) : Met l yX10_of wsX10_of ({ frames := 2, cells := 0, slots := 0, locals := 56 }) (va_Pc [.ref (ad 0), .int (nI t), .int (nI (20 + c))] (kw_B D tc sz ad ct)) (k2_QcV (.long ((we c).toInt64))) 0 0 (fun _ => False) := by
  refine Met.ofW (cc := cX10_of) (maxL := 4) (ret := (some .long)) (by decide) rfl ?_
  intro pg en s m args below meth cod s₁ B hml hv
  obtain ⟨rfl, hsz, hP0, hK⟩ := hv
  have hx := B.exec
  have hb := B.bytes
  have hr := B.returns
  have hts := atoms_spec (ws := wsX10_of) B.pre
  have hown : s.vm.findClass RX10 = some m.cls := findClass_of_methodNamed B.named
  have hlocks := B.notSynchronized
  subst hsz
  have hw := kw_H.start hP0
  generalize kw_A ad ct s.heap.size = A at hw
  have hl := lv_entry ([.ref (ad 0), .int (nI t), .int (nI (20 + c))]) (n := 4) (Nat.le_of_ble_eq_true rfl)
  rw [lg_entry_eq]
  generalize (lg_sl ([.ref (ad 0), .int (nI t), .int (nI (20 + c))]) ++ List.replicate (4 - (lg_sl ([.ref (ad 0), .int (nI t), .int (nI (20 + c))])).length) Slot.unset).toArray = ls at hl ⊢
  have hl : lv_has ls 4 [(0, .ref (ad 0)), (1, .int (nI t)), (2, .int (nI (20 + c)))] := hl
  have S0 : CallFix pg m cod cX10_of 4 s _ wsX10_of RX10 := ⟨hx, hb, hml, hown, hts⟩
  have w0 : ¬ (nI (20 + c) = 0) := fun q => absurd ((nI_eq (a := 20 + c) (b := 0) (by omega) (by omega)).mp q) (by omega)
  have w1 : ¬ (nI (20 + c) = 1) := fun q => absurd ((nI_eq (a := 20 + c) (b := 1) (by omega) (by omega)).mp q) (by omega)
  have w2 : ¬ (nI (20 + c) = 2) := fun q => absurd ((nI_eq (a := 20 + c) (b := 2) (by omega) (by omega)).mp q) (by omega)
  have w3 : ¬ (nI (20 + c) = 3) := fun q => absurd ((nI_eq (a := 20 + c) (b := 3) (by omega) (by omega)).mp q) (by omega)
  have w4 : ¬ (nI (20 + c) = 4) := fun q => absurd ((nI_eq (a := 20 + c) (b := 4) (by omega) (by omega)).mp q) (by omega)
  refine lv_aload_n hx hb dX10_of_0 rfl (lv_at hl 0 rfl) ?_
  refine lv_iload_n hx hb dX10_of_1 rfl (lv_at hl 1 rfl) ?_
  refine kc_v (As := [.int (nI t)]) (rest := []) S0 (c_X10_findTrader l D tc s.heap.size ad ct (t := t) (nt := nt) h0 h3 (by omega) (by omega) hqt) (cwV 1 hts gX10_of_X10_findTrader rfl rfl rfl (by decide +kernel) ⟨Nat.le_of_ble_eq_true rfl, Nat.le_of_ble_eq_true rfl⟩) hK hw h0 rfl rfl hl.1 rfl (Nat.le_of_ble_eq_true rfl) dX10_of_2 ⟨Nat.le_of_ble_eq_true rfl, (Nat.le_of_ble_eq_true rfl)⟩ ?_
  refine lv_astore_n (lv' := [(3, .ref (ad (30 + t))), (0, .ref (ad 0)), (1, .int (nI t)), (2, .int (nI (20 + c)))]) hx hb dX10_of_5 rfl hl (by decide) rfl (fun ls hl => ?_)
  refine lv_aload_n hx hb dX10_of_6 rfl (lv_at hl 0 rfl) ?_
  refine lv_ifnonnull (tgt := 14) hx hb dX10_of_7 (by decide) ?_
  refine lv_iload_n hx hb dX10_of_14 rfl (lv_at hl 3 rfl) ?_
  refine lv_tableOut (tgt := 77) hx hb dX10_of_15 (by have q0 := lv_neT w0 (a := 0) (by decide); have q1 := lv_neT w1 (a := 1) (by decide); have q2 := lv_neT w2 (a := 2) (by decide); have q3 := lv_neT w3 (a := 3) (by decide); have q4 := lv_neT w4 (a := 4) (by decide); omega) (by decide) ?_
  refine lv_aload_n hx hb dX10_of_77 rfl (lv_at hl 1 rfl) ?_
  refine lv_aload_n hx hb dX10_of_78 rfl (lv_at hl 0 rfl) ?_
  refine lv_iload_n hx hb dX10_of_79 rfl (lv_at hl 3 rfl) ?_
  refine kc_v (As := [.ref (ad (30 + t)), .int (nI (20 + c))]) (rest := []) S0 (c_X10_ofCase_w l D tc s.heap.size ad ct (t := t) (nt := nt) (N := N) h0 h1 h30 h42 hci hc (by omega)) (cwV 2 hts gX10_of_X10_ofCase rfl rfl rfl (by decide +kernel) ⟨Nat.le_of_ble_eq_true rfl, Nat.le_of_ble_eq_true rfl⟩) hK hw h0 rfl rfl hl.1 rfl (Nat.le_of_ble_eq_true rfl) dX10_of_80 ⟨Nat.le_of_ble_eq_true rfl, (Nat.le_of_ble_eq_true rfl)⟩ ?_
  exact W.lret hx hb hr (fun t ht _ => ⟨rfl, ht⟩) (fun _ h => absurd h List.not_mem_nil) dX10_of_83
set_option maxHeartbeats 4000000 in
set_option maxRecDepth 100000 in
theorem c_X10_of_0 (l : Launch) (D : va_G) (tc : Nat → ClassId) (sz : Nat) (ad : Nat → Nat) (ct : Nat → Option va_E) {nt ci t : Nat} {lf nb de : Int32} {pu : Int64}  {qt : Nat → Option Nat}    (h0 : ct 0 = some (.inr (10, [.ref (ad 1), .ref (ad 3), .int (nI nt), .ref (ad 4), .ref (ad 9), .ref (ad 11), .ref (ad 12), .ref (ad 13), .int lf]))) (h3 : ct 3 = some (eQ tc 4 6 qt)) (h30 : ct (30 + t) = some (.inr (ci, [.int nb, .ref (ad (36 + t)), .ref (ad (42 + t)), .long pu, .int de]))) (ht : t < nt) (hnt : nt ≤ 6) (hqt : qt t = some (ad (30 + t))) (hci : ci = 5 ∨ ci = 7 ∨ ci = 9) : Met l yX10_of wsX10_of ({ frames := 2, cells := 0, slots := 0, locals := 56 }) (va_Pc [.ref (ad 0), .int (nI t), .int 0] (kw_B D tc sz ad ct)) (k2_QcV (.long pu)) 0 0 (fun _ => False) := by
  refine Met.ofW (cc := cX10_of) (maxL := 4) (ret := (some .long)) (by decide) rfl ?_
  intro pg en s m args below meth cod s₁ B hml hv
  obtain ⟨rfl, hsz, hP0, hK⟩ := hv
  have hx := B.exec
  have hb := B.bytes
  have hr := B.returns
  have hts := atoms_spec (ws := wsX10_of) B.pre
  have hown : s.vm.findClass RX10 = some m.cls := findClass_of_methodNamed B.named
  have hlocks := B.notSynchronized
  subst hsz
  have hw := kw_H.start hP0
  generalize kw_A ad ct s.heap.size = A at hw
  have hl := lv_entry ([.ref (ad 0), .int (nI t), .int 0]) (n := 4) (Nat.le_of_ble_eq_true rfl)
  rw [lg_entry_eq]
  generalize (lg_sl ([.ref (ad 0), .int (nI t), .int 0]) ++ List.replicate (4 - (lg_sl ([.ref (ad 0), .int (nI t), .int 0])).length) Slot.unset).toArray = ls at hl ⊢
  have hl : lv_has ls 4 [(0, .ref (ad 0)), (1, .int (nI t)), (2, .int 0)] := hl
  have S0 : CallFix pg m cod cX10_of 4 s _ wsX10_of RX10 := ⟨hx, hb, hml, hown, hts⟩
  refine lv_aload_n hx hb dX10_of_0 rfl (lv_at hl 0 rfl) ?_
  refine lv_iload_n hx hb dX10_of_1 rfl (lv_at hl 1 rfl) ?_
  refine kc_v (As := [.int (nI t)]) (rest := []) S0 (c_X10_findTrader l D tc s.heap.size ad ct (t := t) (nt := nt) h0 h3 (by omega) (by omega) hqt) (cwV 1 hts gX10_of_X10_findTrader rfl rfl rfl (by decide +kernel) ⟨Nat.le_of_ble_eq_true rfl, Nat.le_of_ble_eq_true rfl⟩) hK hw h0 rfl rfl hl.1 rfl (Nat.le_of_ble_eq_true rfl) dX10_of_2 ⟨Nat.le_of_ble_eq_true rfl, (Nat.le_of_ble_eq_true rfl)⟩ ?_
  refine lv_astore_n (lv' := [(3, .ref (ad (30 + t))), (0, .ref (ad 0)), (1, .int (nI t)), (2, .int 0)]) hx hb dX10_of_5 rfl hl (by decide) rfl (fun ls hl => ?_)
  refine lv_aload_n hx hb dX10_of_6 rfl (lv_at hl 0 rfl) ?_
  refine lv_ifnonnull (tgt := 14) hx hb dX10_of_7 (by decide) ?_
  refine lv_iload_n hx hb dX10_of_14 rfl (lv_at hl 3 rfl) ?_
  refine lv_tableIn (off := 33) (tgt := 48) hx hb dX10_of_15 (by decide) (by decide) (by decide) (by decide) ?_
  refine lv_aload_n hx hb dX10_of_48 rfl (lv_at hl 0 rfl) ?_
  refine kt_v (As := []) (rest := []) S0 hci (c_X5_purse l D tc s.heap.size ad ct h30 hci) (cwV 0 hts gX10_of_X5_purse rfl rfl rfl (by decide +kernel) ⟨Nat.le_of_ble_eq_true rfl, Nat.le_of_ble_eq_true rfl⟩) (va_cwU 0 hts gX10_of_X5_purse_u154X7 rfl rfl rfl rfl (by decide +kernel) ⟨Nat.le_of_ble_eq_true rfl, Nat.le_of_ble_eq_true rfl⟩) (va_cwU 0 hts gX10_of_X5_purse_u154X9 rfl rfl rfl rfl (by decide +kernel) ⟨Nat.le_of_ble_eq_true rfl, Nat.le_of_ble_eq_true rfl⟩) hK hw h30 rfl hl.1 rfl (Nat.le_of_ble_eq_true rfl) dX10_of_49 ⟨Nat.le_of_ble_eq_true rfl, (Nat.le_of_ble_eq_true rfl)⟩ ?_
  exact W.lret hx hb hr (fun t ht _ => ⟨rfl, ht⟩) (fun _ h => absurd h List.not_mem_nil) dX10_of_52
set_option maxHeartbeats 4000000 in
set_option maxRecDepth 100000 in
theorem c_X10_of_1 (l : Launch) (D : va_G) (tc : Nat → ClassId) (sz : Nat) (ad : Nat → Nat) (ct : Nat → Option va_E) {N nt ci t : Nat} {lf nb de : Int32} {pu : Int64} {ho : Nat → Int64} {qt : Nat → Option Nat}    (h0 : ct 0 = some (.inr (10, [.ref (ad 1), .ref (ad 3), .int (nI nt), .ref (ad 4), .ref (ad 9), .ref (ad 11), .ref (ad 12), .ref (ad 13), .int lf]))) (h3 : ct 3 = some (eQ tc 4 6 qt)) (h30 : ct (30 + t) = some (.inr (ci, [.int nb, .ref (ad (36 + t)), .ref (ad (42 + t)), .long pu, .int de]))) (h36 : ct (36 + t) = some (eJ tc N ho)) (ht : t < nt) (hnt : nt ≤ 6) (hqt : qt t = some (ad (30 + t))) (hci : ci = 5 ∨ ci = 7 ∨ ci = 9) (hN : N ≤ 8) : Met l yX10_of wsX10_of ({ frames := 2, cells := 0, slots := 0, locals := 56 }) (va_Pc [.ref (ad 0), .int (nI t), .int 1] (kw_B D tc sz ad ct)) (k2_QcV (.long (kLst ho 0 0 N))) 0 0 (fun _ => False) := by
  refine Met.ofW (cc := cX10_of) (maxL := 4) (ret := (some .long)) (by decide) rfl ?_
  intro pg en s m args below meth cod s₁ B hml hv
  obtain ⟨rfl, hsz, hP0, hK⟩ := hv
  have hx := B.exec
  have hb := B.bytes
  have hr := B.returns
  have hts := atoms_spec (ws := wsX10_of) B.pre
  have hown : s.vm.findClass RX10 = some m.cls := findClass_of_methodNamed B.named
  have hlocks := B.notSynchronized
  subst hsz
  have hw := kw_H.start hP0
  generalize kw_A ad ct s.heap.size = A at hw
  have hl := lv_entry ([.ref (ad 0), .int (nI t), .int 1]) (n := 4) (Nat.le_of_ble_eq_true rfl)
  rw [lg_entry_eq]
  generalize (lg_sl ([.ref (ad 0), .int (nI t), .int 1]) ++ List.replicate (4 - (lg_sl ([.ref (ad 0), .int (nI t), .int 1])).length) Slot.unset).toArray = ls at hl ⊢
  have hl : lv_has ls 4 [(0, .ref (ad 0)), (1, .int (nI t)), (2, .int 1)] := hl
  have S0 : CallFix pg m cod cX10_of 4 s _ wsX10_of RX10 := ⟨hx, hb, hml, hown, hts⟩
  refine lv_aload_n hx hb dX10_of_0 rfl (lv_at hl 0 rfl) ?_
  refine lv_iload_n hx hb dX10_of_1 rfl (lv_at hl 1 rfl) ?_
  refine kc_v (As := [.int (nI t)]) (rest := []) S0 (c_X10_findTrader l D tc s.heap.size ad ct (t := t) (nt := nt) h0 h3 (by omega) (by omega) hqt) (cwV 1 hts gX10_of_X10_findTrader rfl rfl rfl (by decide +kernel) ⟨Nat.le_of_ble_eq_true rfl, Nat.le_of_ble_eq_true rfl⟩) hK hw h0 rfl rfl hl.1 rfl (Nat.le_of_ble_eq_true rfl) dX10_of_2 ⟨Nat.le_of_ble_eq_true rfl, (Nat.le_of_ble_eq_true rfl)⟩ ?_
  refine lv_astore_n (lv' := [(3, .ref (ad (30 + t))), (0, .ref (ad 0)), (1, .int (nI t)), (2, .int 1)]) hx hb dX10_of_5 rfl hl (by decide) rfl (fun ls hl => ?_)
  refine lv_aload_n hx hb dX10_of_6 rfl (lv_at hl 0 rfl) ?_
  refine lv_ifnonnull (tgt := 14) hx hb dX10_of_7 (by decide) ?_
  refine lv_iload_n hx hb dX10_of_14 rfl (lv_at hl 3 rfl) ?_
  refine lv_tableIn (off := 38) (tgt := 53) hx hb dX10_of_15 (by decide) (by decide) (by decide) (by decide) ?_
  refine lv_aload_n hx hb dX10_of_53 rfl (lv_at hl 0 rfl) ?_
  refine lv_iconst (v := 0) hx hb dX10_of_54 (by decide) ?_
  refine lv_iconst (v := 0) hx hb dX10_of_55 (by decide) ?_
  refine kt_v (As := [.int 0, .int 0]) (rest := []) S0 hci (c_X5_leastHeld l D tc s.heap.size ad ct h30 h36 hci (by omega)) (cwV 2 hts gX10_of_X5_leastHeld rfl rfl rfl (by decide +kernel) ⟨Nat.le_of_ble_eq_true rfl, Nat.le_of_ble_eq_true rfl⟩) (va_cwU 2 hts gX10_of_X5_leastHeld_u157X7 rfl rfl rfl rfl (by decide +kernel) ⟨Nat.le_of_ble_eq_true rfl, Nat.le_of_ble_eq_true rfl⟩) (va_cwU 2 hts gX10_of_X5_leastHeld_u157X9 rfl rfl rfl rfl (by decide +kernel) ⟨Nat.le_of_ble_eq_true rfl, Nat.le_of_ble_eq_true rfl⟩) hK hw h30 rfl hl.1 rfl (Nat.le_of_ble_eq_true rfl) dX10_of_56 ⟨Nat.le_of_ble_eq_true rfl, (Nat.le_of_ble_eq_true rfl)⟩ ?_
  exact W.lret hx hb hr (fun t ht _ => ⟨rfl, ht⟩) (fun _ h => absurd h List.not_mem_nil) dX10_of_59
set_option maxHeartbeats 4000000 in
set_option maxRecDepth 100000 in
theorem c_X10_of_2 (l : Launch) (D : va_G) (tc : Nat → ClassId) (sz : Nat) (ad : Nat → Nat) (ct : Nat → Option va_E) {nt ci t : Nat} {lf nb de : Int32} {pu : Int64}  {qt : Nat → Option Nat}    (h0 : ct 0 = some (.inr (10, [.ref (ad 1), .ref (ad 3), .int (nI nt), .ref (ad 4), .ref (ad 9), .ref (ad 11), .ref (ad 12), .ref (ad 13), .int lf]))) (h3 : ct 3 = some (eQ tc 4 6 qt)) (h30 : ct (30 + t) = some (.inr (ci, [.int nb, .ref (ad (36 + t)), .ref (ad (42 + t)), .long pu, .int de]))) (ht : t < nt) (hnt : nt ≤ 6) (hqt : qt t = some (ad (30 + t))) (hci : ci = 5 ∨ ci = 7 ∨ ci = 9) : Met l yX10_of wsX10_of ({ frames := 2, cells := 0, slots := 0, locals := 56 }) (va_Pc [.ref (ad 0), .int (nI t), .int 2] (kw_B D tc sz ad ct)) (k2_QcV (.long de.toInt64)) 0 0 (fun _ => False) := by
  refine Met.ofW (cc := cX10_of) (maxL := 4) (ret := (some .long)) (by decide) rfl ?_
  intro pg en s m args below meth cod s₁ B hml hv
  obtain ⟨rfl, hsz, hP0, hK⟩ := hv
  have hx := B.exec
  have hb := B.bytes
  have hr := B.returns
  have hts := atoms_spec (ws := wsX10_of) B.pre
  have hown : s.vm.findClass RX10 = some m.cls := findClass_of_methodNamed B.named
  have hlocks := B.notSynchronized
  subst hsz
  have hw := kw_H.start hP0
  generalize kw_A ad ct s.heap.size = A at hw
  have hl := lv_entry ([.ref (ad 0), .int (nI t), .int 2]) (n := 4) (Nat.le_of_ble_eq_true rfl)
  rw [lg_entry_eq]
  generalize (lg_sl ([.ref (ad 0), .int (nI t), .int 2]) ++ List.replicate (4 - (lg_sl ([.ref (ad 0), .int (nI t), .int 2])).length) Slot.unset).toArray = ls at hl ⊢
  have hl : lv_has ls 4 [(0, .ref (ad 0)), (1, .int (nI t)), (2, .int 2)] := hl
  have S0 : CallFix pg m cod cX10_of 4 s _ wsX10_of RX10 := ⟨hx, hb, hml, hown, hts⟩
  refine lv_aload_n hx hb dX10_of_0 rfl (lv_at hl 0 rfl) ?_
  refine lv_iload_n hx hb dX10_of_1 rfl (lv_at hl 1 rfl) ?_
  refine kc_v (As := [.int (nI t)]) (rest := []) S0 (c_X10_findTrader l D tc s.heap.size ad ct (t := t) (nt := nt) h0 h3 (by omega) (by omega) hqt) (cwV 1 hts gX10_of_X10_findTrader rfl rfl rfl (by decide +kernel) ⟨Nat.le_of_ble_eq_true rfl, Nat.le_of_ble_eq_true rfl⟩) hK hw h0 rfl rfl hl.1 rfl (Nat.le_of_ble_eq_true rfl) dX10_of_2 ⟨Nat.le_of_ble_eq_true rfl, (Nat.le_of_ble_eq_true rfl)⟩ ?_
  refine lv_astore_n (lv' := [(3, .ref (ad (30 + t))), (0, .ref (ad 0)), (1, .int (nI t)), (2, .int 2)]) hx hb dX10_of_5 rfl hl (by decide) rfl (fun ls hl => ?_)
  refine lv_aload_n hx hb dX10_of_6 rfl (lv_at hl 0 rfl) ?_
  refine lv_ifnonnull (tgt := 14) hx hb dX10_of_7 (by decide) ?_
  refine lv_iload_n hx hb dX10_of_14 rfl (lv_at hl 3 rfl) ?_
  refine lv_tableIn (off := 45) (tgt := 60) hx hb dX10_of_15 (by decide) (by decide) (by decide) (by decide) ?_
  refine lv_aload_n hx hb dX10_of_60 rfl (lv_at hl 0 rfl) ?_
  refine kt_v (As := []) (rest := []) S0 hci (c_X5_deals l D tc s.heap.size ad ct h30 hci) (cwV 0 hts gX10_of_X5_deals rfl rfl rfl (by decide +kernel) ⟨Nat.le_of_ble_eq_true rfl, Nat.le_of_ble_eq_true rfl⟩) (va_cwU 0 hts gX10_of_X5_deals_u114X7 rfl rfl rfl rfl (by decide +kernel) ⟨Nat.le_of_ble_eq_true rfl, Nat.le_of_ble_eq_true rfl⟩) (va_cwU 0 hts gX10_of_X5_deals_u114X9 rfl rfl rfl rfl (by decide +kernel) ⟨Nat.le_of_ble_eq_true rfl, Nat.le_of_ble_eq_true rfl⟩) hK hw h30 rfl hl.1 rfl (Nat.le_of_ble_eq_true rfl) dX10_of_61 ⟨Nat.le_of_ble_eq_true rfl, (Nat.le_of_ble_eq_true rfl)⟩ ?_
  refine lv_i2l (v := de.toInt64) hx hb dX10_of_64 rfl ?_
  exact W.lret hx hb hr (fun t ht _ => ⟨rfl, ht⟩) (fun _ h => absurd h List.not_mem_nil) dX10_of_65
set_option maxHeartbeats 4000000 in
set_option maxRecDepth 100000 in
theorem c_X10_of_35 (l : Launch) (D : va_G) (tc : Nat → ClassId) (sz : Nat) (ad : Nat → Nat) (ct : Nat → Option va_E) {nt t : Nat} {lf nb de : Int32} {pu : Int64}  {qt : Nat → Option Nat}    (h0 : ct 0 = some (.inr (10, [.ref (ad 1), .ref (ad 3), .int (nI nt), .ref (ad 4), .ref (ad 9), .ref (ad 11), .ref (ad 12), .ref (ad 13), .int lf]))) (h3 : ct 3 = some (eQ tc 4 6 qt)) (h30 : ct (30 + t) = some (.inr (5, [.int nb, .ref (ad (36 + t)), .ref (ad (42 + t)), .long pu, .int de]))) (ht : t < nt) (hnt : nt ≤ 6) (hqt : qt t = some (ad (30 + t))) : Met l yX10_of wsX10_of ({ frames := 2, cells := 0, slots := 0, locals := 56 }) (va_Pc [.ref (ad 0), .int (nI t), .int 3] (kw_B D tc sz ad ct)) (k2_QcV (.long ((0 : Int32).toInt64))) 0 0 (fun _ => False) := by
  refine Met.ofW (cc := cX10_of) (maxL := 4) (ret := (some .long)) (by decide) rfl ?_
  intro pg en s m args below meth cod s₁ B hml hv
  obtain ⟨rfl, hsz, hP0, hK⟩ := hv
  have hx := B.exec
  have hb := B.bytes
  have hr := B.returns
  have hts := atoms_spec (ws := wsX10_of) B.pre
  have hown : s.vm.findClass RX10 = some m.cls := findClass_of_methodNamed B.named
  have hlocks := B.notSynchronized
  subst hsz
  have hw := kw_H.start hP0
  generalize kw_A ad ct s.heap.size = A at hw
  have hl := lv_entry ([.ref (ad 0), .int (nI t), .int 3]) (n := 4) (Nat.le_of_ble_eq_true rfl)
  rw [lg_entry_eq]
  generalize (lg_sl ([.ref (ad 0), .int (nI t), .int 3]) ++ List.replicate (4 - (lg_sl ([.ref (ad 0), .int (nI t), .int 3])).length) Slot.unset).toArray = ls at hl ⊢
  have hl : lv_has ls 4 [(0, .ref (ad 0)), (1, .int (nI t)), (2, .int 3)] := hl
  have S0 : CallFix pg m cod cX10_of 4 s _ wsX10_of RX10 := ⟨hx, hb, hml, hown, hts⟩
  refine lv_aload_n hx hb dX10_of_0 rfl (lv_at hl 0 rfl) ?_
  refine lv_iload_n hx hb dX10_of_1 rfl (lv_at hl 1 rfl) ?_
  refine kc_v (As := [.int (nI t)]) (rest := []) S0 (c_X10_findTrader l D tc s.heap.size ad ct (t := t) (nt := nt) h0 h3 (by omega) (by omega) hqt) (cwV 1 hts gX10_of_X10_findTrader rfl rfl rfl (by decide +kernel) ⟨Nat.le_of_ble_eq_true rfl, Nat.le_of_ble_eq_true rfl⟩) hK hw h0 rfl rfl hl.1 rfl (Nat.le_of_ble_eq_true rfl) dX10_of_2 ⟨Nat.le_of_ble_eq_true rfl, (Nat.le_of_ble_eq_true rfl)⟩ ?_
  refine lv_astore_n (lv' := [(3, .ref (ad (30 + t))), (0, .ref (ad 0)), (1, .int (nI t)), (2, .int 3)]) hx hb dX10_of_5 rfl hl (by decide) rfl (fun ls hl => ?_)
  refine lv_aload_n hx hb dX10_of_6 rfl (lv_at hl 0 rfl) ?_
  refine lv_ifnonnull (tgt := 14) hx hb dX10_of_7 (by decide) ?_
  refine lv_iload_n hx hb dX10_of_14 rfl (lv_at hl 3 rfl) ?_
  refine lv_tableIn (off := 51) (tgt := 66) hx hb dX10_of_15 (by decide) (by decide) (by decide) (by decide) ?_
  refine lv_aload_n hx hb dX10_of_66 rfl (lv_at hl 0 rfl) ?_
  refine kc_v (As := []) (rest := []) S0 (c_X5_kind l D tc s.heap.size ad ct ) (cwV 0 hts gX10_of_X5_kind rfl rfl rfl (by decide +kernel) ⟨Nat.le_of_ble_eq_true rfl, Nat.le_of_ble_eq_true rfl⟩) hK hw h30 rfl rfl hl.1 rfl (Nat.le_of_ble_eq_true rfl) dX10_of_67 ⟨Nat.le_of_ble_eq_true rfl, (Nat.le_of_ble_eq_true rfl)⟩ ?_
  refine lv_i2l (v := (0 : Int32).toInt64) hx hb dX10_of_70 rfl ?_
  exact W.lret hx hb hr (fun t ht _ => ⟨rfl, ht⟩) (fun _ h => absurd h List.not_mem_nil) dX10_of_71
set_option maxHeartbeats 4000000 in
set_option maxRecDepth 100000 in
theorem c_X10_of_39 (l : Launch) (D : va_G) (tc : Nat → ClassId) (sz : Nat) (ad : Nat → Nat) (ct : Nat → Option va_E) {nt t : Nat} {lf nb de : Int32} {pu : Int64}  {qt : Nat → Option Nat}    (h0 : ct 0 = some (.inr (10, [.ref (ad 1), .ref (ad 3), .int (nI nt), .ref (ad 4), .ref (ad 9), .ref (ad 11), .ref (ad 12), .ref (ad 13), .int lf]))) (h3 : ct 3 = some (eQ tc 4 6 qt)) (h30 : ct (30 + t) = some (.inr (9, [.int nb, .ref (ad (36 + t)), .ref (ad (42 + t)), .long pu, .int de]))) (ht : t < nt) (hnt : nt ≤ 6) (hqt : qt t = some (ad (30 + t))) : Met l yX10_of wsX10_of ({ frames := 2, cells := 0, slots := 0, locals := 56 }) (va_Pc [.ref (ad 0), .int (nI t), .int 3] (kw_B D tc sz ad ct)) (k2_QcV (.long ((1 : Int32).toInt64))) 0 0 (fun _ => False) := by
  refine Met.ofW (cc := cX10_of) (maxL := 4) (ret := (some .long)) (by decide) rfl ?_
  intro pg en s m args below meth cod s₁ B hml hv
  obtain ⟨rfl, hsz, hP0, hK⟩ := hv
  have hx := B.exec
  have hb := B.bytes
  have hr := B.returns
  have hts := atoms_spec (ws := wsX10_of) B.pre
  have hown : s.vm.findClass RX10 = some m.cls := findClass_of_methodNamed B.named
  have hlocks := B.notSynchronized
  subst hsz
  have hw := kw_H.start hP0
  generalize kw_A ad ct s.heap.size = A at hw
  have hl := lv_entry ([.ref (ad 0), .int (nI t), .int 3]) (n := 4) (Nat.le_of_ble_eq_true rfl)
  rw [lg_entry_eq]
  generalize (lg_sl ([.ref (ad 0), .int (nI t), .int 3]) ++ List.replicate (4 - (lg_sl ([.ref (ad 0), .int (nI t), .int 3])).length) Slot.unset).toArray = ls at hl ⊢
  have hl : lv_has ls 4 [(0, .ref (ad 0)), (1, .int (nI t)), (2, .int 3)] := hl
  have S0 : CallFix pg m cod cX10_of 4 s _ wsX10_of RX10 := ⟨hx, hb, hml, hown, hts⟩
  refine lv_aload_n hx hb dX10_of_0 rfl (lv_at hl 0 rfl) ?_
  refine lv_iload_n hx hb dX10_of_1 rfl (lv_at hl 1 rfl) ?_
  refine kc_v (As := [.int (nI t)]) (rest := []) S0 (c_X10_findTrader l D tc s.heap.size ad ct (t := t) (nt := nt) h0 h3 (by omega) (by omega) hqt) (cwV 1 hts gX10_of_X10_findTrader rfl rfl rfl (by decide +kernel) ⟨Nat.le_of_ble_eq_true rfl, Nat.le_of_ble_eq_true rfl⟩) hK hw h0 rfl rfl hl.1 rfl (Nat.le_of_ble_eq_true rfl) dX10_of_2 ⟨Nat.le_of_ble_eq_true rfl, (Nat.le_of_ble_eq_true rfl)⟩ ?_
  refine lv_astore_n (lv' := [(3, .ref (ad (30 + t))), (0, .ref (ad 0)), (1, .int (nI t)), (2, .int 3)]) hx hb dX10_of_5 rfl hl (by decide) rfl (fun ls hl => ?_)
  refine lv_aload_n hx hb dX10_of_6 rfl (lv_at hl 0 rfl) ?_
  refine lv_ifnonnull (tgt := 14) hx hb dX10_of_7 (by decide) ?_
  refine lv_iload_n hx hb dX10_of_14 rfl (lv_at hl 3 rfl) ?_
  refine lv_tableIn (off := 51) (tgt := 66) hx hb dX10_of_15 (by decide) (by decide) (by decide) (by decide) ?_
  refine lv_aload_n hx hb dX10_of_66 rfl (lv_at hl 0 rfl) ?_
  refine W.callV (va_runU (As := []) (rest := []) S0 (c_X9_kind l D tc s.heap.size ad ct ) (va_cwO 0 hts gX10_of_X9_kind_u160X9 rfl rfl rfl (b0 := cX5_kind) (m0 := 1) (r0 := (some .int)) (by decide +kernel) (by decide +kernel) ⟨Nat.le_of_ble_eq_true rfl, Nat.le_of_ble_eq_true rfl⟩) (kc_pV hK hw h30 (q := (RX9, TX9, 5)) rfl) rfl rfl hl.1 rfl (lv_room (Nat.le_of_ble_eq_true rfl)) dX10_of_67 ⟨Nat.le_of_ble_eq_true rfl, Nat.le_of_ble_eq_true rfl⟩).run ?_
  refine lv_i2l (v := (1 : Int32).toInt64) hx hb dX10_of_70 rfl ?_
  exact W.lret hx hb hr (fun t ht _ => ⟨rfl, ht⟩) (fun _ h => absurd h List.not_mem_nil) dX10_of_71
set_option maxHeartbeats 4000000 in
set_option maxRecDepth 100000 in
theorem c_X10_of_37 (l : Launch) (D : va_G) (tc : Nat → ClassId) (sz : Nat) (ad : Nat → Nat) (ct : Nat → Option va_E) {nt t : Nat} {lf nb de : Int32} {pu : Int64}  {qt : Nat → Option Nat}    (h0 : ct 0 = some (.inr (10, [.ref (ad 1), .ref (ad 3), .int (nI nt), .ref (ad 4), .ref (ad 9), .ref (ad 11), .ref (ad 12), .ref (ad 13), .int lf]))) (h3 : ct 3 = some (eQ tc 4 6 qt)) (h30 : ct (30 + t) = some (.inr (7, [.int nb, .ref (ad (36 + t)), .ref (ad (42 + t)), .long pu, .int de]))) (ht : t < nt) (hnt : nt ≤ 6) (hqt : qt t = some (ad (30 + t))) : Met l yX10_of wsX10_of ({ frames := 2, cells := 0, slots := 0, locals := 56 }) (va_Pc [.ref (ad 0), .int (nI t), .int 3] (kw_B D tc sz ad ct)) (k2_QcV (.long ((2 : Int32).toInt64))) 0 0 (fun _ => False) := by
  refine Met.ofW (cc := cX10_of) (maxL := 4) (ret := (some .long)) (by decide) rfl ?_
  intro pg en s m args below meth cod s₁ B hml hv
  obtain ⟨rfl, hsz, hP0, hK⟩ := hv
  have hx := B.exec
  have hb := B.bytes
  have hr := B.returns
  have hts := atoms_spec (ws := wsX10_of) B.pre
  have hown : s.vm.findClass RX10 = some m.cls := findClass_of_methodNamed B.named
  have hlocks := B.notSynchronized
  subst hsz
  have hw := kw_H.start hP0
  generalize kw_A ad ct s.heap.size = A at hw
  have hl := lv_entry ([.ref (ad 0), .int (nI t), .int 3]) (n := 4) (Nat.le_of_ble_eq_true rfl)
  rw [lg_entry_eq]
  generalize (lg_sl ([.ref (ad 0), .int (nI t), .int 3]) ++ List.replicate (4 - (lg_sl ([.ref (ad 0), .int (nI t), .int 3])).length) Slot.unset).toArray = ls at hl ⊢
  have hl : lv_has ls 4 [(0, .ref (ad 0)), (1, .int (nI t)), (2, .int 3)] := hl
  have S0 : CallFix pg m cod cX10_of 4 s _ wsX10_of RX10 := ⟨hx, hb, hml, hown, hts⟩
  refine lv_aload_n hx hb dX10_of_0 rfl (lv_at hl 0 rfl) ?_
  refine lv_iload_n hx hb dX10_of_1 rfl (lv_at hl 1 rfl) ?_
  refine kc_v (As := [.int (nI t)]) (rest := []) S0 (c_X10_findTrader l D tc s.heap.size ad ct (t := t) (nt := nt) h0 h3 (by omega) (by omega) hqt) (cwV 1 hts gX10_of_X10_findTrader rfl rfl rfl (by decide +kernel) ⟨Nat.le_of_ble_eq_true rfl, Nat.le_of_ble_eq_true rfl⟩) hK hw h0 rfl rfl hl.1 rfl (Nat.le_of_ble_eq_true rfl) dX10_of_2 ⟨Nat.le_of_ble_eq_true rfl, (Nat.le_of_ble_eq_true rfl)⟩ ?_
  refine lv_astore_n (lv' := [(3, .ref (ad (30 + t))), (0, .ref (ad 0)), (1, .int (nI t)), (2, .int 3)]) hx hb dX10_of_5 rfl hl (by decide) rfl (fun ls hl => ?_)
  refine lv_aload_n hx hb dX10_of_6 rfl (lv_at hl 0 rfl) ?_
  refine lv_ifnonnull (tgt := 14) hx hb dX10_of_7 (by decide) ?_
  refine lv_iload_n hx hb dX10_of_14 rfl (lv_at hl 3 rfl) ?_
  refine lv_tableIn (off := 51) (tgt := 66) hx hb dX10_of_15 (by decide) (by decide) (by decide) (by decide) ?_
  refine lv_aload_n hx hb dX10_of_66 rfl (lv_at hl 0 rfl) ?_
  refine W.callV (va_runU (As := []) (rest := []) S0 (c_X7_kind l D tc s.heap.size ad ct ) (va_cwO 0 hts gX10_of_X7_kind_u160X7 rfl rfl rfl (b0 := cX5_kind) (m0 := 1) (r0 := (some .int)) (by decide +kernel) (by decide +kernel) ⟨Nat.le_of_ble_eq_true rfl, Nat.le_of_ble_eq_true rfl⟩) (kc_pV hK hw h30 (q := (RX7, TX7, 5)) rfl) rfl rfl hl.1 rfl (lv_room (Nat.le_of_ble_eq_true rfl)) dX10_of_67 ⟨Nat.le_of_ble_eq_true rfl, Nat.le_of_ble_eq_true rfl⟩).run ?_
  refine lv_i2l (v := (2 : Int32).toInt64) hx hb dX10_of_70 rfl ?_
  exact W.lret hx hb hr (fun t ht _ => ⟨rfl, ht⟩) (fun _ h => absurd h List.not_mem_nil) dX10_of_71
set_option maxHeartbeats 4000000 in
set_option maxRecDepth 100000 in
theorem c_X10_of_4 (l : Launch) (D : va_G) (tc : Nat → ClassId) (sz : Nat) (ad : Nat → Nat) (ct : Nat → Option va_E) {N nt ci t : Nat} {lf nb de : Int32} {pu : Int64}  {qt : Nat → Option Nat} {we : Nat → Int32}   (h0 : ct 0 = some (.inr (10, [.ref (ad 1), .ref (ad 3), .int (nI nt), .ref (ad 4), .ref (ad 9), .ref (ad 11), .ref (ad 12), .ref (ad 13), .int lf]))) (h3 : ct 3 = some (eQ tc 4 6 qt)) (h30 : ct (30 + t) = some (.inr (ci, [.int nb, .ref (ad (36 + t)), .ref (ad (42 + t)), .long pu, .int de]))) (h42 : ct (42 + t) = some (eI tc N we)) (ht : t < nt) (hnt : nt ≤ 6) (hqt : qt t = some (ad (30 + t))) (hci : ci = 5 ∨ ci = 7 ∨ ci = 9) (hN : N ≤ 8) : Met l yX10_of wsX10_of ({ frames := 2, cells := 0, slots := 0, locals := 56 }) (va_Pc [.ref (ad 0), .int (nI t), .int 4] (kw_B D tc sz ad ct)) (k2_QcV (.long (su (fun c => (we c).toInt64) N))) 0 0 (fun _ => False) := by
  refine Met.ofW (cc := cX10_of) (maxL := 4) (ret := (some .long)) (by decide) rfl ?_
  intro pg en s m args below meth cod s₁ B hml hv
  obtain ⟨rfl, hsz, hP0, hK⟩ := hv
  have hx := B.exec
  have hb := B.bytes
  have hr := B.returns
  have hts := atoms_spec (ws := wsX10_of) B.pre
  have hown : s.vm.findClass RX10 = some m.cls := findClass_of_methodNamed B.named
  have hlocks := B.notSynchronized
  subst hsz
  have hw := kw_H.start hP0
  generalize kw_A ad ct s.heap.size = A at hw
  have hl := lv_entry ([.ref (ad 0), .int (nI t), .int 4]) (n := 4) (Nat.le_of_ble_eq_true rfl)
  rw [lg_entry_eq]
  generalize (lg_sl ([.ref (ad 0), .int (nI t), .int 4]) ++ List.replicate (4 - (lg_sl ([.ref (ad 0), .int (nI t), .int 4])).length) Slot.unset).toArray = ls at hl ⊢
  have hl : lv_has ls 4 [(0, .ref (ad 0)), (1, .int (nI t)), (2, .int 4)] := hl
  have S0 : CallFix pg m cod cX10_of 4 s _ wsX10_of RX10 := ⟨hx, hb, hml, hown, hts⟩
  refine lv_aload_n hx hb dX10_of_0 rfl (lv_at hl 0 rfl) ?_
  refine lv_iload_n hx hb dX10_of_1 rfl (lv_at hl 1 rfl) ?_
  refine kc_v (As := [.int (nI t)]) (rest := []) S0 (c_X10_findTrader l D tc s.heap.size ad ct (t := t) (nt := nt) h0 h3 (by omega) (by omega) hqt) (cwV 1 hts gX10_of_X10_findTrader rfl rfl rfl (by decide +kernel) ⟨Nat.le_of_ble_eq_true rfl, Nat.le_of_ble_eq_true rfl⟩) hK hw h0 rfl rfl hl.1 rfl (Nat.le_of_ble_eq_true rfl) dX10_of_2 ⟨Nat.le_of_ble_eq_true rfl, (Nat.le_of_ble_eq_true rfl)⟩ ?_
  refine lv_astore_n (lv' := [(3, .ref (ad (30 + t))), (0, .ref (ad 0)), (1, .int (nI t)), (2, .int 4)]) hx hb dX10_of_5 rfl hl (by decide) rfl (fun ls hl => ?_)
  refine lv_aload_n hx hb dX10_of_6 rfl (lv_at hl 0 rfl) ?_
  refine lv_ifnonnull (tgt := 14) hx hb dX10_of_7 (by decide) ?_
  refine lv_iload_n hx hb dX10_of_14 rfl (lv_at hl 3 rfl) ?_
  refine lv_tableIn (off := 57) (tgt := 72) hx hb dX10_of_15 (by decide) (by decide) (by decide) (by decide) ?_
  refine lv_aload_n hx hb dX10_of_72 rfl (lv_at hl 0 rfl) ?_
  refine kt_v (As := []) (rest := []) S0 hci (c_X5_weightSum l D tc s.heap.size ad ct h30 h42 hci (by omega)) (cwV 0 hts gX10_of_X5_weightSum rfl rfl rfl (by decide +kernel) ⟨Nat.le_of_ble_eq_true rfl, Nat.le_of_ble_eq_true rfl⟩) (va_cwU 0 hts gX10_of_X5_weightSum_u163X7 rfl rfl rfl rfl (by decide +kernel) ⟨Nat.le_of_ble_eq_true rfl, Nat.le_of_ble_eq_true rfl⟩) (va_cwU 0 hts gX10_of_X5_weightSum_u163X9 rfl rfl rfl rfl (by decide +kernel) ⟨Nat.le_of_ble_eq_true rfl, Nat.le_of_ble_eq_true rfl⟩) hK hw h30 rfl hl.1 rfl (Nat.le_of_ble_eq_true rfl) dX10_of_73 ⟨Nat.le_of_ble_eq_true rfl, (Nat.le_of_ble_eq_true rfl)⟩ ?_
  exact W.lret hx hb hr (fun t ht _ => ⟨rfl, ht⟩) (fun _ h => absurd h List.not_mem_nil) dX10_of_76
set_option maxHeartbeats 4000000 in
set_option maxRecDepth 100000 in
theorem c_X10_believe_u (l : Launch) (D : va_G) (tc : Nat → ClassId) (sz : Nat) (ad : Nat → Nat) (ct : Nat → Option va_E) {nt : Nat} {lf : Int32}      {t1 c v : Int32} (h0 : ct 0 = some (.inr (10, [.ref (ad 1), .ref (ad 3), .int (nI nt), .ref (ad 4), .ref (ad 9), .ref (ad 11), .ref (ad 12), .ref (ad 13), .int lf]))) (ht : ¬ (0 ≤ t1 ∧ t1 < nI nt)) : Met l yX10_believe wsX10_believe ({ frames := 1, cells := 0, slots := 0, locals := 30 }) (va_Pc [.ref (ad 0), .int t1, .int c, .int v] (kw_B D tc sz ad ct)) (k2_QcV (.int (-1))) 0 0 (fun _ => False) := by
  refine Met.ofW (cc := cX10_believe) (maxL := 6) (ret := (some .int)) (by decide) rfl ?_
  intro pg en s m args below meth cod s₁ B hml hv
  obtain ⟨rfl, hsz, hP0, hK⟩ := hv
  have hx := B.exec
  have hb := B.bytes
  have hr := B.returns
  have hts := atoms_spec (ws := wsX10_believe) B.pre
  have hown : s.vm.findClass RX10 = some m.cls := findClass_of_methodNamed B.named
  have hlocks := B.notSynchronized
  subst hsz
  have hw := kw_H.start hP0
  generalize kw_A ad ct s.heap.size = A at hw
  have hinX10 : ∀ w ∈ wsX100, w ∈ wsX10_believe := by decide +kernel
  have hl := lv_entry ([.ref (ad 0), .int t1, .int c, .int v]) (n := 6) (Nat.le_of_ble_eq_true rfl)
  rw [lg_entry_eq]
  generalize (lg_sl ([.ref (ad 0), .int t1, .int c, .int v]) ++ List.replicate (6 - (lg_sl ([.ref (ad 0), .int t1, .int c, .int v])).length) Slot.unset).toArray = ls at hl ⊢
  have hl : lv_has ls 6 [(0, .ref (ad 0)), (1, .int t1), (2, .int c), (3, .int v)] := hl
  have S0 : CallFix pg m cod cX10_believe 6 s _ wsX10_believe RX10 := ⟨hx, hb, hml, hown, hts⟩
  refine lv_aload_n hx hb dX10_believe_0 rfl (lv_at hl 0 rfl) ?_
  refine lv_iload_n hx hb dX10_believe_1 rfl (lv_at hl 1 rfl) ?_
  refine kc_v (As := [.int t1]) (rest := []) S0 (c_X10_findTrader_n l D tc s.heap.size ad ct (nt := nt) h0 ht) (cwV 1 hts gX10_believe_X10_findTrader rfl rfl rfl (by decide +kernel) ⟨Nat.le_of_ble_eq_true rfl, Nat.le_of_ble_eq_true rfl⟩) hK hw h0 rfl rfl hl.1 rfl (Nat.le_of_ble_eq_true rfl) dX10_believe_2 ⟨Nat.le_of_ble_eq_true rfl, (Nat.le_of_ble_eq_true rfl)⟩ ?_
  refine lv_astoreN (lv' := [(4, .null), (0, .ref (ad 0)), (1, .int t1), (2, .int c), (3, .int v)]) hx hb dX10_believe_5 hl (by decide) rfl (fun ls hl => ?_)
  refine lv_aloadN hx hb dX10_believe_7 (lv_at hl 0 rfl) ?_
  refine lv_ifnullN (tgt := 23) hx hb dX10_believe_9 (by decide) ?_
  refine lv_iconst (v := (-1)) hx hb dX10_believe_23 (by decide) ?_
  exact W.iret hx hb hr (fun t ht _ => ⟨rfl, ht⟩) (fun _ h => absurd h List.not_mem_nil) dX10_believe_24
set_option maxHeartbeats 4000000 in
set_option maxRecDepth 100000 in
theorem c_X10_believe_c (l : Launch) (D : va_G) (tc : Nat → ClassId) (sz : Nat) (ad : Nat → Nat) (ct : Nat → Option va_E) {N nt t : Nat} {b cm lf : Int32} {ss g : Int64}  {qt : Nat → Option Nat}   {c v : Int32} (h0 : ct 0 = some (.inr (10, [.ref (ad 1), .ref (ad 3), .int (nI nt), .ref (ad 4), .ref (ad 9), .ref (ad 11), .ref (ad 12), .ref (ad 13), .int lf]))) (h1 : ct 1 = some (.inr (3, [.ref (ad 2), .int (nI N), .int b, .long ss, .long g, .int cm]))) (h3 : ct 3 = some (eQ tc 4 6 qt)) (ht : t < nt) (hnt : nt ≤ 6) (hqt : qt t = some (ad (30 + t))) (hc : ¬ (0 ≤ c ∧ c < nI N)) : Met l yX10_believe wsX10_believe ({ frames := 1, cells := 0, slots := 0, locals := 30 }) (va_Pc [.ref (ad 0), .int (nI t), .int c, .int v] (kw_B D tc sz ad ct)) (k2_QcV (.int (-1))) 0 0 (fun _ => False) := by
  refine Met.ofW (cc := cX10_believe) (maxL := 6) (ret := (some .int)) (by decide) rfl ?_
  intro pg en s m args below meth cod s₁ B hml hv
  obtain ⟨rfl, hsz, hP0, hK⟩ := hv
  have hx := B.exec
  have hb := B.bytes
  have hr := B.returns
  have hts := atoms_spec (ws := wsX10_believe) B.pre
  have hown : s.vm.findClass RX10 = some m.cls := findClass_of_methodNamed B.named
  have hlocks := B.notSynchronized
  subst hsz
  have hw := kw_H.start hP0
  generalize kw_A ad ct s.heap.size = A at hw
  have hinX10 : ∀ w ∈ wsX100, w ∈ wsX10_believe := by decide +kernel
  have hl := lv_entry ([.ref (ad 0), .int (nI t), .int c, .int v]) (n := 6) (Nat.le_of_ble_eq_true rfl)
  rw [lg_entry_eq]
  generalize (lg_sl ([.ref (ad 0), .int (nI t), .int c, .int v]) ++ List.replicate (6 - (lg_sl ([.ref (ad 0), .int (nI t), .int c, .int v])).length) Slot.unset).toArray = ls at hl ⊢
  have hl : lv_has ls 6 [(0, .ref (ad 0)), (1, .int (nI t)), (2, .int c), (3, .int v)] := hl
  have S0 : CallFix pg m cod cX10_believe 6 s _ wsX10_believe RX10 := ⟨hx, hb, hml, hown, hts⟩
  refine lv_aload_n hx hb dX10_believe_0 rfl (lv_at hl 0 rfl) ?_
  refine lv_iload_n hx hb dX10_believe_1 rfl (lv_at hl 1 rfl) ?_
  refine kc_v (As := [.int (nI t)]) (rest := []) S0 (c_X10_findTrader l D tc s.heap.size ad ct (t := t) (nt := nt) h0 h3 (by omega) (by omega) hqt) (cwV 1 hts gX10_believe_X10_findTrader rfl rfl rfl (by decide +kernel) ⟨Nat.le_of_ble_eq_true rfl, Nat.le_of_ble_eq_true rfl⟩) hK hw h0 rfl rfl hl.1 rfl (Nat.le_of_ble_eq_true rfl) dX10_believe_2 ⟨Nat.le_of_ble_eq_true rfl, (Nat.le_of_ble_eq_true rfl)⟩ ?_
  refine lv_astore (lv' := [(4, .ref (ad (30 + t))), (0, .ref (ad 0)), (1, .int (nI t)), (2, .int c), (3, .int v)]) hx hb dX10_believe_5 hl (by decide) rfl (fun ls hl => ?_)
  refine lv_aload hx hb dX10_believe_7 (lv_at hl 0 rfl) ?_
  refine lv_ifnull hx hb dX10_believe_9 ?_
  refine lv_aload_n hx hb dX10_believe_12 rfl (lv_at hl 1 rfl) ?_
  refine kg_get (v := .ref (ad 1)) (C := RX10) (T := TX10) (N := 9) hx hb hts hinX10 hown hK hw h0 rfl 0 (by decide) (hts (.fieldLink RX10 12 "BetMaker" "maker" "LBetMaker$Maker;") (by decide +kernel)) (fun _ h9 => h9) rfl dX10_believe_13 ?_
  refine lv_iload_n hx hb dX10_believe_16 rfl (lv_at hl 3 rfl) ?_
  refine kc_v (As := [.int c]) (rest := []) S0 (c_X3_isCase l D tc s.heap.size ad ct (N := N) h1) (cwV 1 hts gX10_believe_X3_isCase rfl rfl rfl (by decide +kernel) ⟨Nat.le_of_ble_eq_true rfl, Nat.le_of_ble_eq_true rfl⟩) hK hw h1 rfl rfl hl.1 rfl (Nat.le_of_ble_eq_true rfl) dX10_believe_17 ⟨Nat.le_of_ble_eq_true rfl, (Nat.le_of_ble_eq_true rfl)⟩ ?_
  refine kb_ifne (tgt := 25) hx hb dX10_believe_20 (by decide) (fun c_1 => ?_) (fun c_1 => ?_)
  · exact absurd c_1 hc
  · refine lv_iconst (v := (-1)) hx hb dX10_believe_23 (by decide) ?_
    exact W.iret hx hb hr (fun t ht _ => ⟨rfl, ht⟩) (fun _ h => absurd h List.not_mem_nil) dX10_believe_24
set_option maxHeartbeats 4000000 in
set_option maxRecDepth 100000 in
theorem c_X10_believe_o (l : Launch) (D : va_G) (tc : Nat → ClassId) (sz : Nat) (ad : Nat → Nat) (ct : Nat → Option va_E) {N nt t : Nat} {b cm lf : Int32} {ss g : Int64}  {qt : Nat → Option Nat}   {c v : Int32} (h0 : ct 0 = some (.inr (10, [.ref (ad 1), .ref (ad 3), .int (nI nt), .ref (ad 4), .ref (ad 9), .ref (ad 11), .ref (ad 12), .ref (ad 13), .int lf]))) (h1 : ct 1 = some (.inr (3, [.ref (ad 2), .int (nI N), .int b, .long ss, .long g, .int cm]))) (h3 : ct 3 = some (eQ tc 4 6 qt)) (ht : t < nt) (hnt : nt ≤ 6) (hqt : qt t = some (ad (30 + t))) (hc : 0 ≤ c ∧ c < nI N) (hv : ¬ (0 ≤ v ∧ v ≤ 100)) : Met l yX10_believe wsX10_believe ({ frames := 1, cells := 0, slots := 0, locals := 30 }) (va_Pc [.ref (ad 0), .int (nI t), .int c, .int v] (kw_B D tc sz ad ct)) (k2_QcV (.int (-2))) 0 0 (fun _ => False) := by
  refine Met.ofW (cc := cX10_believe) (maxL := 6) (ret := (some .int)) (by decide) rfl ?_
  intro pg en s m args below meth cod s₁ B hml hv
  obtain ⟨rfl, hsz, hP0, hK⟩ := hv
  have hx := B.exec
  have hb := B.bytes
  have hr := B.returns
  have hts := atoms_spec (ws := wsX10_believe) B.pre
  have hown : s.vm.findClass RX10 = some m.cls := findClass_of_methodNamed B.named
  have hlocks := B.notSynchronized
  subst hsz
  have hw := kw_H.start hP0
  generalize kw_A ad ct s.heap.size = A at hw
  have hinX10 : ∀ w ∈ wsX100, w ∈ wsX10_believe := by decide +kernel
  have hl := lv_entry ([.ref (ad 0), .int (nI t), .int c, .int v]) (n := 6) (Nat.le_of_ble_eq_true rfl)
  rw [lg_entry_eq]
  generalize (lg_sl ([.ref (ad 0), .int (nI t), .int c, .int v]) ++ List.replicate (6 - (lg_sl ([.ref (ad 0), .int (nI t), .int c, .int v])).length) Slot.unset).toArray = ls at hl ⊢
  have hl : lv_has ls 6 [(0, .ref (ad 0)), (1, .int (nI t)), (2, .int c), (3, .int v)] := hl
  have S0 : CallFix pg m cod cX10_believe 6 s _ wsX10_believe RX10 := ⟨hx, hb, hml, hown, hts⟩
  refine lv_aload_n hx hb dX10_believe_0 rfl (lv_at hl 0 rfl) ?_
  refine lv_iload_n hx hb dX10_believe_1 rfl (lv_at hl 1 rfl) ?_
  refine kc_v (As := [.int (nI t)]) (rest := []) S0 (c_X10_findTrader l D tc s.heap.size ad ct (t := t) (nt := nt) h0 h3 (by omega) (by omega) hqt) (cwV 1 hts gX10_believe_X10_findTrader rfl rfl rfl (by decide +kernel) ⟨Nat.le_of_ble_eq_true rfl, Nat.le_of_ble_eq_true rfl⟩) hK hw h0 rfl rfl hl.1 rfl (Nat.le_of_ble_eq_true rfl) dX10_believe_2 ⟨Nat.le_of_ble_eq_true rfl, (Nat.le_of_ble_eq_true rfl)⟩ ?_
  refine lv_astore (lv' := [(4, .ref (ad (30 + t))), (0, .ref (ad 0)), (1, .int (nI t)), (2, .int c), (3, .int v)]) hx hb dX10_believe_5 hl (by decide) rfl (fun ls hl => ?_)
  refine lv_aload hx hb dX10_believe_7 (lv_at hl 0 rfl) ?_
  refine lv_ifnull hx hb dX10_believe_9 ?_
  refine lv_aload_n hx hb dX10_believe_12 rfl (lv_at hl 1 rfl) ?_
  refine kg_get (v := .ref (ad 1)) (C := RX10) (T := TX10) (N := 9) hx hb hts hinX10 hown hK hw h0 rfl 0 (by decide) (hts (.fieldLink RX10 12 "BetMaker" "maker" "LBetMaker$Maker;") (by decide +kernel)) (fun _ h9 => h9) rfl dX10_believe_13 ?_
  refine lv_iload_n hx hb dX10_believe_16 rfl (lv_at hl 3 rfl) ?_
  refine kc_v (As := [.int c]) (rest := []) S0 (c_X3_isCase l D tc s.heap.size ad ct (N := N) h1) (cwV 1 hts gX10_believe_X3_isCase rfl rfl rfl (by decide +kernel) ⟨Nat.le_of_ble_eq_true rfl, Nat.le_of_ble_eq_true rfl⟩) hK hw h1 rfl rfl hl.1 rfl (Nat.le_of_ble_eq_true rfl) dX10_believe_17 ⟨Nat.le_of_ble_eq_true rfl, (Nat.le_of_ble_eq_true rfl)⟩ ?_
  refine kb_ifne (tgt := 25) hx hb dX10_believe_20 (by decide) (fun c_1 => ?_) (fun c_1 => ?_)
  · refine lv_iload_n hx hb dX10_believe_25 rfl (lv_at hl 4 rfl) ?_
    refine kc_s (As := [.int v]) (rest := []) S0 (c_X10_isWeight l D tc s.heap.size ad ct ) (va_cwS 1 hts gX10_believe_X10_isWeight rfl rfl rfl (by decide +kernel) ⟨Nat.le_of_ble_eq_true rfl, Nat.le_of_ble_eq_true rfl⟩) hK hw rfl hl.1 rfl (Nat.le_of_ble_eq_true rfl) dX10_believe_26 ⟨Nat.le_of_ble_eq_true rfl, (Nat.le_of_ble_eq_true rfl)⟩ ?_
    refine kb_ifne (tgt := 35) hx hb dX10_believe_29 (by decide) (fun c_2 => ?_) (fun c_2 => ?_)
    · exact absurd c_2 hv
    · refine lv_bipush (v := (-2)) hx hb dX10_believe_32 (by decide) ?_
      exact W.iret hx hb hr (fun t ht _ => ⟨rfl, ht⟩) (fun _ h => absurd h List.not_mem_nil) dX10_believe_34
  · exact absurd hc c_1
set_option maxHeartbeats 4000000 in
set_option maxRecDepth 100000 in
theorem c_X10_believe_s (l : Launch) (D : va_G) (tc : Nat → ClassId) (sz : Nat) (ad : Nat → Nat) (ct : Nat → Option va_E) {N nt ci t c : Nat} {b cm lf nb de : Int32} {ss g pu : Int64}  {qt : Nat → Option Nat} {we : Nat → Int32}  {v : Int32} (h0 : ct 0 = some (.inr (10, [.ref (ad 1), .ref (ad 3), .int (nI nt), .ref (ad 4), .ref (ad 9), .ref (ad 11), .ref (ad 12), .ref (ad 13), .int lf]))) (h1 : ct 1 = some (.inr (3, [.ref (ad 2), .int (nI N), .int b, .long ss, .long g, .int cm]))) (h3 : ct 3 = some (eQ tc 4 6 qt)) (h30 : ct (30 + t) = some (.inr (ci, [.int nb, .ref (ad (36 + t)), .ref (ad (42 + t)), .long pu, .int de]))) (h42 : ct (42 + t) = some (eI tc N we)) (ht : t < nt) (hnt : nt ≤ 6) (hqt : qt t = some (ad (30 + t))) (hci : ci = 5 ∨ ci = 7 ∨ ci = 9) (hc : c < N) (hN : N ≤ 8) (hv : 0 ≤ v ∧ v ≤ 100) (hz : su (fun c => (we c).toInt64) N - (we c).toInt64 + v.toInt64 = 0) : Met l yX10_believe wsX10_believe ({ frames := 1, cells := 0, slots := 0, locals := 30 }) (va_Pc [.ref (ad 0), .int (nI t), .int (nI c), .int v] (kw_B D tc sz ad ct)) (k2_QcV (.int (-3))) 0 0 (fun _ => False) := by
  refine Met.ofW (cc := cX10_believe) (maxL := 6) (ret := (some .int)) (by decide) rfl ?_
  intro pg en s m args below meth cod s₁ B hml hv
  obtain ⟨rfl, hsz, hP0, hK⟩ := hv
  have hx := B.exec
  have hb := B.bytes
  have hr := B.returns
  have hts := atoms_spec (ws := wsX10_believe) B.pre
  have hown : s.vm.findClass RX10 = some m.cls := findClass_of_methodNamed B.named
  have hlocks := B.notSynchronized
  subst hsz
  have hw := kw_H.start hP0
  generalize kw_A ad ct s.heap.size = A at hw
  have hinX10 : ∀ w ∈ wsX100, w ∈ wsX10_believe := by decide +kernel
  have hl := lv_entry ([.ref (ad 0), .int (nI t), .int (nI c), .int v]) (n := 6) (Nat.le_of_ble_eq_true rfl)
  rw [lg_entry_eq]
  generalize (lg_sl ([.ref (ad 0), .int (nI t), .int (nI c), .int v]) ++ List.replicate (6 - (lg_sl ([.ref (ad 0), .int (nI t), .int (nI c), .int v])).length) Slot.unset).toArray = ls at hl ⊢
  have hl : lv_has ls 6 [(0, .ref (ad 0)), (1, .int (nI t)), (2, .int (nI c)), (3, .int v)] := hl
  have S0 : CallFix pg m cod cX10_believe 6 s _ wsX10_believe RX10 := ⟨hx, hb, hml, hown, hts⟩
  have kC : 0 ≤ nI c ∧ nI c < nI N := ⟨nI_pos' (by omega), nI_lt hc (by omega)⟩
  refine lv_aload_n hx hb dX10_believe_0 rfl (lv_at hl 0 rfl) ?_
  refine lv_iload_n hx hb dX10_believe_1 rfl (lv_at hl 1 rfl) ?_
  refine kc_v (As := [.int (nI t)]) (rest := []) S0 (c_X10_findTrader l D tc s.heap.size ad ct (t := t) (nt := nt) h0 h3 (by omega) (by omega) hqt) (cwV 1 hts gX10_believe_X10_findTrader rfl rfl rfl (by decide +kernel) ⟨Nat.le_of_ble_eq_true rfl, Nat.le_of_ble_eq_true rfl⟩) hK hw h0 rfl rfl hl.1 rfl (Nat.le_of_ble_eq_true rfl) dX10_believe_2 ⟨Nat.le_of_ble_eq_true rfl, (Nat.le_of_ble_eq_true rfl)⟩ ?_
  refine lv_astore (lv' := [(4, .ref (ad (30 + t))), (0, .ref (ad 0)), (1, .int (nI t)), (2, .int (nI c)), (3, .int v)]) hx hb dX10_believe_5 hl (by decide) rfl (fun ls hl => ?_)
  refine lv_aload hx hb dX10_believe_7 (lv_at hl 0 rfl) ?_
  refine lv_ifnull hx hb dX10_believe_9 ?_
  refine lv_aload_n hx hb dX10_believe_12 rfl (lv_at hl 1 rfl) ?_
  refine kg_get (v := .ref (ad 1)) (C := RX10) (T := TX10) (N := 9) hx hb hts hinX10 hown hK hw h0 rfl 0 (by decide) (hts (.fieldLink RX10 12 "BetMaker" "maker" "LBetMaker$Maker;") (by decide +kernel)) (fun _ h9 => h9) rfl dX10_believe_13 ?_
  refine lv_iload_n hx hb dX10_believe_16 rfl (lv_at hl 3 rfl) ?_
  refine kc_v (As := [.int (nI c)]) (rest := []) S0 (c_X3_isCase l D tc s.heap.size ad ct (N := N) h1) (cwV 1 hts gX10_believe_X3_isCase rfl rfl rfl (by decide +kernel) ⟨Nat.le_of_ble_eq_true rfl, Nat.le_of_ble_eq_true rfl⟩) hK hw h1 rfl rfl hl.1 rfl (Nat.le_of_ble_eq_true rfl) dX10_believe_17 ⟨Nat.le_of_ble_eq_true rfl, (Nat.le_of_ble_eq_true rfl)⟩ ?_
  refine kb_ifne (tgt := 25) hx hb dX10_believe_20 (by decide) (fun c_1 => ?_) (fun c_1 => ?_)
  · refine lv_iload_n hx hb dX10_believe_25 rfl (lv_at hl 4 rfl) ?_
    refine kc_s (As := [.int v]) (rest := []) S0 (c_X10_isWeight l D tc s.heap.size ad ct ) (va_cwS 1 hts gX10_believe_X10_isWeight rfl rfl rfl (by decide +kernel) ⟨Nat.le_of_ble_eq_true rfl, Nat.le_of_ble_eq_true rfl⟩) hK hw rfl hl.1 rfl (Nat.le_of_ble_eq_true rfl) dX10_believe_26 ⟨Nat.le_of_ble_eq_true rfl, (Nat.le_of_ble_eq_true rfl)⟩ ?_
    refine kb_ifne (tgt := 35) hx hb dX10_believe_29 (by decide) (fun c_2 => ?_) (fun c_2 => ?_)
    · refine lv_aload hx hb dX10_believe_35 (lv_at hl 0 rfl) ?_
      refine lv_iload_n hx hb dX10_believe_37 rfl (lv_at hl 3 rfl) ?_
      refine kt_v (As := [.int (nI c)]) (rest := []) S0 hci (c_X5_weightOf l D tc s.heap.size ad ct (c := c) h30 h42 hci hc (by omega)) (cwV 1 hts gX10_believe_X5_weightOf rfl rfl rfl (by decide +kernel) ⟨Nat.le_of_ble_eq_true rfl, Nat.le_of_ble_eq_true rfl⟩) (va_cwU 1 hts gX10_believe_X5_weightOf_u173X7 rfl rfl rfl rfl (by decide +kernel) ⟨Nat.le_of_ble_eq_true rfl, Nat.le_of_ble_eq_true rfl⟩) (va_cwU 1 hts gX10_believe_X5_weightOf_u173X9 rfl rfl rfl rfl (by decide +kernel) ⟨Nat.le_of_ble_eq_true rfl, Nat.le_of_ble_eq_true rfl⟩) hK hw h30 rfl hl.1 rfl (Nat.le_of_ble_eq_true rfl) dX10_believe_38 ⟨Nat.le_of_ble_eq_true rfl, (Nat.le_of_ble_eq_true rfl)⟩ ?_
      refine lv_istore (lv' := [(5, .int (we c)), (4, .ref (ad (30 + t))), (0, .ref (ad 0)), (1, .int (nI t)), (2, .int (nI c)), (3, .int v)]) hx hb dX10_believe_41 hl (by decide) rfl (fun ls hl => ?_)
      refine lv_aload hx hb dX10_believe_43 (lv_at hl 1 rfl) ?_
      refine kt_v (As := []) (rest := []) S0 hci (c_X5_weightSum l D tc s.heap.size ad ct h30 h42 hci (by omega)) (cwV 0 hts gX10_believe_X5_weightSum rfl rfl rfl (by decide +kernel) ⟨Nat.le_of_ble_eq_true rfl, Nat.le_of_ble_eq_true rfl⟩) (va_cwU 0 hts gX10_believe_X5_weightSum_u163X7 rfl rfl rfl rfl (by decide +kernel) ⟨Nat.le_of_ble_eq_true rfl, Nat.le_of_ble_eq_true rfl⟩) (va_cwU 0 hts gX10_believe_X5_weightSum_u163X9 rfl rfl rfl rfl (by decide +kernel) ⟨Nat.le_of_ble_eq_true rfl, Nat.le_of_ble_eq_true rfl⟩) hK hw h30 rfl hl.1 rfl (Nat.le_of_ble_eq_true rfl) dX10_believe_45 ⟨Nat.le_of_ble_eq_true rfl, (Nat.le_of_ble_eq_true rfl)⟩ ?_
      refine lv_iload hx hb dX10_believe_48 (lv_at hl 0 rfl) ?_
      refine lv_i2l (v := (we c).toInt64) hx hb dX10_believe_50 rfl ?_
      refine lv_lsub hx hb dX10_believe_51 ?_
      refine lv_iload_n hx hb dX10_believe_52 rfl (lv_at hl 5 rfl) ?_
      refine lv_i2l (v := v.toInt64) hx hb dX10_believe_53 rfl ?_
      refine lv_ladd hx hb dX10_believe_54 ?_
      refine lv_lconst (v := 0) hx hb dX10_believe_55 (by decide) ?_
      refine W.lcmp hx hb dX10_believe_56 ?_
      refine kl_ne (tgt := 63) hx hb dX10_believe_57 (by decide) (fun c_3 => ?_) (fun c_3 => ?_)
      · exact absurd hz c_3
      · refine lv_bipush (v := (-3)) hx hb dX10_believe_60 (by decide) ?_
        exact W.iret hx hb hr (fun t ht _ => ⟨rfl, ht⟩) (fun _ h => absurd h List.not_mem_nil) dX10_believe_62
    · exact absurd hv c_2
  · exact absurd kC c_1
set_option maxHeartbeats 4000000 in
set_option maxRecDepth 100000 in
theorem c_X10_believe (l : Launch) (D : va_G) (tc : Nat → ClassId) (sz : Nat) (ad : Nat → Nat) (ct : Nat → Option va_E) {N nt ci t c : Nat} {b cm lf nb de : Int32} {ss g pu : Int64}  {qt : Nat → Option Nat} {we : Nat → Int32}  {v : Int32} (h0 : ct 0 = some (.inr (10, [.ref (ad 1), .ref (ad 3), .int (nI nt), .ref (ad 4), .ref (ad 9), .ref (ad 11), .ref (ad 12), .ref (ad 13), .int lf]))) (h1 : ct 1 = some (.inr (3, [.ref (ad 2), .int (nI N), .int b, .long ss, .long g, .int cm]))) (h3 : ct 3 = some (eQ tc 4 6 qt)) (h30 : ct (30 + t) = some (.inr (ci, [.int nb, .ref (ad (36 + t)), .ref (ad (42 + t)), .long pu, .int de]))) (h42 : ct (42 + t) = some (eI tc N we)) (ht : t < nt) (hnt : nt ≤ 6) (hqt : qt t = some (ad (30 + t))) (hci : ci = 5 ∨ ci = 7 ∨ ci = 9) (hc : c < N) (hN : N ≤ 8) (hv : 0 ≤ v ∧ v ≤ 100) (hz : ¬ (su (fun c => (we c).toInt64) N - (we c).toInt64 + v.toInt64 = 0)) : Met l yX10_believe wsX10_believe ({ frames := 1, cells := 0, slots := 0, locals := 30 }) (va_Pc [.ref (ad 0), .int (nI t), .int (nI c), .int v] (kw_B D tc sz ad ct)) (kw_Q D ad (kw_A ad ct sz) (some (.int (we c))) (kw_up ct (42 + t) (eI tc N (va_up we c v))) 0) 0 0 (kw_A ad ct sz) := by
  refine Met.ofW (cc := cX10_believe) (maxL := 6) (ret := (some .int)) (by decide) rfl ?_
  intro pg en s m args below meth cod s₁ B hml hv
  obtain ⟨rfl, hsz, hP0, hK⟩ := hv
  have hx := B.exec
  have hb := B.bytes
  have hr := B.returns
  have hts := atoms_spec (ws := wsX10_believe) B.pre
  have hown : s.vm.findClass RX10 = some m.cls := findClass_of_methodNamed B.named
  have hlocks := B.notSynchronized
  subst hsz
  have hw := kw_H.start hP0
  generalize hAe : kw_A ad ct s.heap.size = A at hw ⊢
  have hA : ∀ q, s.heap.size ≤ q → A q := fun q h => by rw [← hAe]; exact Or.inr h
  have hinX10 : ∀ w ∈ wsX100, w ∈ wsX10_believe := by decide +kernel
  have hl := lv_entry ([.ref (ad 0), .int (nI t), .int (nI c), .int v]) (n := 6) (Nat.le_of_ble_eq_true rfl)
  rw [lg_entry_eq]
  generalize (lg_sl ([.ref (ad 0), .int (nI t), .int (nI c), .int v]) ++ List.replicate (6 - (lg_sl ([.ref (ad 0), .int (nI t), .int (nI c), .int v])).length) Slot.unset).toArray = ls at hl ⊢
  have hl : lv_has ls 6 [(0, .ref (ad 0)), (1, .int (nI t)), (2, .int (nI c)), (3, .int v)] := hl
  have S0 : CallFix pg m cod cX10_believe 6 s _ wsX10_believe RX10 := ⟨hx, hb, hml, hown, hts⟩
  have hfr : ∀ j, j ≠ (42 + t) → ct j = ct j := fun _ _ => rfl
  have kC : 0 ≤ nI c ∧ nI c < nI N := ⟨nI_pos' (by omega), nI_lt hc (by omega)⟩
  refine lv_aload_n hx hb dX10_believe_0 rfl (lv_at hl 0 rfl) ?_
  refine lv_iload_n hx hb dX10_believe_1 rfl (lv_at hl 1 rfl) ?_
  refine kc_v (As := [.int (nI t)]) (rest := []) S0 (c_X10_findTrader l D tc s.heap.size ad ct (t := t) (nt := nt) h0 h3 (by omega) (by omega) hqt) (cwV 1 hts gX10_believe_X10_findTrader rfl rfl rfl (by decide +kernel) ⟨Nat.le_of_ble_eq_true rfl, Nat.le_of_ble_eq_true rfl⟩) hK hw h0 rfl rfl hl.1 rfl (Nat.le_of_ble_eq_true rfl) dX10_believe_2 ⟨Nat.le_of_ble_eq_true rfl, (Nat.le_of_ble_eq_true rfl)⟩ ?_
  refine lv_astore (lv' := [(4, .ref (ad (30 + t))), (0, .ref (ad 0)), (1, .int (nI t)), (2, .int (nI c)), (3, .int v)]) hx hb dX10_believe_5 hl (by decide) rfl (fun ls hl => ?_)
  refine lv_aload hx hb dX10_believe_7 (lv_at hl 0 rfl) ?_
  refine lv_ifnull hx hb dX10_believe_9 ?_
  refine lv_aload_n hx hb dX10_believe_12 rfl (lv_at hl 1 rfl) ?_
  refine kg_get (v := .ref (ad 1)) (C := RX10) (T := TX10) (N := 9) hx hb hts hinX10 hown hK hw h0 rfl 0 (by decide) (hts (.fieldLink RX10 12 "BetMaker" "maker" "LBetMaker$Maker;") (by decide +kernel)) (fun _ h9 => h9) rfl dX10_believe_13 ?_
  refine lv_iload_n hx hb dX10_believe_16 rfl (lv_at hl 3 rfl) ?_
  refine kc_v (As := [.int (nI c)]) (rest := []) S0 (c_X3_isCase l D tc s.heap.size ad ct (N := N) h1) (cwV 1 hts gX10_believe_X3_isCase rfl rfl rfl (by decide +kernel) ⟨Nat.le_of_ble_eq_true rfl, Nat.le_of_ble_eq_true rfl⟩) hK hw h1 rfl rfl hl.1 rfl (Nat.le_of_ble_eq_true rfl) dX10_believe_17 ⟨Nat.le_of_ble_eq_true rfl, (Nat.le_of_ble_eq_true rfl)⟩ ?_
  refine kb_ifne (tgt := 25) hx hb dX10_believe_20 (by decide) (fun c_1 => ?_) (fun c_1 => ?_)
  · refine lv_iload_n hx hb dX10_believe_25 rfl (lv_at hl 4 rfl) ?_
    refine kc_s (As := [.int v]) (rest := []) S0 (c_X10_isWeight l D tc s.heap.size ad ct ) (va_cwS 1 hts gX10_believe_X10_isWeight rfl rfl rfl (by decide +kernel) ⟨Nat.le_of_ble_eq_true rfl, Nat.le_of_ble_eq_true rfl⟩) hK hw rfl hl.1 rfl (Nat.le_of_ble_eq_true rfl) dX10_believe_26 ⟨Nat.le_of_ble_eq_true rfl, (Nat.le_of_ble_eq_true rfl)⟩ ?_
    refine kb_ifne (tgt := 35) hx hb dX10_believe_29 (by decide) (fun c_2 => ?_) (fun c_2 => ?_)
    · refine lv_aload hx hb dX10_believe_35 (lv_at hl 0 rfl) ?_
      refine lv_iload_n hx hb dX10_believe_37 rfl (lv_at hl 3 rfl) ?_
      refine kt_v (As := [.int (nI c)]) (rest := []) S0 hci (c_X5_weightOf l D tc s.heap.size ad ct (c := c) h30 h42 hci hc (by omega)) (cwV 1 hts gX10_believe_X5_weightOf rfl rfl rfl (by decide +kernel) ⟨Nat.le_of_ble_eq_true rfl, Nat.le_of_ble_eq_true rfl⟩) (va_cwU 1 hts gX10_believe_X5_weightOf_u173X7 rfl rfl rfl rfl (by decide +kernel) ⟨Nat.le_of_ble_eq_true rfl, Nat.le_of_ble_eq_true rfl⟩) (va_cwU 1 hts gX10_believe_X5_weightOf_u173X9 rfl rfl rfl rfl (by decide +kernel) ⟨Nat.le_of_ble_eq_true rfl, Nat.le_of_ble_eq_true rfl⟩) hK hw h30 rfl hl.1 rfl (Nat.le_of_ble_eq_true rfl) dX10_believe_38 ⟨Nat.le_of_ble_eq_true rfl, (Nat.le_of_ble_eq_true rfl)⟩ ?_
      refine lv_istore (lv' := [(5, .int (we c)), (4, .ref (ad (30 + t))), (0, .ref (ad 0)), (1, .int (nI t)), (2, .int (nI c)), (3, .int v)]) hx hb dX10_believe_41 hl (by decide) rfl (fun ls hl => ?_)
      refine lv_aload hx hb dX10_believe_43 (lv_at hl 1 rfl) ?_
      refine kt_v (As := []) (rest := []) S0 hci (c_X5_weightSum l D tc s.heap.size ad ct h30 h42 hci (by omega)) (cwV 0 hts gX10_believe_X5_weightSum rfl rfl rfl (by decide +kernel) ⟨Nat.le_of_ble_eq_true rfl, Nat.le_of_ble_eq_true rfl⟩) (va_cwU 0 hts gX10_believe_X5_weightSum_u163X7 rfl rfl rfl rfl (by decide +kernel) ⟨Nat.le_of_ble_eq_true rfl, Nat.le_of_ble_eq_true rfl⟩) (va_cwU 0 hts gX10_believe_X5_weightSum_u163X9 rfl rfl rfl rfl (by decide +kernel) ⟨Nat.le_of_ble_eq_true rfl, Nat.le_of_ble_eq_true rfl⟩) hK hw h30 rfl hl.1 rfl (Nat.le_of_ble_eq_true rfl) dX10_believe_45 ⟨Nat.le_of_ble_eq_true rfl, (Nat.le_of_ble_eq_true rfl)⟩ ?_
      refine lv_iload hx hb dX10_believe_48 (lv_at hl 0 rfl) ?_
      refine lv_i2l (v := (we c).toInt64) hx hb dX10_believe_50 rfl ?_
      refine lv_lsub hx hb dX10_believe_51 ?_
      refine lv_iload_n hx hb dX10_believe_52 rfl (lv_at hl 5 rfl) ?_
      refine lv_i2l (v := v.toInt64) hx hb dX10_believe_53 rfl ?_
      refine lv_ladd hx hb dX10_believe_54 ?_
      refine lv_lconst (v := 0) hx hb dX10_believe_55 (by decide) ?_
      refine W.lcmp hx hb dX10_believe_56 ?_
      refine kl_ne (tgt := 63) hx hb dX10_believe_57 (by decide) (fun c_3 => ?_) (fun c_3 => ?_)
      · refine lv_aload hx hb dX10_believe_63 (lv_at hl 1 rfl) ?_
        refine lv_iload_n hx hb dX10_believe_65 rfl (lv_at hl 4 rfl) ?_
        refine lv_iload_n hx hb dX10_believe_66 rfl (lv_at hl 5 rfl) ?_
        refine kt_vu (As := [.int (nI c), .int v]) (rest := []) S0 hci (c_X5_weigh l D tc s.heap.size ad ct (c := c) h30 h42 hci hc (by omega)) (cwV 2 hts gX10_believe_X5_weigh rfl rfl rfl (by decide +kernel) ⟨Nat.le_of_ble_eq_true rfl, Nat.le_of_ble_eq_true rfl⟩) (va_cwU 2 hts gX10_believe_X5_weigh_u176X7 rfl rfl rfl rfl (by decide +kernel) ⟨Nat.le_of_ble_eq_true rfl, Nat.le_of_ble_eq_true rfl⟩) (va_cwU 2 hts gX10_believe_X5_weigh_u176X9 rfl rfl rfl rfl (by decide +kernel) ⟨Nat.le_of_ble_eq_true rfl, Nat.le_of_ble_eq_true rfl⟩) hK hw hA h30 rfl hl.1 rfl (Nat.le_of_ble_eq_true rfl) dX10_believe_67 ⟨Nat.le_of_ble_eq_true rfl, (Nat.le_of_ble_eq_true rfl)⟩ (fun H locs hw => ?_)
        obtain ⟨ct_4, ect_4⟩ : ∃ z, z = kw_up ct (42 + t) (eI tc N (va_up we c v)) := ⟨_, rfl⟩
        rw [← ect_4] at hw
        have h_5 : ct_4 0 = some (.inr (10, [.ref (ad 1), .ref (ad 3), .int (nI nt), .ref (ad 4), .ref (ad 9), .ref (ad 11), .ref (ad 12), .ref (ad 13), .int lf])) := by rw [ect_4, kw_up_n (by omega)]; exact h0
        have h_6 : ct_4 1 = some (.inr (3, [.ref (ad 2), .int (nI N), .int b, .long ss, .long g, .int cm])) := by rw [ect_4, kw_up_n (by omega)]; exact h1
        have h_7 : ct_4 3 = some (eQ tc 4 6 qt) := by rw [ect_4, kw_up_n (by omega)]; exact h3
        have h_8 : ct_4 (30 + t) = some (.inr (ci, [.int nb, .ref (ad (36 + t)), .ref (ad (42 + t)), .long pu, .int de])) := by rw [ect_4, kw_up_n (by omega)]; exact h30
        have h_9 : ct_4 (42 + t) = some (eI tc N (va_up we c v)) := by rw [ect_4]; exact kw_up_s
        have hfr_10 : ∀ j, j ≠ (42 + t) → ct_4 j = ct j := fun j a0 => by rw [ect_4]; exact (kw_up_n a0).trans (hfr j a0)
        refine lv_iload hx hb dX10_believe_70 (lv_at hl 0 rfl) ?_
        have hq_11 := h_9
        have hend := kw_eq1 hq_11 hfr_10
        rw [hend] at hw
        exact W.iret hx hb hr (fun t ht _ => ⟨rfl, by rw [ht]; exact hw.1, hw.2.2.1, hw.2.1.F ht, by rw [ht]; exact hw.2.2.2⟩) hw.2.1.2.2 dX10_believe_72
      · exact absurd c_3 hz
    · exact absurd hv c_2
  · exact absurd kC c_1
set_option maxHeartbeats 4000000 in
set_option maxRecDepth 100000 in
theorem c_X10_worth (l : Launch) (D : va_G) (tc : Nat → ClassId) (sz : Nat) (ad : Nat → Nat) (ct : Nat → Option va_E) {N nt ci t : Nat} {b cm lf nb de : Int32} {ss g pu : Int64} {f : Nat → Int64} {qt : Nat → Option Nat} {we : Nat → Int32}  {set x : Int32} (h0 : ct 0 = some (.inr (10, [.ref (ad 1), .ref (ad 3), .int (nI nt), .ref (ad 4), .ref (ad 9), .ref (ad 11), .ref (ad 12), .ref (ad 13), .int lf]))) (h1 : ct 1 = some (.inr (3, [.ref (ad 2), .int (nI N), .int b, .long ss, .long g, .int cm]))) (h2 : ct 2 = some (eJ tc 8 f)) (h3 : ct 3 = some (eQ tc 4 6 qt)) (h30 : ct (30 + t) = some (.inr (ci, [.int nb, .ref (ad (36 + t)), .ref (ad (42 + t)), .long pu, .int de]))) (h42 : ct (42 + t) = some (eI tc N we)) (ht : t < nt) (hnt : nt ≤ 6) (hqt : qt t = some (ad (30 + t))) (hci : ci = 5 ∨ ci = 7 ∨ ci = 9) (hN : N ≤ 8) (hor : (1 ≤ set ∧ set ≤ 1 <<< (nI N &&& 31) - 2) ∧ ¬ x = 0 ∧ (-1000) ≤ x ∧ x ≤ 1000) : Met l yX10_worth wsX10_worth ({ frames := 6, cells := 0, slots := 0, locals := 158 }) (va_Pc [.ref (ad 0), .int (nI t), .int set, .int x] (kw_B D tc sz ad ct)) (k2_QcV (.long (kWt b N f ss we set x))) 0 0 (fun _ => False) := by
  refine Met.ofW (cc := cX10_worth) (maxL := 5) (ret := (some .long)) (by decide) rfl ?_
  intro pg en s m args below meth cod s₁ B hml hv
  obtain ⟨rfl, hsz, hP0, hK⟩ := hv
  have hx := B.exec
  have hb := B.bytes
  have hr := B.returns
  have hts := atoms_spec (ws := wsX10_worth) B.pre
  have hown : s.vm.findClass RX10 = some m.cls := findClass_of_methodNamed B.named
  have hlocks := B.notSynchronized
  subst hsz
  have hw := kw_H.start hP0
  generalize kw_A ad ct s.heap.size = A at hw
  have hl := lv_entry ([.ref (ad 0), .int (nI t), .int set, .int x]) (n := 5) (Nat.le_of_ble_eq_true rfl)
  rw [lg_entry_eq]
  generalize (lg_sl ([.ref (ad 0), .int (nI t), .int set, .int x]) ++ List.replicate (5 - (lg_sl ([.ref (ad 0), .int (nI t), .int set, .int x])).length) Slot.unset).toArray = ls at hl ⊢
  have hl : lv_has ls 5 [(0, .ref (ad 0)), (1, .int (nI t)), (2, .int set), (3, .int x)] := hl
  have S0 : CallFix pg m cod cX10_worth 5 s _ wsX10_worth RX10 := ⟨hx, hb, hml, hown, hts⟩
  refine lv_aload_n hx hb dX10_worth_0 rfl (lv_at hl 0 rfl) ?_
  refine lv_iload_n hx hb dX10_worth_1 rfl (lv_at hl 1 rfl) ?_
  refine kc_v (As := [.int (nI t)]) (rest := []) S0 (c_X10_findTrader l D tc s.heap.size ad ct (t := t) (nt := nt) h0 h3 (by omega) (by omega) hqt) (cwV 1 hts gX10_worth_X10_findTrader rfl rfl rfl (by decide +kernel) ⟨Nat.le_of_ble_eq_true rfl, Nat.le_of_ble_eq_true rfl⟩) hK hw h0 rfl rfl hl.1 rfl (Nat.le_of_ble_eq_true rfl) dX10_worth_2 ⟨Nat.le_of_ble_eq_true rfl, (Nat.le_of_ble_eq_true rfl)⟩ ?_
  refine lv_astore (lv' := [(4, .ref (ad (30 + t))), (0, .ref (ad 0)), (1, .int (nI t)), (2, .int set), (3, .int x)]) hx hb dX10_worth_5 hl (by decide) rfl (fun ls hl => ?_)
  refine lv_aload hx hb dX10_worth_7 (lv_at hl 0 rfl) ?_
  refine lv_ifnull hx hb dX10_worth_9 ?_
  refine lv_aload_n hx hb dX10_worth_12 rfl (lv_at hl 1 rfl) ?_
  refine lv_iload_n hx hb dX10_worth_13 rfl (lv_at hl 3 rfl) ?_
  refine lv_iload_n hx hb dX10_worth_14 rfl (lv_at hl 4 rfl) ?_
  refine kc_v (As := [.int set, .int x]) (rest := []) S0 (c_X10_isOrder l D tc s.heap.size ad ct (nt := nt) (N := N) h0 h1) (cwV 2 hts gX10_worth_X10_isOrder rfl rfl rfl (by decide +kernel) ⟨Nat.le_of_ble_eq_true rfl, Nat.le_of_ble_eq_true rfl⟩) hK hw h0 rfl rfl hl.1 rfl (Nat.le_of_ble_eq_true rfl) dX10_worth_15 ⟨Nat.le_of_ble_eq_true rfl, (Nat.le_of_ble_eq_true rfl)⟩ ?_
  refine kb_ifne (tgt := 25) hx hb dX10_worth_18 (by decide) (fun c_1 => ?_) (fun c_1 => ?_)
  · refine lv_aload_n hx hb dX10_worth_25 rfl (lv_at hl 1 rfl) ?_
    refine lv_aload hx hb dX10_worth_26 (lv_at hl 0 rfl) ?_
    refine lv_iload_n hx hb dX10_worth_28 rfl (lv_at hl 3 rfl) ?_
    refine lv_iload_n hx hb dX10_worth_29 rfl (lv_at hl 4 rfl) ?_
    refine kc_v (As := [.ref (ad (30 + t)), .int set, .int x]) (rest := []) S0 (c_X10_worthTo l D tc s.heap.size ad ct (t := t) (nt := nt) (N := N) h0 h1 h2 h30 h42 hci (by omega)) (cwV 3 hts gX10_worth_X10_worthTo rfl rfl rfl (by decide +kernel) ⟨Nat.le_of_ble_eq_true rfl, Nat.le_of_ble_eq_true rfl⟩) hK hw h0 rfl rfl hl.1 rfl (Nat.le_of_ble_eq_true rfl) dX10_worth_30 ⟨Nat.le_of_ble_eq_true rfl, (Nat.le_of_ble_eq_true rfl)⟩ ?_
    exact W.lret hx hb hr (fun t ht _ => ⟨rfl, ht⟩) (fun _ h => absurd h List.not_mem_nil) dX10_worth_33
  · exact absurd hor c_1
set_option maxHeartbeats 4000000 in
set_option maxRecDepth 100000 in
theorem c_X10_worth_n (l : Launch) (D : va_G) (tc : Nat → ClassId) (sz : Nat) (ad : Nat → Nat) (ct : Nat → Option va_E) {nt : Nat} {lf : Int32}      {t1 set x : Int32} (h0 : ct 0 = some (.inr (10, [.ref (ad 1), .ref (ad 3), .int (nI nt), .ref (ad 4), .ref (ad 9), .ref (ad 11), .ref (ad 12), .ref (ad 13), .int lf]))) (ht : ¬ (0 ≤ t1 ∧ t1 < nI nt)) : Met l yX10_worth wsX10_worth ({ frames := 6, cells := 0, slots := 0, locals := 158 }) (va_Pc [.ref (ad 0), .int t1, .int set, .int x] (kw_B D tc sz ad ct)) (k2_QcV (.long (-9223372036854775808))) 0 0 (fun _ => False) := by
  refine Met.ofW (cc := cX10_worth) (maxL := 5) (ret := (some .long)) (by decide) rfl ?_
  intro pg en s m args below meth cod s₁ B hml hv
  obtain ⟨rfl, hsz, hP0, hK⟩ := hv
  have hx := B.exec
  have hb := B.bytes
  have hr := B.returns
  have hts := atoms_spec (ws := wsX10_worth) B.pre
  have hown : s.vm.findClass RX10 = some m.cls := findClass_of_methodNamed B.named
  have hlocks := B.notSynchronized
  subst hsz
  have hw := kw_H.start hP0
  generalize kw_A ad ct s.heap.size = A at hw
  have hl := lv_entry ([.ref (ad 0), .int t1, .int set, .int x]) (n := 5) (Nat.le_of_ble_eq_true rfl)
  rw [lg_entry_eq]
  generalize (lg_sl ([.ref (ad 0), .int t1, .int set, .int x]) ++ List.replicate (5 - (lg_sl ([.ref (ad 0), .int t1, .int set, .int x])).length) Slot.unset).toArray = ls at hl ⊢
  have hl : lv_has ls 5 [(0, .ref (ad 0)), (1, .int t1), (2, .int set), (3, .int x)] := hl
  have S0 : CallFix pg m cod cX10_worth 5 s _ wsX10_worth RX10 := ⟨hx, hb, hml, hown, hts⟩
  refine lv_aload_n hx hb dX10_worth_0 rfl (lv_at hl 0 rfl) ?_
  refine lv_iload_n hx hb dX10_worth_1 rfl (lv_at hl 1 rfl) ?_
  refine kc_v (As := [.int t1]) (rest := []) S0 (c_X10_findTrader_n l D tc s.heap.size ad ct (nt := nt) h0 ht) (cwV 1 hts gX10_worth_X10_findTrader rfl rfl rfl (by decide +kernel) ⟨Nat.le_of_ble_eq_true rfl, Nat.le_of_ble_eq_true rfl⟩) hK hw h0 rfl rfl hl.1 rfl (Nat.le_of_ble_eq_true rfl) dX10_worth_2 ⟨Nat.le_of_ble_eq_true rfl, (Nat.le_of_ble_eq_true rfl)⟩ ?_
  refine lv_astoreN (lv' := [(4, .null), (0, .ref (ad 0)), (1, .int t1), (2, .int set), (3, .int x)]) hx hb dX10_worth_5 hl (by decide) rfl (fun ls hl => ?_)
  refine lv_aloadN hx hb dX10_worth_7 (lv_at hl 0 rfl) ?_
  refine lv_ifnullN (tgt := 21) hx hb dX10_worth_9 (by decide) ?_
  refine lv_ldc2 (v := (-9223372036854775808)) hx hb hown (hts (.constantLong RX10 85 (-9223372036854775808)) (by decide +kernel)) dX10_worth_21 ?_
  exact W.lret hx hb hr (fun t ht _ => ⟨rfl, ht⟩) (fun _ h => absurd h List.not_mem_nil) dX10_worth_24
set_option maxHeartbeats 4000000 in
set_option maxRecDepth 100000 in
theorem c_X10_worth_m (l : Launch) (D : va_G) (tc : Nat → ClassId) (sz : Nat) (ad : Nat → Nat) (ct : Nat → Option va_E) {N nt t : Nat} {b cm lf : Int32} {ss g : Int64} {ho : Nat → Int64} {qt : Nat → Option Nat}   {set x : Int32} (h0 : ct 0 = some (.inr (10, [.ref (ad 1), .ref (ad 3), .int (nI nt), .ref (ad 4), .ref (ad 9), .ref (ad 11), .ref (ad 12), .ref (ad 13), .int lf]))) (h1 : ct 1 = some (.inr (3, [.ref (ad 2), .int (nI N), .int b, .long ss, .long g, .int cm]))) (h3 : ct 3 = some (eQ tc 4 6 qt)) (ht : t < nt) (hnt : nt ≤ 6) (hqt : qt t = some (ad (30 + t))) (ho : ¬ ((1 ≤ set ∧ set ≤ 1 <<< (nI N &&& 31) - 2) ∧ ¬ x = 0 ∧ (-1000) ≤ x ∧ x ≤ 1000)) : Met l yX10_worth wsX10_worth ({ frames := 6, cells := 0, slots := 0, locals := 158 }) (va_Pc [.ref (ad 0), .int (nI t), .int set, .int x] (kw_B D tc sz ad ct)) (k2_QcV (.long (-9223372036854775808))) 0 0 (fun _ => False) := by
  refine Met.ofW (cc := cX10_worth) (maxL := 5) (ret := (some .long)) (by decide) rfl ?_
  intro pg en s m args below meth cod s₁ B hml hv
  obtain ⟨rfl, hsz, hP0, hK⟩ := hv
  have hx := B.exec
  have hb := B.bytes
  have hr := B.returns
  have hts := atoms_spec (ws := wsX10_worth) B.pre
  have hown : s.vm.findClass RX10 = some m.cls := findClass_of_methodNamed B.named
  have hlocks := B.notSynchronized
  subst hsz
  have hw := kw_H.start hP0
  generalize kw_A ad ct s.heap.size = A at hw
  have hl := lv_entry ([.ref (ad 0), .int (nI t), .int set, .int x]) (n := 5) (Nat.le_of_ble_eq_true rfl)
  rw [lg_entry_eq]
  generalize (lg_sl ([.ref (ad 0), .int (nI t), .int set, .int x]) ++ List.replicate (5 - (lg_sl ([.ref (ad 0), .int (nI t), .int set, .int x])).length) Slot.unset).toArray = ls at hl ⊢
  have hl : lv_has ls 5 [(0, .ref (ad 0)), (1, .int (nI t)), (2, .int set), (3, .int x)] := hl
  have S0 : CallFix pg m cod cX10_worth 5 s _ wsX10_worth RX10 := ⟨hx, hb, hml, hown, hts⟩
  refine lv_aload_n hx hb dX10_worth_0 rfl (lv_at hl 0 rfl) ?_
  refine lv_iload_n hx hb dX10_worth_1 rfl (lv_at hl 1 rfl) ?_
  refine kc_v (As := [.int (nI t)]) (rest := []) S0 (c_X10_findTrader l D tc s.heap.size ad ct (t := t) (nt := nt) h0 h3 (by omega) (by omega) hqt) (cwV 1 hts gX10_worth_X10_findTrader rfl rfl rfl (by decide +kernel) ⟨Nat.le_of_ble_eq_true rfl, Nat.le_of_ble_eq_true rfl⟩) hK hw h0 rfl rfl hl.1 rfl (Nat.le_of_ble_eq_true rfl) dX10_worth_2 ⟨Nat.le_of_ble_eq_true rfl, (Nat.le_of_ble_eq_true rfl)⟩ ?_
  refine lv_astore (lv' := [(4, .ref (ad (30 + t))), (0, .ref (ad 0)), (1, .int (nI t)), (2, .int set), (3, .int x)]) hx hb dX10_worth_5 hl (by decide) rfl (fun ls hl => ?_)
  refine lv_aload hx hb dX10_worth_7 (lv_at hl 0 rfl) ?_
  refine lv_ifnull hx hb dX10_worth_9 ?_
  refine lv_aload_n hx hb dX10_worth_12 rfl (lv_at hl 1 rfl) ?_
  refine lv_iload_n hx hb dX10_worth_13 rfl (lv_at hl 3 rfl) ?_
  refine lv_iload_n hx hb dX10_worth_14 rfl (lv_at hl 4 rfl) ?_
  refine kc_v (As := [.int set, .int x]) (rest := []) S0 (c_X10_isOrder l D tc s.heap.size ad ct (nt := nt) (N := N) h0 h1) (cwV 2 hts gX10_worth_X10_isOrder rfl rfl rfl (by decide +kernel) ⟨Nat.le_of_ble_eq_true rfl, Nat.le_of_ble_eq_true rfl⟩) hK hw h0 rfl rfl hl.1 rfl (Nat.le_of_ble_eq_true rfl) dX10_worth_15 ⟨Nat.le_of_ble_eq_true rfl, (Nat.le_of_ble_eq_true rfl)⟩ ?_
  refine kb_ifne (tgt := 25) hx hb dX10_worth_18 (by decide) (fun c_1 => ?_) (fun c_1 => ?_)
  · exact absurd c_1 ho
  · refine lv_ldc2 (v := (-9223372036854775808)) hx hb hown (hts (.constantLong RX10 85 (-9223372036854775808)) (by decide +kernel)) dX10_worth_21 ?_
    exact W.lret hx hb hr (fun t ht _ => ⟨rfl, ht⟩) (fun _ h => absurd h List.not_mem_nil) dX10_worth_24
set_option maxHeartbeats 4000000 in
set_option maxRecDepth 100000 in
theorem c_X10_best_n (l : Launch) (D : va_G) (tc : Nat → ClassId) (sz : Nat) (ad : Nat → Nat) (ct : Nat → Option va_E) {nt : Nat} {lf : Int32}      {t1 set : Int32} (h0 : ct 0 = some (.inr (10, [.ref (ad 1), .ref (ad 3), .int (nI nt), .ref (ad 4), .ref (ad 9), .ref (ad 11), .ref (ad 12), .ref (ad 13), .int lf]))) (ht : ¬ (0 ≤ t1 ∧ t1 < nI nt)) : Met l yX10_best wsX10_best ({ frames := 6, cells := 0, slots := 0, locals := 160 }) (va_Pc [.ref (ad 0), .int t1, .int set] (kw_B D tc sz ad ct)) (k2_QcV (.long (-9223372036854775808))) 0 0 (fun _ => False) := by
  refine Met.ofW (cc := cX10_best) (maxL := 11) (ret := (some .long)) (by decide) rfl ?_
  intro pg en s m args below meth cod s₁ B hml hv
  obtain ⟨rfl, hsz, hP0, hK⟩ := hv
  have hx := B.exec
  have hb := B.bytes
  have hr := B.returns
  have hts := atoms_spec (ws := wsX10_best) B.pre
  have hown : s.vm.findClass RX10 = some m.cls := findClass_of_methodNamed B.named
  have hlocks := B.notSynchronized
  subst hsz
  have hw := kw_H.start hP0
  generalize kw_A ad ct s.heap.size = A at hw
  have hinX10 : ∀ w ∈ wsX100, w ∈ wsX10_best := by decide +kernel
  have hl := lv_entry ([.ref (ad 0), .int t1, .int set]) (n := 11) (Nat.le_of_ble_eq_true rfl)
  rw [lg_entry_eq]
  generalize (lg_sl ([.ref (ad 0), .int t1, .int set]) ++ List.replicate (11 - (lg_sl ([.ref (ad 0), .int t1, .int set])).length) Slot.unset).toArray = ls at hl ⊢
  have hl : lv_has ls 11 [(0, .ref (ad 0)), (1, .int t1), (2, .int set)] := hl
  have S0 : CallFix pg m cod cX10_best 11 s _ wsX10_best RX10 := ⟨hx, hb, hml, hown, hts⟩
  refine lv_aload_n hx hb dX10_best_0 rfl (lv_at hl 0 rfl) ?_
  refine lv_iload_n hx hb dX10_best_1 rfl (lv_at hl 1 rfl) ?_
  refine kc_v (As := [.int t1]) (rest := []) S0 (c_X10_findTrader_n l D tc s.heap.size ad ct (nt := nt) h0 ht) (cwV 1 hts gX10_best_X10_findTrader rfl rfl rfl (by decide +kernel) ⟨Nat.le_of_ble_eq_true rfl, Nat.le_of_ble_eq_true rfl⟩) hK hw h0 rfl rfl hl.1 rfl (Nat.le_of_ble_eq_true rfl) dX10_best_2 ⟨Nat.le_of_ble_eq_true rfl, (Nat.le_of_ble_eq_true rfl)⟩ ?_
  refine lv_astore_nN (lv' := [(3, .null), (0, .ref (ad 0)), (1, .int t1), (2, .int set)]) hx hb dX10_best_5 rfl hl (by decide) rfl (fun ls hl => ?_)
  refine lv_aload_nN hx hb dX10_best_6 rfl (lv_at hl 0 rfl) ?_
  refine lv_ifnullN (tgt := 31) hx hb dX10_best_7 (by decide) ?_
  refine lv_ldc2 (v := (-9223372036854775808)) hx hb hown (hts (.constantLong RX10 85 (-9223372036854775808)) (by decide +kernel)) dX10_best_31 ?_
  exact W.lret hx hb hr (fun t ht _ => ⟨rfl, ht⟩) (fun _ h => absurd h List.not_mem_nil) dX10_best_34
set_option maxHeartbeats 4000000 in
set_option maxRecDepth 100000 in
theorem c_X10_best_m (l : Launch) (D : va_G) (tc : Nat → ClassId) (sz : Nat) (ad : Nat → Nat) (ct : Nat → Option va_E) {N nt t : Nat} {b cm lf : Int32} {ss g : Int64}  {qt : Nat → Option Nat}   {set : Int32} (h0 : ct 0 = some (.inr (10, [.ref (ad 1), .ref (ad 3), .int (nI nt), .ref (ad 4), .ref (ad 9), .ref (ad 11), .ref (ad 12), .ref (ad 13), .int lf]))) (h1 : ct 1 = some (.inr (3, [.ref (ad 2), .int (nI N), .int b, .long ss, .long g, .int cm]))) (h3 : ct 3 = some (eQ tc 4 6 qt)) (ht : t < nt) (hnt : nt ≤ 6) (hqt : qt t = some (ad (30 + t))) (hbad : ¬ ((1 ≤ set ∧ set ≤ 1 <<< (nI N &&& 31) - 2) ∧ cm = (-9))) : Met l yX10_best wsX10_best ({ frames := 6, cells := 0, slots := 0, locals := 160 }) (va_Pc [.ref (ad 0), .int (nI t), .int set] (kw_B D tc sz ad ct)) (k2_QcV (.long (-9223372036854775808))) 0 0 (fun _ => False) := by
  refine Met.ofW (cc := cX10_best) (maxL := 11) (ret := (some .long)) (by decide) rfl ?_
  intro pg en s m args below meth cod s₁ B hml hv
  obtain ⟨rfl, hsz, hP0, hK⟩ := hv
  have hx := B.exec
  have hb := B.bytes
  have hr := B.returns
  have hts := atoms_spec (ws := wsX10_best) B.pre
  have hown : s.vm.findClass RX10 = some m.cls := findClass_of_methodNamed B.named
  have hlocks := B.notSynchronized
  subst hsz
  have hw := kw_H.start hP0
  generalize kw_A ad ct s.heap.size = A at hw
  have hinX10 : ∀ w ∈ wsX100, w ∈ wsX10_best := by decide +kernel
  have hl := lv_entry ([.ref (ad 0), .int (nI t), .int set]) (n := 11) (Nat.le_of_ble_eq_true rfl)
  rw [lg_entry_eq]
  generalize (lg_sl ([.ref (ad 0), .int (nI t), .int set]) ++ List.replicate (11 - (lg_sl ([.ref (ad 0), .int (nI t), .int set])).length) Slot.unset).toArray = ls at hl ⊢
  have hl : lv_has ls 11 [(0, .ref (ad 0)), (1, .int (nI t)), (2, .int set)] := hl
  have S0 : CallFix pg m cod cX10_best 11 s _ wsX10_best RX10 := ⟨hx, hb, hml, hown, hts⟩
  refine lv_aload_n hx hb dX10_best_0 rfl (lv_at hl 0 rfl) ?_
  refine lv_iload_n hx hb dX10_best_1 rfl (lv_at hl 1 rfl) ?_
  refine kc_v (As := [.int (nI t)]) (rest := []) S0 (c_X10_findTrader l D tc s.heap.size ad ct (t := t) (nt := nt) h0 h3 (by omega) (by omega) hqt) (cwV 1 hts gX10_best_X10_findTrader rfl rfl rfl (by decide +kernel) ⟨Nat.le_of_ble_eq_true rfl, Nat.le_of_ble_eq_true rfl⟩) hK hw h0 rfl rfl hl.1 rfl (Nat.le_of_ble_eq_true rfl) dX10_best_2 ⟨Nat.le_of_ble_eq_true rfl, (Nat.le_of_ble_eq_true rfl)⟩ ?_
  refine lv_astore_n (lv' := [(3, .ref (ad (30 + t))), (0, .ref (ad 0)), (1, .int (nI t)), (2, .int set)]) hx hb dX10_best_5 rfl hl (by decide) rfl (fun ls hl => ?_)
  refine lv_aload_n hx hb dX10_best_6 rfl (lv_at hl 0 rfl) ?_
  refine lv_ifnull hx hb dX10_best_7 ?_
  refine lv_aload_n hx hb dX10_best_10 rfl (lv_at hl 1 rfl) ?_
  refine kg_get (v := .ref (ad 1)) (C := RX10) (T := TX10) (N := 9) hx hb hts hinX10 hown hK hw h0 rfl 0 (by decide) (hts (.fieldLink RX10 12 "BetMaker" "maker" "LBetMaker$Maker;") (by decide +kernel)) (fun _ h9 => h9) rfl dX10_best_11 ?_
  refine lv_iload_n hx hb dX10_best_14 rfl (lv_at hl 3 rfl) ?_
  refine kc_v (As := [.int set]) (rest := []) S0 (c_X3_isSet l D tc s.heap.size ad ct (N := N) h1) (cwV 1 hts gX10_best_X3_isSet rfl rfl rfl (by decide +kernel) ⟨Nat.le_of_ble_eq_true rfl, Nat.le_of_ble_eq_true rfl⟩) hK hw h1 rfl rfl hl.1 rfl (Nat.le_of_ble_eq_true rfl) dX10_best_15 ⟨Nat.le_of_ble_eq_true rfl, (Nat.le_of_ble_eq_true rfl)⟩ ?_
  refine kb_ifeq (tgt := 31) hx hb dX10_best_18 (by decide) (fun c_1 => ?_) (fun c_1 => ?_)
  · refine lv_ldc2 (v := (-9223372036854775808)) hx hb hown (hts (.constantLong RX10 85 (-9223372036854775808)) (by decide +kernel)) dX10_best_31 ?_
    exact W.lret hx hb hr (fun t ht _ => ⟨rfl, ht⟩) (fun _ h => absurd h List.not_mem_nil) dX10_best_34
  · refine lv_aload_n hx hb dX10_best_21 rfl (lv_at hl 1 rfl) ?_
    refine kg_get (v := .ref (ad 1)) (C := RX10) (T := TX10) (N := 9) hx hb hts hinX10 hown hK hw h0 rfl 0 (by decide) (hts (.fieldLink RX10 12 "BetMaker" "maker" "LBetMaker$Maker;") (by decide +kernel)) (fun _ h9 => h9) rfl dX10_best_22 ?_
    refine kc_v (As := []) (rest := []) S0 (c_X3_hasCome l D tc s.heap.size ad ct (N := N) h1) (cwV 0 hts gX10_best_X3_hasCome rfl rfl rfl (by decide +kernel) ⟨Nat.le_of_ble_eq_true rfl, Nat.le_of_ble_eq_true rfl⟩) hK hw h1 rfl rfl hl.1 rfl (Nat.le_of_ble_eq_true rfl) dX10_best_25 ⟨Nat.le_of_ble_eq_true rfl, (Nat.le_of_ble_eq_true rfl)⟩ ?_
    refine kb_ifeq (tgt := 35) hx hb dX10_best_28 (by decide) (fun c_2 => ?_) (fun c_2 => ?_)
    · exact absurd ⟨c_1, Decidable.not_not.mp c_2⟩ hbad
    · refine lv_ldc2 (v := (-9223372036854775808)) hx hb hown (hts (.constantLong RX10 85 (-9223372036854775808)) (by decide +kernel)) dX10_best_31 ?_
      exact W.lret hx hb hr (fun t ht _ => ⟨rfl, ht⟩) (fun _ h => absurd h List.not_mem_nil) dX10_best_34
set_option maxHeartbeats 4000000 in
set_option maxRecDepth 100000 in
theorem c_X10_best (l : Launch) (D : va_G) (tc : Nat → ClassId) (sz : Nat) (ad : Nat → Nat) (ct : Nat → Option va_E) {N nt ci t : Nat} {b cm lf nb de : Int32} {ss g pu : Int64} {f ho : Nat → Int64} {qt : Nat → Option Nat} {we : Nat → Int32}  {set : Int32} (h0 : ct 0 = some (.inr (10, [.ref (ad 1), .ref (ad 3), .int (nI nt), .ref (ad 4), .ref (ad 9), .ref (ad 11), .ref (ad 12), .ref (ad 13), .int lf]))) (h1 : ct 1 = some (.inr (3, [.ref (ad 2), .int (nI N), .int b, .long ss, .long g, .int cm]))) (h2 : ct 2 = some (eJ tc 8 f)) (h3 : ct 3 = some (eQ tc 4 6 qt)) (h30 : ct (30 + t) = some (.inr (ci, [.int nb, .ref (ad (36 + t)), .ref (ad (42 + t)), .long pu, .int de]))) (h36 : ct (36 + t) = some (eJ tc N ho)) (h42 : ct (42 + t) = some (eI tc N we)) (ht : t < nt) (hnt : nt ≤ 6) (hqt : qt t = some (ad (30 + t))) (hci : ci = 5 ∨ ci = 7 ∨ ci = 9) (hN : N ≤ 8) (hs : 1 ≤ set ∧ set ≤ 1 <<< (nI N &&& 31) - 2) (hm : cm = (-9)) : Met l yX10_best wsX10_best ({ frames := 6, cells := 0, slots := 0, locals := 160 }) (va_Pc [.ref (ad 0), .int (nI t), .int set] (kw_B D tc sz ad ct)) (k2_QcV (.long ((kBs (fun x => kWt b N f ss we set x) (fun x => decide (kWb b N f ss set x pu ho = 0)) 100).1.toInt64))) 0 0 (fun _ => False) := by
  refine Met.ofW (cc := cX10_best) (maxL := 11) (ret := (some .long)) (by decide) rfl ?_
  intro pg en s m args below meth cod s₁ B hml hv
  obtain ⟨rfl, hsz, hP0, hK⟩ := hv
  have hx := B.exec
  have hb := B.bytes
  have hr := B.returns
  have hts := atoms_spec (ws := wsX10_best) B.pre
  have hown : s.vm.findClass RX10 = some m.cls := findClass_of_methodNamed B.named
  have hlocks := B.notSynchronized
  subst hsz
  have hw := kw_H.start hP0
  generalize kw_A ad ct s.heap.size = A at hw
  have hinX10 : ∀ w ∈ wsX100, w ∈ wsX10_best := by decide +kernel
  have hl := lv_entry ([.ref (ad 0), .int (nI t), .int set]) (n := 11) (Nat.le_of_ble_eq_true rfl)
  rw [lg_entry_eq]
  generalize (lg_sl ([.ref (ad 0), .int (nI t), .int set]) ++ List.replicate (11 - (lg_sl ([.ref (ad 0), .int (nI t), .int set])).length) Slot.unset).toArray = ls at hl ⊢
  have hl : lv_has ls 11 [(0, .ref (ad 0)), (1, .int (nI t)), (2, .int set)] := hl
  have S0 : CallFix pg m cod cX10_best 11 s _ wsX10_best RX10 := ⟨hx, hb, hml, hown, hts⟩
  refine lv_aload_n hx hb dX10_best_0 rfl (lv_at hl 0 rfl) ?_
  refine lv_iload_n hx hb dX10_best_1 rfl (lv_at hl 1 rfl) ?_
  refine kc_v (As := [.int (nI t)]) (rest := []) S0 (c_X10_findTrader l D tc s.heap.size ad ct (t := t) (nt := nt) h0 h3 (by omega) (by omega) hqt) (cwV 1 hts gX10_best_X10_findTrader rfl rfl rfl (by decide +kernel) ⟨Nat.le_of_ble_eq_true rfl, Nat.le_of_ble_eq_true rfl⟩) hK hw h0 rfl rfl hl.1 rfl (Nat.le_of_ble_eq_true rfl) dX10_best_2 ⟨Nat.le_of_ble_eq_true rfl, (Nat.le_of_ble_eq_true rfl)⟩ ?_
  refine lv_astore_n (lv' := [(3, .ref (ad (30 + t))), (0, .ref (ad 0)), (1, .int (nI t)), (2, .int set)]) hx hb dX10_best_5 rfl hl (by decide) rfl (fun ls hl => ?_)
  refine lv_aload_n hx hb dX10_best_6 rfl (lv_at hl 0 rfl) ?_
  refine lv_ifnull hx hb dX10_best_7 ?_
  refine lv_aload_n hx hb dX10_best_10 rfl (lv_at hl 1 rfl) ?_
  refine kg_get (v := .ref (ad 1)) (C := RX10) (T := TX10) (N := 9) hx hb hts hinX10 hown hK hw h0 rfl 0 (by decide) (hts (.fieldLink RX10 12 "BetMaker" "maker" "LBetMaker$Maker;") (by decide +kernel)) (fun _ h9 => h9) rfl dX10_best_11 ?_
  refine lv_iload_n hx hb dX10_best_14 rfl (lv_at hl 3 rfl) ?_
  refine kc_v (As := [.int set]) (rest := []) S0 (c_X3_isSet l D tc s.heap.size ad ct (N := N) h1) (cwV 1 hts gX10_best_X3_isSet rfl rfl rfl (by decide +kernel) ⟨Nat.le_of_ble_eq_true rfl, Nat.le_of_ble_eq_true rfl⟩) hK hw h1 rfl rfl hl.1 rfl (Nat.le_of_ble_eq_true rfl) dX10_best_15 ⟨Nat.le_of_ble_eq_true rfl, (Nat.le_of_ble_eq_true rfl)⟩ ?_
  refine kb_ifeq (tgt := 31) hx hb dX10_best_18 (by decide) (fun c_1 => ?_) (fun c_1 => ?_)
  · exact absurd hs c_1
  · refine lv_aload_n hx hb dX10_best_21 rfl (lv_at hl 1 rfl) ?_
    refine kg_get (v := .ref (ad 1)) (C := RX10) (T := TX10) (N := 9) hx hb hts hinX10 hown hK hw h0 rfl 0 (by decide) (hts (.fieldLink RX10 12 "BetMaker" "maker" "LBetMaker$Maker;") (by decide +kernel)) (fun _ h9 => h9) rfl dX10_best_22 ?_
    refine kc_v (As := []) (rest := []) S0 (c_X3_hasCome l D tc s.heap.size ad ct (N := N) h1) (cwV 0 hts gX10_best_X3_hasCome rfl rfl rfl (by decide +kernel) ⟨Nat.le_of_ble_eq_true rfl, Nat.le_of_ble_eq_true rfl⟩) hK hw h1 rfl rfl hl.1 rfl (Nat.le_of_ble_eq_true rfl) dX10_best_25 ⟨Nat.le_of_ble_eq_true rfl, (Nat.le_of_ble_eq_true rfl)⟩ ?_
    refine kb_ifeq (tgt := 35) hx hb dX10_best_28 (by decide) (fun c_2 => ?_) (fun c_2 => ?_)
    · refine lv_iconst (v := 0) hx hb dX10_best_35 (by decide) ?_
      refine lv_istore (lv' := [(4, .int 0), (3, .ref (ad (30 + t))), (0, .ref (ad 0)), (1, .int (nI t)), (2, .int set)]) hx hb dX10_best_36 hl (by decide) rfl (fun ls hl => ?_)
      refine lv_lconst (v := 0) hx hb dX10_best_38 (by decide) ?_
      refine lv_lstore (lv' := [(5, .long 0), (4, .int 0), (3, .ref (ad (30 + t))), (0, .ref (ad 0)), (1, .int (nI t)), (2, .int set)]) hx hb dX10_best_39 hl (by decide) rfl (fun ls hl => ?_)
      refine lv_iconst (v := 2) hx hb dX10_best_41 (by decide) ?_
      refine lv_istore (lv' := [(7, .int 2), (5, .long 0), (4, .int 0), (3, .ref (ad (30 + t))), (0, .ref (ad 0)), (1, .int (nI t)), (2, .int set)]) hx hb dX10_best_42 hl (by decide) rfl (fun ls hl => ?_)
      suffices lp44 : ∀ (nfu : Nat) (k1 : Nat) (b1 : Int32) (m1 : Int64) (ls : Array Slot), 102 - k1 < nfu → 2 ≤ k1 → k1 ≤ 102 → b1 = (kBs (fun x => kWt b N f ss we set x) (fun x => decide (kWb b N f ss set x pu ho = 0)) (k1 - 2)).1 → m1 = (kBs (fun x => kWt b N f ss we set x) (fun x => decide (kWb b N f ss set x pu ho = 0)) (k1 - 2)).2 → lv_has ls 11 [(0, .ref (ad 0)), (1, .int (nI t)), (2, .int set), (3, .ref (ad (30 + t))), (4, .int b1), (5, .long m1), (7, .int (nI k1))] → W pg l en (headSpec wsX10_best ({ frames := 6, cells := 0, slots := 0, locals := 160 })).room s m (([.ref (ad 0), .int (nI t), .int set] : List Value).toArray) below meth cod s.heap [] 0 0 (MQ below (k2_QcV (.long ((kBs (fun x => kWt b N f ss we set x) (fun x => decide (kWb b N f ss set x pu ho = 0)) 100).1.toInt64))) (([.ref (ad 0), .int (nI t), .int set] : List Value).toArray) s 0 0 (fun _ => False)) (F0 m 44 ls []) by
        exact lp44 (102 - 2 + 1) 2 0 0 ls (by omega) (by omega) (by omega) (by rfl) (by rfl) (by have hl9 := lv_sub hl (l' := [(0, .ref (ad 0)), (1, .int (nI t)), (2, .int set), (3, .ref (ad (30 + t))), (4, .int 0), (5, .long 0), (7, .int 2)]) [4, 5, 6, 3, 2, 1, 0] rfl; exact hl9)
      intro n44
      induction n44 with
      | zero => intro k1 b1 m1 ls hfu; exact absurd hfu (Nat.not_lt_zero _)
      | succ n44 ih44 =>
        intro k1 b1 m1 ls hfu44 hk1 hk2 hb2 hm2 hl
        refine lv_iload hx hb dX10_best_44 (lv_at hl 6 rfl) ?_
        refine lv_bipush (v := 101) hx hb dX10_best_46 (by decide) ?_
        refine kn_gt k1 101 rfl rfl (by omega) (by omega) (tgt := 115) hx hb dX10_best_48 (by decide) (fun c_3 => ?_) (fun c_3 => ?_)
        · refine lv_iload hx hb dX10_best_115 (lv_at hl 4 rfl) ?_
          refine lv_i2l (v := b1.toInt64) hx hb dX10_best_117 rfl ?_
          refine W.eq (congrArg (fun z => F0 m 118 ls [.long z]) (show b1.toInt64 = ((kBs (fun x => kWt b N f ss we set x) (fun x => decide (kWb b N f ss set x pu ho = 0)) 100).1.toInt64) from by rw [hb2, show k1 - 2 = 100 by omega])) ?_
          exact W.lret hx hb hr (fun t ht _ => ⟨rfl, ht⟩) (fun _ h => absurd h List.not_mem_nil) dX10_best_118
        · refine lv_iload hx hb dX10_best_51 (lv_at hl 6 rfl) ?_
          refine lv_iconst (v := 2) hx hb dX10_best_53 (by decide) ?_
          refine lv_irem hx hb dX10_best_54 (by decide) ?_
          refine lv_if_ne (tgt := 65) hx hb dX10_best_55 (by decide) (fun c_4 => ?_) (fun c_4 => ?_)
          · refine lv_iload hx hb dX10_best_65 (lv_at hl 6 rfl) ?_
            refine lv_iconst (v := 2) hx hb dX10_best_67 (by decide) ?_
            refine lv_idiv hx hb dX10_best_68 (by decide) ?_
            refine lv_ineg hx hb dX10_best_69 ?_
            refine W.eq (congrArg (fun z => F0 m 70 ls (.int z :: [])) (show -((nI k1) / 2) = kBx (k1 - 2) from by exact kBy_1 hk1 (by omega) c_4)) ?_
            refine lv_istore (lv' := [(8, .int (kBx (k1 - 2))), (0, .ref (ad 0)), (1, .int (nI t)), (2, .int set), (3, .ref (ad (30 + t))), (4, .int b1), (5, .long m1), (7, .int (nI k1))]) hx hb dX10_best_70 hl (by decide) rfl (fun ls hl => ?_)
            refine lv_aload_n hx hb dX10_best_72 rfl (lv_at hl 1 rfl) ?_
            refine lv_aload_n hx hb dX10_best_73 rfl (lv_at hl 4 rfl) ?_
            refine lv_iload_n hx hb dX10_best_74 rfl (lv_at hl 3 rfl) ?_
            refine lv_iload hx hb dX10_best_75 (lv_at hl 0 rfl) ?_
            refine kc_v (As := [.ref (ad (30 + t)), .int set, .int (kBx (k1 - 2))]) (rest := []) S0 (c_X10_worthTo l D tc s.heap.size ad ct (t := t) (nt := nt) (N := N) h0 h1 h2 h30 h42 hci (by omega)) (cwV 3 hts gX10_best_X10_worthTo rfl rfl rfl (by decide +kernel) ⟨Nat.le_of_ble_eq_true rfl, Nat.le_of_ble_eq_true rfl⟩) hK hw h0 rfl rfl hl.1 rfl (Nat.le_of_ble_eq_true rfl) dX10_best_77 ⟨Nat.le_of_ble_eq_true rfl, (Nat.le_of_ble_eq_true rfl)⟩ ?_
            refine lv_lstore (lv' := [(9, .long (kWt b N f ss we set (kBx (k1 - 2)))), (8, .int (kBx (k1 - 2))), (0, .ref (ad 0)), (1, .int (nI t)), (2, .int set), (3, .ref (ad (30 + t))), (4, .int b1), (5, .long m1), (7, .int (nI k1))]) hx hb dX10_best_80 hl (by decide) rfl (fun ls hl => ?_)
            refine lv_lload hx hb dX10_best_82 (lv_at hl 0 rfl) ?_
            refine lv_lload hx hb dX10_best_84 (lv_at hl 7 rfl) ?_
            refine W.lcmp hx hb dX10_best_86 ?_
            refine kl_le (tgt := 109) hx hb dX10_best_87 (by decide) (fun c_5 => ?_) (fun c_5 => ?_)
            · refine lv_iinc (v := (nI (k1 + 1))) (lv' := [(7, .int (nI (k1 + 1))), (9, .long (kWt b N f ss we set (kBx (k1 - 2)))), (8, .int (kBx (k1 - 2))), (0, .ref (ad 0)), (1, .int (nI t)), (2, .int set), (3, .ref (ad (30 + t))), (4, .int b1), (5, .long m1)]) hx hb dX10_best_109 hl (k := 8) rfl (nI_1 k1) (by decide) rfl (fun ls hl => ?_)
              refine lv_goto (tgt := 44) hx hb dX10_best_112 (by decide) ?_
              exact ih44 (k1 + 1) b1 m1 ls (by omega) (by omega) (by omega) (by rw [show k1 + 1 - 2 = k1 - 2 + 1 by omega, kBs_f (v := (fun x => kWt b N f ss we set x)) (ok := (fun x => decide (kWb b N f ss set x pu ho = 0))) rfl (fun q => kr_4 c_5 (by rw [hm2]; exact q.1))]; exact hb2) (by rw [show k1 + 1 - 2 = k1 - 2 + 1 by omega, kBs_f (v := (fun x => kWt b N f ss we set x)) (ok := (fun x => decide (kWb b N f ss set x pu ho = 0))) rfl (fun q => kr_4 c_5 (by rw [hm2]; exact q.1))]; exact hm2) (lv_sub hl [3, 4, 5, 6, 7, 8, 0] rfl)
            · refine lv_aload_n hx hb dX10_best_90 rfl (lv_at hl 2 rfl) ?_
              refine lv_aload_n hx hb dX10_best_91 rfl (lv_at hl 5 rfl) ?_
              refine lv_iload_n hx hb dX10_best_92 rfl (lv_at hl 4 rfl) ?_
              refine lv_iload hx hb dX10_best_93 (lv_at hl 1 rfl) ?_
              refine kc_v (As := [.ref (ad (30 + t)), .int set, .int (kBx (k1 - 2))]) (rest := []) S0 (c_X10_whyBarred l D tc s.heap.size ad ct (t := t) (nt := nt) (N := N) h0 h1 h2 h30 h36 hci (by omega)) (cwV 3 hts gX10_best_X10_whyBarred rfl rfl rfl (by decide +kernel) ⟨Nat.le_of_ble_eq_true rfl, Nat.le_of_ble_eq_true rfl⟩) hK hw h0 rfl rfl hl.1 rfl (Nat.le_of_ble_eq_true rfl) dX10_best_95 ⟨Nat.le_of_ble_eq_true rfl, (Nat.le_of_ble_eq_true rfl)⟩ ?_
              refine lv_if_ne (tgt := 109) hx hb dX10_best_98 (by decide) (fun c_6 => ?_) (fun c_6 => ?_)
              · refine lv_iinc (v := (nI (k1 + 1))) (lv' := [(7, .int (nI (k1 + 1))), (9, .long (kWt b N f ss we set (kBx (k1 - 2)))), (8, .int (kBx (k1 - 2))), (0, .ref (ad 0)), (1, .int (nI t)), (2, .int set), (3, .ref (ad (30 + t))), (4, .int b1), (5, .long m1)]) hx hb dX10_best_109 hl (k := 8) rfl (nI_1 k1) (by decide) rfl (fun ls hl => ?_)
                refine lv_goto (tgt := 44) hx hb dX10_best_112 (by decide) ?_
                exact ih44 (k1 + 1) b1 m1 ls (by omega) (by omega) (by omega) (by rw [show k1 + 1 - 2 = k1 - 2 + 1 by omega, kBs_f (v := (fun x => kWt b N f ss we set x)) (ok := (fun x => decide (kWb b N f ss set x pu ho = 0))) rfl (fun q => c_6 (of_decide_eq_true q.2))]; exact hb2) (by rw [show k1 + 1 - 2 = k1 - 2 + 1 by omega, kBs_f (v := (fun x => kWt b N f ss we set x)) (ok := (fun x => decide (kWb b N f ss set x pu ho = 0))) rfl (fun q => c_6 (of_decide_eq_true q.2))]; exact hm2) (lv_sub hl [3, 4, 5, 6, 7, 8, 0] rfl)
              · refine lv_lload hx hb dX10_best_101 (lv_at hl 0 rfl) ?_
                refine lv_lstore (lv' := [(5, .long (kWt b N f ss we set (kBx (k1 - 2)))), (9, .long (kWt b N f ss we set (kBx (k1 - 2)))), (8, .int (kBx (k1 - 2))), (0, .ref (ad 0)), (1, .int (nI t)), (2, .int set), (3, .ref (ad (30 + t))), (4, .int b1), (7, .int (nI k1))]) hx hb dX10_best_103 hl (by decide) rfl (fun ls hl => ?_)
                refine lv_iload hx hb dX10_best_105 (lv_at hl 2 rfl) ?_
                refine lv_istore (lv' := [(4, .int (kBx (k1 - 2))), (5, .long (kWt b N f ss we set (kBx (k1 - 2)))), (9, .long (kWt b N f ss we set (kBx (k1 - 2)))), (8, .int (kBx (k1 - 2))), (0, .ref (ad 0)), (1, .int (nI t)), (2, .int set), (3, .ref (ad (30 + t))), (7, .int (nI k1))]) hx hb dX10_best_107 hl (by decide) rfl (fun ls hl => ?_)
                refine lv_iinc (v := (nI (k1 + 1))) (lv' := [(7, .int (nI (k1 + 1))), (4, .int (kBx (k1 - 2))), (5, .long (kWt b N f ss we set (kBx (k1 - 2)))), (9, .long (kWt b N f ss we set (kBx (k1 - 2)))), (8, .int (kBx (k1 - 2))), (0, .ref (ad 0)), (1, .int (nI t)), (2, .int set), (3, .ref (ad (30 + t)))]) hx hb dX10_best_109 hl (k := 8) rfl (nI_1 k1) (by decide) rfl (fun ls hl => ?_)
                refine lv_goto (tgt := 44) hx hb dX10_best_112 (by decide) ?_
                exact ih44 (k1 + 1) (kBx (k1 - 2)) (kWt b N f ss we set (kBx (k1 - 2))) ls (by omega) (by omega) (by omega) (by rw [show k1 + 1 - 2 = k1 - 2 + 1 by omega, kBs_t (v := (fun x => kWt b N f ss we set x)) (ok := (fun x => decide (kWb b N f ss set x pu ho = 0))) rfl (by rw [← hm2]; exact kr_2 c_5) (decide_eq_true c_6)]) (by rw [show k1 + 1 - 2 = k1 - 2 + 1 by omega, kBs_t (v := (fun x => kWt b N f ss we set x)) (ok := (fun x => decide (kWb b N f ss set x pu ho = 0))) rfl (by rw [← hm2]; exact kr_2 c_5) (decide_eq_true c_6)]) (lv_sub hl [5, 6, 7, 8, 1, 2, 0] rfl)
          · refine lv_iload hx hb dX10_best_58 (lv_at hl 6 rfl) ?_
            refine lv_iconst (v := 2) hx hb dX10_best_60 (by decide) ?_
            refine lv_idiv hx hb dX10_best_61 (by decide) ?_
            refine lv_goto (tgt := 70) hx hb dX10_best_62 (by decide) ?_
            refine W.eq (congrArg (fun z => F0 m 70 ls (.int z :: [])) (show (nI k1) / 2 = kBx (k1 - 2) from by exact kBy_0 hk1 (by omega) c_4)) ?_
            refine lv_istore (lv' := [(8, .int (kBx (k1 - 2))), (0, .ref (ad 0)), (1, .int (nI t)), (2, .int set), (3, .ref (ad (30 + t))), (4, .int b1), (5, .long m1), (7, .int (nI k1))]) hx hb dX10_best_70 hl (by decide) rfl (fun ls hl => ?_)
            refine lv_aload_n hx hb dX10_best_72 rfl (lv_at hl 1 rfl) ?_
            refine lv_aload_n hx hb dX10_best_73 rfl (lv_at hl 4 rfl) ?_
            refine lv_iload_n hx hb dX10_best_74 rfl (lv_at hl 3 rfl) ?_
            refine lv_iload hx hb dX10_best_75 (lv_at hl 0 rfl) ?_
            refine kc_v (As := [.ref (ad (30 + t)), .int set, .int (kBx (k1 - 2))]) (rest := []) S0 (c_X10_worthTo l D tc s.heap.size ad ct (t := t) (nt := nt) (N := N) h0 h1 h2 h30 h42 hci (by omega)) (cwV 3 hts gX10_best_X10_worthTo rfl rfl rfl (by decide +kernel) ⟨Nat.le_of_ble_eq_true rfl, Nat.le_of_ble_eq_true rfl⟩) hK hw h0 rfl rfl hl.1 rfl (Nat.le_of_ble_eq_true rfl) dX10_best_77 ⟨Nat.le_of_ble_eq_true rfl, (Nat.le_of_ble_eq_true rfl)⟩ ?_
            refine lv_lstore (lv' := [(9, .long (kWt b N f ss we set (kBx (k1 - 2)))), (8, .int (kBx (k1 - 2))), (0, .ref (ad 0)), (1, .int (nI t)), (2, .int set), (3, .ref (ad (30 + t))), (4, .int b1), (5, .long m1), (7, .int (nI k1))]) hx hb dX10_best_80 hl (by decide) rfl (fun ls hl => ?_)
            refine lv_lload hx hb dX10_best_82 (lv_at hl 0 rfl) ?_
            refine lv_lload hx hb dX10_best_84 (lv_at hl 7 rfl) ?_
            refine W.lcmp hx hb dX10_best_86 ?_
            refine kl_le (tgt := 109) hx hb dX10_best_87 (by decide) (fun c_7 => ?_) (fun c_7 => ?_)
            · refine lv_iinc (v := (nI (k1 + 1))) (lv' := [(7, .int (nI (k1 + 1))), (9, .long (kWt b N f ss we set (kBx (k1 - 2)))), (8, .int (kBx (k1 - 2))), (0, .ref (ad 0)), (1, .int (nI t)), (2, .int set), (3, .ref (ad (30 + t))), (4, .int b1), (5, .long m1)]) hx hb dX10_best_109 hl (k := 8) rfl (nI_1 k1) (by decide) rfl (fun ls hl => ?_)
              refine lv_goto (tgt := 44) hx hb dX10_best_112 (by decide) ?_
              exact ih44 (k1 + 1) b1 m1 ls (by omega) (by omega) (by omega) (by rw [show k1 + 1 - 2 = k1 - 2 + 1 by omega, kBs_f (v := (fun x => kWt b N f ss we set x)) (ok := (fun x => decide (kWb b N f ss set x pu ho = 0))) rfl (fun q => kr_4 c_7 (by rw [hm2]; exact q.1))]; exact hb2) (by rw [show k1 + 1 - 2 = k1 - 2 + 1 by omega, kBs_f (v := (fun x => kWt b N f ss we set x)) (ok := (fun x => decide (kWb b N f ss set x pu ho = 0))) rfl (fun q => kr_4 c_7 (by rw [hm2]; exact q.1))]; exact hm2) (lv_sub hl [3, 4, 5, 6, 7, 8, 0] rfl)
            · refine lv_aload_n hx hb dX10_best_90 rfl (lv_at hl 2 rfl) ?_
              refine lv_aload_n hx hb dX10_best_91 rfl (lv_at hl 5 rfl) ?_
              refine lv_iload_n hx hb dX10_best_92 rfl (lv_at hl 4 rfl) ?_
              refine lv_iload hx hb dX10_best_93 (lv_at hl 1 rfl) ?_
              refine kc_v (As := [.ref (ad (30 + t)), .int set, .int (kBx (k1 - 2))]) (rest := []) S0 (c_X10_whyBarred l D tc s.heap.size ad ct (t := t) (nt := nt) (N := N) h0 h1 h2 h30 h36 hci (by omega)) (cwV 3 hts gX10_best_X10_whyBarred rfl rfl rfl (by decide +kernel) ⟨Nat.le_of_ble_eq_true rfl, Nat.le_of_ble_eq_true rfl⟩) hK hw h0 rfl rfl hl.1 rfl (Nat.le_of_ble_eq_true rfl) dX10_best_95 ⟨Nat.le_of_ble_eq_true rfl, (Nat.le_of_ble_eq_true rfl)⟩ ?_
              refine lv_if_ne (tgt := 109) hx hb dX10_best_98 (by decide) (fun c_8 => ?_) (fun c_8 => ?_)
              · refine lv_iinc (v := (nI (k1 + 1))) (lv' := [(7, .int (nI (k1 + 1))), (9, .long (kWt b N f ss we set (kBx (k1 - 2)))), (8, .int (kBx (k1 - 2))), (0, .ref (ad 0)), (1, .int (nI t)), (2, .int set), (3, .ref (ad (30 + t))), (4, .int b1), (5, .long m1)]) hx hb dX10_best_109 hl (k := 8) rfl (nI_1 k1) (by decide) rfl (fun ls hl => ?_)
                refine lv_goto (tgt := 44) hx hb dX10_best_112 (by decide) ?_
                exact ih44 (k1 + 1) b1 m1 ls (by omega) (by omega) (by omega) (by rw [show k1 + 1 - 2 = k1 - 2 + 1 by omega, kBs_f (v := (fun x => kWt b N f ss we set x)) (ok := (fun x => decide (kWb b N f ss set x pu ho = 0))) rfl (fun q => c_8 (of_decide_eq_true q.2))]; exact hb2) (by rw [show k1 + 1 - 2 = k1 - 2 + 1 by omega, kBs_f (v := (fun x => kWt b N f ss we set x)) (ok := (fun x => decide (kWb b N f ss set x pu ho = 0))) rfl (fun q => c_8 (of_decide_eq_true q.2))]; exact hm2) (lv_sub hl [3, 4, 5, 6, 7, 8, 0] rfl)
              · refine lv_lload hx hb dX10_best_101 (lv_at hl 0 rfl) ?_
                refine lv_lstore (lv' := [(5, .long (kWt b N f ss we set (kBx (k1 - 2)))), (9, .long (kWt b N f ss we set (kBx (k1 - 2)))), (8, .int (kBx (k1 - 2))), (0, .ref (ad 0)), (1, .int (nI t)), (2, .int set), (3, .ref (ad (30 + t))), (4, .int b1), (7, .int (nI k1))]) hx hb dX10_best_103 hl (by decide) rfl (fun ls hl => ?_)
                refine lv_iload hx hb dX10_best_105 (lv_at hl 2 rfl) ?_
                refine lv_istore (lv' := [(4, .int (kBx (k1 - 2))), (5, .long (kWt b N f ss we set (kBx (k1 - 2)))), (9, .long (kWt b N f ss we set (kBx (k1 - 2)))), (8, .int (kBx (k1 - 2))), (0, .ref (ad 0)), (1, .int (nI t)), (2, .int set), (3, .ref (ad (30 + t))), (7, .int (nI k1))]) hx hb dX10_best_107 hl (by decide) rfl (fun ls hl => ?_)
                refine lv_iinc (v := (nI (k1 + 1))) (lv' := [(7, .int (nI (k1 + 1))), (4, .int (kBx (k1 - 2))), (5, .long (kWt b N f ss we set (kBx (k1 - 2)))), (9, .long (kWt b N f ss we set (kBx (k1 - 2)))), (8, .int (kBx (k1 - 2))), (0, .ref (ad 0)), (1, .int (nI t)), (2, .int set), (3, .ref (ad (30 + t)))]) hx hb dX10_best_109 hl (k := 8) rfl (nI_1 k1) (by decide) rfl (fun ls hl => ?_)
                refine lv_goto (tgt := 44) hx hb dX10_best_112 (by decide) ?_
                exact ih44 (k1 + 1) (kBx (k1 - 2)) (kWt b N f ss we set (kBx (k1 - 2))) ls (by omega) (by omega) (by omega) (by rw [show k1 + 1 - 2 = k1 - 2 + 1 by omega, kBs_t (v := (fun x => kWt b N f ss we set x)) (ok := (fun x => decide (kWb b N f ss set x pu ho = 0))) rfl (by rw [← hm2]; exact kr_2 c_7) (decide_eq_true c_8)]) (by rw [show k1 + 1 - 2 = k1 - 2 + 1 by omega, kBs_t (v := (fun x => kWt b N f ss we set x)) (ok := (fun x => decide (kWb b N f ss set x pu ho = 0))) rfl (by rw [← hm2]; exact kr_2 c_7) (decide_eq_true c_8)]) (lv_sub hl [5, 6, 7, 8, 1, 2, 0] rfl)
    · exact absurd hm c_2
