section KCP
variable {p : Program} {l : Launch} {e : Env} {R : Room} {s : State} {m : MethodId} {args : Array Value} {below : List Frame} {meth : Method} {c : Code} {H : Heap} {locs : List Loc} {cells slots : Nat} {Q : State → Prop}
variable {cc : ByteArray} {pc : Nat} {ls : Array Slot} {rest : List Value} {D : va_G} {tc : Nat → ClassId} {ad : Nat → Nat} {A : Nat → Prop} {H0 : Heap} {ct : Nat → Option va_E} {z : Nat} {own : String} {index : Nat}
theorem kg_copyi (hexec : p.tables.exec = Jvm.exec) (hb : c.code = cc) (hml : c.maxLocals = ls.size) (hown : s.vm.findClass own = some m.cls) (hlink : (Cond.methodLink own index arraycopyName).before args s = true) (hnat : (Cond.native arraycopyName).before args s = true) (hstat : (Cond.static arraycopyName).before args s = true) (hini : (Cond.initialized "java/lang/System").before args s = true)
    (hK : kw_K D tc s) (hw : kw_H D ad A H0 ct H locs z) {q0 q1 n0 n1 : Nat} {f g : Nat → Int32} (ha0 : ct q0 = some (eI tc n0 f)) (ha1 : ct q1 = some (eI tc n1 g)) {n : Int32} (k : Nat) (hn : n = nI k) (h4 : k ≤ n0) (h5 : k ≤ n1) (hk : k < 2 ^ 31)
    (hframes : 1 ≤ R.frames) (hlocals : (rest.map fun v => v.category).sum + (nativeFrameWords "java/lang/System" "arraycopy" 5 + 11) ≤ R.locals) (hdg : decode cc pc = .ok (.invokestatic index, 3))
    (kk : ∀ (H1 : Heap) (locs1 : List Loc), kw_H D ad A H0 (kw_up ct q1 (eI tc n1 (kCp g f k))) H1 locs1 z → W p l e R s m args below meth c H1 locs1 cells slots Q (F0 m (pc + 3) ls rest)) : W p l e R s m args below meth c H locs cells slots Q (F0 m pc ls (.int n :: .int 0 :: .ref (ad q1) :: .int 0 :: .ref (ad q0) :: rest)) := by
  subst hn
  have hcl := nI_clamp (n := k) (by omega)
  have hz0 : (0 : Int32).toNatClampNeg = 0 := by decide
  have nn : ∀ z : Int32, ¬ z < 0 → z.toInt = (z.toNatClampNeg : Int) := by
    intro z hz
    have hz0 : (0 : Int) ≤ z.toInt := by
      have := Int32.not_lt.mp hz
      simpa using Int32.le_iff_toInt_le.mp this
    show z.toInt = ((z.toInt.toNat : Nat) : Int)
    omega
  have h0 : ¬ (0 : Int32) < 0 := by decide
  have hkp : ¬ nI k < 0 := nI_pos hk
  intro T hT X
  have hc0 : H[ad q0]? = some (vp_cell (tc 0) (n0, .inl f)) := hw.1.1 q0 _ ha0
  have hc1 : H[ad q1]? = some (vp_cell (tc 0) (n1, .inl g)) := hw.1.1 q1 _ ha1
  obtain ⟨-, k0, hk0, cm0, hkk0⟩ := (hK.1.2 0 _ rfl).1 n0 (fun j => .int (f j))
  obtain ⟨-, k1, hk1, cm1, hkk1⟩ := (hK.1.2 0 _ rfl).1 n1 (fun j => .int (g j))
  obtain ⟨vm', X', step⟩ := X.arraycopy hexec hown hlink hnat hstat hini (src := ad q0) (dst := ad q1) (cs := vp_cell (tc 0) (n0, .inl f)) (cd := vp_cell (tc 0) (n1, .inl g)) (srcPos := 0) (destPos := 0) (n := nI k) (by rw [hT]; exact hc0) (by rw [hT]; exact hc1)
    (fun _ h => by cases h) (fun _ h => by cases h) (fun h => by cases h) (fun h => by cases h) hk0 hk1 hkk0 hkk1 rfl h0 h0 hkp
    (by rw [nn _ hkp, hcl]; show ¬ (0 : Int32).toInt + _ > ((arrV (tc 0) n0 (fun j => .int (f j))).slots.size : Int); rw [arrV_size, show (0 : Int32).toInt = 0 from by decide]; omega)
    (by rw [nn _ hkp, hcl]; show ¬ (0 : Int32).toInt + _ > ((arrV (tc 0) n1 (fun j => .int (g j))).slots.size : Int); rw [arrV_size, show (0 : Int32).toInt = 0 from by decide]; omega)
    (fun vm₁ _ i hi => by
      rw [hcl] at hi
      have e : (vp_cell (tc 0) (n0, .inl f)).slots.getD ((0 : Int32).toNatClampNeg + i) .null = .int (f ((0 : Int32).toNatClampNeg + i)) := by
        show (arrV (tc 0) n0 (fun j => .int (f j))).slots.getD _ _ = _
        rw [Array.getD_eq_getD_getElem?, arrV_read _ _ (by rw [hz0]; omega)]
        rfl
      refine ⟨?_, ?_⟩
      · rw [e]
        rfl
      · rw [e]
        exact trivial)
    (g := F0 m pc ls (.int (nI k) :: .int 0 :: .ref (ad q1) :: .int 0 :: .ref (ad q0) :: rest)) rfl (by rw [hml]) (rest := rest) rfl (by rw [hb]; exact hdg) hframes (by show 2 * 0 + _ + _ ≤ _; omega)
  have e1 : copied (vp_cell (tc 0) (n0, .inl f)) (vp_cell (tc 0) (n1, .inl g)) 0 0 (nI k) = vp_cell (tc 0) (n1, .inl (kCp g f k)) := by
    have e2 : copied (vp_cell (tc 0) (n0, .inl f)) (vp_cell (tc 0) (n1, .inl g)) 0 0 (nI k) = vp_cell (tc 0) (n1, .inl (va_cpy f g (0 : Int32).toNatClampNeg (0 : Int32).toNatClampNeg (nI k).toNatClampNeg)) := va_copied (fun z => .int z) (tc 0) (tc 0) f g (by rw [hcl, hz0]; omega)
    rw [e2, hcl, hz0]
    congr 3
    funext i
    simp [va_cpy, kCp]
  rw [e1] at X' step
  have hl : ad q1 < H.size := (Array.getElem?_eq_some_iff.mp hc1).1
  have hheap : ((T.setVm vm').setCell (ad q1) (vp_cell (tc 0) (n1, .inl (kCp g f k)))).heap = H.setIfInBounds (ad q1) (vp_cell (tc 0) (n1, .inl (kCp g f k))) := by rw [← hT]; rfl
  have oq : ∀ q : Nat, q ≠ ad q1 → (H.setIfInBounds (ad q1) (vp_cell (tc 0) (n1, .inl (kCp g f k))))[q]? = H[q]? := fun q hq => by simp [Array.getElem?_setIfInBounds, Ne.symm hq]
  have hset := hw.set (j := 0) (H1 := H.setIfInBounds (ad q1) (vp_cell (tc 0) (n1, .inl (kCp g f k)))) (e := eI tc n1 (kCp g f k)) ha1 (show (H.setIfInBounds (ad q1) _)[ad q1]? = some _ by simp [Array.getElem?_setIfInBounds, hl]) (by simp) oq
  obtain ⟨t, a1, b1⟩ := kk _ _ ⟨hset.1, ⟨hset.2.1.1, hset.2.1.2.1, fun q hq => by
      rcases List.mem_append.mp hq with h | h
      · exact hw.2.1.2.2 q h
      · obtain ⟨z, -, hz⟩ := List.mem_map.mp h
        rw [← hz]
        exact hw.2.2.1 q1 (kw_some ha1)⟩, hset.2.2⟩ _ hheap X'
  exact ⟨t, step t a1, b1⟩
theorem kg_clone (hexec : p.tables.exec = Jvm.exec) (hb : c.code = cc) (hml : c.maxLocals = ls.size) (hown : s.vm.findClass own = some m.cls)
    (hlink : (Cond.methodLink own index ⟨"[I", "clone", "()Ljava/lang/Object;"⟩).before args s = true) (hsame : (Cond.sameMethod "[I" "java/lang/Object" "clone" "()Ljava/lang/Object;").before args s = true)
    (hnat : (Cond.native ⟨"java/lang/Object", "clone", "()Ljava/lang/Object;"⟩).before args s = true) (hinst : (Cond.instanceMethod ⟨"java/lang/Object", "clone", "()Ljava/lang/Object;"⟩).before args s = true)
    (hsel : (Cond.selects "[I" ⟨"[I", "clone", "()Ljava/lang/Object;"⟩ ⟨"java/lang/Object", "clone", "()Ljava/lang/Object;"⟩).before args s = true)
    (hK : kw_K D tc s) (hw : kw_H D ad A H0 ct H locs z) (hA : ∀ q, H0.size ≤ q → A q) {q0 n0 : Nat} {f : Nat → Int32} (ha : ct q0 = some (eI tc n0 f)) (q1 : Nat) (hq : ct q1 = none) (hz : ad q1 = z)
    (hframes : 1 ≤ R.frames) (hlocals : (rest.map fun v => v.category).sum + 14 ≤ R.locals) (hcells : cells + 1 ≤ R.cells) (hslots : slots + n0 ≤ R.slots) (hdg : decode cc pc = .ok (.invokevirtual index, 3))
    (kk : ∀ (H1 : Heap), kw_H D ad A H0 (kw_up ct q1 (eI tc n0 f)) H1 locs (z + 1) → W p l e R s m args below meth c H1 locs (cells + 1) (slots + n0) Q (F0 m (pc + 3) ls (.ref (ad q1) :: rest))) : W p l e R s m args below meth c H locs cells slots Q (F0 m pc ls (.ref (ad q0) :: rest)) := by
  have hnm : s.vm.findClass "[I" = some (tc 0) := va_nm_int (hK.1.2 0 _ rfl).2
  have hsz : (vp_cell (tc 0) (n0, .inl f)).slots.size = n0 := arrV_size _ _ _
  have hcellE : ({ cls := (vp_cell (tc 0) (n0, .inl f)).cls, slots := (vp_cell (tc 0) (n0, .inl f)).slots } : Cell) = vp_cell (tc 0) (n0, .inl f) := rfl
  obtain ⟨c0, t0', f1, f2, f3⟩ := Cond.castable_spec (va_Nw.use (A := args) rfl hK.2.2.2.2.2.2.2)
  cases hnm.symm.trans f1
  intro T hT X
  have hcellT : T.heap[ad q0]? = some (vp_cell (tc 0) (n0, .inl f)) := by rw [hT]; exact hw.1.1 q0 _ ha
  obtain ⟨-, kA, hkA, comp, hkind⟩ := State.isArrayOf_alike X.warmed.alike ((hK.1.2 0 _ rfl).1 0 (fun _ => .null))
  obtain ⟨-, kS, hkS, compS, hkindS⟩ := (hK.1.2 0 _ rfl).1 0 (fun _ => .null)
  obtain ⟨vm', X', st⟩ := X.cloneArray hexec hown hlink hsame hnat hinst hsel (a := ad q0) (cell := vp_cell (tc 0) (n0, .inl f)) hcellT (fun k h => by cases h) (fun h => by cases h) hnm f2 f3
    (fun i v hv => by
      have hk' : T.vm.classes[tc 0]? = some kA := hkA
      have hfit : fits .int v = true := va_fit (F := fun j => .int (f j)) (ty := .int) (fun i hi => rfl) i v hv
      rw [show (vp_cell (tc 0) (n0, .inl f)).cls = tc 0 from rfl]
      simpa [State.fitsSlot, State.slotType?, hk', hkind] using hfit)
    (g := F0 m pc ls (.ref (ad q0) :: rest)) rfl (by rw [hml]) rfl (by rw [hb]; exact hdg) hframes (by show 2 * 0 + _ + 14 ≤ _; omega) hcells (by rw [hsz]; exact hslots) (hloader := Vm.clonesLoader_of_array hkS hkindS)
  rw [hcellE, hsz] at X'
  generalize hH1 : H.push (vp_cell (tc 0) (n0, .inl f)) = H1
  have z1 : H1.size = H.size + 1 := by rw [← hH1, Array.size_push]
  have e1 : H1[H.size]? = some (vp_cell (tc 0) (n0, .inl f)) := by rw [← hH1, Array.getElem?_push_size]
  have o1 : ∀ q : Nat, q < H.size → H1[q]? = H[q]? := fun q hq => by rw [← hH1, Array.getElem?_push, if_neg (Nat.ne_of_lt hq)]
  have h := kk H1 (hw.new hA hq hz (e := eI tc n0 f) e1 z1 o1)
  obtain ⟨t, b1, b2⟩ := h ((T.setVm vm').pushCell (vp_cell (tc 0) (n0, .inl f))) (by rw [← hH1, ← hT]; rfl) X'
  refine ⟨t, st t ?_, b2⟩
  rw [hcellE, hT]
  rw [hz, ← hw.2.2.2] at b1
  exact b1
end KCP
theorem kw_eq9 {ct ct' : Nat → Option va_E} {k0 k1 k2 k3 k4 k5 k6 k7 k8 : Nat} {e0 e1 e2 e3 e4 e5 e6 e7 e8 : va_E} (h0 : ct' k0 = some e0) (h1 : ct' k1 = some e1) (h2 : ct' k2 = some e2) (h3 : ct' k3 = some e3) (h4 : ct' k4 = some e4) (h5 : ct' k5 = some e5) (h6 : ct' k6 = some e6) (h7 : ct' k7 = some e7) (h8 : ct' k8 = some e8) (hf : ∀ j, j ≠ k0 → j ≠ k1 → j ≠ k2 → j ≠ k3 → j ≠ k4 → j ≠ k5 → j ≠ k6 → j ≠ k7 → j ≠ k8 → ct' j = ct j) : ct' = kw_up (kw_up (kw_up (kw_up (kw_up (kw_up (kw_up (kw_up (kw_up ct k0 e0) k1 e1) k2 e2) k3 e3) k4 e4) k5 e5) k6 e6) k7 e7) k8 e8 := by
  funext j
  by_cases q8 : j = k8
  · subst q8; rw [kw_up_s, h8]
  rw [kw_up_n q8]
  by_cases q7 : j = k7
  · subst q7; rw [kw_up_s, h7]
  rw [kw_up_n q7]
  by_cases q6 : j = k6
  · subst q6; rw [kw_up_s, h6]
  rw [kw_up_n q6]
  by_cases q5 : j = k5
  · subst q5; rw [kw_up_s, h5]
  rw [kw_up_n q5]
  by_cases q4 : j = k4
  · subst q4; rw [kw_up_s, h4]
  rw [kw_up_n q4]
  by_cases q3 : j = k3
  · subst q3; rw [kw_up_s, h3]
  rw [kw_up_n q3]
  by_cases q2 : j = k2
  · subst q2; rw [kw_up_s, h2]
  rw [kw_up_n q2]
  by_cases q1 : j = k1
  · subst q1; rw [kw_up_s, h1]
  rw [kw_up_n q1]
  by_cases q0 : j = k0
  · subst q0; rw [kw_up_s, h0]
  rw [kw_up_n q0]
  exact hf j q0 q1 q2 q3 q4 q5 q6 q7 q8
theorem kw_eq11 {ct ct' : Nat → Option va_E} {k0 k1 k2 k3 k4 k5 k6 k7 k8 k9 k10 : Nat} {e0 e1 e2 e3 e4 e5 e6 e7 e8 e9 e10 : va_E} (h0 : ct' k0 = some e0) (h1 : ct' k1 = some e1) (h2 : ct' k2 = some e2) (h3 : ct' k3 = some e3) (h4 : ct' k4 = some e4) (h5 : ct' k5 = some e5) (h6 : ct' k6 = some e6) (h7 : ct' k7 = some e7) (h8 : ct' k8 = some e8) (h9 : ct' k9 = some e9) (h10 : ct' k10 = some e10) (hf : ∀ j, j ≠ k0 → j ≠ k1 → j ≠ k2 → j ≠ k3 → j ≠ k4 → j ≠ k5 → j ≠ k6 → j ≠ k7 → j ≠ k8 → j ≠ k9 → j ≠ k10 → ct' j = ct j) : ct' = kw_up (kw_up (kw_up (kw_up (kw_up (kw_up (kw_up (kw_up (kw_up (kw_up (kw_up ct k0 e0) k1 e1) k2 e2) k3 e3) k4 e4) k5 e5) k6 e6) k7 e7) k8 e8) k9 e9) k10 e10 := by
  funext j
  by_cases q10 : j = k10
  · subst q10; rw [kw_up_s, h10]
  rw [kw_up_n q10]
  by_cases q9 : j = k9
  · subst q9; rw [kw_up_s, h9]
  rw [kw_up_n q9]
  by_cases q8 : j = k8
  · subst q8; rw [kw_up_s, h8]
  rw [kw_up_n q8]
  by_cases q7 : j = k7
  · subst q7; rw [kw_up_s, h7]
  rw [kw_up_n q7]
  by_cases q6 : j = k6
  · subst q6; rw [kw_up_s, h6]
  rw [kw_up_n q6]
  by_cases q5 : j = k5
  · subst q5; rw [kw_up_s, h5]
  rw [kw_up_n q5]
  by_cases q4 : j = k4
  · subst q4; rw [kw_up_s, h4]
  rw [kw_up_n q4]
  by_cases q3 : j = k3
  · subst q3; rw [kw_up_s, h3]
  rw [kw_up_n q3]
  by_cases q2 : j = k2
  · subst q2; rw [kw_up_s, h2]
  rw [kw_up_n q2]
  by_cases q1 : j = k1
  · subst q1; rw [kw_up_s, h1]
  rw [kw_up_n q1]
  by_cases q0 : j = k0
  · subst q0; rw [kw_up_s, h0]
  rw [kw_up_n q0]
  exact hf j q0 q1 q2 q3 q4 q5 q6 q7 q8 q9 q10
theorem kw_eq13 {ct ct' : Nat → Option va_E} {k0 k1 k2 k3 k4 k5 k6 k7 k8 k9 k10 k11 k12 : Nat} {e0 e1 e2 e3 e4 e5 e6 e7 e8 e9 e10 e11 e12 : va_E} (h0 : ct' k0 = some e0) (h1 : ct' k1 = some e1) (h2 : ct' k2 = some e2) (h3 : ct' k3 = some e3) (h4 : ct' k4 = some e4) (h5 : ct' k5 = some e5) (h6 : ct' k6 = some e6) (h7 : ct' k7 = some e7) (h8 : ct' k8 = some e8) (h9 : ct' k9 = some e9) (h10 : ct' k10 = some e10) (h11 : ct' k11 = some e11) (h12 : ct' k12 = some e12) (hf : ∀ j, j ≠ k0 → j ≠ k1 → j ≠ k2 → j ≠ k3 → j ≠ k4 → j ≠ k5 → j ≠ k6 → j ≠ k7 → j ≠ k8 → j ≠ k9 → j ≠ k10 → j ≠ k11 → j ≠ k12 → ct' j = ct j) : ct' = kw_up (kw_up (kw_up (kw_up (kw_up (kw_up (kw_up (kw_up (kw_up (kw_up (kw_up (kw_up (kw_up ct k0 e0) k1 e1) k2 e2) k3 e3) k4 e4) k5 e5) k6 e6) k7 e7) k8 e8) k9 e9) k10 e10) k11 e11) k12 e12 := by
  funext j
  by_cases q12 : j = k12
  · subst q12; rw [kw_up_s, h12]
  rw [kw_up_n q12]
  by_cases q11 : j = k11
  · subst q11; rw [kw_up_s, h11]
  rw [kw_up_n q11]
  by_cases q10 : j = k10
  · subst q10; rw [kw_up_s, h10]
  rw [kw_up_n q10]
  by_cases q9 : j = k9
  · subst q9; rw [kw_up_s, h9]
  rw [kw_up_n q9]
  by_cases q8 : j = k8
  · subst q8; rw [kw_up_s, h8]
  rw [kw_up_n q8]
  by_cases q7 : j = k7
  · subst q7; rw [kw_up_s, h7]
  rw [kw_up_n q7]
  by_cases q6 : j = k6
  · subst q6; rw [kw_up_s, h6]
  rw [kw_up_n q6]
  by_cases q5 : j = k5
  · subst q5; rw [kw_up_s, h5]
  rw [kw_up_n q5]
  by_cases q4 : j = k4
  · subst q4; rw [kw_up_s, h4]
  rw [kw_up_n q4]
  by_cases q3 : j = k3
  · subst q3; rw [kw_up_s, h3]
  rw [kw_up_n q3]
  by_cases q2 : j = k2
  · subst q2; rw [kw_up_s, h2]
  rw [kw_up_n q2]
  by_cases q1 : j = k1
  · subst q1; rw [kw_up_s, h1]
  rw [kw_up_n q1]
  by_cases q0 : j = k0
  · subst q0; rw [kw_up_s, h0]
  rw [kw_up_n q0]
  exact hf j q0 q1 q2 q3 q4 q5 q6 q7 q8 q9 q10 q11 q12
theorem kw_eq22 {ct ct' : Nat → Option va_E} {k0 k1 k2 k3 k4 k5 k6 k7 k8 k9 k10 k11 k12 k13 k14 k15 k16 k17 k18 k19 k20 k21 : Nat} {e0 e1 e2 e3 e4 e5 e6 e7 e8 e9 e10 e11 e12 e13 e14 e15 e16 e17 e18 e19 e20 e21 : va_E} (h0 : ct' k0 = some e0) (h1 : ct' k1 = some e1) (h2 : ct' k2 = some e2) (h3 : ct' k3 = some e3) (h4 : ct' k4 = some e4) (h5 : ct' k5 = some e5) (h6 : ct' k6 = some e6) (h7 : ct' k7 = some e7) (h8 : ct' k8 = some e8) (h9 : ct' k9 = some e9) (h10 : ct' k10 = some e10) (h11 : ct' k11 = some e11) (h12 : ct' k12 = some e12) (h13 : ct' k13 = some e13) (h14 : ct' k14 = some e14) (h15 : ct' k15 = some e15) (h16 : ct' k16 = some e16) (h17 : ct' k17 = some e17) (h18 : ct' k18 = some e18) (h19 : ct' k19 = some e19) (h20 : ct' k20 = some e20) (h21 : ct' k21 = some e21) (hf : ∀ j, j ≠ k0 → j ≠ k1 → j ≠ k2 → j ≠ k3 → j ≠ k4 → j ≠ k5 → j ≠ k6 → j ≠ k7 → j ≠ k8 → j ≠ k9 → j ≠ k10 → j ≠ k11 → j ≠ k12 → j ≠ k13 → j ≠ k14 → j ≠ k15 → j ≠ k16 → j ≠ k17 → j ≠ k18 → j ≠ k19 → j ≠ k20 → j ≠ k21 → ct' j = ct j) : ct' = kw_up (kw_up (kw_up (kw_up (kw_up (kw_up (kw_up (kw_up (kw_up (kw_up (kw_up (kw_up (kw_up (kw_up (kw_up (kw_up (kw_up (kw_up (kw_up (kw_up (kw_up (kw_up ct k0 e0) k1 e1) k2 e2) k3 e3) k4 e4) k5 e5) k6 e6) k7 e7) k8 e8) k9 e9) k10 e10) k11 e11) k12 e12) k13 e13) k14 e14) k15 e15) k16 e16) k17 e17) k18 e18) k19 e19) k20 e20) k21 e21 := by
  funext j
  by_cases q21 : j = k21
  · subst q21; rw [kw_up_s, h21]
  rw [kw_up_n q21]
  by_cases q20 : j = k20
  · subst q20; rw [kw_up_s, h20]
  rw [kw_up_n q20]
  by_cases q19 : j = k19
  · subst q19; rw [kw_up_s, h19]
  rw [kw_up_n q19]
  by_cases q18 : j = k18
  · subst q18; rw [kw_up_s, h18]
  rw [kw_up_n q18]
  by_cases q17 : j = k17
  · subst q17; rw [kw_up_s, h17]
  rw [kw_up_n q17]
  by_cases q16 : j = k16
  · subst q16; rw [kw_up_s, h16]
  rw [kw_up_n q16]
  by_cases q15 : j = k15
  · subst q15; rw [kw_up_s, h15]
  rw [kw_up_n q15]
  by_cases q14 : j = k14
  · subst q14; rw [kw_up_s, h14]
  rw [kw_up_n q14]
  by_cases q13 : j = k13
  · subst q13; rw [kw_up_s, h13]
  rw [kw_up_n q13]
  by_cases q12 : j = k12
  · subst q12; rw [kw_up_s, h12]
  rw [kw_up_n q12]
  by_cases q11 : j = k11
  · subst q11; rw [kw_up_s, h11]
  rw [kw_up_n q11]
  by_cases q10 : j = k10
  · subst q10; rw [kw_up_s, h10]
  rw [kw_up_n q10]
  by_cases q9 : j = k9
  · subst q9; rw [kw_up_s, h9]
  rw [kw_up_n q9]
  by_cases q8 : j = k8
  · subst q8; rw [kw_up_s, h8]
  rw [kw_up_n q8]
  by_cases q7 : j = k7
  · subst q7; rw [kw_up_s, h7]
  rw [kw_up_n q7]
  by_cases q6 : j = k6
  · subst q6; rw [kw_up_s, h6]
  rw [kw_up_n q6]
  by_cases q5 : j = k5
  · subst q5; rw [kw_up_s, h5]
  rw [kw_up_n q5]
  by_cases q4 : j = k4
  · subst q4; rw [kw_up_s, h4]
  rw [kw_up_n q4]
  by_cases q3 : j = k3
  · subst q3; rw [kw_up_s, h3]
  rw [kw_up_n q3]
  by_cases q2 : j = k2
  · subst q2; rw [kw_up_s, h2]
  rw [kw_up_n q2]
  by_cases q1 : j = k1
  · subst q1; rw [kw_up_s, h1]
  rw [kw_up_n q1]
  by_cases q0 : j = k0
  · subst q0; rw [kw_up_s, h0]
  rw [kw_up_n q0]
  exact hf j q0 q1 q2 q3 q4 q5 q6 q7 q8 q9 q10 q11 q12 q13 q14 q15 q16 q17 q18 q19 q20 q21
set_option maxHeartbeats 4000000 in
set_option maxRecDepth 100000 in
theorem c_J7_copyOf_59c91 (l : Launch) (D : va_G) (tc : Nat → ClassId) (sz : Nat) (ad : Nat → Nat) (ct : Nat → Option va_E) {N fx : Nat}     {tk : Nat → Int32}   (h13 : ct 13 = some (eI tc 8 tk)) (hN : N < 8) (hkb : ct (140 + fx) = none) (hkba : ad (140 + fx) = sz) : Met l yJ7_copyOf_59c91 wsJ7_copyOf_59c91 ({ frames := 1, cells := 1, slots := 8, locals := 40 }) (va_Pc [.ref (ad 13), .int (nI N)] (kw_B D tc sz ad ct)) (kw_Q D ad (kw_A ad ct sz) (some (.ref (ad (140 + fx)))) (kw_up ct (140 + fx) (eI tc N (kCp (fun _ => 0) tk N))) 1) 1 8 (kw_A ad ct sz) := by
  refine Met.ofW (cc := cJ7_copyOf_59c91) (maxL := 3) (ret := (some (.array .int))) (by decide) rfl ?_
  intro pg en s m args below meth cod s₁ B hml hv
  obtain ⟨rfl, hsz, hP0, hK⟩ := hv
  have hx := B.exec
  have hb := B.bytes
  have hr := B.returns
  have hts := atoms_spec (ws := wsJ7_copyOf_59c91) B.pre
  have hown : s.vm.findClass RJ7 = some m.cls := findClass_of_methodNamed B.named
  have hlocks := B.notSynchronized
  subst hsz
  have hw := kw_H.start hP0
  generalize hAe : kw_A ad ct s.heap.size = A at hw ⊢
  have hA : ∀ q, s.heap.size ≤ q → A q := fun q h => by rw [← hAe]; exact Or.inr h
  have hl := lv_entry ([.ref (ad 13), .int (nI N)]) (n := 3) (Nat.le_of_ble_eq_true rfl)
  rw [lg_entry_eq]
  generalize (lg_sl ([.ref (ad 13), .int (nI N)]) ++ List.replicate (3 - (lg_sl ([.ref (ad 13), .int (nI N)])).length) Slot.unset).toArray = ls at hl ⊢
  have hl : lv_has ls 3 [(0, .ref (ad 13)), (1, .int (nI N))] := hl
  have S0 : CallFix pg m cod cJ7_copyOf_59c91 3 s _ wsJ7_copyOf_59c91 RJ7 := ⟨hx, hb, hml, hown, hts⟩
  have hfr : ∀ j, j ≠ (140 + fx) → ct j = ct j := fun _ _ => rfl
  refine lv_iload_n hx hb dJ7_copyOf_59c91_0 rfl (lv_at hl 1 rfl) ?_
  refine lv_aload_n hx hb dJ7_copyOf_59c91_1 rfl (lv_at hl 0 rfl) ?_
  refine kg_ilen hx hb hK hw h13 dJ7_copyOf_59c91_2 ?_
  refine kn_ne N 8 rfl rfl (by omega) (by omega) (tgt := 14) hx hb dJ7_copyOf_59c91_3 (by decide) (fun c_1 => ?_) (fun c_1 => ?_)
  · refine lv_iload_n hx hb dJ7_copyOf_59c91_14 rfl (lv_at hl 1 rfl) ?_
    refine kg_newi hx hb (hts (.arrayClass .int) (by decide +kernel)) hK hw hA (140 + fx) hkb hkba N rfl (by omega) (Nat.le_of_ble_eq_true rfl) (by show _ ≤ 8; omega) dJ7_copyOf_59c91_15 (fun H hw => ?_)
    obtain ⟨ct_2, ect_2⟩ : ∃ z, z = kw_up ct (140 + fx) (eI tc N (fun _ => 0)) := ⟨_, rfl⟩
    rw [← ect_2] at hw
    have h_3 : ct_2 13 = some (eI tc 8 tk) := by rw [ect_2, kw_up_n (by omega)]; exact h13
    have h_4 : ct_2 (140 + fx) = some (eI tc N (fun _ => 0)) := by rw [ect_2]; exact kw_up_s
    have hfr_5 : ∀ j, j ≠ (140 + fx) → ct_2 j = ct j := fun j a0 => by rw [ect_2]; exact (kw_up_n a0).trans (hfr j a0)
    refine lv_astore_n (lv' := [(2, .ref (ad (140 + fx))), (0, .ref (ad 13)), (1, .int (nI N))]) hx hb dJ7_copyOf_59c91_17 rfl hl (by decide) rfl (fun ls hl => ?_)
    refine lv_aload_n hx hb dJ7_copyOf_59c91_18 rfl (lv_at hl 1 rfl) ?_
    refine lv_iconst (v := 0) hx hb dJ7_copyOf_59c91_19 (by decide) ?_
    refine lv_aload_n hx hb dJ7_copyOf_59c91_20 rfl (lv_at hl 0 rfl) ?_
    refine lv_iconst (v := 0) hx hb dJ7_copyOf_59c91_21 (by decide) ?_
    refine lv_aload_n hx hb dJ7_copyOf_59c91_22 rfl (lv_at hl 1 rfl) ?_
    refine kg_ilen hx hb hK hw h_3 dJ7_copyOf_59c91_23 ?_
    refine lv_iload_n hx hb dJ7_copyOf_59c91_24 rfl (lv_at hl 2 rfl) ?_
    refine va_mmin hx hb (by rw [hml]; exact hl.1.symm) hown (hts (.methodLink RJ7 304 Lib.Math.min.name) (by decide +kernel)) (hts (.static Lib.Math.min.name) (by decide +kernel)) (hts (.initialized "java/lang/Math") (by decide +kernel)) (hts (.code Lib.Math.min.name Lib.Math.min.code 2 (some .int)) (by decide +kernel)) (by first | exact Nat.le_of_ble_eq_true rfl | (show _ ≤ 8; omega)) (by first | exact Nat.le_of_ble_eq_true rfl | (show _ ≤ 8; omega)) (by first | exact Nat.le_of_ble_eq_true rfl | (show _ ≤ 8; omega)) (by first | exact Nat.le_of_ble_eq_true rfl | (show _ ≤ 8; omega)) dJ7_copyOf_59c91_25 ?_
    refine W.eq (congrArg (fun z => F0 m 28 ls (.int z :: .int 0 :: .ref (ad (140 + fx)) :: .int 0 :: .ref (ad 13) :: [])) (show (if (nI N) < (nI 8) then (nI N) else (nI 8)) = nI N from by exact if_pos (nI_lt hN (by omega)))) ?_
    refine kg_copyi hx hb (by rw [hml]; exact hl.1.symm) hown (hts (.methodLink RJ7 150 arraycopyName) (by decide +kernel)) (hts (.native arraycopyName) (by decide +kernel)) (hts (.static arraycopyName) (by decide +kernel)) (hts (.initialized "java/lang/System") (by decide +kernel)) hK hw h_3 h_4 N rfl (by omega) (by omega) (by omega) (Nat.le_of_ble_eq_true rfl) (by decide +kernel) dJ7_copyOf_59c91_28 (fun H locs hw => ?_)
    obtain ⟨ct_6, ect_6⟩ : ∃ z, z = kw_up ct_2 (140 + fx) (eI tc N (kCp (fun _ => 0) tk N)) := ⟨_, rfl⟩
    rw [← ect_6] at hw
    have h_7 : ct_6 13 = some (eI tc 8 tk) := by rw [ect_6, kw_up_n (by omega)]; exact h_3
    have h_8 : ct_6 (140 + fx) = some (eI tc N (kCp (fun _ => 0) tk N)) := by rw [ect_6]; exact kw_up_s
    have hfr_9 : ∀ j, j ≠ (140 + fx) → ct_6 j = ct j := fun j a0 => by rw [ect_6]; exact (kw_up_n a0).trans (hfr_5 j a0)
    refine lv_aload_n hx hb dJ7_copyOf_59c91_31 rfl (lv_at hl 0 rfl) ?_
    have hq_10 := h_8
    have hend := kw_eq1 hq_10 hfr_9
    rw [hend] at hw
    refine W.widen (k := 1) (n := 8) (Nat.le_of_ble_eq_true rfl) (by omega) ?_
    exact W.aret hx hb hr (Or.inr ⟨_, rfl⟩) (Or.inr ⟨_, rfl⟩) (fun t ht _ => ⟨rfl, by rw [ht]; exact hw.1, hw.2.2.1, hw.2.1.F ht, by rw [ht]; exact hw.2.2.2⟩) hw.2.1.2.2 dJ7_copyOf_59c91_32
  · exfalso; omega
set_option maxHeartbeats 4000000 in
set_option maxRecDepth 100000 in
theorem c_J7_copyOf_59c91_8 (l : Launch) (D : va_G) (tc : Nat → ClassId) (sz : Nat) (ad : Nat → Nat) (ct : Nat → Option va_E) {N fx : Nat}     {tk : Nat → Int32}   (h13 : ct 13 = some (eI tc 8 tk)) (hN : N = 8) (hkb : ct (140 + fx) = none) (hkba : ad (140 + fx) = sz) : Met l yJ7_copyOf_59c91 wsJ7_copyOf_59c91 ({ frames := 1, cells := 1, slots := 8, locals := 40 }) (va_Pc [.ref (ad 13), .int (nI N)] (kw_B D tc sz ad ct)) (kw_Q D ad (kw_A ad ct sz) (some (.ref (ad (140 + fx)))) (kw_up ct (140 + fx) (eI tc 8 tk)) 1) 1 8 (kw_A ad ct sz) := by
  refine Met.ofW (cc := cJ7_copyOf_59c91) (maxL := 3) (ret := (some (.array .int))) (by decide) rfl ?_
  intro pg en s m args below meth cod s₁ B hml hv
  obtain ⟨rfl, hsz, hP0, hK⟩ := hv
  have hx := B.exec
  have hb := B.bytes
  have hr := B.returns
  have hts := atoms_spec (ws := wsJ7_copyOf_59c91) B.pre
  have hown : s.vm.findClass RJ7 = some m.cls := findClass_of_methodNamed B.named
  have hlocks := B.notSynchronized
  subst hsz
  have hw := kw_H.start hP0
  generalize hAe : kw_A ad ct s.heap.size = A at hw ⊢
  have hA : ∀ q, s.heap.size ≤ q → A q := fun q h => by rw [← hAe]; exact Or.inr h
  have hl := lv_entry ([.ref (ad 13), .int (nI N)]) (n := 3) (Nat.le_of_ble_eq_true rfl)
  rw [lg_entry_eq]
  generalize (lg_sl ([.ref (ad 13), .int (nI N)]) ++ List.replicate (3 - (lg_sl ([.ref (ad 13), .int (nI N)])).length) Slot.unset).toArray = ls at hl ⊢
  have hl : lv_has ls 3 [(0, .ref (ad 13)), (1, .int (nI N))] := hl
  have S0 : CallFix pg m cod cJ7_copyOf_59c91 3 s _ wsJ7_copyOf_59c91 RJ7 := ⟨hx, hb, hml, hown, hts⟩
  have hfr : ∀ j, j ≠ (140 + fx) → ct j = ct j := fun _ _ => rfl
  refine lv_iload_n hx hb dJ7_copyOf_59c91_0 rfl (lv_at hl 1 rfl) ?_
  refine lv_aload_n hx hb dJ7_copyOf_59c91_1 rfl (lv_at hl 0 rfl) ?_
  refine kg_ilen hx hb hK hw h13 dJ7_copyOf_59c91_2 ?_
  refine kn_ne N 8 rfl rfl (by omega) (by omega) (tgt := 14) hx hb dJ7_copyOf_59c91_3 (by decide) (fun c_1 => ?_) (fun c_1 => ?_)
  · exfalso; omega
  · refine lv_aload_n hx hb dJ7_copyOf_59c91_6 rfl (lv_at hl 0 rfl) ?_
    refine kg_clone hx hb (by rw [hml]; exact hl.1.symm) hown (hts (.methodLink RJ7 316 ⟨"[I", "clone", "()Ljava/lang/Object;"⟩) (by decide +kernel)) (hts (.sameMethod "[I" "java/lang/Object" "clone" "()Ljava/lang/Object;") (by decide +kernel)) (hts (.native ⟨"java/lang/Object", "clone", "()Ljava/lang/Object;"⟩) (by decide +kernel)) (hts (.instanceMethod ⟨"java/lang/Object", "clone", "()Ljava/lang/Object;"⟩) (by decide +kernel)) (hts (.selects "[I" ⟨"[I", "clone", "()Ljava/lang/Object;"⟩ ⟨"java/lang/Object", "clone", "()Ljava/lang/Object;"⟩) (by decide +kernel)) hK hw hA h13 (140 + fx) hkb hkba (Nat.le_of_ble_eq_true rfl) (Nat.le_of_ble_eq_true rfl) (Nat.le_of_ble_eq_true rfl) (Nat.le_of_ble_eq_true rfl) dJ7_copyOf_59c91_7 (fun H hw => ?_)
    obtain ⟨ct_2, ect_2⟩ : ∃ z, z = kw_up ct (140 + fx) (eI tc 8 tk) := ⟨_, rfl⟩
    rw [← ect_2] at hw
    have h_3 : ct_2 13 = some (eI tc 8 tk) := by rw [ect_2, kw_up_n (by omega)]; exact h13
    have h_4 : ct_2 (140 + fx) = some (eI tc 8 tk) := by rw [ect_2]; exact kw_up_s
    have hfr_5 : ∀ j, j ≠ (140 + fx) → ct_2 j = ct j := fun j a0 => by rw [ect_2]; exact (kw_up_n a0).trans (hfr j a0)
    refine va_castA hx hb hown (hts (.classLink RJ7 317 "[I") (by decide +kernel)) (hw.1.at h_4) 0 rfl (va_nm_int (hK.1.2 0 _ rfl).2) dJ7_copyOf_59c91_10 ?_
    have hq_6 := h_4
    have hend := kw_eq1 hq_6 hfr_5
    rw [hend] at hw
    refine W.widen (k := 1) (n := 8) (Nat.le_of_ble_eq_true rfl) (Nat.le_of_ble_eq_true rfl) ?_
    exact W.aret hx hb hr (Or.inr ⟨_, rfl⟩) (Or.inr ⟨_, rfl⟩) (fun t ht _ => ⟨rfl, by rw [ht]; exact hw.1, hw.2.2.1, hw.2.1.F ht, by rw [ht]; exact hw.2.2.2⟩) hw.2.1.2.2 dJ7_copyOf_59c91_13
set_option maxHeartbeats 4000000 in
set_option maxRecDepth 100000 in
theorem c_X10_init (l : Launch) (D : va_G) (tc : Nat → ClassId) (sz : Nat) (ad : Nat → Nat) (ct : Nat → Option va_E)         (h0 : ct 0 = some (.inr (10, [.null, .null, .int 0, .null, .null, .null, .null, .null, .int 0]))) (hk1 : ct 1 = none) (hk1a : ad 1 = sz) (hk2 : ct 2 = none) (hk2a : ad 2 = sz + 1) (hk3 : ct 3 = none) (hk3a : ad 3 = sz + 2) (hk4 : ct 4 = none) (hk4a : ad 4 = sz + 3) (hk5 : ct 5 = none) (hk5a : ad 5 = sz + 4) (hk6 : ct 6 = none) (hk6a : ad 6 = sz + 5) (hk7 : ct 7 = none) (hk7a : ad 7 = sz + 6) (hk8 : ct 8 = none) (hk8a : ad 8 = sz + 7) (hk9 : ct 9 = none) (hk9a : ad 9 = sz + 8) (hk10 : ct 10 = none) (hk10a : ad 10 = sz + 9) (hk11 : ct 11 = none) (hk11a : ad 11 = sz + 10) (hk12 : ct 12 = none) (hk12a : ad 12 = sz + 11) (hk13 : ct 13 = none) (hk13a : ad 13 = sz + 12) (hk20 : ct 20 = none) (hk20a : ad 20 = sz + 13) (hk24 : ct 24 = none) (hk24a : ad 24 = sz + 14) (hk21 : ct 21 = none) (hk21a : ad 21 = sz + 15) (hk25 : ct 25 = none) (hk25a : ad 25 = sz + 16) (hk22 : ct 22 = none) (hk22a : ad 22 = sz + 17) (hk26 : ct 26 = none) (hk26a : ad 26 = sz + 18) (hk23 : ct 23 = none) (hk23a : ad 23 = sz + 19) (hk27 : ct 27 = none) (hk27a : ad 27 = sz + 20) : Met l yX10_init wsX10_init ({ frames := 2, cells := 21, slots := 221, locals := 64 }) (va_Pc [.ref (ad 0)] (kw_B D tc sz ad ct)) (kw_Q D ad (kw_A ad ct sz) (none) (kw_up (kw_up (kw_up (kw_up (kw_up (kw_up (kw_up (kw_up (kw_up (kw_up (kw_up (kw_up (kw_up (kw_up (kw_up (kw_up (kw_up (kw_up (kw_up (kw_up (kw_up (kw_up ct 0 (.inr (10, [.ref (ad 1), .ref (ad 3), .int (nI 0), .ref (ad 4), .ref (ad 9), .ref (ad 11), .ref (ad 12), .ref (ad 13), .int 0]))) 1 (.inr (3, [.ref (ad 2), .int (nI 2), .int 100, .long 0, .long 0, .int (-9)]))) 2 (eJ tc 8 (kFl (fun _ => 0) 0 8))) 3 (eQ tc 4 6 (fun _ => none))) 4 (.inr (0, [.ref (ad 5), .ref (ad 6), .ref (ad 7), .ref (ad 8), .int (nI 0), .int 0, .int 0, .int (kb (false = true))]))) 5 (eQ tc 3 6 (fun _ => none))) 6 (eI tc 6 (fun _ => 0))) 7 (eI tc 6 (fun _ => 0))) 8 (eI tc 8 (fun _ => 0))) 9 (.inr (2, [.ref (ad 10), .int (nI 0)]))) 10 (eQ tc 2 40 (fun _ => none))) 11 (eQ tc 5 4 (va_up (va_up (va_up (va_up (fun _ => none) 0 (some (ad 20))) 1 (some (ad 21))) 2 (some (ad 22))) 3 (some (ad 23))))) 12 (.inr (8, [.int 0]))) 13 (eI tc 8 (fun _ => 0))) 20 (.inr (6, [.ref (ad 24), .int (kb (false = true)), .int 0, .int (nI 0)]))) 24 (eI tc 24 (fun _ => 0))) 21 (.inr (6, [.ref (ad 25), .int (kb (false = true)), .int 0, .int (nI 0)]))) 25 (eI tc 24 (fun _ => 0))) 22 (.inr (6, [.ref (ad 26), .int (kb (false = true)), .int 0, .int (nI 0)]))) 26 (eI tc 24 (fun _ => 0))) 23 (.inr (6, [.ref (ad 27), .int (kb (false = true)), .int 0, .int (nI 0)]))) 27 (eI tc 24 (fun _ => 0))) 21) 21 221 (kw_A ad ct sz) := by
  refine Met.ofW (cc := cX10_init) (maxL := 2) (ret := none) (by decide) rfl ?_
  intro pg en s m args below meth cod s₁ B hml hv
  obtain ⟨rfl, hsz, hP0, hK⟩ := hv
  have hx := B.exec
  have hb := B.bytes
  have hr := B.returns
  have hts := atoms_spec (ws := wsX10_init) B.pre
  have hown : s.vm.findClass RX10 = some m.cls := findClass_of_methodNamed B.named
  have hlocks := B.notSynchronized
  have hin2 : meth.name = "<init>" := (name_of_methodNamed B.named B.method).1
  subst hsz
  have hw := kw_H.start hP0
  generalize hAe : kw_A ad ct s.heap.size = A at hw ⊢
  have hA : ∀ q, s.heap.size ≤ q → A q := fun q h => by rw [← hAe]; exact Or.inr h
  have hinX0 : ∀ w ∈ wsX00, w ∈ wsX10_init := by decide +kernel
  have hinX10 : ∀ w ∈ wsX100, w ∈ wsX10_init := by decide +kernel
  have hinX2 : ∀ w ∈ wsX20, w ∈ wsX10_init := by decide +kernel
  have hinX3 : ∀ w ∈ wsX30, w ∈ wsX10_init := by decide +kernel
  have hinX6 : ∀ w ∈ wsX60, w ∈ wsX10_init := by decide +kernel
  have hinX8 : ∀ w ∈ wsX80, w ∈ wsX10_init := by decide +kernel
  have hl := lv_entry ([.ref (ad 0)]) (n := 2) (Nat.le_of_ble_eq_true rfl)
  rw [lg_entry_eq]
  generalize (lg_sl ([.ref (ad 0)]) ++ List.replicate (2 - (lg_sl ([.ref (ad 0)])).length) Slot.unset).toArray = ls at hl ⊢
  have hl : lv_has ls 2 [(0, .ref (ad 0))] := hl
  have S0 : CallFix pg m cod cX10_init 2 s _ wsX10_init RX10 := ⟨hx, hb, hml, hown, hts⟩
  have hfr : ∀ j, j ≠ 0 → j ≠ 1 → j ≠ 2 → j ≠ 3 → j ≠ 4 → j ≠ 5 → j ≠ 6 → j ≠ 7 → j ≠ 8 → j ≠ 9 → j ≠ 10 → j ≠ 11 → j ≠ 12 → j ≠ 13 → j ≠ 20 → j ≠ 24 → j ≠ 21 → j ≠ 25 → j ≠ 22 → j ≠ 26 → j ≠ 23 → j ≠ 27 → ct j = ct j := fun _ _ _ _ _ _ _ _ _ _ _ _ _ _ _ _ _ _ _ _ _ _ _ => rfl
  refine lv_aload_n hx hb dX10_init_0 rfl (lv_at hl 0 rfl) ?_
  refine W.objInit hx hb hown (hts (.methodLink RX10 3 objectInit) (by decide +kernel)) (hts (.instanceMethod objectInit) (by decide +kernel)) (hts (.code objectInit ⟨#[0xb1]⟩ 1 none) (by decide +kernel)) rfl (by rw [hml]; exact hl.1) rfl dX10_init_1 (Nat.le_of_ble_eq_true rfl) (Nat.le_of_ble_eq_true rfl) ?_
  refine W.eq (g2 := F0 m 4 ls []) rfl ?_
  refine lv_aload_n hx hb dX10_init_4 rfl (lv_at hl 0 rfl) ?_
  refine kg_new (ci := 3) (C := RX3) (T := TX3) (N := 6) (fs := [.null, .int 0, .int 0, .long 0, .long 0, .int 0]) hx hb hts hinX3 tyX3 tyX3_ok hown (hts (.classLink RX10 9 RX3) (by decide +kernel)) (hts (.instantiable RX3 6) (by decide +kernel)) (hts (.initialized RX3) (by decide +kernel)) hK hw hA 1 hk1 hk1a rfl (fun j hj => by rcases (show j = 0 ∨ j = 1 ∨ j = 2 ∨ j = 3 ∨ j = 4 ∨ j = 5 by omega) with rfl | rfl | rfl | rfl | rfl | rfl <;> rfl) (Nat.le_of_ble_eq_true rfl) (Nat.le_of_ble_eq_true rfl) dX10_init_5 (fun H hw => ?_)
  obtain ⟨ct_1, ect_1⟩ : ∃ z, z = kw_up ct 1 (.inr (3, [.null, .int 0, .int 0, .long 0, .long 0, .int 0])) := ⟨_, rfl⟩
  rw [← ect_1] at hw
  have h_2 : ct_1 0 = some (.inr (10, [.null, .null, .int 0, .null, .null, .null, .null, .null, .int 0])) := by rw [ect_1, kw_up_n (by omega)]; exact h0
  have h_3 : ct_1 1 = some (.inr (3, [.null, .int 0, .int 0, .long 0, .long 0, .int 0])) := by rw [ect_1]; exact kw_up_s
  have h_4 : ct_1 2 = none := by rw [ect_1, kw_up_n (by omega)]; exact hk2
  have h_5 : ct_1 3 = none := by rw [ect_1, kw_up_n (by omega)]; exact hk3
  have h_6 : ct_1 4 = none := by rw [ect_1, kw_up_n (by omega)]; exact hk4
  have h_7 : ct_1 5 = none := by rw [ect_1, kw_up_n (by omega)]; exact hk5
  have h_8 : ct_1 6 = none := by rw [ect_1, kw_up_n (by omega)]; exact hk6
  have h_9 : ct_1 7 = none := by rw [ect_1, kw_up_n (by omega)]; exact hk7
  have h_10 : ct_1 8 = none := by rw [ect_1, kw_up_n (by omega)]; exact hk8
  have h_11 : ct_1 9 = none := by rw [ect_1, kw_up_n (by omega)]; exact hk9
  have h_12 : ct_1 10 = none := by rw [ect_1, kw_up_n (by omega)]; exact hk10
  have h_13 : ct_1 11 = none := by rw [ect_1, kw_up_n (by omega)]; exact hk11
  have h_14 : ct_1 12 = none := by rw [ect_1, kw_up_n (by omega)]; exact hk12
  have h_15 : ct_1 13 = none := by rw [ect_1, kw_up_n (by omega)]; exact hk13
  have h_16 : ct_1 20 = none := by rw [ect_1, kw_up_n (by omega)]; exact hk20
  have h_17 : ct_1 24 = none := by rw [ect_1, kw_up_n (by omega)]; exact hk24
  have h_18 : ct_1 21 = none := by rw [ect_1, kw_up_n (by omega)]; exact hk21
  have h_19 : ct_1 25 = none := by rw [ect_1, kw_up_n (by omega)]; exact hk25
  have h_20 : ct_1 22 = none := by rw [ect_1, kw_up_n (by omega)]; exact hk22
  have h_21 : ct_1 26 = none := by rw [ect_1, kw_up_n (by omega)]; exact hk26
  have h_22 : ct_1 23 = none := by rw [ect_1, kw_up_n (by omega)]; exact hk23
  have h_23 : ct_1 27 = none := by rw [ect_1, kw_up_n (by omega)]; exact hk27
  have hfr_24 : ∀ j, j ≠ 0 → j ≠ 1 → j ≠ 2 → j ≠ 3 → j ≠ 4 → j ≠ 5 → j ≠ 6 → j ≠ 7 → j ≠ 8 → j ≠ 9 → j ≠ 10 → j ≠ 11 → j ≠ 12 → j ≠ 13 → j ≠ 20 → j ≠ 24 → j ≠ 21 → j ≠ 25 → j ≠ 22 → j ≠ 26 → j ≠ 23 → j ≠ 27 → ct_1 j = ct j := fun j a0 a1 a2 a3 a4 a5 a6 a7 a8 a9 a10 a11 a12 a13 a14 a15 a16 a17 a18 a19 a20 a21 => by rw [ect_1]; exact (kw_up_n a1).trans (hfr j a0 a1 a2 a3 a4 a5 a6 a7 a8 a9 a10 a11 a12 a13 a14 a15 a16 a17 a18 a19 a20 a21)
  refine lv_dup hx hb dX10_init_8 rfl ?_
  refine kc_iu (As := []) (rest := [.ref (ad 1), .ref (ad 0)]) S0 (c_X3_init l D tc (s.heap.size + 1) ad ct_1 h_3 h_4 hk2a) (cwI 0 hts gX10_init_X3_init rfl rfl rfl (hts (.initialized RX3) (by decide +kernel)) (hts (.methodLink RX10 11 yX3_init) (by decide +kernel)) (hts (.instanceMethod yX3_init) (by decide +kernel)) rfl (by decide +kernel) ⟨Nat.le_of_ble_eq_true rfl, Nat.le_of_ble_eq_true rfl⟩) hK hw hA rfl hl.1 rfl (Nat.le_of_ble_eq_true rfl) dX10_init_9 ⟨Nat.le_of_ble_eq_true rfl, (Nat.le_of_ble_eq_true rfl)⟩ (fun H locs hw => ?_)
  obtain ⟨ct_25, ect_25⟩ : ∃ z, z = kw_up (kw_up ct_1 1 (.inr (3, [.ref (ad 2), .int 0, .int 0, .long 0, .long 0, .int 0]))) 2 (eJ tc 8 (fun _ => 0)) := ⟨_, rfl⟩
  rw [← ect_25] at hw
  have h_26 : ct_25 0 = some (.inr (10, [.null, .null, .int 0, .null, .null, .null, .null, .null, .int 0])) := by rw [ect_25, kw_up_n (by omega), kw_up_n (by omega)]; exact h_2
  have h_27 : ct_25 1 = some (.inr (3, [.ref (ad 2), .int 0, .int 0, .long 0, .long 0, .int 0])) := by rw [ect_25, kw_up_n (by omega)]; exact kw_up_s
  have h_28 : ct_25 2 = some (eJ tc 8 (fun _ => 0)) := by rw [ect_25]; exact kw_up_s
  have h_29 : ct_25 3 = none := by rw [ect_25, kw_up_n (by omega), kw_up_n (by omega)]; exact h_5
  have h_30 : ct_25 4 = none := by rw [ect_25, kw_up_n (by omega), kw_up_n (by omega)]; exact h_6
  have h_31 : ct_25 5 = none := by rw [ect_25, kw_up_n (by omega), kw_up_n (by omega)]; exact h_7
  have h_32 : ct_25 6 = none := by rw [ect_25, kw_up_n (by omega), kw_up_n (by omega)]; exact h_8
  have h_33 : ct_25 7 = none := by rw [ect_25, kw_up_n (by omega), kw_up_n (by omega)]; exact h_9
  have h_34 : ct_25 8 = none := by rw [ect_25, kw_up_n (by omega), kw_up_n (by omega)]; exact h_10
  have h_35 : ct_25 9 = none := by rw [ect_25, kw_up_n (by omega), kw_up_n (by omega)]; exact h_11
  have h_36 : ct_25 10 = none := by rw [ect_25, kw_up_n (by omega), kw_up_n (by omega)]; exact h_12
  have h_37 : ct_25 11 = none := by rw [ect_25, kw_up_n (by omega), kw_up_n (by omega)]; exact h_13
  have h_38 : ct_25 12 = none := by rw [ect_25, kw_up_n (by omega), kw_up_n (by omega)]; exact h_14
  have h_39 : ct_25 13 = none := by rw [ect_25, kw_up_n (by omega), kw_up_n (by omega)]; exact h_15
  have h_40 : ct_25 20 = none := by rw [ect_25, kw_up_n (by omega), kw_up_n (by omega)]; exact h_16
  have h_41 : ct_25 24 = none := by rw [ect_25, kw_up_n (by omega), kw_up_n (by omega)]; exact h_17
  have h_42 : ct_25 21 = none := by rw [ect_25, kw_up_n (by omega), kw_up_n (by omega)]; exact h_18
  have h_43 : ct_25 25 = none := by rw [ect_25, kw_up_n (by omega), kw_up_n (by omega)]; exact h_19
  have h_44 : ct_25 22 = none := by rw [ect_25, kw_up_n (by omega), kw_up_n (by omega)]; exact h_20
  have h_45 : ct_25 26 = none := by rw [ect_25, kw_up_n (by omega), kw_up_n (by omega)]; exact h_21
  have h_46 : ct_25 23 = none := by rw [ect_25, kw_up_n (by omega), kw_up_n (by omega)]; exact h_22
  have h_47 : ct_25 27 = none := by rw [ect_25, kw_up_n (by omega), kw_up_n (by omega)]; exact h_23
  have hfr_48 : ∀ j, j ≠ 0 → j ≠ 1 → j ≠ 2 → j ≠ 3 → j ≠ 4 → j ≠ 5 → j ≠ 6 → j ≠ 7 → j ≠ 8 → j ≠ 9 → j ≠ 10 → j ≠ 11 → j ≠ 12 → j ≠ 13 → j ≠ 20 → j ≠ 24 → j ≠ 21 → j ≠ 25 → j ≠ 22 → j ≠ 26 → j ≠ 23 → j ≠ 27 → ct_25 j = ct j := fun j a0 a1 a2 a3 a4 a5 a6 a7 a8 a9 a10 a11 a12 a13 a14 a15 a16 a17 a18 a19 a20 a21 => by rw [ect_25]; exact (kw_up_n a2).trans ((kw_up_n a1).trans (hfr_24 j a0 a1 a2 a3 a4 a5 a6 a7 a8 a9 a10 a11 a12 a13 a14 a15 a16 a17 a18 a19 a20 a21))
  refine kg_putF (v := .ref (ad 1)) (ty := .object "BetMaker$Maker") (C := RX10) (T := TX10) (N := 9) (fs' := [.ref (ad 1), .null, .int 0, .null, .null, .null, .null, .null, .int 0]) hx hb hts hinX10 tyX10 tyX10_ok nmX10 hown hK hw h_26 rfl 0 (by decide) (hts (.fieldLink RX10 12 "BetMaker" "maker" "LBetMaker$Maker;") (by decide +kernel)) (fun _ h9 => h9) rfl hin2 rfl (by decide +kernel) rfl rfl (Nat.le_of_ble_eq_true rfl) rfl dX10_init_12 (fun H locs hw => ?_)
  obtain ⟨ct_49, ect_49⟩ : ∃ z, z = kw_up ct_25 0 (.inr (10, [.ref (ad 1), .null, .int 0, .null, .null, .null, .null, .null, .int 0])) := ⟨_, rfl⟩
  rw [← ect_49] at hw
  have h_50 : ct_49 1 = some (.inr (3, [.ref (ad 2), .int 0, .int 0, .long 0, .long 0, .int 0])) := by rw [ect_49, kw_up_n (by omega)]; exact h_27
  have h_51 : ct_49 2 = some (eJ tc 8 (fun _ => 0)) := by rw [ect_49, kw_up_n (by omega)]; exact h_28
  have h_52 : ct_49 0 = some (.inr (10, [.ref (ad 1), .null, .int 0, .null, .null, .null, .null, .null, .int 0])) := by rw [ect_49]; exact kw_up_s
  have h_53 : ct_49 3 = none := by rw [ect_49, kw_up_n (by omega)]; exact h_29
  have h_54 : ct_49 4 = none := by rw [ect_49, kw_up_n (by omega)]; exact h_30
  have h_55 : ct_49 5 = none := by rw [ect_49, kw_up_n (by omega)]; exact h_31
  have h_56 : ct_49 6 = none := by rw [ect_49, kw_up_n (by omega)]; exact h_32
  have h_57 : ct_49 7 = none := by rw [ect_49, kw_up_n (by omega)]; exact h_33
  have h_58 : ct_49 8 = none := by rw [ect_49, kw_up_n (by omega)]; exact h_34
  have h_59 : ct_49 9 = none := by rw [ect_49, kw_up_n (by omega)]; exact h_35
  have h_60 : ct_49 10 = none := by rw [ect_49, kw_up_n (by omega)]; exact h_36
  have h_61 : ct_49 11 = none := by rw [ect_49, kw_up_n (by omega)]; exact h_37
  have h_62 : ct_49 12 = none := by rw [ect_49, kw_up_n (by omega)]; exact h_38
  have h_63 : ct_49 13 = none := by rw [ect_49, kw_up_n (by omega)]; exact h_39
  have h_64 : ct_49 20 = none := by rw [ect_49, kw_up_n (by omega)]; exact h_40
  have h_65 : ct_49 24 = none := by rw [ect_49, kw_up_n (by omega)]; exact h_41
  have h_66 : ct_49 21 = none := by rw [ect_49, kw_up_n (by omega)]; exact h_42
  have h_67 : ct_49 25 = none := by rw [ect_49, kw_up_n (by omega)]; exact h_43
  have h_68 : ct_49 22 = none := by rw [ect_49, kw_up_n (by omega)]; exact h_44
  have h_69 : ct_49 26 = none := by rw [ect_49, kw_up_n (by omega)]; exact h_45
  have h_70 : ct_49 23 = none := by rw [ect_49, kw_up_n (by omega)]; exact h_46
  have h_71 : ct_49 27 = none := by rw [ect_49, kw_up_n (by omega)]; exact h_47
  have hfr_72 : ∀ j, j ≠ 0 → j ≠ 1 → j ≠ 2 → j ≠ 3 → j ≠ 4 → j ≠ 5 → j ≠ 6 → j ≠ 7 → j ≠ 8 → j ≠ 9 → j ≠ 10 → j ≠ 11 → j ≠ 12 → j ≠ 13 → j ≠ 20 → j ≠ 24 → j ≠ 21 → j ≠ 25 → j ≠ 22 → j ≠ 26 → j ≠ 23 → j ≠ 27 → ct_49 j = ct j := fun j a0 a1 a2 a3 a4 a5 a6 a7 a8 a9 a10 a11 a12 a13 a14 a15 a16 a17 a18 a19 a20 a21 => by rw [ect_49]; exact (kw_up_n a0).trans (hfr_48 j a0 a1 a2 a3 a4 a5 a6 a7 a8 a9 a10 a11 a12 a13 a14 a15 a16 a17 a18 a19 a20 a21)
  refine lv_aload_n hx hb dX10_init_15 rfl (lv_at hl 0 rfl) ?_
  refine lv_bipush (v := 6) hx hb dX10_init_16 (by decide) ?_
  refine kg_newq (C := RX5) hx hb hown (hts (.classLink RX10 18 RX5) (by decide +kernel)) (va_AO.use hK.2.2.2.2.1.2.2.1) hK hw hA 4 rfl 3 h_53 hk3a 6 rfl (by omega) (Nat.le_of_ble_eq_true rfl) (Nat.le_of_ble_eq_true rfl) dX10_init_18 (fun H hw => ?_)
  obtain ⟨ct_73, ect_73⟩ : ∃ z, z = kw_up ct_49 3 (eQ tc 4 6 (fun _ => none)) := ⟨_, rfl⟩
  rw [← ect_73] at hw
  have h_74 : ct_73 1 = some (.inr (3, [.ref (ad 2), .int 0, .int 0, .long 0, .long 0, .int 0])) := by rw [ect_73, kw_up_n (by omega)]; exact h_50
  have h_75 : ct_73 2 = some (eJ tc 8 (fun _ => 0)) := by rw [ect_73, kw_up_n (by omega)]; exact h_51
  have h_76 : ct_73 0 = some (.inr (10, [.ref (ad 1), .null, .int 0, .null, .null, .null, .null, .null, .int 0])) := by rw [ect_73, kw_up_n (by omega)]; exact h_52
  have h_77 : ct_73 3 = some (eQ tc 4 6 (fun _ => none)) := by rw [ect_73]; exact kw_up_s
  have h_78 : ct_73 4 = none := by rw [ect_73, kw_up_n (by omega)]; exact h_54
  have h_79 : ct_73 5 = none := by rw [ect_73, kw_up_n (by omega)]; exact h_55
  have h_80 : ct_73 6 = none := by rw [ect_73, kw_up_n (by omega)]; exact h_56
  have h_81 : ct_73 7 = none := by rw [ect_73, kw_up_n (by omega)]; exact h_57
  have h_82 : ct_73 8 = none := by rw [ect_73, kw_up_n (by omega)]; exact h_58
  have h_83 : ct_73 9 = none := by rw [ect_73, kw_up_n (by omega)]; exact h_59
  have h_84 : ct_73 10 = none := by rw [ect_73, kw_up_n (by omega)]; exact h_60
  have h_85 : ct_73 11 = none := by rw [ect_73, kw_up_n (by omega)]; exact h_61
  have h_86 : ct_73 12 = none := by rw [ect_73, kw_up_n (by omega)]; exact h_62
  have h_87 : ct_73 13 = none := by rw [ect_73, kw_up_n (by omega)]; exact h_63
  have h_88 : ct_73 20 = none := by rw [ect_73, kw_up_n (by omega)]; exact h_64
  have h_89 : ct_73 24 = none := by rw [ect_73, kw_up_n (by omega)]; exact h_65
  have h_90 : ct_73 21 = none := by rw [ect_73, kw_up_n (by omega)]; exact h_66
  have h_91 : ct_73 25 = none := by rw [ect_73, kw_up_n (by omega)]; exact h_67
  have h_92 : ct_73 22 = none := by rw [ect_73, kw_up_n (by omega)]; exact h_68
  have h_93 : ct_73 26 = none := by rw [ect_73, kw_up_n (by omega)]; exact h_69
  have h_94 : ct_73 23 = none := by rw [ect_73, kw_up_n (by omega)]; exact h_70
  have h_95 : ct_73 27 = none := by rw [ect_73, kw_up_n (by omega)]; exact h_71
  have hfr_96 : ∀ j, j ≠ 0 → j ≠ 1 → j ≠ 2 → j ≠ 3 → j ≠ 4 → j ≠ 5 → j ≠ 6 → j ≠ 7 → j ≠ 8 → j ≠ 9 → j ≠ 10 → j ≠ 11 → j ≠ 12 → j ≠ 13 → j ≠ 20 → j ≠ 24 → j ≠ 21 → j ≠ 25 → j ≠ 22 → j ≠ 26 → j ≠ 23 → j ≠ 27 → ct_73 j = ct j := fun j a0 a1 a2 a3 a4 a5 a6 a7 a8 a9 a10 a11 a12 a13 a14 a15 a16 a17 a18 a19 a20 a21 => by rw [ect_73]; exact (kw_up_n a3).trans (hfr_72 j a0 a1 a2 a3 a4 a5 a6 a7 a8 a9 a10 a11 a12 a13 a14 a15 a16 a17 a18 a19 a20 a21)
  refine kg_putF (v := .ref (ad 3)) (ty := .array (.object "BetMaker$Plain")) (C := RX10) (T := TX10) (N := 9) (fs' := [.ref (ad 1), .ref (ad 3), .int 0, .null, .null, .null, .null, .null, .int 0]) hx hb hts hinX10 tyX10 tyX10_ok nmX10 hown hK hw h_76 rfl 1 (by decide) (hts (.fieldLink RX10 20 "BetMaker" "traders" "[LBetMaker$Plain;") (by decide +kernel)) (fun _ h9 => h9) rfl hin2 rfl (by decide +kernel) rfl rfl (Nat.le_of_ble_eq_true rfl) rfl dX10_init_21 (fun H locs hw => ?_)
  obtain ⟨ct_97, ect_97⟩ : ∃ z, z = kw_up ct_73 0 (.inr (10, [.ref (ad 1), .ref (ad 3), .int 0, .null, .null, .null, .null, .null, .int 0])) := ⟨_, rfl⟩
  rw [← ect_97] at hw
  have h_98 : ct_97 1 = some (.inr (3, [.ref (ad 2), .int 0, .int 0, .long 0, .long 0, .int 0])) := by rw [ect_97, kw_up_n (by omega)]; exact h_74
  have h_99 : ct_97 2 = some (eJ tc 8 (fun _ => 0)) := by rw [ect_97, kw_up_n (by omega)]; exact h_75
  have h_100 : ct_97 3 = some (eQ tc 4 6 (fun _ => none)) := by rw [ect_97, kw_up_n (by omega)]; exact h_77
  have h_101 : ct_97 0 = some (.inr (10, [.ref (ad 1), .ref (ad 3), .int 0, .null, .null, .null, .null, .null, .int 0])) := by rw [ect_97]; exact kw_up_s
  have h_102 : ct_97 4 = none := by rw [ect_97, kw_up_n (by omega)]; exact h_78
  have h_103 : ct_97 5 = none := by rw [ect_97, kw_up_n (by omega)]; exact h_79
  have h_104 : ct_97 6 = none := by rw [ect_97, kw_up_n (by omega)]; exact h_80
  have h_105 : ct_97 7 = none := by rw [ect_97, kw_up_n (by omega)]; exact h_81
  have h_106 : ct_97 8 = none := by rw [ect_97, kw_up_n (by omega)]; exact h_82
  have h_107 : ct_97 9 = none := by rw [ect_97, kw_up_n (by omega)]; exact h_83
  have h_108 : ct_97 10 = none := by rw [ect_97, kw_up_n (by omega)]; exact h_84
  have h_109 : ct_97 11 = none := by rw [ect_97, kw_up_n (by omega)]; exact h_85
  have h_110 : ct_97 12 = none := by rw [ect_97, kw_up_n (by omega)]; exact h_86
  have h_111 : ct_97 13 = none := by rw [ect_97, kw_up_n (by omega)]; exact h_87
  have h_112 : ct_97 20 = none := by rw [ect_97, kw_up_n (by omega)]; exact h_88
  have h_113 : ct_97 24 = none := by rw [ect_97, kw_up_n (by omega)]; exact h_89
  have h_114 : ct_97 21 = none := by rw [ect_97, kw_up_n (by omega)]; exact h_90
  have h_115 : ct_97 25 = none := by rw [ect_97, kw_up_n (by omega)]; exact h_91
  have h_116 : ct_97 22 = none := by rw [ect_97, kw_up_n (by omega)]; exact h_92
  have h_117 : ct_97 26 = none := by rw [ect_97, kw_up_n (by omega)]; exact h_93
  have h_118 : ct_97 23 = none := by rw [ect_97, kw_up_n (by omega)]; exact h_94
  have h_119 : ct_97 27 = none := by rw [ect_97, kw_up_n (by omega)]; exact h_95
  have hfr_120 : ∀ j, j ≠ 0 → j ≠ 1 → j ≠ 2 → j ≠ 3 → j ≠ 4 → j ≠ 5 → j ≠ 6 → j ≠ 7 → j ≠ 8 → j ≠ 9 → j ≠ 10 → j ≠ 11 → j ≠ 12 → j ≠ 13 → j ≠ 20 → j ≠ 24 → j ≠ 21 → j ≠ 25 → j ≠ 22 → j ≠ 26 → j ≠ 23 → j ≠ 27 → ct_97 j = ct j := fun j a0 a1 a2 a3 a4 a5 a6 a7 a8 a9 a10 a11 a12 a13 a14 a15 a16 a17 a18 a19 a20 a21 => by rw [ect_97]; exact (kw_up_n a0).trans (hfr_96 j a0 a1 a2 a3 a4 a5 a6 a7 a8 a9 a10 a11 a12 a13 a14 a15 a16 a17 a18 a19 a20 a21)
  refine lv_aload_n hx hb dX10_init_24 rfl (lv_at hl 0 rfl) ?_
  refine kg_new (ci := 0) (C := RX0) (T := TX0) (N := 8) (fs := [.null, .null, .null, .null, .int 0, .int 0, .int 0, .int 0]) hx hb hts hinX0 tyX0 tyX0_ok hown (hts (.classLink RX10 24 RX0) (by decide +kernel)) (hts (.instantiable RX0 8) (by decide +kernel)) (hts (.initialized RX0) (by decide +kernel)) hK hw hA 4 h_102 hk4a rfl (fun j hj => by rcases (show j = 0 ∨ j = 1 ∨ j = 2 ∨ j = 3 ∨ j = 4 ∨ j = 5 ∨ j = 6 ∨ j = 7 by omega) with rfl | rfl | rfl | rfl | rfl | rfl | rfl | rfl <;> rfl) (Nat.le_of_ble_eq_true rfl) (Nat.le_of_ble_eq_true rfl) dX10_init_25 (fun H hw => ?_)
  obtain ⟨ct_121, ect_121⟩ : ∃ z, z = kw_up ct_97 4 (.inr (0, [.null, .null, .null, .null, .int 0, .int 0, .int 0, .int 0])) := ⟨_, rfl⟩
  rw [← ect_121] at hw
  have h_122 : ct_121 1 = some (.inr (3, [.ref (ad 2), .int 0, .int 0, .long 0, .long 0, .int 0])) := by rw [ect_121, kw_up_n (by omega)]; exact h_98
  have h_123 : ct_121 2 = some (eJ tc 8 (fun _ => 0)) := by rw [ect_121, kw_up_n (by omega)]; exact h_99
  have h_124 : ct_121 3 = some (eQ tc 4 6 (fun _ => none)) := by rw [ect_121, kw_up_n (by omega)]; exact h_100
  have h_125 : ct_121 0 = some (.inr (10, [.ref (ad 1), .ref (ad 3), .int 0, .null, .null, .null, .null, .null, .int 0])) := by rw [ect_121, kw_up_n (by omega)]; exact h_101
  have h_126 : ct_121 4 = some (.inr (0, [.null, .null, .null, .null, .int 0, .int 0, .int 0, .int 0])) := by rw [ect_121]; exact kw_up_s
  have h_127 : ct_121 5 = none := by rw [ect_121, kw_up_n (by omega)]; exact h_103
  have h_128 : ct_121 6 = none := by rw [ect_121, kw_up_n (by omega)]; exact h_104
  have h_129 : ct_121 7 = none := by rw [ect_121, kw_up_n (by omega)]; exact h_105
  have h_130 : ct_121 8 = none := by rw [ect_121, kw_up_n (by omega)]; exact h_106
  have h_131 : ct_121 9 = none := by rw [ect_121, kw_up_n (by omega)]; exact h_107
  have h_132 : ct_121 10 = none := by rw [ect_121, kw_up_n (by omega)]; exact h_108
  have h_133 : ct_121 11 = none := by rw [ect_121, kw_up_n (by omega)]; exact h_109
  have h_134 : ct_121 12 = none := by rw [ect_121, kw_up_n (by omega)]; exact h_110
  have h_135 : ct_121 13 = none := by rw [ect_121, kw_up_n (by omega)]; exact h_111
  have h_136 : ct_121 20 = none := by rw [ect_121, kw_up_n (by omega)]; exact h_112
  have h_137 : ct_121 24 = none := by rw [ect_121, kw_up_n (by omega)]; exact h_113
  have h_138 : ct_121 21 = none := by rw [ect_121, kw_up_n (by omega)]; exact h_114
  have h_139 : ct_121 25 = none := by rw [ect_121, kw_up_n (by omega)]; exact h_115
  have h_140 : ct_121 22 = none := by rw [ect_121, kw_up_n (by omega)]; exact h_116
  have h_141 : ct_121 26 = none := by rw [ect_121, kw_up_n (by omega)]; exact h_117
  have h_142 : ct_121 23 = none := by rw [ect_121, kw_up_n (by omega)]; exact h_118
  have h_143 : ct_121 27 = none := by rw [ect_121, kw_up_n (by omega)]; exact h_119
  have hfr_144 : ∀ j, j ≠ 0 → j ≠ 1 → j ≠ 2 → j ≠ 3 → j ≠ 4 → j ≠ 5 → j ≠ 6 → j ≠ 7 → j ≠ 8 → j ≠ 9 → j ≠ 10 → j ≠ 11 → j ≠ 12 → j ≠ 13 → j ≠ 20 → j ≠ 24 → j ≠ 21 → j ≠ 25 → j ≠ 22 → j ≠ 26 → j ≠ 23 → j ≠ 27 → ct_121 j = ct j := fun j a0 a1 a2 a3 a4 a5 a6 a7 a8 a9 a10 a11 a12 a13 a14 a15 a16 a17 a18 a19 a20 a21 => by rw [ect_121]; exact (kw_up_n a4).trans (hfr_120 j a0 a1 a2 a3 a4 a5 a6 a7 a8 a9 a10 a11 a12 a13 a14 a15 a16 a17 a18 a19 a20 a21)
  refine lv_dup hx hb dX10_init_28 rfl ?_
  refine kc_iu (As := []) (rest := [.ref (ad 4), .ref (ad 0)]) S0 (c_X0_init l D tc (s.heap.size + 4) ad ct_121 h_126 h_127 hk5a h_128 hk6a h_129 hk7a h_130 hk8a) (cwI 0 hts gX10_init_X0_init rfl rfl rfl (hts (.initialized RX0) (by decide +kernel)) (hts (.methodLink RX10 26 yX0_init) (by decide +kernel)) (hts (.instanceMethod yX0_init) (by decide +kernel)) rfl (by decide +kernel) ⟨Nat.le_of_ble_eq_true rfl, Nat.le_of_ble_eq_true rfl⟩) hK hw hA rfl hl.1 rfl (Nat.le_of_ble_eq_true rfl) dX10_init_29 ⟨Nat.le_of_ble_eq_true rfl, (Nat.le_of_ble_eq_true rfl)⟩ (fun H locs hw => ?_)
  obtain ⟨ct_145, ect_145⟩ : ∃ z, z = kw_up (kw_up (kw_up (kw_up (kw_up ct_121 4 (.inr (0, [.ref (ad 5), .ref (ad 6), .ref (ad 7), .ref (ad 8), .int (nI 0), .int 0, .int 0, .int (kb (false = true))]))) 5 (eQ tc 3 6 (fun _ => none))) 6 (eI tc 6 (fun _ => 0))) 7 (eI tc 6 (fun _ => 0))) 8 (eI tc 8 (fun _ => 0)) := ⟨_, rfl⟩
  rw [← ect_145] at hw
  have h_146 : ct_145 1 = some (.inr (3, [.ref (ad 2), .int 0, .int 0, .long 0, .long 0, .int 0])) := by rw [ect_145, kw_up_n (by omega), kw_up_n (by omega), kw_up_n (by omega), kw_up_n (by omega), kw_up_n (by omega)]; exact h_122
  have h_147 : ct_145 2 = some (eJ tc 8 (fun _ => 0)) := by rw [ect_145, kw_up_n (by omega), kw_up_n (by omega), kw_up_n (by omega), kw_up_n (by omega), kw_up_n (by omega)]; exact h_123
  have h_148 : ct_145 3 = some (eQ tc 4 6 (fun _ => none)) := by rw [ect_145, kw_up_n (by omega), kw_up_n (by omega), kw_up_n (by omega), kw_up_n (by omega), kw_up_n (by omega)]; exact h_124
  have h_149 : ct_145 0 = some (.inr (10, [.ref (ad 1), .ref (ad 3), .int 0, .null, .null, .null, .null, .null, .int 0])) := by rw [ect_145, kw_up_n (by omega), kw_up_n (by omega), kw_up_n (by omega), kw_up_n (by omega), kw_up_n (by omega)]; exact h_125
  have h_150 : ct_145 4 = some (.inr (0, [.ref (ad 5), .ref (ad 6), .ref (ad 7), .ref (ad 8), .int (nI 0), .int 0, .int 0, .int (kb (false = true))])) := by rw [ect_145, kw_up_n (by omega), kw_up_n (by omega), kw_up_n (by omega), kw_up_n (by omega)]; exact kw_up_s
  have h_151 : ct_145 5 = some (eQ tc 3 6 (fun _ => none)) := by rw [ect_145, kw_up_n (by omega), kw_up_n (by omega), kw_up_n (by omega)]; exact kw_up_s
  have h_152 : ct_145 6 = some (eI tc 6 (fun _ => 0)) := by rw [ect_145, kw_up_n (by omega), kw_up_n (by omega)]; exact kw_up_s
  have h_153 : ct_145 7 = some (eI tc 6 (fun _ => 0)) := by rw [ect_145, kw_up_n (by omega)]; exact kw_up_s
  have h_154 : ct_145 8 = some (eI tc 8 (fun _ => 0)) := by rw [ect_145]; exact kw_up_s
  have h_155 : ct_145 9 = none := by rw [ect_145, kw_up_n (by omega), kw_up_n (by omega), kw_up_n (by omega), kw_up_n (by omega), kw_up_n (by omega)]; exact h_131
  have h_156 : ct_145 10 = none := by rw [ect_145, kw_up_n (by omega), kw_up_n (by omega), kw_up_n (by omega), kw_up_n (by omega), kw_up_n (by omega)]; exact h_132
  have h_157 : ct_145 11 = none := by rw [ect_145, kw_up_n (by omega), kw_up_n (by omega), kw_up_n (by omega), kw_up_n (by omega), kw_up_n (by omega)]; exact h_133
  have h_158 : ct_145 12 = none := by rw [ect_145, kw_up_n (by omega), kw_up_n (by omega), kw_up_n (by omega), kw_up_n (by omega), kw_up_n (by omega)]; exact h_134
  have h_159 : ct_145 13 = none := by rw [ect_145, kw_up_n (by omega), kw_up_n (by omega), kw_up_n (by omega), kw_up_n (by omega), kw_up_n (by omega)]; exact h_135
  have h_160 : ct_145 20 = none := by rw [ect_145, kw_up_n (by omega), kw_up_n (by omega), kw_up_n (by omega), kw_up_n (by omega), kw_up_n (by omega)]; exact h_136
  have h_161 : ct_145 24 = none := by rw [ect_145, kw_up_n (by omega), kw_up_n (by omega), kw_up_n (by omega), kw_up_n (by omega), kw_up_n (by omega)]; exact h_137
  have h_162 : ct_145 21 = none := by rw [ect_145, kw_up_n (by omega), kw_up_n (by omega), kw_up_n (by omega), kw_up_n (by omega), kw_up_n (by omega)]; exact h_138
  have h_163 : ct_145 25 = none := by rw [ect_145, kw_up_n (by omega), kw_up_n (by omega), kw_up_n (by omega), kw_up_n (by omega), kw_up_n (by omega)]; exact h_139
  have h_164 : ct_145 22 = none := by rw [ect_145, kw_up_n (by omega), kw_up_n (by omega), kw_up_n (by omega), kw_up_n (by omega), kw_up_n (by omega)]; exact h_140
  have h_165 : ct_145 26 = none := by rw [ect_145, kw_up_n (by omega), kw_up_n (by omega), kw_up_n (by omega), kw_up_n (by omega), kw_up_n (by omega)]; exact h_141
  have h_166 : ct_145 23 = none := by rw [ect_145, kw_up_n (by omega), kw_up_n (by omega), kw_up_n (by omega), kw_up_n (by omega), kw_up_n (by omega)]; exact h_142
  have h_167 : ct_145 27 = none := by rw [ect_145, kw_up_n (by omega), kw_up_n (by omega), kw_up_n (by omega), kw_up_n (by omega), kw_up_n (by omega)]; exact h_143
  have hfr_168 : ∀ j, j ≠ 0 → j ≠ 1 → j ≠ 2 → j ≠ 3 → j ≠ 4 → j ≠ 5 → j ≠ 6 → j ≠ 7 → j ≠ 8 → j ≠ 9 → j ≠ 10 → j ≠ 11 → j ≠ 12 → j ≠ 13 → j ≠ 20 → j ≠ 24 → j ≠ 21 → j ≠ 25 → j ≠ 22 → j ≠ 26 → j ≠ 23 → j ≠ 27 → ct_145 j = ct j := fun j a0 a1 a2 a3 a4 a5 a6 a7 a8 a9 a10 a11 a12 a13 a14 a15 a16 a17 a18 a19 a20 a21 => by rw [ect_145]; exact (kw_up_n a8).trans ((kw_up_n a7).trans ((kw_up_n a6).trans ((kw_up_n a5).trans ((kw_up_n a4).trans (hfr_144 j a0 a1 a2 a3 a4 a5 a6 a7 a8 a9 a10 a11 a12 a13 a14 a15 a16 a17 a18 a19 a20 a21)))))
  refine kg_putF (v := .ref (ad 4)) (ty := .object "BetMaker$Board") (C := RX10) (T := TX10) (N := 9) (fs' := [.ref (ad 1), .ref (ad 3), .int 0, .ref (ad 4), .null, .null, .null, .null, .int 0]) hx hb hts hinX10 tyX10 tyX10_ok nmX10 hown hK hw h_149 rfl 3 (by decide) (hts (.fieldLink RX10 27 "BetMaker" "board" "LBetMaker$Board;") (by decide +kernel)) (fun _ h9 => h9) rfl hin2 rfl (by decide +kernel) rfl rfl (Nat.le_of_ble_eq_true rfl) rfl dX10_init_32 (fun H locs hw => ?_)
  obtain ⟨ct_169, ect_169⟩ : ∃ z, z = kw_up ct_145 0 (.inr (10, [.ref (ad 1), .ref (ad 3), .int 0, .ref (ad 4), .null, .null, .null, .null, .int 0])) := ⟨_, rfl⟩
  rw [← ect_169] at hw
  have h_170 : ct_169 1 = some (.inr (3, [.ref (ad 2), .int 0, .int 0, .long 0, .long 0, .int 0])) := by rw [ect_169, kw_up_n (by omega)]; exact h_146
  have h_171 : ct_169 2 = some (eJ tc 8 (fun _ => 0)) := by rw [ect_169, kw_up_n (by omega)]; exact h_147
  have h_172 : ct_169 3 = some (eQ tc 4 6 (fun _ => none)) := by rw [ect_169, kw_up_n (by omega)]; exact h_148
  have h_173 : ct_169 4 = some (.inr (0, [.ref (ad 5), .ref (ad 6), .ref (ad 7), .ref (ad 8), .int (nI 0), .int 0, .int 0, .int (kb (false = true))])) := by rw [ect_169, kw_up_n (by omega)]; exact h_150
  have h_174 : ct_169 5 = some (eQ tc 3 6 (fun _ => none)) := by rw [ect_169, kw_up_n (by omega)]; exact h_151
  have h_175 : ct_169 6 = some (eI tc 6 (fun _ => 0)) := by rw [ect_169, kw_up_n (by omega)]; exact h_152
  have h_176 : ct_169 7 = some (eI tc 6 (fun _ => 0)) := by rw [ect_169, kw_up_n (by omega)]; exact h_153
  have h_177 : ct_169 8 = some (eI tc 8 (fun _ => 0)) := by rw [ect_169, kw_up_n (by omega)]; exact h_154
  have h_178 : ct_169 0 = some (.inr (10, [.ref (ad 1), .ref (ad 3), .int 0, .ref (ad 4), .null, .null, .null, .null, .int 0])) := by rw [ect_169]; exact kw_up_s
  have h_179 : ct_169 9 = none := by rw [ect_169, kw_up_n (by omega)]; exact h_155
  have h_180 : ct_169 10 = none := by rw [ect_169, kw_up_n (by omega)]; exact h_156
  have h_181 : ct_169 11 = none := by rw [ect_169, kw_up_n (by omega)]; exact h_157
  have h_182 : ct_169 12 = none := by rw [ect_169, kw_up_n (by omega)]; exact h_158
  have h_183 : ct_169 13 = none := by rw [ect_169, kw_up_n (by omega)]; exact h_159
  have h_184 : ct_169 20 = none := by rw [ect_169, kw_up_n (by omega)]; exact h_160
  have h_185 : ct_169 24 = none := by rw [ect_169, kw_up_n (by omega)]; exact h_161
  have h_186 : ct_169 21 = none := by rw [ect_169, kw_up_n (by omega)]; exact h_162
  have h_187 : ct_169 25 = none := by rw [ect_169, kw_up_n (by omega)]; exact h_163
  have h_188 : ct_169 22 = none := by rw [ect_169, kw_up_n (by omega)]; exact h_164
  have h_189 : ct_169 26 = none := by rw [ect_169, kw_up_n (by omega)]; exact h_165
  have h_190 : ct_169 23 = none := by rw [ect_169, kw_up_n (by omega)]; exact h_166
  have h_191 : ct_169 27 = none := by rw [ect_169, kw_up_n (by omega)]; exact h_167
  have hfr_192 : ∀ j, j ≠ 0 → j ≠ 1 → j ≠ 2 → j ≠ 3 → j ≠ 4 → j ≠ 5 → j ≠ 6 → j ≠ 7 → j ≠ 8 → j ≠ 9 → j ≠ 10 → j ≠ 11 → j ≠ 12 → j ≠ 13 → j ≠ 20 → j ≠ 24 → j ≠ 21 → j ≠ 25 → j ≠ 22 → j ≠ 26 → j ≠ 23 → j ≠ 27 → ct_169 j = ct j := fun j a0 a1 a2 a3 a4 a5 a6 a7 a8 a9 a10 a11 a12 a13 a14 a15 a16 a17 a18 a19 a20 a21 => by rw [ect_169]; exact (kw_up_n a0).trans (hfr_168 j a0 a1 a2 a3 a4 a5 a6 a7 a8 a9 a10 a11 a12 a13 a14 a15 a16 a17 a18 a19 a20 a21)
  refine lv_aload_n hx hb dX10_init_35 rfl (lv_at hl 0 rfl) ?_
  refine kg_new (ci := 2) (C := RX2) (T := TX2) (N := 2) (fs := [.null, .int 0]) hx hb hts hinX2 tyX2 tyX2_ok hown (hts (.classLink RX10 31 RX2) (by decide +kernel)) (hts (.instantiable RX2 2) (by decide +kernel)) (hts (.initialized RX2) (by decide +kernel)) hK hw hA 9 h_179 hk9a rfl (fun j hj => by rcases (show j = 0 ∨ j = 1 by omega) with rfl | rfl <;> rfl) (Nat.le_of_ble_eq_true rfl) (Nat.le_of_ble_eq_true rfl) dX10_init_36 (fun H hw => ?_)
  obtain ⟨ct_193, ect_193⟩ : ∃ z, z = kw_up ct_169 9 (.inr (2, [.null, .int 0])) := ⟨_, rfl⟩
  rw [← ect_193] at hw
  have h_194 : ct_193 1 = some (.inr (3, [.ref (ad 2), .int 0, .int 0, .long 0, .long 0, .int 0])) := by rw [ect_193, kw_up_n (by omega)]; exact h_170
  have h_195 : ct_193 2 = some (eJ tc 8 (fun _ => 0)) := by rw [ect_193, kw_up_n (by omega)]; exact h_171
  have h_196 : ct_193 3 = some (eQ tc 4 6 (fun _ => none)) := by rw [ect_193, kw_up_n (by omega)]; exact h_172
  have h_197 : ct_193 4 = some (.inr (0, [.ref (ad 5), .ref (ad 6), .ref (ad 7), .ref (ad 8), .int (nI 0), .int 0, .int 0, .int (kb (false = true))])) := by rw [ect_193, kw_up_n (by omega)]; exact h_173
  have h_198 : ct_193 5 = some (eQ tc 3 6 (fun _ => none)) := by rw [ect_193, kw_up_n (by omega)]; exact h_174
  have h_199 : ct_193 6 = some (eI tc 6 (fun _ => 0)) := by rw [ect_193, kw_up_n (by omega)]; exact h_175
  have h_200 : ct_193 7 = some (eI tc 6 (fun _ => 0)) := by rw [ect_193, kw_up_n (by omega)]; exact h_176
  have h_201 : ct_193 8 = some (eI tc 8 (fun _ => 0)) := by rw [ect_193, kw_up_n (by omega)]; exact h_177
  have h_202 : ct_193 0 = some (.inr (10, [.ref (ad 1), .ref (ad 3), .int 0, .ref (ad 4), .null, .null, .null, .null, .int 0])) := by rw [ect_193, kw_up_n (by omega)]; exact h_178
  have h_203 : ct_193 9 = some (.inr (2, [.null, .int 0])) := by rw [ect_193]; exact kw_up_s
  have h_204 : ct_193 10 = none := by rw [ect_193, kw_up_n (by omega)]; exact h_180
  have h_205 : ct_193 11 = none := by rw [ect_193, kw_up_n (by omega)]; exact h_181
  have h_206 : ct_193 12 = none := by rw [ect_193, kw_up_n (by omega)]; exact h_182
  have h_207 : ct_193 13 = none := by rw [ect_193, kw_up_n (by omega)]; exact h_183
  have h_208 : ct_193 20 = none := by rw [ect_193, kw_up_n (by omega)]; exact h_184
  have h_209 : ct_193 24 = none := by rw [ect_193, kw_up_n (by omega)]; exact h_185
  have h_210 : ct_193 21 = none := by rw [ect_193, kw_up_n (by omega)]; exact h_186
  have h_211 : ct_193 25 = none := by rw [ect_193, kw_up_n (by omega)]; exact h_187
  have h_212 : ct_193 22 = none := by rw [ect_193, kw_up_n (by omega)]; exact h_188
  have h_213 : ct_193 26 = none := by rw [ect_193, kw_up_n (by omega)]; exact h_189
  have h_214 : ct_193 23 = none := by rw [ect_193, kw_up_n (by omega)]; exact h_190
  have h_215 : ct_193 27 = none := by rw [ect_193, kw_up_n (by omega)]; exact h_191
  have hfr_216 : ∀ j, j ≠ 0 → j ≠ 1 → j ≠ 2 → j ≠ 3 → j ≠ 4 → j ≠ 5 → j ≠ 6 → j ≠ 7 → j ≠ 8 → j ≠ 9 → j ≠ 10 → j ≠ 11 → j ≠ 12 → j ≠ 13 → j ≠ 20 → j ≠ 24 → j ≠ 21 → j ≠ 25 → j ≠ 22 → j ≠ 26 → j ≠ 23 → j ≠ 27 → ct_193 j = ct j := fun j a0 a1 a2 a3 a4 a5 a6 a7 a8 a9 a10 a11 a12 a13 a14 a15 a16 a17 a18 a19 a20 a21 => by rw [ect_193]; exact (kw_up_n a9).trans (hfr_192 j a0 a1 a2 a3 a4 a5 a6 a7 a8 a9 a10 a11 a12 a13 a14 a15 a16 a17 a18 a19 a20 a21)
  refine lv_dup hx hb dX10_init_39 rfl ?_
  refine kc_iu (As := []) (rest := [.ref (ad 9), .ref (ad 0)]) S0 (c_X2_init l D tc (s.heap.size + 9) ad ct_193 h_203 h_204 hk10a) (cwI 0 hts gX10_init_X2_init rfl rfl rfl (hts (.initialized RX2) (by decide +kernel)) (hts (.methodLink RX10 33 yX2_init) (by decide +kernel)) (hts (.instanceMethod yX2_init) (by decide +kernel)) rfl (by decide +kernel) ⟨Nat.le_of_ble_eq_true rfl, Nat.le_of_ble_eq_true rfl⟩) hK hw hA rfl hl.1 rfl (Nat.le_of_ble_eq_true rfl) dX10_init_40 ⟨Nat.le_of_ble_eq_true rfl, (Nat.le_of_ble_eq_true rfl)⟩ (fun H locs hw => ?_)
  obtain ⟨ct_217, ect_217⟩ : ∃ z, z = kw_up (kw_up ct_193 9 (.inr (2, [.ref (ad 10), .int (nI 0)]))) 10 (eQ tc 2 40 (fun _ => none)) := ⟨_, rfl⟩
  rw [← ect_217] at hw
  have h_218 : ct_217 1 = some (.inr (3, [.ref (ad 2), .int 0, .int 0, .long 0, .long 0, .int 0])) := by rw [ect_217, kw_up_n (by omega), kw_up_n (by omega)]; exact h_194
  have h_219 : ct_217 2 = some (eJ tc 8 (fun _ => 0)) := by rw [ect_217, kw_up_n (by omega), kw_up_n (by omega)]; exact h_195
  have h_220 : ct_217 3 = some (eQ tc 4 6 (fun _ => none)) := by rw [ect_217, kw_up_n (by omega), kw_up_n (by omega)]; exact h_196
  have h_221 : ct_217 4 = some (.inr (0, [.ref (ad 5), .ref (ad 6), .ref (ad 7), .ref (ad 8), .int (nI 0), .int 0, .int 0, .int (kb (false = true))])) := by rw [ect_217, kw_up_n (by omega), kw_up_n (by omega)]; exact h_197
  have h_222 : ct_217 5 = some (eQ tc 3 6 (fun _ => none)) := by rw [ect_217, kw_up_n (by omega), kw_up_n (by omega)]; exact h_198
  have h_223 : ct_217 6 = some (eI tc 6 (fun _ => 0)) := by rw [ect_217, kw_up_n (by omega), kw_up_n (by omega)]; exact h_199
  have h_224 : ct_217 7 = some (eI tc 6 (fun _ => 0)) := by rw [ect_217, kw_up_n (by omega), kw_up_n (by omega)]; exact h_200
  have h_225 : ct_217 8 = some (eI tc 8 (fun _ => 0)) := by rw [ect_217, kw_up_n (by omega), kw_up_n (by omega)]; exact h_201
  have h_226 : ct_217 0 = some (.inr (10, [.ref (ad 1), .ref (ad 3), .int 0, .ref (ad 4), .null, .null, .null, .null, .int 0])) := by rw [ect_217, kw_up_n (by omega), kw_up_n (by omega)]; exact h_202
  have h_227 : ct_217 9 = some (.inr (2, [.ref (ad 10), .int (nI 0)])) := by rw [ect_217, kw_up_n (by omega)]; exact kw_up_s
  have h_228 : ct_217 10 = some (eQ tc 2 40 (fun _ => none)) := by rw [ect_217]; exact kw_up_s
  have h_229 : ct_217 11 = none := by rw [ect_217, kw_up_n (by omega), kw_up_n (by omega)]; exact h_205
  have h_230 : ct_217 12 = none := by rw [ect_217, kw_up_n (by omega), kw_up_n (by omega)]; exact h_206
  have h_231 : ct_217 13 = none := by rw [ect_217, kw_up_n (by omega), kw_up_n (by omega)]; exact h_207
  have h_232 : ct_217 20 = none := by rw [ect_217, kw_up_n (by omega), kw_up_n (by omega)]; exact h_208
  have h_233 : ct_217 24 = none := by rw [ect_217, kw_up_n (by omega), kw_up_n (by omega)]; exact h_209
  have h_234 : ct_217 21 = none := by rw [ect_217, kw_up_n (by omega), kw_up_n (by omega)]; exact h_210
  have h_235 : ct_217 25 = none := by rw [ect_217, kw_up_n (by omega), kw_up_n (by omega)]; exact h_211
  have h_236 : ct_217 22 = none := by rw [ect_217, kw_up_n (by omega), kw_up_n (by omega)]; exact h_212
  have h_237 : ct_217 26 = none := by rw [ect_217, kw_up_n (by omega), kw_up_n (by omega)]; exact h_213
  have h_238 : ct_217 23 = none := by rw [ect_217, kw_up_n (by omega), kw_up_n (by omega)]; exact h_214
  have h_239 : ct_217 27 = none := by rw [ect_217, kw_up_n (by omega), kw_up_n (by omega)]; exact h_215
  have hfr_240 : ∀ j, j ≠ 0 → j ≠ 1 → j ≠ 2 → j ≠ 3 → j ≠ 4 → j ≠ 5 → j ≠ 6 → j ≠ 7 → j ≠ 8 → j ≠ 9 → j ≠ 10 → j ≠ 11 → j ≠ 12 → j ≠ 13 → j ≠ 20 → j ≠ 24 → j ≠ 21 → j ≠ 25 → j ≠ 22 → j ≠ 26 → j ≠ 23 → j ≠ 27 → ct_217 j = ct j := fun j a0 a1 a2 a3 a4 a5 a6 a7 a8 a9 a10 a11 a12 a13 a14 a15 a16 a17 a18 a19 a20 a21 => by rw [ect_217]; exact (kw_up_n a10).trans ((kw_up_n a9).trans (hfr_216 j a0 a1 a2 a3 a4 a5 a6 a7 a8 a9 a10 a11 a12 a13 a14 a15 a16 a17 a18 a19 a20 a21))
  refine kg_putF (v := .ref (ad 9)) (ty := .object "BetMaker$Log") (C := RX10) (T := TX10) (N := 9) (fs' := [.ref (ad 1), .ref (ad 3), .int 0, .ref (ad 4), .ref (ad 9), .null, .null, .null, .int 0]) hx hb hts hinX10 tyX10 tyX10_ok nmX10 hown hK hw h_226 rfl 4 (by decide) (hts (.fieldLink RX10 34 "BetMaker" "forecasts" "LBetMaker$Log;") (by decide +kernel)) (fun _ h9 => h9) rfl hin2 rfl (by decide +kernel) rfl rfl (Nat.le_of_ble_eq_true rfl) rfl dX10_init_43 (fun H locs hw => ?_)
  obtain ⟨ct_241, ect_241⟩ : ∃ z, z = kw_up ct_217 0 (.inr (10, [.ref (ad 1), .ref (ad 3), .int 0, .ref (ad 4), .ref (ad 9), .null, .null, .null, .int 0])) := ⟨_, rfl⟩
  rw [← ect_241] at hw
  have h_242 : ct_241 1 = some (.inr (3, [.ref (ad 2), .int 0, .int 0, .long 0, .long 0, .int 0])) := by rw [ect_241, kw_up_n (by omega)]; exact h_218
  have h_243 : ct_241 2 = some (eJ tc 8 (fun _ => 0)) := by rw [ect_241, kw_up_n (by omega)]; exact h_219
  have h_244 : ct_241 3 = some (eQ tc 4 6 (fun _ => none)) := by rw [ect_241, kw_up_n (by omega)]; exact h_220
  have h_245 : ct_241 4 = some (.inr (0, [.ref (ad 5), .ref (ad 6), .ref (ad 7), .ref (ad 8), .int (nI 0), .int 0, .int 0, .int (kb (false = true))])) := by rw [ect_241, kw_up_n (by omega)]; exact h_221
  have h_246 : ct_241 5 = some (eQ tc 3 6 (fun _ => none)) := by rw [ect_241, kw_up_n (by omega)]; exact h_222
  have h_247 : ct_241 6 = some (eI tc 6 (fun _ => 0)) := by rw [ect_241, kw_up_n (by omega)]; exact h_223
  have h_248 : ct_241 7 = some (eI tc 6 (fun _ => 0)) := by rw [ect_241, kw_up_n (by omega)]; exact h_224
  have h_249 : ct_241 8 = some (eI tc 8 (fun _ => 0)) := by rw [ect_241, kw_up_n (by omega)]; exact h_225
  have h_250 : ct_241 9 = some (.inr (2, [.ref (ad 10), .int (nI 0)])) := by rw [ect_241, kw_up_n (by omega)]; exact h_227
  have h_251 : ct_241 10 = some (eQ tc 2 40 (fun _ => none)) := by rw [ect_241, kw_up_n (by omega)]; exact h_228
  have h_252 : ct_241 0 = some (.inr (10, [.ref (ad 1), .ref (ad 3), .int 0, .ref (ad 4), .ref (ad 9), .null, .null, .null, .int 0])) := by rw [ect_241]; exact kw_up_s
  have h_253 : ct_241 11 = none := by rw [ect_241, kw_up_n (by omega)]; exact h_229
  have h_254 : ct_241 12 = none := by rw [ect_241, kw_up_n (by omega)]; exact h_230
  have h_255 : ct_241 13 = none := by rw [ect_241, kw_up_n (by omega)]; exact h_231
  have h_256 : ct_241 20 = none := by rw [ect_241, kw_up_n (by omega)]; exact h_232
  have h_257 : ct_241 24 = none := by rw [ect_241, kw_up_n (by omega)]; exact h_233
  have h_258 : ct_241 21 = none := by rw [ect_241, kw_up_n (by omega)]; exact h_234
  have h_259 : ct_241 25 = none := by rw [ect_241, kw_up_n (by omega)]; exact h_235
  have h_260 : ct_241 22 = none := by rw [ect_241, kw_up_n (by omega)]; exact h_236
  have h_261 : ct_241 26 = none := by rw [ect_241, kw_up_n (by omega)]; exact h_237
  have h_262 : ct_241 23 = none := by rw [ect_241, kw_up_n (by omega)]; exact h_238
  have h_263 : ct_241 27 = none := by rw [ect_241, kw_up_n (by omega)]; exact h_239
  have hfr_264 : ∀ j, j ≠ 0 → j ≠ 1 → j ≠ 2 → j ≠ 3 → j ≠ 4 → j ≠ 5 → j ≠ 6 → j ≠ 7 → j ≠ 8 → j ≠ 9 → j ≠ 10 → j ≠ 11 → j ≠ 12 → j ≠ 13 → j ≠ 20 → j ≠ 24 → j ≠ 21 → j ≠ 25 → j ≠ 22 → j ≠ 26 → j ≠ 23 → j ≠ 27 → ct_241 j = ct j := fun j a0 a1 a2 a3 a4 a5 a6 a7 a8 a9 a10 a11 a12 a13 a14 a15 a16 a17 a18 a19 a20 a21 => by rw [ect_241]; exact (kw_up_n a0).trans (hfr_240 j a0 a1 a2 a3 a4 a5 a6 a7 a8 a9 a10 a11 a12 a13 a14 a15 a16 a17 a18 a19 a20 a21)
  refine lv_aload_n hx hb dX10_init_46 rfl (lv_at hl 0 rfl) ?_
  refine lv_iconst (v := 4) hx hb dX10_init_47 (by decide) ?_
  refine kg_newq (C := RX6) hx hb hown (hts (.classLink RX10 38 RX6) (by decide +kernel)) (va_AO.use hK.2.2.2.2.1.2.2.2) hK hw hA 5 rfl 11 h_253 hk11a 4 rfl (by omega) (Nat.le_of_ble_eq_true rfl) (Nat.le_of_ble_eq_true rfl) dX10_init_48 (fun H hw => ?_)
  obtain ⟨ct_265, ect_265⟩ : ∃ z, z = kw_up ct_241 11 (eQ tc 5 4 (fun _ => none)) := ⟨_, rfl⟩
  rw [← ect_265] at hw
  have h_266 : ct_265 1 = some (.inr (3, [.ref (ad 2), .int 0, .int 0, .long 0, .long 0, .int 0])) := by rw [ect_265, kw_up_n (by omega)]; exact h_242
  have h_267 : ct_265 2 = some (eJ tc 8 (fun _ => 0)) := by rw [ect_265, kw_up_n (by omega)]; exact h_243
  have h_268 : ct_265 3 = some (eQ tc 4 6 (fun _ => none)) := by rw [ect_265, kw_up_n (by omega)]; exact h_244
  have h_269 : ct_265 4 = some (.inr (0, [.ref (ad 5), .ref (ad 6), .ref (ad 7), .ref (ad 8), .int (nI 0), .int 0, .int 0, .int (kb (false = true))])) := by rw [ect_265, kw_up_n (by omega)]; exact h_245
  have h_270 : ct_265 5 = some (eQ tc 3 6 (fun _ => none)) := by rw [ect_265, kw_up_n (by omega)]; exact h_246
  have h_271 : ct_265 6 = some (eI tc 6 (fun _ => 0)) := by rw [ect_265, kw_up_n (by omega)]; exact h_247
  have h_272 : ct_265 7 = some (eI tc 6 (fun _ => 0)) := by rw [ect_265, kw_up_n (by omega)]; exact h_248
  have h_273 : ct_265 8 = some (eI tc 8 (fun _ => 0)) := by rw [ect_265, kw_up_n (by omega)]; exact h_249
  have h_274 : ct_265 9 = some (.inr (2, [.ref (ad 10), .int (nI 0)])) := by rw [ect_265, kw_up_n (by omega)]; exact h_250
  have h_275 : ct_265 10 = some (eQ tc 2 40 (fun _ => none)) := by rw [ect_265, kw_up_n (by omega)]; exact h_251
  have h_276 : ct_265 0 = some (.inr (10, [.ref (ad 1), .ref (ad 3), .int 0, .ref (ad 4), .ref (ad 9), .null, .null, .null, .int 0])) := by rw [ect_265, kw_up_n (by omega)]; exact h_252
  have h_277 : ct_265 11 = some (eQ tc 5 4 (fun _ => none)) := by rw [ect_265]; exact kw_up_s
  have h_278 : ct_265 12 = none := by rw [ect_265, kw_up_n (by omega)]; exact h_254
  have h_279 : ct_265 13 = none := by rw [ect_265, kw_up_n (by omega)]; exact h_255
  have h_280 : ct_265 20 = none := by rw [ect_265, kw_up_n (by omega)]; exact h_256
  have h_281 : ct_265 24 = none := by rw [ect_265, kw_up_n (by omega)]; exact h_257
  have h_282 : ct_265 21 = none := by rw [ect_265, kw_up_n (by omega)]; exact h_258
  have h_283 : ct_265 25 = none := by rw [ect_265, kw_up_n (by omega)]; exact h_259
  have h_284 : ct_265 22 = none := by rw [ect_265, kw_up_n (by omega)]; exact h_260
  have h_285 : ct_265 26 = none := by rw [ect_265, kw_up_n (by omega)]; exact h_261
  have h_286 : ct_265 23 = none := by rw [ect_265, kw_up_n (by omega)]; exact h_262
  have h_287 : ct_265 27 = none := by rw [ect_265, kw_up_n (by omega)]; exact h_263
  have hfr_288 : ∀ j, j ≠ 0 → j ≠ 1 → j ≠ 2 → j ≠ 3 → j ≠ 4 → j ≠ 5 → j ≠ 6 → j ≠ 7 → j ≠ 8 → j ≠ 9 → j ≠ 10 → j ≠ 11 → j ≠ 12 → j ≠ 13 → j ≠ 20 → j ≠ 24 → j ≠ 21 → j ≠ 25 → j ≠ 22 → j ≠ 26 → j ≠ 23 → j ≠ 27 → ct_265 j = ct j := fun j a0 a1 a2 a3 a4 a5 a6 a7 a8 a9 a10 a11 a12 a13 a14 a15 a16 a17 a18 a19 a20 a21 => by rw [ect_265]; exact (kw_up_n a11).trans (hfr_264 j a0 a1 a2 a3 a4 a5 a6 a7 a8 a9 a10 a11 a12 a13 a14 a15 a16 a17 a18 a19 a20 a21)
  refine kg_putF (v := .ref (ad 11)) (ty := .array (.object "BetMaker$Sheet")) (C := RX10) (T := TX10) (N := 9) (fs' := [.ref (ad 1), .ref (ad 3), .int 0, .ref (ad 4), .ref (ad 9), .ref (ad 11), .null, .null, .int 0]) hx hb hts hinX10 tyX10 tyX10_ok nmX10 hown hK hw h_276 rfl 5 (by decide) (hts (.fieldLink RX10 40 "BetMaker" "sheets" "[LBetMaker$Sheet;") (by decide +kernel)) (fun _ h9 => h9) rfl hin2 rfl (by decide +kernel) rfl rfl (Nat.le_of_ble_eq_true rfl) rfl dX10_init_51 (fun H locs hw => ?_)
  obtain ⟨ct_289, ect_289⟩ : ∃ z, z = kw_up ct_265 0 (.inr (10, [.ref (ad 1), .ref (ad 3), .int 0, .ref (ad 4), .ref (ad 9), .ref (ad 11), .null, .null, .int 0])) := ⟨_, rfl⟩
  rw [← ect_289] at hw
  have h_290 : ct_289 1 = some (.inr (3, [.ref (ad 2), .int 0, .int 0, .long 0, .long 0, .int 0])) := by rw [ect_289, kw_up_n (by omega)]; exact h_266
  have h_291 : ct_289 2 = some (eJ tc 8 (fun _ => 0)) := by rw [ect_289, kw_up_n (by omega)]; exact h_267
  have h_292 : ct_289 3 = some (eQ tc 4 6 (fun _ => none)) := by rw [ect_289, kw_up_n (by omega)]; exact h_268
  have h_293 : ct_289 4 = some (.inr (0, [.ref (ad 5), .ref (ad 6), .ref (ad 7), .ref (ad 8), .int (nI 0), .int 0, .int 0, .int (kb (false = true))])) := by rw [ect_289, kw_up_n (by omega)]; exact h_269
  have h_294 : ct_289 5 = some (eQ tc 3 6 (fun _ => none)) := by rw [ect_289, kw_up_n (by omega)]; exact h_270
  have h_295 : ct_289 6 = some (eI tc 6 (fun _ => 0)) := by rw [ect_289, kw_up_n (by omega)]; exact h_271
  have h_296 : ct_289 7 = some (eI tc 6 (fun _ => 0)) := by rw [ect_289, kw_up_n (by omega)]; exact h_272
  have h_297 : ct_289 8 = some (eI tc 8 (fun _ => 0)) := by rw [ect_289, kw_up_n (by omega)]; exact h_273
  have h_298 : ct_289 9 = some (.inr (2, [.ref (ad 10), .int (nI 0)])) := by rw [ect_289, kw_up_n (by omega)]; exact h_274
  have h_299 : ct_289 10 = some (eQ tc 2 40 (fun _ => none)) := by rw [ect_289, kw_up_n (by omega)]; exact h_275
  have h_300 : ct_289 11 = some (eQ tc 5 4 (fun _ => none)) := by rw [ect_289, kw_up_n (by omega)]; exact h_277
  have h_301 : ct_289 0 = some (.inr (10, [.ref (ad 1), .ref (ad 3), .int 0, .ref (ad 4), .ref (ad 9), .ref (ad 11), .null, .null, .int 0])) := by rw [ect_289]; exact kw_up_s
  have h_302 : ct_289 12 = none := by rw [ect_289, kw_up_n (by omega)]; exact h_278
  have h_303 : ct_289 13 = none := by rw [ect_289, kw_up_n (by omega)]; exact h_279
  have h_304 : ct_289 20 = none := by rw [ect_289, kw_up_n (by omega)]; exact h_280
  have h_305 : ct_289 24 = none := by rw [ect_289, kw_up_n (by omega)]; exact h_281
  have h_306 : ct_289 21 = none := by rw [ect_289, kw_up_n (by omega)]; exact h_282
  have h_307 : ct_289 25 = none := by rw [ect_289, kw_up_n (by omega)]; exact h_283
  have h_308 : ct_289 22 = none := by rw [ect_289, kw_up_n (by omega)]; exact h_284
  have h_309 : ct_289 26 = none := by rw [ect_289, kw_up_n (by omega)]; exact h_285
  have h_310 : ct_289 23 = none := by rw [ect_289, kw_up_n (by omega)]; exact h_286
  have h_311 : ct_289 27 = none := by rw [ect_289, kw_up_n (by omega)]; exact h_287
  have hfr_312 : ∀ j, j ≠ 0 → j ≠ 1 → j ≠ 2 → j ≠ 3 → j ≠ 4 → j ≠ 5 → j ≠ 6 → j ≠ 7 → j ≠ 8 → j ≠ 9 → j ≠ 10 → j ≠ 11 → j ≠ 12 → j ≠ 13 → j ≠ 20 → j ≠ 24 → j ≠ 21 → j ≠ 25 → j ≠ 22 → j ≠ 26 → j ≠ 23 → j ≠ 27 → ct_289 j = ct j := fun j a0 a1 a2 a3 a4 a5 a6 a7 a8 a9 a10 a11 a12 a13 a14 a15 a16 a17 a18 a19 a20 a21 => by rw [ect_289]; exact (kw_up_n a0).trans (hfr_288 j a0 a1 a2 a3 a4 a5 a6 a7 a8 a9 a10 a11 a12 a13 a14 a15 a16 a17 a18 a19 a20 a21)
  refine lv_aload_n hx hb dX10_init_54 rfl (lv_at hl 0 rfl) ?_
  refine kg_new (ci := 8) (C := RX8) (T := TX8) (N := 1) (fs := [.int 0]) hx hb hts hinX8 tyX8 tyX8_ok hown (hts (.classLink RX10 44 RX8) (by decide +kernel)) (hts (.instantiable RX8 1) (by decide +kernel)) (hts (.initialized RX8) (by decide +kernel)) hK hw hA 12 h_302 hk12a rfl (fun j hj => by rcases (show j = 0 by omega) with rfl <;> rfl) (Nat.le_of_ble_eq_true rfl) (Nat.le_of_ble_eq_true rfl) dX10_init_55 (fun H hw => ?_)
  obtain ⟨ct_313, ect_313⟩ : ∃ z, z = kw_up ct_289 12 (.inr (8, [.int 0])) := ⟨_, rfl⟩
  rw [← ect_313] at hw
  have h_314 : ct_313 1 = some (.inr (3, [.ref (ad 2), .int 0, .int 0, .long 0, .long 0, .int 0])) := by rw [ect_313, kw_up_n (by omega)]; exact h_290
  have h_315 : ct_313 2 = some (eJ tc 8 (fun _ => 0)) := by rw [ect_313, kw_up_n (by omega)]; exact h_291
  have h_316 : ct_313 3 = some (eQ tc 4 6 (fun _ => none)) := by rw [ect_313, kw_up_n (by omega)]; exact h_292
  have h_317 : ct_313 4 = some (.inr (0, [.ref (ad 5), .ref (ad 6), .ref (ad 7), .ref (ad 8), .int (nI 0), .int 0, .int 0, .int (kb (false = true))])) := by rw [ect_313, kw_up_n (by omega)]; exact h_293
  have h_318 : ct_313 5 = some (eQ tc 3 6 (fun _ => none)) := by rw [ect_313, kw_up_n (by omega)]; exact h_294
  have h_319 : ct_313 6 = some (eI tc 6 (fun _ => 0)) := by rw [ect_313, kw_up_n (by omega)]; exact h_295
  have h_320 : ct_313 7 = some (eI tc 6 (fun _ => 0)) := by rw [ect_313, kw_up_n (by omega)]; exact h_296
  have h_321 : ct_313 8 = some (eI tc 8 (fun _ => 0)) := by rw [ect_313, kw_up_n (by omega)]; exact h_297
  have h_322 : ct_313 9 = some (.inr (2, [.ref (ad 10), .int (nI 0)])) := by rw [ect_313, kw_up_n (by omega)]; exact h_298
  have h_323 : ct_313 10 = some (eQ tc 2 40 (fun _ => none)) := by rw [ect_313, kw_up_n (by omega)]; exact h_299
  have h_324 : ct_313 11 = some (eQ tc 5 4 (fun _ => none)) := by rw [ect_313, kw_up_n (by omega)]; exact h_300
  have h_325 : ct_313 0 = some (.inr (10, [.ref (ad 1), .ref (ad 3), .int 0, .ref (ad 4), .ref (ad 9), .ref (ad 11), .null, .null, .int 0])) := by rw [ect_313, kw_up_n (by omega)]; exact h_301
  have h_326 : ct_313 12 = some (.inr (8, [.int 0])) := by rw [ect_313]; exact kw_up_s
  have h_327 : ct_313 13 = none := by rw [ect_313, kw_up_n (by omega)]; exact h_303
  have h_328 : ct_313 20 = none := by rw [ect_313, kw_up_n (by omega)]; exact h_304
  have h_329 : ct_313 24 = none := by rw [ect_313, kw_up_n (by omega)]; exact h_305
  have h_330 : ct_313 21 = none := by rw [ect_313, kw_up_n (by omega)]; exact h_306
  have h_331 : ct_313 25 = none := by rw [ect_313, kw_up_n (by omega)]; exact h_307
  have h_332 : ct_313 22 = none := by rw [ect_313, kw_up_n (by omega)]; exact h_308
  have h_333 : ct_313 26 = none := by rw [ect_313, kw_up_n (by omega)]; exact h_309
  have h_334 : ct_313 23 = none := by rw [ect_313, kw_up_n (by omega)]; exact h_310
  have h_335 : ct_313 27 = none := by rw [ect_313, kw_up_n (by omega)]; exact h_311
  have hfr_336 : ∀ j, j ≠ 0 → j ≠ 1 → j ≠ 2 → j ≠ 3 → j ≠ 4 → j ≠ 5 → j ≠ 6 → j ≠ 7 → j ≠ 8 → j ≠ 9 → j ≠ 10 → j ≠ 11 → j ≠ 12 → j ≠ 13 → j ≠ 20 → j ≠ 24 → j ≠ 21 → j ≠ 25 → j ≠ 22 → j ≠ 26 → j ≠ 23 → j ≠ 27 → ct_313 j = ct j := fun j a0 a1 a2 a3 a4 a5 a6 a7 a8 a9 a10 a11 a12 a13 a14 a15 a16 a17 a18 a19 a20 a21 => by rw [ect_313]; exact (kw_up_n a12).trans (hfr_312 j a0 a1 a2 a3 a4 a5 a6 a7 a8 a9 a10 a11 a12 a13 a14 a15 a16 a17 a18 a19 a20 a21)
  refine lv_dup hx hb dX10_init_58 rfl ?_
  refine kc_iu (As := []) (rest := [.ref (ad 12), .ref (ad 0)]) S0 (c_X8_init l D tc (s.heap.size + 12) ad ct_313 h_326) (cwI 0 hts gX10_init_X8_init rfl rfl rfl (hts (.initialized RX8) (by decide +kernel)) (hts (.methodLink RX10 46 yX8_init) (by decide +kernel)) (hts (.instanceMethod yX8_init) (by decide +kernel)) rfl (by decide +kernel) ⟨Nat.le_of_ble_eq_true rfl, Nat.le_of_ble_eq_true rfl⟩) hK hw hA rfl hl.1 rfl (Nat.le_of_ble_eq_true rfl) dX10_init_59 ⟨Nat.le_of_ble_eq_true rfl, (Nat.le_of_ble_eq_true rfl)⟩ (fun H locs hw => ?_)
  obtain ⟨ct_337, ect_337⟩ : ∃ z, z = kw_up ct_313 12 (.inr (8, [.int 0])) := ⟨_, rfl⟩
  rw [← ect_337] at hw
  have h_338 : ct_337 1 = some (.inr (3, [.ref (ad 2), .int 0, .int 0, .long 0, .long 0, .int 0])) := by rw [ect_337, kw_up_n (by omega)]; exact h_314
  have h_339 : ct_337 2 = some (eJ tc 8 (fun _ => 0)) := by rw [ect_337, kw_up_n (by omega)]; exact h_315
  have h_340 : ct_337 3 = some (eQ tc 4 6 (fun _ => none)) := by rw [ect_337, kw_up_n (by omega)]; exact h_316
  have h_341 : ct_337 4 = some (.inr (0, [.ref (ad 5), .ref (ad 6), .ref (ad 7), .ref (ad 8), .int (nI 0), .int 0, .int 0, .int (kb (false = true))])) := by rw [ect_337, kw_up_n (by omega)]; exact h_317
  have h_342 : ct_337 5 = some (eQ tc 3 6 (fun _ => none)) := by rw [ect_337, kw_up_n (by omega)]; exact h_318
  have h_343 : ct_337 6 = some (eI tc 6 (fun _ => 0)) := by rw [ect_337, kw_up_n (by omega)]; exact h_319
  have h_344 : ct_337 7 = some (eI tc 6 (fun _ => 0)) := by rw [ect_337, kw_up_n (by omega)]; exact h_320
  have h_345 : ct_337 8 = some (eI tc 8 (fun _ => 0)) := by rw [ect_337, kw_up_n (by omega)]; exact h_321
  have h_346 : ct_337 9 = some (.inr (2, [.ref (ad 10), .int (nI 0)])) := by rw [ect_337, kw_up_n (by omega)]; exact h_322
  have h_347 : ct_337 10 = some (eQ tc 2 40 (fun _ => none)) := by rw [ect_337, kw_up_n (by omega)]; exact h_323
  have h_348 : ct_337 11 = some (eQ tc 5 4 (fun _ => none)) := by rw [ect_337, kw_up_n (by omega)]; exact h_324
  have h_349 : ct_337 0 = some (.inr (10, [.ref (ad 1), .ref (ad 3), .int 0, .ref (ad 4), .ref (ad 9), .ref (ad 11), .null, .null, .int 0])) := by rw [ect_337, kw_up_n (by omega)]; exact h_325
  have h_350 : ct_337 12 = some (.inr (8, [.int 0])) := by rw [ect_337]; exact kw_up_s
  have h_351 : ct_337 13 = none := by rw [ect_337, kw_up_n (by omega)]; exact h_327
  have h_352 : ct_337 20 = none := by rw [ect_337, kw_up_n (by omega)]; exact h_328
  have h_353 : ct_337 24 = none := by rw [ect_337, kw_up_n (by omega)]; exact h_329
  have h_354 : ct_337 21 = none := by rw [ect_337, kw_up_n (by omega)]; exact h_330
  have h_355 : ct_337 25 = none := by rw [ect_337, kw_up_n (by omega)]; exact h_331
  have h_356 : ct_337 22 = none := by rw [ect_337, kw_up_n (by omega)]; exact h_332
  have h_357 : ct_337 26 = none := by rw [ect_337, kw_up_n (by omega)]; exact h_333
  have h_358 : ct_337 23 = none := by rw [ect_337, kw_up_n (by omega)]; exact h_334
  have h_359 : ct_337 27 = none := by rw [ect_337, kw_up_n (by omega)]; exact h_335
  have hfr_360 : ∀ j, j ≠ 0 → j ≠ 1 → j ≠ 2 → j ≠ 3 → j ≠ 4 → j ≠ 5 → j ≠ 6 → j ≠ 7 → j ≠ 8 → j ≠ 9 → j ≠ 10 → j ≠ 11 → j ≠ 12 → j ≠ 13 → j ≠ 20 → j ≠ 24 → j ≠ 21 → j ≠ 25 → j ≠ 22 → j ≠ 26 → j ≠ 23 → j ≠ 27 → ct_337 j = ct j := fun j a0 a1 a2 a3 a4 a5 a6 a7 a8 a9 a10 a11 a12 a13 a14 a15 a16 a17 a18 a19 a20 a21 => by rw [ect_337]; exact (kw_up_n a12).trans (hfr_336 j a0 a1 a2 a3 a4 a5 a6 a7 a8 a9 a10 a11 a12 a13 a14 a15 a16 a17 a18 a19 a20 a21)
  refine kg_putF (v := .ref (ad 12)) (ty := .object "BetMaker$Trace") (C := RX10) (T := TX10) (N := 9) (fs' := [.ref (ad 1), .ref (ad 3), .int 0, .ref (ad 4), .ref (ad 9), .ref (ad 11), .ref (ad 12), .null, .int 0]) hx hb hts hinX10 tyX10 tyX10_ok nmX10 hown hK hw h_349 rfl 6 (by decide) (hts (.fieldLink RX10 47 "BetMaker" "trace" "LBetMaker$Trace;") (by decide +kernel)) (fun _ h9 => h9) rfl hin2 rfl (by decide +kernel) rfl rfl (Nat.le_of_ble_eq_true rfl) rfl dX10_init_62 (fun H locs hw => ?_)
  obtain ⟨ct_361, ect_361⟩ : ∃ z, z = kw_up ct_337 0 (.inr (10, [.ref (ad 1), .ref (ad 3), .int 0, .ref (ad 4), .ref (ad 9), .ref (ad 11), .ref (ad 12), .null, .int 0])) := ⟨_, rfl⟩
  rw [← ect_361] at hw
  have h_362 : ct_361 1 = some (.inr (3, [.ref (ad 2), .int 0, .int 0, .long 0, .long 0, .int 0])) := by rw [ect_361, kw_up_n (by omega)]; exact h_338
  have h_363 : ct_361 2 = some (eJ tc 8 (fun _ => 0)) := by rw [ect_361, kw_up_n (by omega)]; exact h_339
  have h_364 : ct_361 3 = some (eQ tc 4 6 (fun _ => none)) := by rw [ect_361, kw_up_n (by omega)]; exact h_340
  have h_365 : ct_361 4 = some (.inr (0, [.ref (ad 5), .ref (ad 6), .ref (ad 7), .ref (ad 8), .int (nI 0), .int 0, .int 0, .int (kb (false = true))])) := by rw [ect_361, kw_up_n (by omega)]; exact h_341
  have h_366 : ct_361 5 = some (eQ tc 3 6 (fun _ => none)) := by rw [ect_361, kw_up_n (by omega)]; exact h_342
  have h_367 : ct_361 6 = some (eI tc 6 (fun _ => 0)) := by rw [ect_361, kw_up_n (by omega)]; exact h_343
  have h_368 : ct_361 7 = some (eI tc 6 (fun _ => 0)) := by rw [ect_361, kw_up_n (by omega)]; exact h_344
  have h_369 : ct_361 8 = some (eI tc 8 (fun _ => 0)) := by rw [ect_361, kw_up_n (by omega)]; exact h_345
  have h_370 : ct_361 9 = some (.inr (2, [.ref (ad 10), .int (nI 0)])) := by rw [ect_361, kw_up_n (by omega)]; exact h_346
  have h_371 : ct_361 10 = some (eQ tc 2 40 (fun _ => none)) := by rw [ect_361, kw_up_n (by omega)]; exact h_347
  have h_372 : ct_361 11 = some (eQ tc 5 4 (fun _ => none)) := by rw [ect_361, kw_up_n (by omega)]; exact h_348
  have h_373 : ct_361 12 = some (.inr (8, [.int 0])) := by rw [ect_361, kw_up_n (by omega)]; exact h_350
  have h_374 : ct_361 0 = some (.inr (10, [.ref (ad 1), .ref (ad 3), .int 0, .ref (ad 4), .ref (ad 9), .ref (ad 11), .ref (ad 12), .null, .int 0])) := by rw [ect_361]; exact kw_up_s
  have h_375 : ct_361 13 = none := by rw [ect_361, kw_up_n (by omega)]; exact h_351
  have h_376 : ct_361 20 = none := by rw [ect_361, kw_up_n (by omega)]; exact h_352
  have h_377 : ct_361 24 = none := by rw [ect_361, kw_up_n (by omega)]; exact h_353
  have h_378 : ct_361 21 = none := by rw [ect_361, kw_up_n (by omega)]; exact h_354
  have h_379 : ct_361 25 = none := by rw [ect_361, kw_up_n (by omega)]; exact h_355
  have h_380 : ct_361 22 = none := by rw [ect_361, kw_up_n (by omega)]; exact h_356
  have h_381 : ct_361 26 = none := by rw [ect_361, kw_up_n (by omega)]; exact h_357
  have h_382 : ct_361 23 = none := by rw [ect_361, kw_up_n (by omega)]; exact h_358
  have h_383 : ct_361 27 = none := by rw [ect_361, kw_up_n (by omega)]; exact h_359
  have hfr_384 : ∀ j, j ≠ 0 → j ≠ 1 → j ≠ 2 → j ≠ 3 → j ≠ 4 → j ≠ 5 → j ≠ 6 → j ≠ 7 → j ≠ 8 → j ≠ 9 → j ≠ 10 → j ≠ 11 → j ≠ 12 → j ≠ 13 → j ≠ 20 → j ≠ 24 → j ≠ 21 → j ≠ 25 → j ≠ 22 → j ≠ 26 → j ≠ 23 → j ≠ 27 → ct_361 j = ct j := fun j a0 a1 a2 a3 a4 a5 a6 a7 a8 a9 a10 a11 a12 a13 a14 a15 a16 a17 a18 a19 a20 a21 => by rw [ect_361]; exact (kw_up_n a0).trans (hfr_360 j a0 a1 a2 a3 a4 a5 a6 a7 a8 a9 a10 a11 a12 a13 a14 a15 a16 a17 a18 a19 a20 a21)
  refine lv_aload_n hx hb dX10_init_65 rfl (lv_at hl 0 rfl) ?_
  refine lv_bipush (v := 8) hx hb dX10_init_66 (by decide) ?_
  refine kg_newi hx hb (hts (.arrayClass .int) (by decide +kernel)) hK hw hA 13 h_375 hk13a 8 rfl (by omega) (Nat.le_of_ble_eq_true rfl) (Nat.le_of_ble_eq_true rfl) dX10_init_68 (fun H hw => ?_)
  obtain ⟨ct_385, ect_385⟩ : ∃ z, z = kw_up ct_361 13 (eI tc 8 (fun _ => 0)) := ⟨_, rfl⟩
  rw [← ect_385] at hw
  have h_386 : ct_385 1 = some (.inr (3, [.ref (ad 2), .int 0, .int 0, .long 0, .long 0, .int 0])) := by rw [ect_385, kw_up_n (by omega)]; exact h_362
  have h_387 : ct_385 2 = some (eJ tc 8 (fun _ => 0)) := by rw [ect_385, kw_up_n (by omega)]; exact h_363
  have h_388 : ct_385 3 = some (eQ tc 4 6 (fun _ => none)) := by rw [ect_385, kw_up_n (by omega)]; exact h_364
  have h_389 : ct_385 4 = some (.inr (0, [.ref (ad 5), .ref (ad 6), .ref (ad 7), .ref (ad 8), .int (nI 0), .int 0, .int 0, .int (kb (false = true))])) := by rw [ect_385, kw_up_n (by omega)]; exact h_365
  have h_390 : ct_385 5 = some (eQ tc 3 6 (fun _ => none)) := by rw [ect_385, kw_up_n (by omega)]; exact h_366
  have h_391 : ct_385 6 = some (eI tc 6 (fun _ => 0)) := by rw [ect_385, kw_up_n (by omega)]; exact h_367
  have h_392 : ct_385 7 = some (eI tc 6 (fun _ => 0)) := by rw [ect_385, kw_up_n (by omega)]; exact h_368
  have h_393 : ct_385 8 = some (eI tc 8 (fun _ => 0)) := by rw [ect_385, kw_up_n (by omega)]; exact h_369
  have h_394 : ct_385 9 = some (.inr (2, [.ref (ad 10), .int (nI 0)])) := by rw [ect_385, kw_up_n (by omega)]; exact h_370
  have h_395 : ct_385 10 = some (eQ tc 2 40 (fun _ => none)) := by rw [ect_385, kw_up_n (by omega)]; exact h_371
  have h_396 : ct_385 11 = some (eQ tc 5 4 (fun _ => none)) := by rw [ect_385, kw_up_n (by omega)]; exact h_372
  have h_397 : ct_385 12 = some (.inr (8, [.int 0])) := by rw [ect_385, kw_up_n (by omega)]; exact h_373
  have h_398 : ct_385 0 = some (.inr (10, [.ref (ad 1), .ref (ad 3), .int 0, .ref (ad 4), .ref (ad 9), .ref (ad 11), .ref (ad 12), .null, .int 0])) := by rw [ect_385, kw_up_n (by omega)]; exact h_374
  have h_399 : ct_385 13 = some (eI tc 8 (fun _ => 0)) := by rw [ect_385]; exact kw_up_s
  have h_400 : ct_385 20 = none := by rw [ect_385, kw_up_n (by omega)]; exact h_376
  have h_401 : ct_385 24 = none := by rw [ect_385, kw_up_n (by omega)]; exact h_377
  have h_402 : ct_385 21 = none := by rw [ect_385, kw_up_n (by omega)]; exact h_378
  have h_403 : ct_385 25 = none := by rw [ect_385, kw_up_n (by omega)]; exact h_379
  have h_404 : ct_385 22 = none := by rw [ect_385, kw_up_n (by omega)]; exact h_380
  have h_405 : ct_385 26 = none := by rw [ect_385, kw_up_n (by omega)]; exact h_381
  have h_406 : ct_385 23 = none := by rw [ect_385, kw_up_n (by omega)]; exact h_382
  have h_407 : ct_385 27 = none := by rw [ect_385, kw_up_n (by omega)]; exact h_383
  have hfr_408 : ∀ j, j ≠ 0 → j ≠ 1 → j ≠ 2 → j ≠ 3 → j ≠ 4 → j ≠ 5 → j ≠ 6 → j ≠ 7 → j ≠ 8 → j ≠ 9 → j ≠ 10 → j ≠ 11 → j ≠ 12 → j ≠ 13 → j ≠ 20 → j ≠ 24 → j ≠ 21 → j ≠ 25 → j ≠ 22 → j ≠ 26 → j ≠ 23 → j ≠ 27 → ct_385 j = ct j := fun j a0 a1 a2 a3 a4 a5 a6 a7 a8 a9 a10 a11 a12 a13 a14 a15 a16 a17 a18 a19 a20 a21 => by rw [ect_385]; exact (kw_up_n a13).trans (hfr_384 j a0 a1 a2 a3 a4 a5 a6 a7 a8 a9 a10 a11 a12 a13 a14 a15 a16 a17 a18 a19 a20 a21)
  refine kg_putF (v := .ref (ad 13)) (ty := .array .int) (C := RX10) (T := TX10) (N := 9) (fs' := [.ref (ad 1), .ref (ad 3), .int 0, .ref (ad 4), .ref (ad 9), .ref (ad 11), .ref (ad 12), .ref (ad 13), .int 0]) hx hb hts hinX10 tyX10 tyX10_ok nmX10 hown hK hw h_398 rfl 7 (by decide) (hts (.fieldLink RX10 51 "BetMaker" "taken" "[I") (by decide +kernel)) (fun _ h9 => h9) rfl hin2 rfl (by decide +kernel) rfl rfl (Nat.le_of_ble_eq_true rfl) rfl dX10_init_70 (fun H locs hw => ?_)
  obtain ⟨ct_409, ect_409⟩ : ∃ z, z = kw_up ct_385 0 (.inr (10, [.ref (ad 1), .ref (ad 3), .int 0, .ref (ad 4), .ref (ad 9), .ref (ad 11), .ref (ad 12), .ref (ad 13), .int 0])) := ⟨_, rfl⟩
  rw [← ect_409] at hw
  have h_410 : ct_409 1 = some (.inr (3, [.ref (ad 2), .int 0, .int 0, .long 0, .long 0, .int 0])) := by rw [ect_409, kw_up_n (by omega)]; exact h_386
  have h_411 : ct_409 2 = some (eJ tc 8 (fun _ => 0)) := by rw [ect_409, kw_up_n (by omega)]; exact h_387
  have h_412 : ct_409 3 = some (eQ tc 4 6 (fun _ => none)) := by rw [ect_409, kw_up_n (by omega)]; exact h_388
  have h_413 : ct_409 4 = some (.inr (0, [.ref (ad 5), .ref (ad 6), .ref (ad 7), .ref (ad 8), .int (nI 0), .int 0, .int 0, .int (kb (false = true))])) := by rw [ect_409, kw_up_n (by omega)]; exact h_389
  have h_414 : ct_409 5 = some (eQ tc 3 6 (fun _ => none)) := by rw [ect_409, kw_up_n (by omega)]; exact h_390
  have h_415 : ct_409 6 = some (eI tc 6 (fun _ => 0)) := by rw [ect_409, kw_up_n (by omega)]; exact h_391
  have h_416 : ct_409 7 = some (eI tc 6 (fun _ => 0)) := by rw [ect_409, kw_up_n (by omega)]; exact h_392
  have h_417 : ct_409 8 = some (eI tc 8 (fun _ => 0)) := by rw [ect_409, kw_up_n (by omega)]; exact h_393
  have h_418 : ct_409 9 = some (.inr (2, [.ref (ad 10), .int (nI 0)])) := by rw [ect_409, kw_up_n (by omega)]; exact h_394
  have h_419 : ct_409 10 = some (eQ tc 2 40 (fun _ => none)) := by rw [ect_409, kw_up_n (by omega)]; exact h_395
  have h_420 : ct_409 11 = some (eQ tc 5 4 (fun _ => none)) := by rw [ect_409, kw_up_n (by omega)]; exact h_396
  have h_421 : ct_409 12 = some (.inr (8, [.int 0])) := by rw [ect_409, kw_up_n (by omega)]; exact h_397
  have h_422 : ct_409 13 = some (eI tc 8 (fun _ => 0)) := by rw [ect_409, kw_up_n (by omega)]; exact h_399
  have h_423 : ct_409 0 = some (.inr (10, [.ref (ad 1), .ref (ad 3), .int 0, .ref (ad 4), .ref (ad 9), .ref (ad 11), .ref (ad 12), .ref (ad 13), .int 0])) := by rw [ect_409]; exact kw_up_s
  have h_424 : ct_409 20 = none := by rw [ect_409, kw_up_n (by omega)]; exact h_400
  have h_425 : ct_409 24 = none := by rw [ect_409, kw_up_n (by omega)]; exact h_401
  have h_426 : ct_409 21 = none := by rw [ect_409, kw_up_n (by omega)]; exact h_402
  have h_427 : ct_409 25 = none := by rw [ect_409, kw_up_n (by omega)]; exact h_403
  have h_428 : ct_409 22 = none := by rw [ect_409, kw_up_n (by omega)]; exact h_404
  have h_429 : ct_409 26 = none := by rw [ect_409, kw_up_n (by omega)]; exact h_405
  have h_430 : ct_409 23 = none := by rw [ect_409, kw_up_n (by omega)]; exact h_406
  have h_431 : ct_409 27 = none := by rw [ect_409, kw_up_n (by omega)]; exact h_407
  have hfr_432 : ∀ j, j ≠ 0 → j ≠ 1 → j ≠ 2 → j ≠ 3 → j ≠ 4 → j ≠ 5 → j ≠ 6 → j ≠ 7 → j ≠ 8 → j ≠ 9 → j ≠ 10 → j ≠ 11 → j ≠ 12 → j ≠ 13 → j ≠ 20 → j ≠ 24 → j ≠ 21 → j ≠ 25 → j ≠ 22 → j ≠ 26 → j ≠ 23 → j ≠ 27 → ct_409 j = ct j := fun j a0 a1 a2 a3 a4 a5 a6 a7 a8 a9 a10 a11 a12 a13 a14 a15 a16 a17 a18 a19 a20 a21 => by rw [ect_409]; exact (kw_up_n a0).trans (hfr_408 j a0 a1 a2 a3 a4 a5 a6 a7 a8 a9 a10 a11 a12 a13 a14 a15 a16 a17 a18 a19 a20 a21)
  refine lv_iconst (v := 0) hx hb dX10_init_73 (by decide) ?_
  refine lv_istore_n (lv' := [(1, .int 0), (0, .ref (ad 0))]) hx hb dX10_init_74 rfl hl (by decide) rfl (fun ls hl => ?_)
  refine lv_iload_n hx hb dX10_init_75 rfl (lv_at hl 0 rfl) ?_
  refine lv_iconst (v := 4) hx hb dX10_init_76 (by decide) ?_
  refine kn_ge 0 4 rfl rfl (by omega) (by omega) (tgt := 99) hx hb dX10_init_77 (by decide) (fun c_433 => ?_) (fun c_433 => ?_)
  · exfalso; omega
  · refine lv_aload_n hx hb dX10_init_80 rfl (lv_at hl 1 rfl) ?_
    refine kg_get (v := .ref (ad 11)) (C := RX10) (T := TX10) (N := 9) hx hb hts hinX10 hown hK hw h_423 rfl 5 (by decide) (hts (.fieldLink RX10 40 "BetMaker" "sheets" "[LBetMaker$Sheet;") (by decide +kernel)) (fun _ h9 => h9) rfl dX10_init_81 ?_
    refine lv_iload_n hx hb dX10_init_84 rfl (lv_at hl 0 rfl) ?_
    refine kg_new (ci := 6) (C := RX6) (T := TX6) (N := 4) (fs := [.null, .int 0, .int 0, .int 0]) hx hb hts hinX6 tyX6 tyX6_ok hown (hts (.classLink RX10 38 RX6) (by decide +kernel)) (hts (.instantiable RX6 4) (by decide +kernel)) (hts (.initialized RX6) (by decide +kernel)) hK hw hA 20 h_424 hk20a rfl (fun j hj => by rcases (show j = 0 ∨ j = 1 ∨ j = 2 ∨ j = 3 by omega) with rfl | rfl | rfl | rfl <;> rfl) (Nat.le_of_ble_eq_true rfl) (Nat.le_of_ble_eq_true rfl) dX10_init_85 (fun H hw => ?_)
    obtain ⟨ct_434, ect_434⟩ : ∃ z, z = kw_up ct_409 20 (.inr (6, [.null, .int 0, .int 0, .int 0])) := ⟨_, rfl⟩
    rw [← ect_434] at hw
    have h_435 : ct_434 1 = some (.inr (3, [.ref (ad 2), .int 0, .int 0, .long 0, .long 0, .int 0])) := by rw [ect_434, kw_up_n (by omega)]; exact h_410
    have h_436 : ct_434 2 = some (eJ tc 8 (fun _ => 0)) := by rw [ect_434, kw_up_n (by omega)]; exact h_411
    have h_437 : ct_434 3 = some (eQ tc 4 6 (fun _ => none)) := by rw [ect_434, kw_up_n (by omega)]; exact h_412
    have h_438 : ct_434 4 = some (.inr (0, [.ref (ad 5), .ref (ad 6), .ref (ad 7), .ref (ad 8), .int (nI 0), .int 0, .int 0, .int (kb (false = true))])) := by rw [ect_434, kw_up_n (by omega)]; exact h_413
    have h_439 : ct_434 5 = some (eQ tc 3 6 (fun _ => none)) := by rw [ect_434, kw_up_n (by omega)]; exact h_414
    have h_440 : ct_434 6 = some (eI tc 6 (fun _ => 0)) := by rw [ect_434, kw_up_n (by omega)]; exact h_415
    have h_441 : ct_434 7 = some (eI tc 6 (fun _ => 0)) := by rw [ect_434, kw_up_n (by omega)]; exact h_416
    have h_442 : ct_434 8 = some (eI tc 8 (fun _ => 0)) := by rw [ect_434, kw_up_n (by omega)]; exact h_417
    have h_443 : ct_434 9 = some (.inr (2, [.ref (ad 10), .int (nI 0)])) := by rw [ect_434, kw_up_n (by omega)]; exact h_418
    have h_444 : ct_434 10 = some (eQ tc 2 40 (fun _ => none)) := by rw [ect_434, kw_up_n (by omega)]; exact h_419
    have h_445 : ct_434 11 = some (eQ tc 5 4 (fun _ => none)) := by rw [ect_434, kw_up_n (by omega)]; exact h_420
    have h_446 : ct_434 12 = some (.inr (8, [.int 0])) := by rw [ect_434, kw_up_n (by omega)]; exact h_421
    have h_447 : ct_434 13 = some (eI tc 8 (fun _ => 0)) := by rw [ect_434, kw_up_n (by omega)]; exact h_422
    have h_448 : ct_434 0 = some (.inr (10, [.ref (ad 1), .ref (ad 3), .int 0, .ref (ad 4), .ref (ad 9), .ref (ad 11), .ref (ad 12), .ref (ad 13), .int 0])) := by rw [ect_434, kw_up_n (by omega)]; exact h_423
    have h_449 : ct_434 20 = some (.inr (6, [.null, .int 0, .int 0, .int 0])) := by rw [ect_434]; exact kw_up_s
    have h_450 : ct_434 24 = none := by rw [ect_434, kw_up_n (by omega)]; exact h_425
    have h_451 : ct_434 21 = none := by rw [ect_434, kw_up_n (by omega)]; exact h_426
    have h_452 : ct_434 25 = none := by rw [ect_434, kw_up_n (by omega)]; exact h_427
    have h_453 : ct_434 22 = none := by rw [ect_434, kw_up_n (by omega)]; exact h_428
    have h_454 : ct_434 26 = none := by rw [ect_434, kw_up_n (by omega)]; exact h_429
    have h_455 : ct_434 23 = none := by rw [ect_434, kw_up_n (by omega)]; exact h_430
    have h_456 : ct_434 27 = none := by rw [ect_434, kw_up_n (by omega)]; exact h_431
    have hfr_457 : ∀ j, j ≠ 0 → j ≠ 1 → j ≠ 2 → j ≠ 3 → j ≠ 4 → j ≠ 5 → j ≠ 6 → j ≠ 7 → j ≠ 8 → j ≠ 9 → j ≠ 10 → j ≠ 11 → j ≠ 12 → j ≠ 13 → j ≠ 20 → j ≠ 24 → j ≠ 21 → j ≠ 25 → j ≠ 22 → j ≠ 26 → j ≠ 23 → j ≠ 27 → ct_434 j = ct j := fun j a0 a1 a2 a3 a4 a5 a6 a7 a8 a9 a10 a11 a12 a13 a14 a15 a16 a17 a18 a19 a20 a21 => by rw [ect_434]; exact (kw_up_n a14).trans (hfr_432 j a0 a1 a2 a3 a4 a5 a6 a7 a8 a9 a10 a11 a12 a13 a14 a15 a16 a17 a18 a19 a20 a21)
    refine lv_dup hx hb dX10_init_88 rfl ?_
    refine kc_iu (As := []) (rest := [.ref (ad 20), .int 0, .ref (ad 11)]) S0 (c_X6_init l D tc (s.heap.size + 14) ad ct_434 h_449 h_450 hk24a) (cwI 0 hts gX10_init_X6_init rfl rfl rfl (hts (.initialized RX6) (by decide +kernel)) (hts (.methodLink RX10 55 yX6_init) (by decide +kernel)) (hts (.instanceMethod yX6_init) (by decide +kernel)) rfl (by decide +kernel) ⟨Nat.le_of_ble_eq_true rfl, Nat.le_of_ble_eq_true rfl⟩) hK hw hA rfl hl.1 rfl (Nat.le_of_ble_eq_true rfl) dX10_init_89 ⟨Nat.le_of_ble_eq_true rfl, (Nat.le_of_ble_eq_true rfl)⟩ (fun H locs hw => ?_)
    obtain ⟨ct_458, ect_458⟩ : ∃ z, z = kw_up (kw_up ct_434 20 (.inr (6, [.ref (ad 24), .int (kb (false = true)), .int 0, .int (nI 0)]))) 24 (eI tc 24 (fun _ => 0)) := ⟨_, rfl⟩
    rw [← ect_458] at hw
    have h_459 : ct_458 1 = some (.inr (3, [.ref (ad 2), .int 0, .int 0, .long 0, .long 0, .int 0])) := by rw [ect_458, kw_up_n (by omega), kw_up_n (by omega)]; exact h_435
    have h_460 : ct_458 2 = some (eJ tc 8 (fun _ => 0)) := by rw [ect_458, kw_up_n (by omega), kw_up_n (by omega)]; exact h_436
    have h_461 : ct_458 3 = some (eQ tc 4 6 (fun _ => none)) := by rw [ect_458, kw_up_n (by omega), kw_up_n (by omega)]; exact h_437
    have h_462 : ct_458 4 = some (.inr (0, [.ref (ad 5), .ref (ad 6), .ref (ad 7), .ref (ad 8), .int (nI 0), .int 0, .int 0, .int (kb (false = true))])) := by rw [ect_458, kw_up_n (by omega), kw_up_n (by omega)]; exact h_438
    have h_463 : ct_458 5 = some (eQ tc 3 6 (fun _ => none)) := by rw [ect_458, kw_up_n (by omega), kw_up_n (by omega)]; exact h_439
    have h_464 : ct_458 6 = some (eI tc 6 (fun _ => 0)) := by rw [ect_458, kw_up_n (by omega), kw_up_n (by omega)]; exact h_440
    have h_465 : ct_458 7 = some (eI tc 6 (fun _ => 0)) := by rw [ect_458, kw_up_n (by omega), kw_up_n (by omega)]; exact h_441
    have h_466 : ct_458 8 = some (eI tc 8 (fun _ => 0)) := by rw [ect_458, kw_up_n (by omega), kw_up_n (by omega)]; exact h_442
    have h_467 : ct_458 9 = some (.inr (2, [.ref (ad 10), .int (nI 0)])) := by rw [ect_458, kw_up_n (by omega), kw_up_n (by omega)]; exact h_443
    have h_468 : ct_458 10 = some (eQ tc 2 40 (fun _ => none)) := by rw [ect_458, kw_up_n (by omega), kw_up_n (by omega)]; exact h_444
    have h_469 : ct_458 11 = some (eQ tc 5 4 (fun _ => none)) := by rw [ect_458, kw_up_n (by omega), kw_up_n (by omega)]; exact h_445
    have h_470 : ct_458 12 = some (.inr (8, [.int 0])) := by rw [ect_458, kw_up_n (by omega), kw_up_n (by omega)]; exact h_446
    have h_471 : ct_458 13 = some (eI tc 8 (fun _ => 0)) := by rw [ect_458, kw_up_n (by omega), kw_up_n (by omega)]; exact h_447
    have h_472 : ct_458 0 = some (.inr (10, [.ref (ad 1), .ref (ad 3), .int 0, .ref (ad 4), .ref (ad 9), .ref (ad 11), .ref (ad 12), .ref (ad 13), .int 0])) := by rw [ect_458, kw_up_n (by omega), kw_up_n (by omega)]; exact h_448
    have h_473 : ct_458 20 = some (.inr (6, [.ref (ad 24), .int (kb (false = true)), .int 0, .int (nI 0)])) := by rw [ect_458, kw_up_n (by omega)]; exact kw_up_s
    have h_474 : ct_458 24 = some (eI tc 24 (fun _ => 0)) := by rw [ect_458]; exact kw_up_s
    have h_475 : ct_458 21 = none := by rw [ect_458, kw_up_n (by omega), kw_up_n (by omega)]; exact h_451
    have h_476 : ct_458 25 = none := by rw [ect_458, kw_up_n (by omega), kw_up_n (by omega)]; exact h_452
    have h_477 : ct_458 22 = none := by rw [ect_458, kw_up_n (by omega), kw_up_n (by omega)]; exact h_453
    have h_478 : ct_458 26 = none := by rw [ect_458, kw_up_n (by omega), kw_up_n (by omega)]; exact h_454
    have h_479 : ct_458 23 = none := by rw [ect_458, kw_up_n (by omega), kw_up_n (by omega)]; exact h_455
    have h_480 : ct_458 27 = none := by rw [ect_458, kw_up_n (by omega), kw_up_n (by omega)]; exact h_456
    have hfr_481 : ∀ j, j ≠ 0 → j ≠ 1 → j ≠ 2 → j ≠ 3 → j ≠ 4 → j ≠ 5 → j ≠ 6 → j ≠ 7 → j ≠ 8 → j ≠ 9 → j ≠ 10 → j ≠ 11 → j ≠ 12 → j ≠ 13 → j ≠ 20 → j ≠ 24 → j ≠ 21 → j ≠ 25 → j ≠ 22 → j ≠ 26 → j ≠ 23 → j ≠ 27 → ct_458 j = ct j := fun j a0 a1 a2 a3 a4 a5 a6 a7 a8 a9 a10 a11 a12 a13 a14 a15 a16 a17 a18 a19 a20 a21 => by rw [ect_458]; exact (kw_up_n a15).trans ((kw_up_n a14).trans (hfr_457 j a0 a1 a2 a3 a4 a5 a6 a7 a8 a9 a10 a11 a12 a13 a14 a15 a16 a17 a18 a19 a20 a21))
    refine kg_aast (r := (RX6, TX6, 4)) hx hb hK hw 5 h_469 rfl h_473 rfl (Or.inl rfl) 0 rfl (by omega) (by omega) dX10_init_92 (fun H locs hw => ?_)
    obtain ⟨ct_482, ect_482⟩ : ∃ z, z = kw_up ct_458 11 (eQ tc 5 4 (va_up (fun _ => none) 0 (some (ad 20)))) := ⟨_, rfl⟩
    rw [← ect_482] at hw
    have h_483 : ct_482 1 = some (.inr (3, [.ref (ad 2), .int 0, .int 0, .long 0, .long 0, .int 0])) := by rw [ect_482, kw_up_n (by omega)]; exact h_459
    have h_484 : ct_482 2 = some (eJ tc 8 (fun _ => 0)) := by rw [ect_482, kw_up_n (by omega)]; exact h_460
    have h_485 : ct_482 3 = some (eQ tc 4 6 (fun _ => none)) := by rw [ect_482, kw_up_n (by omega)]; exact h_461
    have h_486 : ct_482 4 = some (.inr (0, [.ref (ad 5), .ref (ad 6), .ref (ad 7), .ref (ad 8), .int (nI 0), .int 0, .int 0, .int (kb (false = true))])) := by rw [ect_482, kw_up_n (by omega)]; exact h_462
    have h_487 : ct_482 5 = some (eQ tc 3 6 (fun _ => none)) := by rw [ect_482, kw_up_n (by omega)]; exact h_463
    have h_488 : ct_482 6 = some (eI tc 6 (fun _ => 0)) := by rw [ect_482, kw_up_n (by omega)]; exact h_464
    have h_489 : ct_482 7 = some (eI tc 6 (fun _ => 0)) := by rw [ect_482, kw_up_n (by omega)]; exact h_465
    have h_490 : ct_482 8 = some (eI tc 8 (fun _ => 0)) := by rw [ect_482, kw_up_n (by omega)]; exact h_466
    have h_491 : ct_482 9 = some (.inr (2, [.ref (ad 10), .int (nI 0)])) := by rw [ect_482, kw_up_n (by omega)]; exact h_467
    have h_492 : ct_482 10 = some (eQ tc 2 40 (fun _ => none)) := by rw [ect_482, kw_up_n (by omega)]; exact h_468
    have h_493 : ct_482 12 = some (.inr (8, [.int 0])) := by rw [ect_482, kw_up_n (by omega)]; exact h_470
    have h_494 : ct_482 13 = some (eI tc 8 (fun _ => 0)) := by rw [ect_482, kw_up_n (by omega)]; exact h_471
    have h_495 : ct_482 0 = some (.inr (10, [.ref (ad 1), .ref (ad 3), .int 0, .ref (ad 4), .ref (ad 9), .ref (ad 11), .ref (ad 12), .ref (ad 13), .int 0])) := by rw [ect_482, kw_up_n (by omega)]; exact h_472
    have h_496 : ct_482 20 = some (.inr (6, [.ref (ad 24), .int (kb (false = true)), .int 0, .int (nI 0)])) := by rw [ect_482, kw_up_n (by omega)]; exact h_473
    have h_497 : ct_482 24 = some (eI tc 24 (fun _ => 0)) := by rw [ect_482, kw_up_n (by omega)]; exact h_474
    have h_498 : ct_482 11 = some (eQ tc 5 4 (va_up (fun _ => none) 0 (some (ad 20)))) := by rw [ect_482]; exact kw_up_s
    have h_499 : ct_482 21 = none := by rw [ect_482, kw_up_n (by omega)]; exact h_475
    have h_500 : ct_482 25 = none := by rw [ect_482, kw_up_n (by omega)]; exact h_476
    have h_501 : ct_482 22 = none := by rw [ect_482, kw_up_n (by omega)]; exact h_477
    have h_502 : ct_482 26 = none := by rw [ect_482, kw_up_n (by omega)]; exact h_478
    have h_503 : ct_482 23 = none := by rw [ect_482, kw_up_n (by omega)]; exact h_479
    have h_504 : ct_482 27 = none := by rw [ect_482, kw_up_n (by omega)]; exact h_480
    have hfr_505 : ∀ j, j ≠ 0 → j ≠ 1 → j ≠ 2 → j ≠ 3 → j ≠ 4 → j ≠ 5 → j ≠ 6 → j ≠ 7 → j ≠ 8 → j ≠ 9 → j ≠ 10 → j ≠ 11 → j ≠ 12 → j ≠ 13 → j ≠ 20 → j ≠ 24 → j ≠ 21 → j ≠ 25 → j ≠ 22 → j ≠ 26 → j ≠ 23 → j ≠ 27 → ct_482 j = ct j := fun j a0 a1 a2 a3 a4 a5 a6 a7 a8 a9 a10 a11 a12 a13 a14 a15 a16 a17 a18 a19 a20 a21 => by rw [ect_482]; exact (kw_up_n a11).trans (hfr_481 j a0 a1 a2 a3 a4 a5 a6 a7 a8 a9 a10 a11 a12 a13 a14 a15 a16 a17 a18 a19 a20 a21)
    refine lv_iinc (v := 1) (lv' := [(1, .int 1), (0, .ref (ad 0))]) hx hb dX10_init_93 hl (k := 0) rfl rfl (by decide) rfl (fun ls hl => ?_)
    refine lv_goto (tgt := 75) hx hb dX10_init_96 (by decide) ?_
    refine lv_iload_n hx hb dX10_init_75 rfl (lv_at hl 0 rfl) ?_
    refine lv_iconst (v := 4) hx hb dX10_init_76 (by decide) ?_
    refine kn_ge 1 4 rfl rfl (by omega) (by omega) (tgt := 99) hx hb dX10_init_77 (by decide) (fun c_506 => ?_) (fun c_506 => ?_)
    · exfalso; omega
    · refine lv_aload_n hx hb dX10_init_80 rfl (lv_at hl 1 rfl) ?_
      refine kg_get (v := .ref (ad 11)) (C := RX10) (T := TX10) (N := 9) hx hb hts hinX10 hown hK hw h_495 rfl 5 (by decide) (hts (.fieldLink RX10 40 "BetMaker" "sheets" "[LBetMaker$Sheet;") (by decide +kernel)) (fun _ h9 => h9) rfl dX10_init_81 ?_
      refine lv_iload_n hx hb dX10_init_84 rfl (lv_at hl 0 rfl) ?_
      refine kg_new (ci := 6) (C := RX6) (T := TX6) (N := 4) (fs := [.null, .int 0, .int 0, .int 0]) hx hb hts hinX6 tyX6 tyX6_ok hown (hts (.classLink RX10 38 RX6) (by decide +kernel)) (hts (.instantiable RX6 4) (by decide +kernel)) (hts (.initialized RX6) (by decide +kernel)) hK hw hA 21 h_499 hk21a rfl (fun j hj => by rcases (show j = 0 ∨ j = 1 ∨ j = 2 ∨ j = 3 by omega) with rfl | rfl | rfl | rfl <;> rfl) (Nat.le_of_ble_eq_true rfl) (Nat.le_of_ble_eq_true rfl) dX10_init_85 (fun H hw => ?_)
      obtain ⟨ct_507, ect_507⟩ : ∃ z, z = kw_up ct_482 21 (.inr (6, [.null, .int 0, .int 0, .int 0])) := ⟨_, rfl⟩
      rw [← ect_507] at hw
      have h_508 : ct_507 1 = some (.inr (3, [.ref (ad 2), .int 0, .int 0, .long 0, .long 0, .int 0])) := by rw [ect_507, kw_up_n (by omega)]; exact h_483
      have h_509 : ct_507 2 = some (eJ tc 8 (fun _ => 0)) := by rw [ect_507, kw_up_n (by omega)]; exact h_484
      have h_510 : ct_507 3 = some (eQ tc 4 6 (fun _ => none)) := by rw [ect_507, kw_up_n (by omega)]; exact h_485
      have h_511 : ct_507 4 = some (.inr (0, [.ref (ad 5), .ref (ad 6), .ref (ad 7), .ref (ad 8), .int (nI 0), .int 0, .int 0, .int (kb (false = true))])) := by rw [ect_507, kw_up_n (by omega)]; exact h_486
      have h_512 : ct_507 5 = some (eQ tc 3 6 (fun _ => none)) := by rw [ect_507, kw_up_n (by omega)]; exact h_487
      have h_513 : ct_507 6 = some (eI tc 6 (fun _ => 0)) := by rw [ect_507, kw_up_n (by omega)]; exact h_488
      have h_514 : ct_507 7 = some (eI tc 6 (fun _ => 0)) := by rw [ect_507, kw_up_n (by omega)]; exact h_489
      have h_515 : ct_507 8 = some (eI tc 8 (fun _ => 0)) := by rw [ect_507, kw_up_n (by omega)]; exact h_490
      have h_516 : ct_507 9 = some (.inr (2, [.ref (ad 10), .int (nI 0)])) := by rw [ect_507, kw_up_n (by omega)]; exact h_491
      have h_517 : ct_507 10 = some (eQ tc 2 40 (fun _ => none)) := by rw [ect_507, kw_up_n (by omega)]; exact h_492
      have h_518 : ct_507 12 = some (.inr (8, [.int 0])) := by rw [ect_507, kw_up_n (by omega)]; exact h_493
      have h_519 : ct_507 13 = some (eI tc 8 (fun _ => 0)) := by rw [ect_507, kw_up_n (by omega)]; exact h_494
      have h_520 : ct_507 0 = some (.inr (10, [.ref (ad 1), .ref (ad 3), .int 0, .ref (ad 4), .ref (ad 9), .ref (ad 11), .ref (ad 12), .ref (ad 13), .int 0])) := by rw [ect_507, kw_up_n (by omega)]; exact h_495
      have h_521 : ct_507 20 = some (.inr (6, [.ref (ad 24), .int (kb (false = true)), .int 0, .int (nI 0)])) := by rw [ect_507, kw_up_n (by omega)]; exact h_496
      have h_522 : ct_507 24 = some (eI tc 24 (fun _ => 0)) := by rw [ect_507, kw_up_n (by omega)]; exact h_497
      have h_523 : ct_507 11 = some (eQ tc 5 4 (va_up (fun _ => none) 0 (some (ad 20)))) := by rw [ect_507, kw_up_n (by omega)]; exact h_498
      have h_524 : ct_507 21 = some (.inr (6, [.null, .int 0, .int 0, .int 0])) := by rw [ect_507]; exact kw_up_s
      have h_525 : ct_507 25 = none := by rw [ect_507, kw_up_n (by omega)]; exact h_500
      have h_526 : ct_507 22 = none := by rw [ect_507, kw_up_n (by omega)]; exact h_501
      have h_527 : ct_507 26 = none := by rw [ect_507, kw_up_n (by omega)]; exact h_502
      have h_528 : ct_507 23 = none := by rw [ect_507, kw_up_n (by omega)]; exact h_503
      have h_529 : ct_507 27 = none := by rw [ect_507, kw_up_n (by omega)]; exact h_504
      have hfr_530 : ∀ j, j ≠ 0 → j ≠ 1 → j ≠ 2 → j ≠ 3 → j ≠ 4 → j ≠ 5 → j ≠ 6 → j ≠ 7 → j ≠ 8 → j ≠ 9 → j ≠ 10 → j ≠ 11 → j ≠ 12 → j ≠ 13 → j ≠ 20 → j ≠ 24 → j ≠ 21 → j ≠ 25 → j ≠ 22 → j ≠ 26 → j ≠ 23 → j ≠ 27 → ct_507 j = ct j := fun j a0 a1 a2 a3 a4 a5 a6 a7 a8 a9 a10 a11 a12 a13 a14 a15 a16 a17 a18 a19 a20 a21 => by rw [ect_507]; exact (kw_up_n a16).trans (hfr_505 j a0 a1 a2 a3 a4 a5 a6 a7 a8 a9 a10 a11 a12 a13 a14 a15 a16 a17 a18 a19 a20 a21)
      refine lv_dup hx hb dX10_init_88 rfl ?_
      refine kc_iu (As := []) (rest := [.ref (ad 21), .int 1, .ref (ad 11)]) S0 (c_X6_init l D tc (s.heap.size + 16) ad ct_507 h_524 h_525 hk25a) (cwI 0 hts gX10_init_X6_init rfl rfl rfl (hts (.initialized RX6) (by decide +kernel)) (hts (.methodLink RX10 55 yX6_init) (by decide +kernel)) (hts (.instanceMethod yX6_init) (by decide +kernel)) rfl (by decide +kernel) ⟨Nat.le_of_ble_eq_true rfl, Nat.le_of_ble_eq_true rfl⟩) hK hw hA rfl hl.1 rfl (Nat.le_of_ble_eq_true rfl) dX10_init_89 ⟨Nat.le_of_ble_eq_true rfl, (Nat.le_of_ble_eq_true rfl)⟩ (fun H locs hw => ?_)
      obtain ⟨ct_531, ect_531⟩ : ∃ z, z = kw_up (kw_up ct_507 21 (.inr (6, [.ref (ad 25), .int (kb (false = true)), .int 0, .int (nI 0)]))) 25 (eI tc 24 (fun _ => 0)) := ⟨_, rfl⟩
      rw [← ect_531] at hw
      have h_532 : ct_531 1 = some (.inr (3, [.ref (ad 2), .int 0, .int 0, .long 0, .long 0, .int 0])) := by rw [ect_531, kw_up_n (by omega), kw_up_n (by omega)]; exact h_508
      have h_533 : ct_531 2 = some (eJ tc 8 (fun _ => 0)) := by rw [ect_531, kw_up_n (by omega), kw_up_n (by omega)]; exact h_509
      have h_534 : ct_531 3 = some (eQ tc 4 6 (fun _ => none)) := by rw [ect_531, kw_up_n (by omega), kw_up_n (by omega)]; exact h_510
      have h_535 : ct_531 4 = some (.inr (0, [.ref (ad 5), .ref (ad 6), .ref (ad 7), .ref (ad 8), .int (nI 0), .int 0, .int 0, .int (kb (false = true))])) := by rw [ect_531, kw_up_n (by omega), kw_up_n (by omega)]; exact h_511
      have h_536 : ct_531 5 = some (eQ tc 3 6 (fun _ => none)) := by rw [ect_531, kw_up_n (by omega), kw_up_n (by omega)]; exact h_512
      have h_537 : ct_531 6 = some (eI tc 6 (fun _ => 0)) := by rw [ect_531, kw_up_n (by omega), kw_up_n (by omega)]; exact h_513
      have h_538 : ct_531 7 = some (eI tc 6 (fun _ => 0)) := by rw [ect_531, kw_up_n (by omega), kw_up_n (by omega)]; exact h_514
      have h_539 : ct_531 8 = some (eI tc 8 (fun _ => 0)) := by rw [ect_531, kw_up_n (by omega), kw_up_n (by omega)]; exact h_515
      have h_540 : ct_531 9 = some (.inr (2, [.ref (ad 10), .int (nI 0)])) := by rw [ect_531, kw_up_n (by omega), kw_up_n (by omega)]; exact h_516
      have h_541 : ct_531 10 = some (eQ tc 2 40 (fun _ => none)) := by rw [ect_531, kw_up_n (by omega), kw_up_n (by omega)]; exact h_517
      have h_542 : ct_531 12 = some (.inr (8, [.int 0])) := by rw [ect_531, kw_up_n (by omega), kw_up_n (by omega)]; exact h_518
      have h_543 : ct_531 13 = some (eI tc 8 (fun _ => 0)) := by rw [ect_531, kw_up_n (by omega), kw_up_n (by omega)]; exact h_519
      have h_544 : ct_531 0 = some (.inr (10, [.ref (ad 1), .ref (ad 3), .int 0, .ref (ad 4), .ref (ad 9), .ref (ad 11), .ref (ad 12), .ref (ad 13), .int 0])) := by rw [ect_531, kw_up_n (by omega), kw_up_n (by omega)]; exact h_520
      have h_545 : ct_531 20 = some (.inr (6, [.ref (ad 24), .int (kb (false = true)), .int 0, .int (nI 0)])) := by rw [ect_531, kw_up_n (by omega), kw_up_n (by omega)]; exact h_521
      have h_546 : ct_531 24 = some (eI tc 24 (fun _ => 0)) := by rw [ect_531, kw_up_n (by omega), kw_up_n (by omega)]; exact h_522
      have h_547 : ct_531 11 = some (eQ tc 5 4 (va_up (fun _ => none) 0 (some (ad 20)))) := by rw [ect_531, kw_up_n (by omega), kw_up_n (by omega)]; exact h_523
      have h_548 : ct_531 21 = some (.inr (6, [.ref (ad 25), .int (kb (false = true)), .int 0, .int (nI 0)])) := by rw [ect_531, kw_up_n (by omega)]; exact kw_up_s
      have h_549 : ct_531 25 = some (eI tc 24 (fun _ => 0)) := by rw [ect_531]; exact kw_up_s
      have h_550 : ct_531 22 = none := by rw [ect_531, kw_up_n (by omega), kw_up_n (by omega)]; exact h_526
      have h_551 : ct_531 26 = none := by rw [ect_531, kw_up_n (by omega), kw_up_n (by omega)]; exact h_527
      have h_552 : ct_531 23 = none := by rw [ect_531, kw_up_n (by omega), kw_up_n (by omega)]; exact h_528
      have h_553 : ct_531 27 = none := by rw [ect_531, kw_up_n (by omega), kw_up_n (by omega)]; exact h_529
      have hfr_554 : ∀ j, j ≠ 0 → j ≠ 1 → j ≠ 2 → j ≠ 3 → j ≠ 4 → j ≠ 5 → j ≠ 6 → j ≠ 7 → j ≠ 8 → j ≠ 9 → j ≠ 10 → j ≠ 11 → j ≠ 12 → j ≠ 13 → j ≠ 20 → j ≠ 24 → j ≠ 21 → j ≠ 25 → j ≠ 22 → j ≠ 26 → j ≠ 23 → j ≠ 27 → ct_531 j = ct j := fun j a0 a1 a2 a3 a4 a5 a6 a7 a8 a9 a10 a11 a12 a13 a14 a15 a16 a17 a18 a19 a20 a21 => by rw [ect_531]; exact (kw_up_n a17).trans ((kw_up_n a16).trans (hfr_530 j a0 a1 a2 a3 a4 a5 a6 a7 a8 a9 a10 a11 a12 a13 a14 a15 a16 a17 a18 a19 a20 a21))
      refine kg_aast (r := (RX6, TX6, 4)) hx hb hK hw 5 h_547 rfl h_548 rfl (Or.inl rfl) 1 rfl (by omega) (by omega) dX10_init_92 (fun H locs hw => ?_)
      obtain ⟨ct_555, ect_555⟩ : ∃ z, z = kw_up ct_531 11 (eQ tc 5 4 (va_up (va_up (fun _ => none) 0 (some (ad 20))) 1 (some (ad 21)))) := ⟨_, rfl⟩
      rw [← ect_555] at hw
      have h_556 : ct_555 1 = some (.inr (3, [.ref (ad 2), .int 0, .int 0, .long 0, .long 0, .int 0])) := by rw [ect_555, kw_up_n (by omega)]; exact h_532
      have h_557 : ct_555 2 = some (eJ tc 8 (fun _ => 0)) := by rw [ect_555, kw_up_n (by omega)]; exact h_533
      have h_558 : ct_555 3 = some (eQ tc 4 6 (fun _ => none)) := by rw [ect_555, kw_up_n (by omega)]; exact h_534
      have h_559 : ct_555 4 = some (.inr (0, [.ref (ad 5), .ref (ad 6), .ref (ad 7), .ref (ad 8), .int (nI 0), .int 0, .int 0, .int (kb (false = true))])) := by rw [ect_555, kw_up_n (by omega)]; exact h_535
      have h_560 : ct_555 5 = some (eQ tc 3 6 (fun _ => none)) := by rw [ect_555, kw_up_n (by omega)]; exact h_536
      have h_561 : ct_555 6 = some (eI tc 6 (fun _ => 0)) := by rw [ect_555, kw_up_n (by omega)]; exact h_537
      have h_562 : ct_555 7 = some (eI tc 6 (fun _ => 0)) := by rw [ect_555, kw_up_n (by omega)]; exact h_538
      have h_563 : ct_555 8 = some (eI tc 8 (fun _ => 0)) := by rw [ect_555, kw_up_n (by omega)]; exact h_539
      have h_564 : ct_555 9 = some (.inr (2, [.ref (ad 10), .int (nI 0)])) := by rw [ect_555, kw_up_n (by omega)]; exact h_540
      have h_565 : ct_555 10 = some (eQ tc 2 40 (fun _ => none)) := by rw [ect_555, kw_up_n (by omega)]; exact h_541
      have h_566 : ct_555 12 = some (.inr (8, [.int 0])) := by rw [ect_555, kw_up_n (by omega)]; exact h_542
      have h_567 : ct_555 13 = some (eI tc 8 (fun _ => 0)) := by rw [ect_555, kw_up_n (by omega)]; exact h_543
      have h_568 : ct_555 0 = some (.inr (10, [.ref (ad 1), .ref (ad 3), .int 0, .ref (ad 4), .ref (ad 9), .ref (ad 11), .ref (ad 12), .ref (ad 13), .int 0])) := by rw [ect_555, kw_up_n (by omega)]; exact h_544
      have h_569 : ct_555 20 = some (.inr (6, [.ref (ad 24), .int (kb (false = true)), .int 0, .int (nI 0)])) := by rw [ect_555, kw_up_n (by omega)]; exact h_545
      have h_570 : ct_555 24 = some (eI tc 24 (fun _ => 0)) := by rw [ect_555, kw_up_n (by omega)]; exact h_546
      have h_571 : ct_555 21 = some (.inr (6, [.ref (ad 25), .int (kb (false = true)), .int 0, .int (nI 0)])) := by rw [ect_555, kw_up_n (by omega)]; exact h_548
      have h_572 : ct_555 25 = some (eI tc 24 (fun _ => 0)) := by rw [ect_555, kw_up_n (by omega)]; exact h_549
      have h_573 : ct_555 11 = some (eQ tc 5 4 (va_up (va_up (fun _ => none) 0 (some (ad 20))) 1 (some (ad 21)))) := by rw [ect_555]; exact kw_up_s
      have h_574 : ct_555 22 = none := by rw [ect_555, kw_up_n (by omega)]; exact h_550
      have h_575 : ct_555 26 = none := by rw [ect_555, kw_up_n (by omega)]; exact h_551
      have h_576 : ct_555 23 = none := by rw [ect_555, kw_up_n (by omega)]; exact h_552
      have h_577 : ct_555 27 = none := by rw [ect_555, kw_up_n (by omega)]; exact h_553
      have hfr_578 : ∀ j, j ≠ 0 → j ≠ 1 → j ≠ 2 → j ≠ 3 → j ≠ 4 → j ≠ 5 → j ≠ 6 → j ≠ 7 → j ≠ 8 → j ≠ 9 → j ≠ 10 → j ≠ 11 → j ≠ 12 → j ≠ 13 → j ≠ 20 → j ≠ 24 → j ≠ 21 → j ≠ 25 → j ≠ 22 → j ≠ 26 → j ≠ 23 → j ≠ 27 → ct_555 j = ct j := fun j a0 a1 a2 a3 a4 a5 a6 a7 a8 a9 a10 a11 a12 a13 a14 a15 a16 a17 a18 a19 a20 a21 => by rw [ect_555]; exact (kw_up_n a11).trans (hfr_554 j a0 a1 a2 a3 a4 a5 a6 a7 a8 a9 a10 a11 a12 a13 a14 a15 a16 a17 a18 a19 a20 a21)
      refine lv_iinc (v := 2) (lv' := [(1, .int 2), (0, .ref (ad 0))]) hx hb dX10_init_93 hl (k := 0) rfl rfl (by decide) rfl (fun ls hl => ?_)
      refine lv_goto (tgt := 75) hx hb dX10_init_96 (by decide) ?_
      refine lv_iload_n hx hb dX10_init_75 rfl (lv_at hl 0 rfl) ?_
      refine lv_iconst (v := 4) hx hb dX10_init_76 (by decide) ?_
      refine kn_ge 2 4 rfl rfl (by omega) (by omega) (tgt := 99) hx hb dX10_init_77 (by decide) (fun c_579 => ?_) (fun c_579 => ?_)
      · exfalso; omega
      · refine lv_aload_n hx hb dX10_init_80 rfl (lv_at hl 1 rfl) ?_
        refine kg_get (v := .ref (ad 11)) (C := RX10) (T := TX10) (N := 9) hx hb hts hinX10 hown hK hw h_568 rfl 5 (by decide) (hts (.fieldLink RX10 40 "BetMaker" "sheets" "[LBetMaker$Sheet;") (by decide +kernel)) (fun _ h9 => h9) rfl dX10_init_81 ?_
        refine lv_iload_n hx hb dX10_init_84 rfl (lv_at hl 0 rfl) ?_
        refine kg_new (ci := 6) (C := RX6) (T := TX6) (N := 4) (fs := [.null, .int 0, .int 0, .int 0]) hx hb hts hinX6 tyX6 tyX6_ok hown (hts (.classLink RX10 38 RX6) (by decide +kernel)) (hts (.instantiable RX6 4) (by decide +kernel)) (hts (.initialized RX6) (by decide +kernel)) hK hw hA 22 h_574 hk22a rfl (fun j hj => by rcases (show j = 0 ∨ j = 1 ∨ j = 2 ∨ j = 3 by omega) with rfl | rfl | rfl | rfl <;> rfl) (Nat.le_of_ble_eq_true rfl) (Nat.le_of_ble_eq_true rfl) dX10_init_85 (fun H hw => ?_)
        obtain ⟨ct_580, ect_580⟩ : ∃ z, z = kw_up ct_555 22 (.inr (6, [.null, .int 0, .int 0, .int 0])) := ⟨_, rfl⟩
        rw [← ect_580] at hw
        have h_581 : ct_580 1 = some (.inr (3, [.ref (ad 2), .int 0, .int 0, .long 0, .long 0, .int 0])) := by rw [ect_580, kw_up_n (by omega)]; exact h_556
        have h_582 : ct_580 2 = some (eJ tc 8 (fun _ => 0)) := by rw [ect_580, kw_up_n (by omega)]; exact h_557
        have h_583 : ct_580 3 = some (eQ tc 4 6 (fun _ => none)) := by rw [ect_580, kw_up_n (by omega)]; exact h_558
        have h_584 : ct_580 4 = some (.inr (0, [.ref (ad 5), .ref (ad 6), .ref (ad 7), .ref (ad 8), .int (nI 0), .int 0, .int 0, .int (kb (false = true))])) := by rw [ect_580, kw_up_n (by omega)]; exact h_559
        have h_585 : ct_580 5 = some (eQ tc 3 6 (fun _ => none)) := by rw [ect_580, kw_up_n (by omega)]; exact h_560
        have h_586 : ct_580 6 = some (eI tc 6 (fun _ => 0)) := by rw [ect_580, kw_up_n (by omega)]; exact h_561
        have h_587 : ct_580 7 = some (eI tc 6 (fun _ => 0)) := by rw [ect_580, kw_up_n (by omega)]; exact h_562
        have h_588 : ct_580 8 = some (eI tc 8 (fun _ => 0)) := by rw [ect_580, kw_up_n (by omega)]; exact h_563
        have h_589 : ct_580 9 = some (.inr (2, [.ref (ad 10), .int (nI 0)])) := by rw [ect_580, kw_up_n (by omega)]; exact h_564
        have h_590 : ct_580 10 = some (eQ tc 2 40 (fun _ => none)) := by rw [ect_580, kw_up_n (by omega)]; exact h_565
        have h_591 : ct_580 12 = some (.inr (8, [.int 0])) := by rw [ect_580, kw_up_n (by omega)]; exact h_566
        have h_592 : ct_580 13 = some (eI tc 8 (fun _ => 0)) := by rw [ect_580, kw_up_n (by omega)]; exact h_567
        have h_593 : ct_580 0 = some (.inr (10, [.ref (ad 1), .ref (ad 3), .int 0, .ref (ad 4), .ref (ad 9), .ref (ad 11), .ref (ad 12), .ref (ad 13), .int 0])) := by rw [ect_580, kw_up_n (by omega)]; exact h_568
        have h_594 : ct_580 20 = some (.inr (6, [.ref (ad 24), .int (kb (false = true)), .int 0, .int (nI 0)])) := by rw [ect_580, kw_up_n (by omega)]; exact h_569
        have h_595 : ct_580 24 = some (eI tc 24 (fun _ => 0)) := by rw [ect_580, kw_up_n (by omega)]; exact h_570
        have h_596 : ct_580 21 = some (.inr (6, [.ref (ad 25), .int (kb (false = true)), .int 0, .int (nI 0)])) := by rw [ect_580, kw_up_n (by omega)]; exact h_571
        have h_597 : ct_580 25 = some (eI tc 24 (fun _ => 0)) := by rw [ect_580, kw_up_n (by omega)]; exact h_572
        have h_598 : ct_580 11 = some (eQ tc 5 4 (va_up (va_up (fun _ => none) 0 (some (ad 20))) 1 (some (ad 21)))) := by rw [ect_580, kw_up_n (by omega)]; exact h_573
        have h_599 : ct_580 22 = some (.inr (6, [.null, .int 0, .int 0, .int 0])) := by rw [ect_580]; exact kw_up_s
        have h_600 : ct_580 26 = none := by rw [ect_580, kw_up_n (by omega)]; exact h_575
        have h_601 : ct_580 23 = none := by rw [ect_580, kw_up_n (by omega)]; exact h_576
        have h_602 : ct_580 27 = none := by rw [ect_580, kw_up_n (by omega)]; exact h_577
        have hfr_603 : ∀ j, j ≠ 0 → j ≠ 1 → j ≠ 2 → j ≠ 3 → j ≠ 4 → j ≠ 5 → j ≠ 6 → j ≠ 7 → j ≠ 8 → j ≠ 9 → j ≠ 10 → j ≠ 11 → j ≠ 12 → j ≠ 13 → j ≠ 20 → j ≠ 24 → j ≠ 21 → j ≠ 25 → j ≠ 22 → j ≠ 26 → j ≠ 23 → j ≠ 27 → ct_580 j = ct j := fun j a0 a1 a2 a3 a4 a5 a6 a7 a8 a9 a10 a11 a12 a13 a14 a15 a16 a17 a18 a19 a20 a21 => by rw [ect_580]; exact (kw_up_n a18).trans (hfr_578 j a0 a1 a2 a3 a4 a5 a6 a7 a8 a9 a10 a11 a12 a13 a14 a15 a16 a17 a18 a19 a20 a21)
        refine lv_dup hx hb dX10_init_88 rfl ?_
        refine kc_iu (As := []) (rest := [.ref (ad 22), .int 2, .ref (ad 11)]) S0 (c_X6_init l D tc (s.heap.size + 18) ad ct_580 h_599 h_600 hk26a) (cwI 0 hts gX10_init_X6_init rfl rfl rfl (hts (.initialized RX6) (by decide +kernel)) (hts (.methodLink RX10 55 yX6_init) (by decide +kernel)) (hts (.instanceMethod yX6_init) (by decide +kernel)) rfl (by decide +kernel) ⟨Nat.le_of_ble_eq_true rfl, Nat.le_of_ble_eq_true rfl⟩) hK hw hA rfl hl.1 rfl (Nat.le_of_ble_eq_true rfl) dX10_init_89 ⟨Nat.le_of_ble_eq_true rfl, (Nat.le_of_ble_eq_true rfl)⟩ (fun H locs hw => ?_)
        obtain ⟨ct_604, ect_604⟩ : ∃ z, z = kw_up (kw_up ct_580 22 (.inr (6, [.ref (ad 26), .int (kb (false = true)), .int 0, .int (nI 0)]))) 26 (eI tc 24 (fun _ => 0)) := ⟨_, rfl⟩
        rw [← ect_604] at hw
        have h_605 : ct_604 1 = some (.inr (3, [.ref (ad 2), .int 0, .int 0, .long 0, .long 0, .int 0])) := by rw [ect_604, kw_up_n (by omega), kw_up_n (by omega)]; exact h_581
        have h_606 : ct_604 2 = some (eJ tc 8 (fun _ => 0)) := by rw [ect_604, kw_up_n (by omega), kw_up_n (by omega)]; exact h_582
        have h_607 : ct_604 3 = some (eQ tc 4 6 (fun _ => none)) := by rw [ect_604, kw_up_n (by omega), kw_up_n (by omega)]; exact h_583
        have h_608 : ct_604 4 = some (.inr (0, [.ref (ad 5), .ref (ad 6), .ref (ad 7), .ref (ad 8), .int (nI 0), .int 0, .int 0, .int (kb (false = true))])) := by rw [ect_604, kw_up_n (by omega), kw_up_n (by omega)]; exact h_584
        have h_609 : ct_604 5 = some (eQ tc 3 6 (fun _ => none)) := by rw [ect_604, kw_up_n (by omega), kw_up_n (by omega)]; exact h_585
        have h_610 : ct_604 6 = some (eI tc 6 (fun _ => 0)) := by rw [ect_604, kw_up_n (by omega), kw_up_n (by omega)]; exact h_586
        have h_611 : ct_604 7 = some (eI tc 6 (fun _ => 0)) := by rw [ect_604, kw_up_n (by omega), kw_up_n (by omega)]; exact h_587
        have h_612 : ct_604 8 = some (eI tc 8 (fun _ => 0)) := by rw [ect_604, kw_up_n (by omega), kw_up_n (by omega)]; exact h_588
        have h_613 : ct_604 9 = some (.inr (2, [.ref (ad 10), .int (nI 0)])) := by rw [ect_604, kw_up_n (by omega), kw_up_n (by omega)]; exact h_589
        have h_614 : ct_604 10 = some (eQ tc 2 40 (fun _ => none)) := by rw [ect_604, kw_up_n (by omega), kw_up_n (by omega)]; exact h_590
        have h_615 : ct_604 12 = some (.inr (8, [.int 0])) := by rw [ect_604, kw_up_n (by omega), kw_up_n (by omega)]; exact h_591
        have h_616 : ct_604 13 = some (eI tc 8 (fun _ => 0)) := by rw [ect_604, kw_up_n (by omega), kw_up_n (by omega)]; exact h_592
        have h_617 : ct_604 0 = some (.inr (10, [.ref (ad 1), .ref (ad 3), .int 0, .ref (ad 4), .ref (ad 9), .ref (ad 11), .ref (ad 12), .ref (ad 13), .int 0])) := by rw [ect_604, kw_up_n (by omega), kw_up_n (by omega)]; exact h_593
        have h_618 : ct_604 20 = some (.inr (6, [.ref (ad 24), .int (kb (false = true)), .int 0, .int (nI 0)])) := by rw [ect_604, kw_up_n (by omega), kw_up_n (by omega)]; exact h_594
        have h_619 : ct_604 24 = some (eI tc 24 (fun _ => 0)) := by rw [ect_604, kw_up_n (by omega), kw_up_n (by omega)]; exact h_595
        have h_620 : ct_604 21 = some (.inr (6, [.ref (ad 25), .int (kb (false = true)), .int 0, .int (nI 0)])) := by rw [ect_604, kw_up_n (by omega), kw_up_n (by omega)]; exact h_596
        have h_621 : ct_604 25 = some (eI tc 24 (fun _ => 0)) := by rw [ect_604, kw_up_n (by omega), kw_up_n (by omega)]; exact h_597
        have h_622 : ct_604 11 = some (eQ tc 5 4 (va_up (va_up (fun _ => none) 0 (some (ad 20))) 1 (some (ad 21)))) := by rw [ect_604, kw_up_n (by omega), kw_up_n (by omega)]; exact h_598
        have h_623 : ct_604 22 = some (.inr (6, [.ref (ad 26), .int (kb (false = true)), .int 0, .int (nI 0)])) := by rw [ect_604, kw_up_n (by omega)]; exact kw_up_s
        have h_624 : ct_604 26 = some (eI tc 24 (fun _ => 0)) := by rw [ect_604]; exact kw_up_s
        have h_625 : ct_604 23 = none := by rw [ect_604, kw_up_n (by omega), kw_up_n (by omega)]; exact h_601
        have h_626 : ct_604 27 = none := by rw [ect_604, kw_up_n (by omega), kw_up_n (by omega)]; exact h_602
        have hfr_627 : ∀ j, j ≠ 0 → j ≠ 1 → j ≠ 2 → j ≠ 3 → j ≠ 4 → j ≠ 5 → j ≠ 6 → j ≠ 7 → j ≠ 8 → j ≠ 9 → j ≠ 10 → j ≠ 11 → j ≠ 12 → j ≠ 13 → j ≠ 20 → j ≠ 24 → j ≠ 21 → j ≠ 25 → j ≠ 22 → j ≠ 26 → j ≠ 23 → j ≠ 27 → ct_604 j = ct j := fun j a0 a1 a2 a3 a4 a5 a6 a7 a8 a9 a10 a11 a12 a13 a14 a15 a16 a17 a18 a19 a20 a21 => by rw [ect_604]; exact (kw_up_n a19).trans ((kw_up_n a18).trans (hfr_603 j a0 a1 a2 a3 a4 a5 a6 a7 a8 a9 a10 a11 a12 a13 a14 a15 a16 a17 a18 a19 a20 a21))
        refine kg_aast (r := (RX6, TX6, 4)) hx hb hK hw 5 h_622 rfl h_623 rfl (Or.inl rfl) 2 rfl (by omega) (by omega) dX10_init_92 (fun H locs hw => ?_)
        obtain ⟨ct_628, ect_628⟩ : ∃ z, z = kw_up ct_604 11 (eQ tc 5 4 (va_up (va_up (va_up (fun _ => none) 0 (some (ad 20))) 1 (some (ad 21))) 2 (some (ad 22)))) := ⟨_, rfl⟩
        rw [← ect_628] at hw
        have h_629 : ct_628 1 = some (.inr (3, [.ref (ad 2), .int 0, .int 0, .long 0, .long 0, .int 0])) := by rw [ect_628, kw_up_n (by omega)]; exact h_605
        have h_630 : ct_628 2 = some (eJ tc 8 (fun _ => 0)) := by rw [ect_628, kw_up_n (by omega)]; exact h_606
        have h_631 : ct_628 3 = some (eQ tc 4 6 (fun _ => none)) := by rw [ect_628, kw_up_n (by omega)]; exact h_607
        have h_632 : ct_628 4 = some (.inr (0, [.ref (ad 5), .ref (ad 6), .ref (ad 7), .ref (ad 8), .int (nI 0), .int 0, .int 0, .int (kb (false = true))])) := by rw [ect_628, kw_up_n (by omega)]; exact h_608
        have h_633 : ct_628 5 = some (eQ tc 3 6 (fun _ => none)) := by rw [ect_628, kw_up_n (by omega)]; exact h_609
        have h_634 : ct_628 6 = some (eI tc 6 (fun _ => 0)) := by rw [ect_628, kw_up_n (by omega)]; exact h_610
        have h_635 : ct_628 7 = some (eI tc 6 (fun _ => 0)) := by rw [ect_628, kw_up_n (by omega)]; exact h_611
        have h_636 : ct_628 8 = some (eI tc 8 (fun _ => 0)) := by rw [ect_628, kw_up_n (by omega)]; exact h_612
        have h_637 : ct_628 9 = some (.inr (2, [.ref (ad 10), .int (nI 0)])) := by rw [ect_628, kw_up_n (by omega)]; exact h_613
        have h_638 : ct_628 10 = some (eQ tc 2 40 (fun _ => none)) := by rw [ect_628, kw_up_n (by omega)]; exact h_614
        have h_639 : ct_628 12 = some (.inr (8, [.int 0])) := by rw [ect_628, kw_up_n (by omega)]; exact h_615
        have h_640 : ct_628 13 = some (eI tc 8 (fun _ => 0)) := by rw [ect_628, kw_up_n (by omega)]; exact h_616
        have h_641 : ct_628 0 = some (.inr (10, [.ref (ad 1), .ref (ad 3), .int 0, .ref (ad 4), .ref (ad 9), .ref (ad 11), .ref (ad 12), .ref (ad 13), .int 0])) := by rw [ect_628, kw_up_n (by omega)]; exact h_617
        have h_642 : ct_628 20 = some (.inr (6, [.ref (ad 24), .int (kb (false = true)), .int 0, .int (nI 0)])) := by rw [ect_628, kw_up_n (by omega)]; exact h_618
        have h_643 : ct_628 24 = some (eI tc 24 (fun _ => 0)) := by rw [ect_628, kw_up_n (by omega)]; exact h_619
        have h_644 : ct_628 21 = some (.inr (6, [.ref (ad 25), .int (kb (false = true)), .int 0, .int (nI 0)])) := by rw [ect_628, kw_up_n (by omega)]; exact h_620
        have h_645 : ct_628 25 = some (eI tc 24 (fun _ => 0)) := by rw [ect_628, kw_up_n (by omega)]; exact h_621
        have h_646 : ct_628 22 = some (.inr (6, [.ref (ad 26), .int (kb (false = true)), .int 0, .int (nI 0)])) := by rw [ect_628, kw_up_n (by omega)]; exact h_623
        have h_647 : ct_628 26 = some (eI tc 24 (fun _ => 0)) := by rw [ect_628, kw_up_n (by omega)]; exact h_624
        have h_648 : ct_628 11 = some (eQ tc 5 4 (va_up (va_up (va_up (fun _ => none) 0 (some (ad 20))) 1 (some (ad 21))) 2 (some (ad 22)))) := by rw [ect_628]; exact kw_up_s
        have h_649 : ct_628 23 = none := by rw [ect_628, kw_up_n (by omega)]; exact h_625
        have h_650 : ct_628 27 = none := by rw [ect_628, kw_up_n (by omega)]; exact h_626
        have hfr_651 : ∀ j, j ≠ 0 → j ≠ 1 → j ≠ 2 → j ≠ 3 → j ≠ 4 → j ≠ 5 → j ≠ 6 → j ≠ 7 → j ≠ 8 → j ≠ 9 → j ≠ 10 → j ≠ 11 → j ≠ 12 → j ≠ 13 → j ≠ 20 → j ≠ 24 → j ≠ 21 → j ≠ 25 → j ≠ 22 → j ≠ 26 → j ≠ 23 → j ≠ 27 → ct_628 j = ct j := fun j a0 a1 a2 a3 a4 a5 a6 a7 a8 a9 a10 a11 a12 a13 a14 a15 a16 a17 a18 a19 a20 a21 => by rw [ect_628]; exact (kw_up_n a11).trans (hfr_627 j a0 a1 a2 a3 a4 a5 a6 a7 a8 a9 a10 a11 a12 a13 a14 a15 a16 a17 a18 a19 a20 a21)
        refine lv_iinc (v := 3) (lv' := [(1, .int 3), (0, .ref (ad 0))]) hx hb dX10_init_93 hl (k := 0) rfl rfl (by decide) rfl (fun ls hl => ?_)
        refine lv_goto (tgt := 75) hx hb dX10_init_96 (by decide) ?_
        refine lv_iload_n hx hb dX10_init_75 rfl (lv_at hl 0 rfl) ?_
        refine lv_iconst (v := 4) hx hb dX10_init_76 (by decide) ?_
        refine kn_ge 3 4 rfl rfl (by omega) (by omega) (tgt := 99) hx hb dX10_init_77 (by decide) (fun c_652 => ?_) (fun c_652 => ?_)
        · exfalso; omega
        · refine lv_aload_n hx hb dX10_init_80 rfl (lv_at hl 1 rfl) ?_
          refine kg_get (v := .ref (ad 11)) (C := RX10) (T := TX10) (N := 9) hx hb hts hinX10 hown hK hw h_641 rfl 5 (by decide) (hts (.fieldLink RX10 40 "BetMaker" "sheets" "[LBetMaker$Sheet;") (by decide +kernel)) (fun _ h9 => h9) rfl dX10_init_81 ?_
          refine lv_iload_n hx hb dX10_init_84 rfl (lv_at hl 0 rfl) ?_
          refine kg_new (ci := 6) (C := RX6) (T := TX6) (N := 4) (fs := [.null, .int 0, .int 0, .int 0]) hx hb hts hinX6 tyX6 tyX6_ok hown (hts (.classLink RX10 38 RX6) (by decide +kernel)) (hts (.instantiable RX6 4) (by decide +kernel)) (hts (.initialized RX6) (by decide +kernel)) hK hw hA 23 h_649 hk23a rfl (fun j hj => by rcases (show j = 0 ∨ j = 1 ∨ j = 2 ∨ j = 3 by omega) with rfl | rfl | rfl | rfl <;> rfl) (Nat.le_of_ble_eq_true rfl) (Nat.le_of_ble_eq_true rfl) dX10_init_85 (fun H hw => ?_)
          obtain ⟨ct_653, ect_653⟩ : ∃ z, z = kw_up ct_628 23 (.inr (6, [.null, .int 0, .int 0, .int 0])) := ⟨_, rfl⟩
          rw [← ect_653] at hw
          have h_654 : ct_653 1 = some (.inr (3, [.ref (ad 2), .int 0, .int 0, .long 0, .long 0, .int 0])) := by rw [ect_653, kw_up_n (by omega)]; exact h_629
          have h_655 : ct_653 2 = some (eJ tc 8 (fun _ => 0)) := by rw [ect_653, kw_up_n (by omega)]; exact h_630
          have h_656 : ct_653 3 = some (eQ tc 4 6 (fun _ => none)) := by rw [ect_653, kw_up_n (by omega)]; exact h_631
          have h_657 : ct_653 4 = some (.inr (0, [.ref (ad 5), .ref (ad 6), .ref (ad 7), .ref (ad 8), .int (nI 0), .int 0, .int 0, .int (kb (false = true))])) := by rw [ect_653, kw_up_n (by omega)]; exact h_632
          have h_658 : ct_653 5 = some (eQ tc 3 6 (fun _ => none)) := by rw [ect_653, kw_up_n (by omega)]; exact h_633
          have h_659 : ct_653 6 = some (eI tc 6 (fun _ => 0)) := by rw [ect_653, kw_up_n (by omega)]; exact h_634
          have h_660 : ct_653 7 = some (eI tc 6 (fun _ => 0)) := by rw [ect_653, kw_up_n (by omega)]; exact h_635
          have h_661 : ct_653 8 = some (eI tc 8 (fun _ => 0)) := by rw [ect_653, kw_up_n (by omega)]; exact h_636
          have h_662 : ct_653 9 = some (.inr (2, [.ref (ad 10), .int (nI 0)])) := by rw [ect_653, kw_up_n (by omega)]; exact h_637
          have h_663 : ct_653 10 = some (eQ tc 2 40 (fun _ => none)) := by rw [ect_653, kw_up_n (by omega)]; exact h_638
          have h_664 : ct_653 12 = some (.inr (8, [.int 0])) := by rw [ect_653, kw_up_n (by omega)]; exact h_639
          have h_665 : ct_653 13 = some (eI tc 8 (fun _ => 0)) := by rw [ect_653, kw_up_n (by omega)]; exact h_640
          have h_666 : ct_653 0 = some (.inr (10, [.ref (ad 1), .ref (ad 3), .int 0, .ref (ad 4), .ref (ad 9), .ref (ad 11), .ref (ad 12), .ref (ad 13), .int 0])) := by rw [ect_653, kw_up_n (by omega)]; exact h_641
          have h_667 : ct_653 20 = some (.inr (6, [.ref (ad 24), .int (kb (false = true)), .int 0, .int (nI 0)])) := by rw [ect_653, kw_up_n (by omega)]; exact h_642
          have h_668 : ct_653 24 = some (eI tc 24 (fun _ => 0)) := by rw [ect_653, kw_up_n (by omega)]; exact h_643
          have h_669 : ct_653 21 = some (.inr (6, [.ref (ad 25), .int (kb (false = true)), .int 0, .int (nI 0)])) := by rw [ect_653, kw_up_n (by omega)]; exact h_644
          have h_670 : ct_653 25 = some (eI tc 24 (fun _ => 0)) := by rw [ect_653, kw_up_n (by omega)]; exact h_645
          have h_671 : ct_653 22 = some (.inr (6, [.ref (ad 26), .int (kb (false = true)), .int 0, .int (nI 0)])) := by rw [ect_653, kw_up_n (by omega)]; exact h_646
          have h_672 : ct_653 26 = some (eI tc 24 (fun _ => 0)) := by rw [ect_653, kw_up_n (by omega)]; exact h_647
          have h_673 : ct_653 11 = some (eQ tc 5 4 (va_up (va_up (va_up (fun _ => none) 0 (some (ad 20))) 1 (some (ad 21))) 2 (some (ad 22)))) := by rw [ect_653, kw_up_n (by omega)]; exact h_648
          have h_674 : ct_653 23 = some (.inr (6, [.null, .int 0, .int 0, .int 0])) := by rw [ect_653]; exact kw_up_s
          have h_675 : ct_653 27 = none := by rw [ect_653, kw_up_n (by omega)]; exact h_650
          have hfr_676 : ∀ j, j ≠ 0 → j ≠ 1 → j ≠ 2 → j ≠ 3 → j ≠ 4 → j ≠ 5 → j ≠ 6 → j ≠ 7 → j ≠ 8 → j ≠ 9 → j ≠ 10 → j ≠ 11 → j ≠ 12 → j ≠ 13 → j ≠ 20 → j ≠ 24 → j ≠ 21 → j ≠ 25 → j ≠ 22 → j ≠ 26 → j ≠ 23 → j ≠ 27 → ct_653 j = ct j := fun j a0 a1 a2 a3 a4 a5 a6 a7 a8 a9 a10 a11 a12 a13 a14 a15 a16 a17 a18 a19 a20 a21 => by rw [ect_653]; exact (kw_up_n a20).trans (hfr_651 j a0 a1 a2 a3 a4 a5 a6 a7 a8 a9 a10 a11 a12 a13 a14 a15 a16 a17 a18 a19 a20 a21)
          refine lv_dup hx hb dX10_init_88 rfl ?_
          refine kc_iu (As := []) (rest := [.ref (ad 23), .int 3, .ref (ad 11)]) S0 (c_X6_init l D tc (s.heap.size + 20) ad ct_653 h_674 h_675 hk27a) (cwI 0 hts gX10_init_X6_init rfl rfl rfl (hts (.initialized RX6) (by decide +kernel)) (hts (.methodLink RX10 55 yX6_init) (by decide +kernel)) (hts (.instanceMethod yX6_init) (by decide +kernel)) rfl (by decide +kernel) ⟨Nat.le_of_ble_eq_true rfl, Nat.le_of_ble_eq_true rfl⟩) hK hw hA rfl hl.1 rfl (Nat.le_of_ble_eq_true rfl) dX10_init_89 ⟨Nat.le_of_ble_eq_true rfl, (Nat.le_of_ble_eq_true rfl)⟩ (fun H locs hw => ?_)
          obtain ⟨ct_677, ect_677⟩ : ∃ z, z = kw_up (kw_up ct_653 23 (.inr (6, [.ref (ad 27), .int (kb (false = true)), .int 0, .int (nI 0)]))) 27 (eI tc 24 (fun _ => 0)) := ⟨_, rfl⟩
          rw [← ect_677] at hw
          have h_678 : ct_677 1 = some (.inr (3, [.ref (ad 2), .int 0, .int 0, .long 0, .long 0, .int 0])) := by rw [ect_677, kw_up_n (by omega), kw_up_n (by omega)]; exact h_654
          have h_679 : ct_677 2 = some (eJ tc 8 (fun _ => 0)) := by rw [ect_677, kw_up_n (by omega), kw_up_n (by omega)]; exact h_655
          have h_680 : ct_677 3 = some (eQ tc 4 6 (fun _ => none)) := by rw [ect_677, kw_up_n (by omega), kw_up_n (by omega)]; exact h_656
          have h_681 : ct_677 4 = some (.inr (0, [.ref (ad 5), .ref (ad 6), .ref (ad 7), .ref (ad 8), .int (nI 0), .int 0, .int 0, .int (kb (false = true))])) := by rw [ect_677, kw_up_n (by omega), kw_up_n (by omega)]; exact h_657
          have h_682 : ct_677 5 = some (eQ tc 3 6 (fun _ => none)) := by rw [ect_677, kw_up_n (by omega), kw_up_n (by omega)]; exact h_658
          have h_683 : ct_677 6 = some (eI tc 6 (fun _ => 0)) := by rw [ect_677, kw_up_n (by omega), kw_up_n (by omega)]; exact h_659
          have h_684 : ct_677 7 = some (eI tc 6 (fun _ => 0)) := by rw [ect_677, kw_up_n (by omega), kw_up_n (by omega)]; exact h_660
          have h_685 : ct_677 8 = some (eI tc 8 (fun _ => 0)) := by rw [ect_677, kw_up_n (by omega), kw_up_n (by omega)]; exact h_661
          have h_686 : ct_677 9 = some (.inr (2, [.ref (ad 10), .int (nI 0)])) := by rw [ect_677, kw_up_n (by omega), kw_up_n (by omega)]; exact h_662
          have h_687 : ct_677 10 = some (eQ tc 2 40 (fun _ => none)) := by rw [ect_677, kw_up_n (by omega), kw_up_n (by omega)]; exact h_663
          have h_688 : ct_677 12 = some (.inr (8, [.int 0])) := by rw [ect_677, kw_up_n (by omega), kw_up_n (by omega)]; exact h_664
          have h_689 : ct_677 13 = some (eI tc 8 (fun _ => 0)) := by rw [ect_677, kw_up_n (by omega), kw_up_n (by omega)]; exact h_665
          have h_690 : ct_677 0 = some (.inr (10, [.ref (ad 1), .ref (ad 3), .int 0, .ref (ad 4), .ref (ad 9), .ref (ad 11), .ref (ad 12), .ref (ad 13), .int 0])) := by rw [ect_677, kw_up_n (by omega), kw_up_n (by omega)]; exact h_666
          have h_691 : ct_677 20 = some (.inr (6, [.ref (ad 24), .int (kb (false = true)), .int 0, .int (nI 0)])) := by rw [ect_677, kw_up_n (by omega), kw_up_n (by omega)]; exact h_667
          have h_692 : ct_677 24 = some (eI tc 24 (fun _ => 0)) := by rw [ect_677, kw_up_n (by omega), kw_up_n (by omega)]; exact h_668
          have h_693 : ct_677 21 = some (.inr (6, [.ref (ad 25), .int (kb (false = true)), .int 0, .int (nI 0)])) := by rw [ect_677, kw_up_n (by omega), kw_up_n (by omega)]; exact h_669
          have h_694 : ct_677 25 = some (eI tc 24 (fun _ => 0)) := by rw [ect_677, kw_up_n (by omega), kw_up_n (by omega)]; exact h_670
          have h_695 : ct_677 22 = some (.inr (6, [.ref (ad 26), .int (kb (false = true)), .int 0, .int (nI 0)])) := by rw [ect_677, kw_up_n (by omega), kw_up_n (by omega)]; exact h_671
          have h_696 : ct_677 26 = some (eI tc 24 (fun _ => 0)) := by rw [ect_677, kw_up_n (by omega), kw_up_n (by omega)]; exact h_672
          have h_697 : ct_677 11 = some (eQ tc 5 4 (va_up (va_up (va_up (fun _ => none) 0 (some (ad 20))) 1 (some (ad 21))) 2 (some (ad 22)))) := by rw [ect_677, kw_up_n (by omega), kw_up_n (by omega)]; exact h_673
          have h_698 : ct_677 23 = some (.inr (6, [.ref (ad 27), .int (kb (false = true)), .int 0, .int (nI 0)])) := by rw [ect_677, kw_up_n (by omega)]; exact kw_up_s
          have h_699 : ct_677 27 = some (eI tc 24 (fun _ => 0)) := by rw [ect_677]; exact kw_up_s
          have hfr_700 : ∀ j, j ≠ 0 → j ≠ 1 → j ≠ 2 → j ≠ 3 → j ≠ 4 → j ≠ 5 → j ≠ 6 → j ≠ 7 → j ≠ 8 → j ≠ 9 → j ≠ 10 → j ≠ 11 → j ≠ 12 → j ≠ 13 → j ≠ 20 → j ≠ 24 → j ≠ 21 → j ≠ 25 → j ≠ 22 → j ≠ 26 → j ≠ 23 → j ≠ 27 → ct_677 j = ct j := fun j a0 a1 a2 a3 a4 a5 a6 a7 a8 a9 a10 a11 a12 a13 a14 a15 a16 a17 a18 a19 a20 a21 => by rw [ect_677]; exact (kw_up_n a21).trans ((kw_up_n a20).trans (hfr_676 j a0 a1 a2 a3 a4 a5 a6 a7 a8 a9 a10 a11 a12 a13 a14 a15 a16 a17 a18 a19 a20 a21))
          refine kg_aast (r := (RX6, TX6, 4)) hx hb hK hw 5 h_697 rfl h_698 rfl (Or.inl rfl) 3 rfl (by omega) (by omega) dX10_init_92 (fun H locs hw => ?_)
          obtain ⟨ct_701, ect_701⟩ : ∃ z, z = kw_up ct_677 11 (eQ tc 5 4 (va_up (va_up (va_up (va_up (fun _ => none) 0 (some (ad 20))) 1 (some (ad 21))) 2 (some (ad 22))) 3 (some (ad 23)))) := ⟨_, rfl⟩
          rw [← ect_701] at hw
          have h_702 : ct_701 1 = some (.inr (3, [.ref (ad 2), .int 0, .int 0, .long 0, .long 0, .int 0])) := by rw [ect_701, kw_up_n (by omega)]; exact h_678
          have h_703 : ct_701 2 = some (eJ tc 8 (fun _ => 0)) := by rw [ect_701, kw_up_n (by omega)]; exact h_679
          have h_704 : ct_701 3 = some (eQ tc 4 6 (fun _ => none)) := by rw [ect_701, kw_up_n (by omega)]; exact h_680
          have h_705 : ct_701 4 = some (.inr (0, [.ref (ad 5), .ref (ad 6), .ref (ad 7), .ref (ad 8), .int (nI 0), .int 0, .int 0, .int (kb (false = true))])) := by rw [ect_701, kw_up_n (by omega)]; exact h_681
          have h_706 : ct_701 5 = some (eQ tc 3 6 (fun _ => none)) := by rw [ect_701, kw_up_n (by omega)]; exact h_682
          have h_707 : ct_701 6 = some (eI tc 6 (fun _ => 0)) := by rw [ect_701, kw_up_n (by omega)]; exact h_683
          have h_708 : ct_701 7 = some (eI tc 6 (fun _ => 0)) := by rw [ect_701, kw_up_n (by omega)]; exact h_684
          have h_709 : ct_701 8 = some (eI tc 8 (fun _ => 0)) := by rw [ect_701, kw_up_n (by omega)]; exact h_685
          have h_710 : ct_701 9 = some (.inr (2, [.ref (ad 10), .int (nI 0)])) := by rw [ect_701, kw_up_n (by omega)]; exact h_686
          have h_711 : ct_701 10 = some (eQ tc 2 40 (fun _ => none)) := by rw [ect_701, kw_up_n (by omega)]; exact h_687
          have h_712 : ct_701 12 = some (.inr (8, [.int 0])) := by rw [ect_701, kw_up_n (by omega)]; exact h_688
          have h_713 : ct_701 13 = some (eI tc 8 (fun _ => 0)) := by rw [ect_701, kw_up_n (by omega)]; exact h_689
          have h_714 : ct_701 0 = some (.inr (10, [.ref (ad 1), .ref (ad 3), .int 0, .ref (ad 4), .ref (ad 9), .ref (ad 11), .ref (ad 12), .ref (ad 13), .int 0])) := by rw [ect_701, kw_up_n (by omega)]; exact h_690
          have h_715 : ct_701 20 = some (.inr (6, [.ref (ad 24), .int (kb (false = true)), .int 0, .int (nI 0)])) := by rw [ect_701, kw_up_n (by omega)]; exact h_691
          have h_716 : ct_701 24 = some (eI tc 24 (fun _ => 0)) := by rw [ect_701, kw_up_n (by omega)]; exact h_692
          have h_717 : ct_701 21 = some (.inr (6, [.ref (ad 25), .int (kb (false = true)), .int 0, .int (nI 0)])) := by rw [ect_701, kw_up_n (by omega)]; exact h_693
          have h_718 : ct_701 25 = some (eI tc 24 (fun _ => 0)) := by rw [ect_701, kw_up_n (by omega)]; exact h_694
          have h_719 : ct_701 22 = some (.inr (6, [.ref (ad 26), .int (kb (false = true)), .int 0, .int (nI 0)])) := by rw [ect_701, kw_up_n (by omega)]; exact h_695
          have h_720 : ct_701 26 = some (eI tc 24 (fun _ => 0)) := by rw [ect_701, kw_up_n (by omega)]; exact h_696
          have h_721 : ct_701 23 = some (.inr (6, [.ref (ad 27), .int (kb (false = true)), .int 0, .int (nI 0)])) := by rw [ect_701, kw_up_n (by omega)]; exact h_698
          have h_722 : ct_701 27 = some (eI tc 24 (fun _ => 0)) := by rw [ect_701, kw_up_n (by omega)]; exact h_699
          have h_723 : ct_701 11 = some (eQ tc 5 4 (va_up (va_up (va_up (va_up (fun _ => none) 0 (some (ad 20))) 1 (some (ad 21))) 2 (some (ad 22))) 3 (some (ad 23)))) := by rw [ect_701]; exact kw_up_s
          have hfr_724 : ∀ j, j ≠ 0 → j ≠ 1 → j ≠ 2 → j ≠ 3 → j ≠ 4 → j ≠ 5 → j ≠ 6 → j ≠ 7 → j ≠ 8 → j ≠ 9 → j ≠ 10 → j ≠ 11 → j ≠ 12 → j ≠ 13 → j ≠ 20 → j ≠ 24 → j ≠ 21 → j ≠ 25 → j ≠ 22 → j ≠ 26 → j ≠ 23 → j ≠ 27 → ct_701 j = ct j := fun j a0 a1 a2 a3 a4 a5 a6 a7 a8 a9 a10 a11 a12 a13 a14 a15 a16 a17 a18 a19 a20 a21 => by rw [ect_701]; exact (kw_up_n a11).trans (hfr_700 j a0 a1 a2 a3 a4 a5 a6 a7 a8 a9 a10 a11 a12 a13 a14 a15 a16 a17 a18 a19 a20 a21)
          refine lv_iinc (v := 4) (lv' := [(1, .int 4), (0, .ref (ad 0))]) hx hb dX10_init_93 hl (k := 0) rfl rfl (by decide) rfl (fun ls hl => ?_)
          refine lv_goto (tgt := 75) hx hb dX10_init_96 (by decide) ?_
          refine lv_iload_n hx hb dX10_init_75 rfl (lv_at hl 0 rfl) ?_
          refine lv_iconst (v := 4) hx hb dX10_init_76 (by decide) ?_
          refine kn_ge 4 4 rfl rfl (by omega) (by omega) (tgt := 99) hx hb dX10_init_77 (by decide) (fun c_725 => ?_) (fun c_725 => ?_)
          · refine lv_aload_n hx hb dX10_init_99 rfl (lv_at hl 1 rfl) ?_
            refine kg_get (v := .ref (ad 1)) (C := RX10) (T := TX10) (N := 9) hx hb hts hinX10 hown hK hw h_714 rfl 0 (by decide) (hts (.fieldLink RX10 12 "BetMaker" "maker" "LBetMaker$Maker;") (by decide +kernel)) (fun _ h9 => h9) rfl dX10_init_100 ?_
            refine lv_iconst (v := 2) hx hb dX10_init_103 (by decide) ?_
            refine lv_bipush (v := 100) hx hb dX10_init_104 (by decide) ?_
            refine kc_vu (As := [.int 2, .int 100]) (rest := []) S0 (c_X3_restart l D tc (s.heap.size + 21) ad ct_701 (n1 := 2) (N := 0) h_702 h_703) (cwV 2 hts gX10_init_X3_restart rfl rfl rfl (by decide +kernel) ⟨Nat.le_of_ble_eq_true rfl, Nat.le_of_ble_eq_true rfl⟩) hK hw hA h_702 rfl rfl hl.1 rfl (Nat.le_of_ble_eq_true rfl) dX10_init_106 ⟨Nat.le_of_ble_eq_true rfl, (Nat.le_of_ble_eq_true rfl)⟩ (fun H locs hw => ?_)
            obtain ⟨ct_726, ect_726⟩ : ∃ z, z = kw_up (kw_up ct_701 1 (.inr (3, [.ref (ad 2), .int (nI 2), .int 100, .long 0, .long 0, .int (-9)]))) 2 (eJ tc 8 (kFl (fun _ => 0) 0 8)) := ⟨_, rfl⟩
            rw [← ect_726] at hw
            have h_727 : ct_726 3 = some (eQ tc 4 6 (fun _ => none)) := by rw [ect_726, kw_up_n (by omega), kw_up_n (by omega)]; exact h_704
            have h_728 : ct_726 4 = some (.inr (0, [.ref (ad 5), .ref (ad 6), .ref (ad 7), .ref (ad 8), .int (nI 0), .int 0, .int 0, .int (kb (false = true))])) := by rw [ect_726, kw_up_n (by omega), kw_up_n (by omega)]; exact h_705
            have h_729 : ct_726 5 = some (eQ tc 3 6 (fun _ => none)) := by rw [ect_726, kw_up_n (by omega), kw_up_n (by omega)]; exact h_706
            have h_730 : ct_726 6 = some (eI tc 6 (fun _ => 0)) := by rw [ect_726, kw_up_n (by omega), kw_up_n (by omega)]; exact h_707
            have h_731 : ct_726 7 = some (eI tc 6 (fun _ => 0)) := by rw [ect_726, kw_up_n (by omega), kw_up_n (by omega)]; exact h_708
            have h_732 : ct_726 8 = some (eI tc 8 (fun _ => 0)) := by rw [ect_726, kw_up_n (by omega), kw_up_n (by omega)]; exact h_709
            have h_733 : ct_726 9 = some (.inr (2, [.ref (ad 10), .int (nI 0)])) := by rw [ect_726, kw_up_n (by omega), kw_up_n (by omega)]; exact h_710
            have h_734 : ct_726 10 = some (eQ tc 2 40 (fun _ => none)) := by rw [ect_726, kw_up_n (by omega), kw_up_n (by omega)]; exact h_711
            have h_735 : ct_726 12 = some (.inr (8, [.int 0])) := by rw [ect_726, kw_up_n (by omega), kw_up_n (by omega)]; exact h_712
            have h_736 : ct_726 13 = some (eI tc 8 (fun _ => 0)) := by rw [ect_726, kw_up_n (by omega), kw_up_n (by omega)]; exact h_713
            have h_737 : ct_726 0 = some (.inr (10, [.ref (ad 1), .ref (ad 3), .int 0, .ref (ad 4), .ref (ad 9), .ref (ad 11), .ref (ad 12), .ref (ad 13), .int 0])) := by rw [ect_726, kw_up_n (by omega), kw_up_n (by omega)]; exact h_714
            have h_738 : ct_726 20 = some (.inr (6, [.ref (ad 24), .int (kb (false = true)), .int 0, .int (nI 0)])) := by rw [ect_726, kw_up_n (by omega), kw_up_n (by omega)]; exact h_715
            have h_739 : ct_726 24 = some (eI tc 24 (fun _ => 0)) := by rw [ect_726, kw_up_n (by omega), kw_up_n (by omega)]; exact h_716
            have h_740 : ct_726 21 = some (.inr (6, [.ref (ad 25), .int (kb (false = true)), .int 0, .int (nI 0)])) := by rw [ect_726, kw_up_n (by omega), kw_up_n (by omega)]; exact h_717
            have h_741 : ct_726 25 = some (eI tc 24 (fun _ => 0)) := by rw [ect_726, kw_up_n (by omega), kw_up_n (by omega)]; exact h_718
            have h_742 : ct_726 22 = some (.inr (6, [.ref (ad 26), .int (kb (false = true)), .int 0, .int (nI 0)])) := by rw [ect_726, kw_up_n (by omega), kw_up_n (by omega)]; exact h_719
            have h_743 : ct_726 26 = some (eI tc 24 (fun _ => 0)) := by rw [ect_726, kw_up_n (by omega), kw_up_n (by omega)]; exact h_720
            have h_744 : ct_726 23 = some (.inr (6, [.ref (ad 27), .int (kb (false = true)), .int 0, .int (nI 0)])) := by rw [ect_726, kw_up_n (by omega), kw_up_n (by omega)]; exact h_721
            have h_745 : ct_726 27 = some (eI tc 24 (fun _ => 0)) := by rw [ect_726, kw_up_n (by omega), kw_up_n (by omega)]; exact h_722
            have h_746 : ct_726 11 = some (eQ tc 5 4 (va_up (va_up (va_up (va_up (fun _ => none) 0 (some (ad 20))) 1 (some (ad 21))) 2 (some (ad 22))) 3 (some (ad 23)))) := by rw [ect_726, kw_up_n (by omega), kw_up_n (by omega)]; exact h_723
            have h_747 : ct_726 1 = some (.inr (3, [.ref (ad 2), .int (nI 2), .int 100, .long 0, .long 0, .int (-9)])) := by rw [ect_726, kw_up_n (by omega)]; exact kw_up_s
            have h_748 : ct_726 2 = some (eJ tc 8 (kFl (fun _ => 0) 0 8)) := by rw [ect_726]; exact kw_up_s
            have hfr_749 : ∀ j, j ≠ 0 → j ≠ 1 → j ≠ 2 → j ≠ 3 → j ≠ 4 → j ≠ 5 → j ≠ 6 → j ≠ 7 → j ≠ 8 → j ≠ 9 → j ≠ 10 → j ≠ 11 → j ≠ 12 → j ≠ 13 → j ≠ 20 → j ≠ 24 → j ≠ 21 → j ≠ 25 → j ≠ 22 → j ≠ 26 → j ≠ 23 → j ≠ 27 → ct_726 j = ct j := fun j a0 a1 a2 a3 a4 a5 a6 a7 a8 a9 a10 a11 a12 a13 a14 a15 a16 a17 a18 a19 a20 a21 => by rw [ect_726]; exact (kw_up_n a2).trans ((kw_up_n a1).trans (hfr_724 j a0 a1 a2 a3 a4 a5 a6 a7 a8 a9 a10 a11 a12 a13 a14 a15 a16 a17 a18 a19 a20 a21))
            have hq_750 : ct_726 0 = some (.inr (10, [.ref (ad 1), .ref (ad 3), .int (nI 0), .ref (ad 4), .ref (ad 9), .ref (ad 11), .ref (ad 12), .ref (ad 13), .int 0])) := h_737.trans (congrArg some (show (.inr (10, [.ref (ad 1), .ref (ad 3), .int 0, .ref (ad 4), .ref (ad 9), .ref (ad 11), .ref (ad 12), .ref (ad 13), .int 0]) : va_E) = .inr (10, [.ref (ad 1), .ref (ad 3), .int (nI 0), .ref (ad 4), .ref (ad 9), .ref (ad 11), .ref (ad 12), .ref (ad 13), .int 0]) from by rfl))
            have hq_751 := h_747
            have hq_752 := h_748
            have hq_753 := h_727
            have hq_754 := h_728
            have hq_755 := h_729
            have hq_756 := h_730
            have hq_757 := h_731
            have hq_758 := h_732
            have hq_759 := h_733
            have hq_760 := h_734
            have hq_761 := h_746
            have hq_762 := h_735
            have hq_763 := h_736
            have hq_764 := h_738
            have hq_765 := h_739
            have hq_766 := h_740
            have hq_767 := h_741
            have hq_768 := h_742
            have hq_769 := h_743
            have hq_770 := h_744
            have hq_771 := h_745
            have hend := kw_eq22 hq_750 hq_751 hq_752 hq_753 hq_754 hq_755 hq_756 hq_757 hq_758 hq_759 hq_760 hq_761 hq_762 hq_763 hq_764 hq_765 hq_766 hq_767 hq_768 hq_769 hq_770 hq_771 hfr_749
            rw [hend] at hw
            refine W.widen (k := 21) (n := 221) (Nat.le_of_ble_eq_true rfl) (Nat.le_of_ble_eq_true rfl) ?_
            exact W.vret hx hb hr (fun t ht _ => ⟨rfl, by rw [ht]; exact hw.1, hw.2.2.1, hw.2.1.F ht, by rw [ht]; exact hw.2.2.2⟩) hw.2.1.2.2 dX10_init_109
          · exfalso; omega
set_option maxHeartbeats 4000000 in
set_option maxRecDepth 100000 in
theorem c_X10_comes_m0 (l : Launch) (D : va_G) (tc : Nat → ClassId) (sz : Nat) (ad : Nat → Nat) (ct : Nat → Option va_E) {N : Nat} {b cm lf : Int32} {ss g : Int64}  {qt : Nat → Option Nat}   {ci : Nat → Nat} {nb de : Nat → Int32} {pu : Nat → Int64} {ho : Nat → Nat → Int64} {we : Nat → Nat → Int32} {c : Nat} (h0 : ct 0 = some (.inr (10, [.ref (ad 1), .ref (ad 3), .int (nI 0), .ref (ad 4), .ref (ad 9), .ref (ad 11), .ref (ad 12), .ref (ad 13), .int lf]))) (h1 : ct 1 = some (.inr (3, [.ref (ad 2), .int (nI N), .int b, .long ss, .long g, .int cm]))) (h3 : ct 3 = some (eQ tc 4 6 qt)) (hc : c < N) (hN : N ≤ 8) (hm : cm = (-9)) (hfam : ∀ yy, yy < 0 → (qt yy = some (ad (30 + yy)) ∧ (ci yy = 5 ∨ ci yy = 7 ∨ ci yy = 9)) ∧ ct (30 + yy) = some (.inr (ci yy, [.int (nb yy), .ref (ad (36 + yy)), .ref (ad (42 + yy)), .long (pu yy), .int (de yy)])) ∧ ct (36 + yy) = some (eJ tc N (ho yy)) ∧ ct (42 + yy) = some (eI tc N (we yy))) : Met l yX10_comes wsX10_comes ({ frames := 2, cells := 0, slots := 0, locals := 57 }) (va_Pc [.ref (ad 0), .int (nI c)] (kw_B D tc sz ad ct)) (kw_Q D ad (kw_A ad ct sz) (some (.int 1)) (kw_up ct 1 (.inr (3, [.ref (ad 2), .int (nI N), .int b, .long ss, .long (g - su (fun t => kU b N * ho t c) 0), .int (nI c)]))) 0) 0 0 (kw_A ad ct sz) := by
  refine Met.ofW (cc := cX10_comes) (maxL := 6) (ret := (some .int)) (by decide) rfl ?_
  intro pg en s m args below meth cod s₁ B hml hv
  obtain ⟨rfl, hsz, hP0, hK⟩ := hv
  have hx := B.exec
  have hb := B.bytes
  have hr := B.returns
  have hts := atoms_spec (ws := wsX10_comes) B.pre
  have hown : s.vm.findClass RX10 = some m.cls := findClass_of_methodNamed B.named
  have hlocks := B.notSynchronized
  subst hsz
  have hw := kw_H.start hP0
  generalize hAe : kw_A ad ct s.heap.size = A at hw ⊢
  have hA : ∀ q, s.heap.size ≤ q → A q := fun q h => by rw [← hAe]; exact Or.inr h
  have hinX10 : ∀ w ∈ wsX100, w ∈ wsX10_comes := by decide +kernel
  have hl := lv_entry ([.ref (ad 0), .int (nI c)]) (n := 6) (Nat.le_of_ble_eq_true rfl)
  rw [lg_entry_eq]
  generalize (lg_sl ([.ref (ad 0), .int (nI c)]) ++ List.replicate (6 - (lg_sl ([.ref (ad 0), .int (nI c)])).length) Slot.unset).toArray = ls at hl ⊢
  have hl : lv_has ls 6 [(0, .ref (ad 0)), (1, .int (nI c))] := hl
  have S0 : CallFix pg m cod cX10_comes 6 s _ wsX10_comes RX10 := ⟨hx, hb, hml, hown, hts⟩
  have hfr : ∀ j, j ≠ 1 → ct j = ct j := fun _ _ => rfl
  have kC : 0 ≤ nI c ∧ nI c < nI N := ⟨nI_pos' (by omega), nI_lt hc (by omega)⟩
  refine lv_aload_n hx hb dX10_comes_0 rfl (lv_at hl 0 rfl) ?_
  refine kg_get (v := .ref (ad 1)) (C := RX10) (T := TX10) (N := 9) hx hb hts hinX10 hown hK hw h0 rfl 0 (by decide) (hts (.fieldLink RX10 12 "BetMaker" "maker" "LBetMaker$Maker;") (by decide +kernel)) (fun _ h9 => h9) rfl dX10_comes_1 ?_
  refine lv_iload_n hx hb dX10_comes_4 rfl (lv_at hl 1 rfl) ?_
  refine kc_v (As := [.int (nI c)]) (rest := []) S0 (c_X3_isCase l D tc s.heap.size ad ct (N := N) h1) (cwV 1 hts gX10_comes_X3_isCase rfl rfl rfl (by decide +kernel) ⟨Nat.le_of_ble_eq_true rfl, Nat.le_of_ble_eq_true rfl⟩) hK hw h1 rfl rfl hl.1 rfl (Nat.le_of_ble_eq_true rfl) dX10_comes_5 ⟨Nat.le_of_ble_eq_true rfl, (Nat.le_of_ble_eq_true rfl)⟩ ?_
  refine kb_ifne (tgt := 13) hx hb dX10_comes_8 (by decide) (fun c_1 => ?_) (fun c_1 => ?_)
  · refine lv_aload_n hx hb dX10_comes_13 rfl (lv_at hl 0 rfl) ?_
    refine kg_get (v := .ref (ad 1)) (C := RX10) (T := TX10) (N := 9) hx hb hts hinX10 hown hK hw h0 rfl 0 (by decide) (hts (.fieldLink RX10 12 "BetMaker" "maker" "LBetMaker$Maker;") (by decide +kernel)) (fun _ h9 => h9) rfl dX10_comes_14 ?_
    refine kc_v (As := []) (rest := []) S0 (c_X3_hasCome l D tc s.heap.size ad ct (N := N) h1) (cwV 0 hts gX10_comes_X3_hasCome rfl rfl rfl (by decide +kernel) ⟨Nat.le_of_ble_eq_true rfl, Nat.le_of_ble_eq_true rfl⟩) hK hw h1 rfl rfl hl.1 rfl (Nat.le_of_ble_eq_true rfl) dX10_comes_17 ⟨Nat.le_of_ble_eq_true rfl, (Nat.le_of_ble_eq_true rfl)⟩ ?_
    refine kb_ifeq (tgt := 26) hx hb dX10_comes_20 (by decide) (fun c_2 => ?_) (fun c_2 => ?_)
    · refine lv_lconst (v := 0) hx hb dX10_comes_26 (by decide) ?_
      refine lv_lstore_n (lv' := [(2, .long 0), (0, .ref (ad 0)), (1, .int (nI c))]) hx hb dX10_comes_27 rfl hl (by decide) rfl (fun ls hl => ?_)
      refine lv_iconst (v := 0) hx hb dX10_comes_28 (by decide) ?_
      refine lv_istore (lv' := [(4, .int 0), (2, .long 0), (0, .ref (ad 0)), (1, .int (nI c))]) hx hb dX10_comes_29 hl (by decide) rfl (fun ls hl => ?_)
      refine lv_iload hx hb dX10_comes_31 (lv_at hl 0 rfl) ?_
      refine lv_aload_n hx hb dX10_comes_33 rfl (lv_at hl 2 rfl) ?_
      refine kg_get (v := .int (nI 0)) (C := RX10) (T := TX10) (N := 9) hx hb hts hinX10 hown hK hw h0 rfl 2 (by decide) (hts (.fieldLink RX10 60 "BetMaker" "traderCount" "I") (by decide +kernel)) (fun _ h9 => h9) rfl dX10_comes_34 ?_
      refine kn_ge 0 0 rfl rfl (by omega) (by omega) (tgt := 75) hx hb dX10_comes_37 (by decide) (fun c_3 => ?_) (fun c_3 => ?_)
      · refine lv_aload_n hx hb dX10_comes_75 rfl (lv_at hl 2 rfl) ?_
        refine kg_get (v := .ref (ad 1)) (C := RX10) (T := TX10) (N := 9) hx hb hts hinX10 hown hK hw h0 rfl 0 (by decide) (hts (.fieldLink RX10 12 "BetMaker" "maker" "LBetMaker$Maker;") (by decide +kernel)) (fun _ h9 => h9) rfl dX10_comes_76 ?_
        refine lv_iload_n hx hb dX10_comes_79 rfl (lv_at hl 3 rfl) ?_
        refine lv_lload_n hx hb dX10_comes_80 rfl (lv_at hl 1 rfl) ?_
        refine kc_vu (As := [.int (nI c), .long 0]) (rest := []) S0 (c_X3_settle l D tc s.heap.size ad ct (N := N) h1) (cwV 2 hts gX10_comes_X3_settle rfl rfl rfl (by decide +kernel) ⟨Nat.le_of_ble_eq_true rfl, Nat.le_of_ble_eq_true rfl⟩) hK hw hA h1 rfl rfl hl.1 rfl (Nat.le_of_ble_eq_true rfl) dX10_comes_81 ⟨Nat.le_of_ble_eq_true rfl, (Nat.le_of_ble_eq_true rfl)⟩ (fun H locs hw => ?_)
        obtain ⟨ct_4, ect_4⟩ : ∃ z, z = kw_up ct 1 (.inr (3, [.ref (ad 2), .int (nI N), .int b, .long ss, .long (g - 0), .int (nI c)])) := ⟨_, rfl⟩
        rw [← ect_4] at hw
        have h_5 : ct_4 0 = some (.inr (10, [.ref (ad 1), .ref (ad 3), .int (nI 0), .ref (ad 4), .ref (ad 9), .ref (ad 11), .ref (ad 12), .ref (ad 13), .int lf])) := by rw [ect_4, kw_up_n (by omega)]; exact h0
        have h_6 : ct_4 3 = some (eQ tc 4 6 qt) := by rw [ect_4, kw_up_n (by omega)]; exact h3
        have h_7 : ct_4 1 = some (.inr (3, [.ref (ad 2), .int (nI N), .int b, .long ss, .long (g - 0), .int (nI c)])) := by rw [ect_4]; exact kw_up_s
        have hfr_8 : ∀ j, j ≠ 1 → ct_4 j = ct j := fun j a0 => by rw [ect_4]; exact (kw_up_n a0).trans (hfr j a0)
        refine lv_iconst (v := 1) hx hb dX10_comes_84 (by decide) ?_
        have hq_9 : ct_4 1 = some (.inr (3, [.ref (ad 2), .int (nI N), .int b, .long ss, .long (g - su (fun t => kU b N * ho t c) 0), .int (nI c)])) := h_7.trans (congrArg some (show (.inr (3, [.ref (ad 2), .int (nI N), .int b, .long ss, .long (g - 0), .int (nI c)]) : va_E) = .inr (3, [.ref (ad 2), .int (nI N), .int b, .long ss, .long (g - su (fun t => kU b N * ho t c) 0), .int (nI c)]) from by rfl))
        have hend := kw_eq1 hq_9 hfr_8
        rw [hend] at hw
        exact W.iret hx hb hr (fun t ht _ => ⟨rfl, by rw [ht]; exact hw.1, hw.2.2.1, hw.2.1.F ht, by rw [ht]; exact hw.2.2.2⟩) hw.2.1.2.2 dX10_comes_85
      · exfalso; omega
    · exact absurd hm c_2
  · exact absurd kC c_1
set_option maxHeartbeats 4000000 in
set_option maxRecDepth 100000 in
theorem c_X10_comes_m1 (l : Launch) (D : va_G) (tc : Nat → ClassId) (sz : Nat) (ad : Nat → Nat) (ct : Nat → Option va_E) {N : Nat} {b cm lf : Int32} {ss g : Int64}  {qt : Nat → Option Nat}   {ci : Nat → Nat} {nb de : Nat → Int32} {pu : Nat → Int64} {ho : Nat → Nat → Int64} {we : Nat → Nat → Int32} {c : Nat} (h0 : ct 0 = some (.inr (10, [.ref (ad 1), .ref (ad 3), .int (nI 1), .ref (ad 4), .ref (ad 9), .ref (ad 11), .ref (ad 12), .ref (ad 13), .int lf]))) (h1 : ct 1 = some (.inr (3, [.ref (ad 2), .int (nI N), .int b, .long ss, .long g, .int cm]))) (h3 : ct 3 = some (eQ tc 4 6 qt)) (hc : c < N) (hN : N ≤ 8) (hm : cm = (-9)) (hfam : ∀ yy, yy < 1 → (qt yy = some (ad (30 + yy)) ∧ (ci yy = 5 ∨ ci yy = 7 ∨ ci yy = 9)) ∧ ct (30 + yy) = some (.inr (ci yy, [.int (nb yy), .ref (ad (36 + yy)), .ref (ad (42 + yy)), .long (pu yy), .int (de yy)])) ∧ ct (36 + yy) = some (eJ tc N (ho yy)) ∧ ct (42 + yy) = some (eI tc N (we yy))) : Met l yX10_comes wsX10_comes ({ frames := 2, cells := 0, slots := 0, locals := 57 }) (va_Pc [.ref (ad 0), .int (nI c)] (kw_B D tc sz ad ct)) (kw_Q D ad (kw_A ad ct sz) (some (.int 1)) (kw_up (kw_up (kw_up ct 1 (.inr (3, [.ref (ad 2), .int (nI N), .int b, .long ss, .long (g - su (fun t => kU b N * ho t c) 1), .int (nI c)]))) (30 + 0) (.inr (ci 0, [.int (nb 0), .ref (ad (36 + 0)), .ref (ad (42 + 0)), .long (pu 0 + kU b N * ho 0 c), .int (de 0)]))) (36 + 0) (eJ tc N (kFl (ho 0) 0 N))) 0) 0 0 (kw_A ad ct sz) := by
  refine Met.ofW (cc := cX10_comes) (maxL := 6) (ret := (some .int)) (by decide) rfl ?_
  intro pg en s m args below meth cod s₁ B hml hv
  obtain ⟨rfl, hsz, hP0, hK⟩ := hv
  have hx := B.exec
  have hb := B.bytes
  have hr := B.returns
  have hts := atoms_spec (ws := wsX10_comes) B.pre
  have hown : s.vm.findClass RX10 = some m.cls := findClass_of_methodNamed B.named
  have hlocks := B.notSynchronized
  subst hsz
  have hw := kw_H.start hP0
  generalize hAe : kw_A ad ct s.heap.size = A at hw ⊢
  have hA : ∀ q, s.heap.size ≤ q → A q := fun q h => by rw [← hAe]; exact Or.inr h
  have hinX10 : ∀ w ∈ wsX100, w ∈ wsX10_comes := by decide +kernel
  have hl := lv_entry ([.ref (ad 0), .int (nI c)]) (n := 6) (Nat.le_of_ble_eq_true rfl)
  rw [lg_entry_eq]
  generalize (lg_sl ([.ref (ad 0), .int (nI c)]) ++ List.replicate (6 - (lg_sl ([.ref (ad 0), .int (nI c)])).length) Slot.unset).toArray = ls at hl ⊢
  have hl : lv_has ls 6 [(0, .ref (ad 0)), (1, .int (nI c))] := hl
  have S0 : CallFix pg m cod cX10_comes 6 s _ wsX10_comes RX10 := ⟨hx, hb, hml, hown, hts⟩
  have hfr : ∀ j, j ≠ 1 → j ≠ (30 + 0) → j ≠ (36 + 0) → ct j = ct j := fun _ _ _ _ => rfl
  have kC : 0 ≤ nI c ∧ nI c < nI N := ⟨nI_pos' (by omega), nI_lt hc (by omega)⟩
  refine lv_aload_n hx hb dX10_comes_0 rfl (lv_at hl 0 rfl) ?_
  refine kg_get (v := .ref (ad 1)) (C := RX10) (T := TX10) (N := 9) hx hb hts hinX10 hown hK hw h0 rfl 0 (by decide) (hts (.fieldLink RX10 12 "BetMaker" "maker" "LBetMaker$Maker;") (by decide +kernel)) (fun _ h9 => h9) rfl dX10_comes_1 ?_
  refine lv_iload_n hx hb dX10_comes_4 rfl (lv_at hl 1 rfl) ?_
  refine kc_v (As := [.int (nI c)]) (rest := []) S0 (c_X3_isCase l D tc s.heap.size ad ct (N := N) h1) (cwV 1 hts gX10_comes_X3_isCase rfl rfl rfl (by decide +kernel) ⟨Nat.le_of_ble_eq_true rfl, Nat.le_of_ble_eq_true rfl⟩) hK hw h1 rfl rfl hl.1 rfl (Nat.le_of_ble_eq_true rfl) dX10_comes_5 ⟨Nat.le_of_ble_eq_true rfl, (Nat.le_of_ble_eq_true rfl)⟩ ?_
  refine kb_ifne (tgt := 13) hx hb dX10_comes_8 (by decide) (fun c_1 => ?_) (fun c_1 => ?_)
  · refine lv_aload_n hx hb dX10_comes_13 rfl (lv_at hl 0 rfl) ?_
    refine kg_get (v := .ref (ad 1)) (C := RX10) (T := TX10) (N := 9) hx hb hts hinX10 hown hK hw h0 rfl 0 (by decide) (hts (.fieldLink RX10 12 "BetMaker" "maker" "LBetMaker$Maker;") (by decide +kernel)) (fun _ h9 => h9) rfl dX10_comes_14 ?_
    refine kc_v (As := []) (rest := []) S0 (c_X3_hasCome l D tc s.heap.size ad ct (N := N) h1) (cwV 0 hts gX10_comes_X3_hasCome rfl rfl rfl (by decide +kernel) ⟨Nat.le_of_ble_eq_true rfl, Nat.le_of_ble_eq_true rfl⟩) hK hw h1 rfl rfl hl.1 rfl (Nat.le_of_ble_eq_true rfl) dX10_comes_17 ⟨Nat.le_of_ble_eq_true rfl, (Nat.le_of_ble_eq_true rfl)⟩ ?_
    refine kb_ifeq (tgt := 26) hx hb dX10_comes_20 (by decide) (fun c_2 => ?_) (fun c_2 => ?_)
    · obtain ⟨⟨hq0, hc0⟩, hTo0, hTh0, -⟩ := hfam 0 (by omega)
      refine lv_lconst (v := 0) hx hb dX10_comes_26 (by decide) ?_
      refine lv_lstore_n (lv' := [(2, .long 0), (0, .ref (ad 0)), (1, .int (nI c))]) hx hb dX10_comes_27 rfl hl (by decide) rfl (fun ls hl => ?_)
      refine lv_iconst (v := 0) hx hb dX10_comes_28 (by decide) ?_
      refine lv_istore (lv' := [(4, .int 0), (2, .long 0), (0, .ref (ad 0)), (1, .int (nI c))]) hx hb dX10_comes_29 hl (by decide) rfl (fun ls hl => ?_)
      refine lv_iload hx hb dX10_comes_31 (lv_at hl 0 rfl) ?_
      refine lv_aload_n hx hb dX10_comes_33 rfl (lv_at hl 2 rfl) ?_
      refine kg_get (v := .int (nI 1)) (C := RX10) (T := TX10) (N := 9) hx hb hts hinX10 hown hK hw h0 rfl 2 (by decide) (hts (.fieldLink RX10 60 "BetMaker" "traderCount" "I") (by decide +kernel)) (fun _ h9 => h9) rfl dX10_comes_34 ?_
      refine kn_ge 0 1 rfl rfl (by omega) (by omega) (tgt := 75) hx hb dX10_comes_37 (by decide) (fun c_3 => ?_) (fun c_3 => ?_)
      · exfalso; omega
      · have hqt := hq0
        have hci := hc0
        refine lv_aload_n hx hb dX10_comes_40 rfl (lv_at hl 2 rfl) ?_
        refine lv_iload hx hb dX10_comes_41 (lv_at hl 0 rfl) ?_
        refine kc_v (As := [.int 0]) (rest := []) S0 (c_X10_findTrader l D tc s.heap.size ad ct (t := 0) (nt := 1) h0 h3 (by omega) (by omega) hqt) (cwV 1 hts gX10_comes_X10_findTrader rfl rfl rfl (by decide +kernel) ⟨Nat.le_of_ble_eq_true rfl, Nat.le_of_ble_eq_true rfl⟩) hK hw h0 rfl rfl hl.1 rfl (Nat.le_of_ble_eq_true rfl) dX10_comes_43 ⟨Nat.le_of_ble_eq_true rfl, (Nat.le_of_ble_eq_true rfl)⟩ ?_
        refine lv_astore (lv' := [(5, .ref (ad (30 + 0))), (4, .int 0), (2, .long 0), (0, .ref (ad 0)), (1, .int (nI c))]) hx hb dX10_comes_46 hl (by decide) rfl (fun ls hl => ?_)
        refine lv_aload hx hb dX10_comes_48 (lv_at hl 0 rfl) ?_
        refine lv_ifnull hx hb dX10_comes_50 ?_
        refine lv_lload_n hx hb dX10_comes_53 rfl (lv_at hl 2 rfl) ?_
        refine lv_aload hx hb dX10_comes_54 (lv_at hl 0 rfl) ?_
        refine lv_iload_n hx hb dX10_comes_56 rfl (lv_at hl 4 rfl) ?_
        refine lv_aload_n hx hb dX10_comes_57 rfl (lv_at hl 3 rfl) ?_
        refine kg_get (v := .ref (ad 1)) (C := RX10) (T := TX10) (N := 9) hx hb hts hinX10 hown hK hw h0 rfl 0 (by decide) (hts (.fieldLink RX10 12 "BetMaker" "maker" "LBetMaker$Maker;") (by decide +kernel)) (fun _ h9 => h9) rfl dX10_comes_58 ?_
        refine kc_v (As := []) (rest := [.int (nI c), .ref (ad (30 + 0)), .long 0]) S0 (c_X3_unit l D tc s.heap.size ad ct (N := N) h1) (cwV 0 hts gX10_comes_X3_unit rfl rfl rfl (by decide +kernel) ⟨Nat.le_of_ble_eq_true rfl, Nat.le_of_ble_eq_true rfl⟩) hK hw h1 rfl rfl hl.1 rfl (Nat.le_of_ble_eq_true rfl) dX10_comes_61 ⟨Nat.le_of_ble_eq_true rfl, (Nat.le_of_ble_eq_true rfl)⟩ ?_
        refine kt_vu (As := [.int (nI c), .long (kU b N)]) (rest := [.long 0]) S0 hci (c_X5_settle l D tc s.heap.size ad ct (c := c) hTo0 hTh0 hci hc (by omega)) (cwV 2 hts gX10_comes_X5_settle rfl rfl rfl (by decide +kernel) ⟨Nat.le_of_ble_eq_true rfl, Nat.le_of_ble_eq_true rfl⟩) (va_cwU 2 hts gX10_comes_X5_settle_u125X7 rfl rfl rfl rfl (by decide +kernel) ⟨Nat.le_of_ble_eq_true rfl, Nat.le_of_ble_eq_true rfl⟩) (va_cwU 2 hts gX10_comes_X5_settle_u125X9 rfl rfl rfl rfl (by decide +kernel) ⟨Nat.le_of_ble_eq_true rfl, Nat.le_of_ble_eq_true rfl⟩) hK hw hA hTo0 rfl hl.1 rfl (Nat.le_of_ble_eq_true rfl) dX10_comes_64 ⟨Nat.le_of_ble_eq_true rfl, (Nat.le_of_ble_eq_true rfl)⟩ (fun H locs hw => ?_)
        obtain ⟨ct_4, ect_4⟩ : ∃ z, z = kw_up (kw_up ct (30 + 0) (.inr (ci 0, [.int (nb 0), .ref (ad (36 + 0)), .ref (ad (42 + 0)), .long ((pu 0) + (kU b N) * (ho 0) c), .int (de 0)]))) (36 + 0) (eJ tc N (kFl (ho 0) 0 N)) := ⟨_, rfl⟩
        rw [← ect_4] at hw
        have h_5 : ct_4 0 = some (.inr (10, [.ref (ad 1), .ref (ad 3), .int (nI 1), .ref (ad 4), .ref (ad 9), .ref (ad 11), .ref (ad 12), .ref (ad 13), .int lf])) := by rw [ect_4, kw_up_n (by omega), kw_up_n (by omega)]; exact h0
        have h_6 : ct_4 1 = some (.inr (3, [.ref (ad 2), .int (nI N), .int b, .long ss, .long g, .int cm])) := by rw [ect_4, kw_up_n (by omega), kw_up_n (by omega)]; exact h1
        have h_7 : ct_4 3 = some (eQ tc 4 6 qt) := by rw [ect_4, kw_up_n (by omega), kw_up_n (by omega)]; exact h3
        have h_8 : ct_4 (30 + 0) = some (.inr (ci 0, [.int (nb 0), .ref (ad (36 + 0)), .ref (ad (42 + 0)), .long ((pu 0) + (kU b N) * (ho 0) c), .int (de 0)])) := by rw [ect_4, kw_up_n (by omega)]; exact kw_up_s
        have h_9 : ct_4 (36 + 0) = some (eJ tc N (kFl (ho 0) 0 N)) := by rw [ect_4]; exact kw_up_s
        have hfr_10 : ∀ j, j ≠ 1 → j ≠ (30 + 0) → j ≠ (36 + 0) → ct_4 j = ct j := fun j a0 a1 a2 => by rw [ect_4]; exact (kw_up_n a2).trans ((kw_up_n a1).trans (hfr j a0 a1 a2))
        refine lv_ladd hx hb dX10_comes_67 ?_
        refine lv_lstore_n (lv' := [(2, .long (0 + ((kU b N) * (ho 0) c))), (5, .ref (ad (30 + 0))), (4, .int 0), (0, .ref (ad 0)), (1, .int (nI c))]) hx hb dX10_comes_68 rfl hl (by decide) rfl (fun ls hl => ?_)
        refine lv_iinc (v := 1) (lv' := [(4, .int 1), (2, .long (0 + ((kU b N) * (ho 0) c))), (5, .ref (ad (30 + 0))), (0, .ref (ad 0)), (1, .int (nI c))]) hx hb dX10_comes_69 hl (k := 2) rfl rfl (by decide) rfl (fun ls hl => ?_)
        refine lv_goto (tgt := 31) hx hb dX10_comes_72 (by decide) ?_
        refine lv_iload hx hb dX10_comes_31 (lv_at hl 0 rfl) ?_
        refine lv_aload_n hx hb dX10_comes_33 rfl (lv_at hl 3 rfl) ?_
        refine kg_get (v := .int (nI 1)) (C := RX10) (T := TX10) (N := 9) hx hb hts hinX10 hown hK hw h_5 rfl 2 (by decide) (hts (.fieldLink RX10 60 "BetMaker" "traderCount" "I") (by decide +kernel)) (fun _ h9 => h9) rfl dX10_comes_34 ?_
        refine kn_ge 1 1 rfl rfl (by omega) (by omega) (tgt := 75) hx hb dX10_comes_37 (by decide) (fun c_11 => ?_) (fun c_11 => ?_)
        · refine lv_aload_n hx hb dX10_comes_75 rfl (lv_at hl 3 rfl) ?_
          refine kg_get (v := .ref (ad 1)) (C := RX10) (T := TX10) (N := 9) hx hb hts hinX10 hown hK hw h_5 rfl 0 (by decide) (hts (.fieldLink RX10 12 "BetMaker" "maker" "LBetMaker$Maker;") (by decide +kernel)) (fun _ h9 => h9) rfl dX10_comes_76 ?_
          refine lv_iload_n hx hb dX10_comes_79 rfl (lv_at hl 4 rfl) ?_
          refine lv_lload_n hx hb dX10_comes_80 rfl (lv_at hl 1 rfl) ?_
          refine kc_vu (As := [.int (nI c), .long (0 + ((kU b N) * (ho 0) c))]) (rest := []) S0 (c_X3_settle l D tc s.heap.size ad ct_4 (N := N) h_6) (cwV 2 hts gX10_comes_X3_settle rfl rfl rfl (by decide +kernel) ⟨Nat.le_of_ble_eq_true rfl, Nat.le_of_ble_eq_true rfl⟩) hK hw hA h_6 rfl rfl hl.1 rfl (Nat.le_of_ble_eq_true rfl) dX10_comes_81 ⟨Nat.le_of_ble_eq_true rfl, (Nat.le_of_ble_eq_true rfl)⟩ (fun H locs hw => ?_)
          obtain ⟨ct_12, ect_12⟩ : ∃ z, z = kw_up ct_4 1 (.inr (3, [.ref (ad 2), .int (nI N), .int b, .long ss, .long (g - (0 + ((kU b N) * (ho 0) c))), .int (nI c)])) := ⟨_, rfl⟩
          rw [← ect_12] at hw
          have h_13 : ct_12 0 = some (.inr (10, [.ref (ad 1), .ref (ad 3), .int (nI 1), .ref (ad 4), .ref (ad 9), .ref (ad 11), .ref (ad 12), .ref (ad 13), .int lf])) := by rw [ect_12, kw_up_n (by omega)]; exact h_5
          have h_14 : ct_12 3 = some (eQ tc 4 6 qt) := by rw [ect_12, kw_up_n (by omega)]; exact h_7
          have h_15 : ct_12 (30 + 0) = some (.inr (ci 0, [.int (nb 0), .ref (ad (36 + 0)), .ref (ad (42 + 0)), .long ((pu 0) + (kU b N) * (ho 0) c), .int (de 0)])) := by rw [ect_12, kw_up_n (by omega)]; exact h_8
          have h_16 : ct_12 (36 + 0) = some (eJ tc N (kFl (ho 0) 0 N)) := by rw [ect_12, kw_up_n (by omega)]; exact h_9
          have h_17 : ct_12 1 = some (.inr (3, [.ref (ad 2), .int (nI N), .int b, .long ss, .long (g - (0 + ((kU b N) * (ho 0) c))), .int (nI c)])) := by rw [ect_12]; exact kw_up_s
          have hfr_18 : ∀ j, j ≠ 1 → j ≠ (30 + 0) → j ≠ (36 + 0) → ct_12 j = ct j := fun j a0 a1 a2 => by rw [ect_12]; exact (kw_up_n a0).trans (hfr_10 j a0 a1 a2)
          refine lv_iconst (v := 1) hx hb dX10_comes_84 (by decide) ?_
          have hq_19 : ct_12 1 = some (.inr (3, [.ref (ad 2), .int (nI N), .int b, .long ss, .long (g - su (fun t => kU b N * ho t c) 1), .int (nI c)])) := h_17.trans (congrArg some (show (.inr (3, [.ref (ad 2), .int (nI N), .int b, .long ss, .long (g - (0 + ((kU b N) * (ho 0) c))), .int (nI c)]) : va_E) = .inr (3, [.ref (ad 2), .int (nI N), .int b, .long ss, .long (g - su (fun t => kU b N * ho t c) 1), .int (nI c)]) from by rfl))
          have hq_20 : ct_12 (30 + 0) = some (.inr (ci 0, [.int (nb 0), .ref (ad (36 + 0)), .ref (ad (42 + 0)), .long (pu 0 + kU b N * ho 0 c), .int (de 0)])) := h_15.trans (congrArg some (show (.inr (ci 0, [.int (nb 0), .ref (ad (36 + 0)), .ref (ad (42 + 0)), .long ((pu 0) + (kU b N) * (ho 0) c), .int (de 0)]) : va_E) = .inr (ci 0, [.int (nb 0), .ref (ad (36 + 0)), .ref (ad (42 + 0)), .long (pu 0 + kU b N * ho 0 c), .int (de 0)]) from by rfl))
          have hq_21 := h_16
          have hend := kw_eq3 hq_19 hq_20 hq_21 hfr_18
          rw [hend] at hw
          exact W.iret hx hb hr (fun t ht _ => ⟨rfl, by rw [ht]; exact hw.1, hw.2.2.1, hw.2.1.F ht, by rw [ht]; exact hw.2.2.2⟩) hw.2.1.2.2 dX10_comes_85
        · exfalso; omega
    · exact absurd hm c_2
  · exact absurd kC c_1
set_option maxHeartbeats 4000000 in
set_option maxRecDepth 100000 in
theorem c_X10_comes_m2 (l : Launch) (D : va_G) (tc : Nat → ClassId) (sz : Nat) (ad : Nat → Nat) (ct : Nat → Option va_E) {N : Nat} {b cm lf : Int32} {ss g : Int64}  {qt : Nat → Option Nat}   {ci : Nat → Nat} {nb de : Nat → Int32} {pu : Nat → Int64} {ho : Nat → Nat → Int64} {we : Nat → Nat → Int32} {c : Nat} (h0 : ct 0 = some (.inr (10, [.ref (ad 1), .ref (ad 3), .int (nI 2), .ref (ad 4), .ref (ad 9), .ref (ad 11), .ref (ad 12), .ref (ad 13), .int lf]))) (h1 : ct 1 = some (.inr (3, [.ref (ad 2), .int (nI N), .int b, .long ss, .long g, .int cm]))) (h3 : ct 3 = some (eQ tc 4 6 qt)) (hc : c < N) (hN : N ≤ 8) (hm : cm = (-9)) (hfam : ∀ yy, yy < 2 → (qt yy = some (ad (30 + yy)) ∧ (ci yy = 5 ∨ ci yy = 7 ∨ ci yy = 9)) ∧ ct (30 + yy) = some (.inr (ci yy, [.int (nb yy), .ref (ad (36 + yy)), .ref (ad (42 + yy)), .long (pu yy), .int (de yy)])) ∧ ct (36 + yy) = some (eJ tc N (ho yy)) ∧ ct (42 + yy) = some (eI tc N (we yy))) : Met l yX10_comes wsX10_comes ({ frames := 2, cells := 0, slots := 0, locals := 57 }) (va_Pc [.ref (ad 0), .int (nI c)] (kw_B D tc sz ad ct)) (kw_Q D ad (kw_A ad ct sz) (some (.int 1)) (kw_up (kw_up (kw_up (kw_up (kw_up ct 1 (.inr (3, [.ref (ad 2), .int (nI N), .int b, .long ss, .long (g - su (fun t => kU b N * ho t c) 2), .int (nI c)]))) (30 + 0) (.inr (ci 0, [.int (nb 0), .ref (ad (36 + 0)), .ref (ad (42 + 0)), .long (pu 0 + kU b N * ho 0 c), .int (de 0)]))) (36 + 0) (eJ tc N (kFl (ho 0) 0 N))) (30 + 1) (.inr (ci 1, [.int (nb 1), .ref (ad (36 + 1)), .ref (ad (42 + 1)), .long (pu 1 + kU b N * ho 1 c), .int (de 1)]))) (36 + 1) (eJ tc N (kFl (ho 1) 0 N))) 0) 0 0 (kw_A ad ct sz) := by
  refine Met.ofW (cc := cX10_comes) (maxL := 6) (ret := (some .int)) (by decide) rfl ?_
  intro pg en s m args below meth cod s₁ B hml hv
  obtain ⟨rfl, hsz, hP0, hK⟩ := hv
  have hx := B.exec
  have hb := B.bytes
  have hr := B.returns
  have hts := atoms_spec (ws := wsX10_comes) B.pre
  have hown : s.vm.findClass RX10 = some m.cls := findClass_of_methodNamed B.named
  have hlocks := B.notSynchronized
  subst hsz
  have hw := kw_H.start hP0
  generalize hAe : kw_A ad ct s.heap.size = A at hw ⊢
  have hA : ∀ q, s.heap.size ≤ q → A q := fun q h => by rw [← hAe]; exact Or.inr h
  have hinX10 : ∀ w ∈ wsX100, w ∈ wsX10_comes := by decide +kernel
  have hl := lv_entry ([.ref (ad 0), .int (nI c)]) (n := 6) (Nat.le_of_ble_eq_true rfl)
  rw [lg_entry_eq]
  generalize (lg_sl ([.ref (ad 0), .int (nI c)]) ++ List.replicate (6 - (lg_sl ([.ref (ad 0), .int (nI c)])).length) Slot.unset).toArray = ls at hl ⊢
  have hl : lv_has ls 6 [(0, .ref (ad 0)), (1, .int (nI c))] := hl
  have S0 : CallFix pg m cod cX10_comes 6 s _ wsX10_comes RX10 := ⟨hx, hb, hml, hown, hts⟩
  have hfr : ∀ j, j ≠ 1 → j ≠ (30 + 0) → j ≠ (36 + 0) → j ≠ (30 + 1) → j ≠ (36 + 1) → ct j = ct j := fun _ _ _ _ _ _ => rfl
  have kC : 0 ≤ nI c ∧ nI c < nI N := ⟨nI_pos' (by omega), nI_lt hc (by omega)⟩
  refine lv_aload_n hx hb dX10_comes_0 rfl (lv_at hl 0 rfl) ?_
  refine kg_get (v := .ref (ad 1)) (C := RX10) (T := TX10) (N := 9) hx hb hts hinX10 hown hK hw h0 rfl 0 (by decide) (hts (.fieldLink RX10 12 "BetMaker" "maker" "LBetMaker$Maker;") (by decide +kernel)) (fun _ h9 => h9) rfl dX10_comes_1 ?_
  refine lv_iload_n hx hb dX10_comes_4 rfl (lv_at hl 1 rfl) ?_
  refine kc_v (As := [.int (nI c)]) (rest := []) S0 (c_X3_isCase l D tc s.heap.size ad ct (N := N) h1) (cwV 1 hts gX10_comes_X3_isCase rfl rfl rfl (by decide +kernel) ⟨Nat.le_of_ble_eq_true rfl, Nat.le_of_ble_eq_true rfl⟩) hK hw h1 rfl rfl hl.1 rfl (Nat.le_of_ble_eq_true rfl) dX10_comes_5 ⟨Nat.le_of_ble_eq_true rfl, (Nat.le_of_ble_eq_true rfl)⟩ ?_
  refine kb_ifne (tgt := 13) hx hb dX10_comes_8 (by decide) (fun c_1 => ?_) (fun c_1 => ?_)
  · refine lv_aload_n hx hb dX10_comes_13 rfl (lv_at hl 0 rfl) ?_
    refine kg_get (v := .ref (ad 1)) (C := RX10) (T := TX10) (N := 9) hx hb hts hinX10 hown hK hw h0 rfl 0 (by decide) (hts (.fieldLink RX10 12 "BetMaker" "maker" "LBetMaker$Maker;") (by decide +kernel)) (fun _ h9 => h9) rfl dX10_comes_14 ?_
    refine kc_v (As := []) (rest := []) S0 (c_X3_hasCome l D tc s.heap.size ad ct (N := N) h1) (cwV 0 hts gX10_comes_X3_hasCome rfl rfl rfl (by decide +kernel) ⟨Nat.le_of_ble_eq_true rfl, Nat.le_of_ble_eq_true rfl⟩) hK hw h1 rfl rfl hl.1 rfl (Nat.le_of_ble_eq_true rfl) dX10_comes_17 ⟨Nat.le_of_ble_eq_true rfl, (Nat.le_of_ble_eq_true rfl)⟩ ?_
    refine kb_ifeq (tgt := 26) hx hb dX10_comes_20 (by decide) (fun c_2 => ?_) (fun c_2 => ?_)
    · obtain ⟨⟨hq0, hc0⟩, hTo0, hTh0, -⟩ := hfam 0 (by omega)
      obtain ⟨⟨hq1, hc1⟩, hTo1, hTh1, -⟩ := hfam 1 (by omega)
      refine lv_lconst (v := 0) hx hb dX10_comes_26 (by decide) ?_
      refine lv_lstore_n (lv' := [(2, .long 0), (0, .ref (ad 0)), (1, .int (nI c))]) hx hb dX10_comes_27 rfl hl (by decide) rfl (fun ls hl => ?_)
      refine lv_iconst (v := 0) hx hb dX10_comes_28 (by decide) ?_
      refine lv_istore (lv' := [(4, .int 0), (2, .long 0), (0, .ref (ad 0)), (1, .int (nI c))]) hx hb dX10_comes_29 hl (by decide) rfl (fun ls hl => ?_)
      refine lv_iload hx hb dX10_comes_31 (lv_at hl 0 rfl) ?_
      refine lv_aload_n hx hb dX10_comes_33 rfl (lv_at hl 2 rfl) ?_
      refine kg_get (v := .int (nI 2)) (C := RX10) (T := TX10) (N := 9) hx hb hts hinX10 hown hK hw h0 rfl 2 (by decide) (hts (.fieldLink RX10 60 "BetMaker" "traderCount" "I") (by decide +kernel)) (fun _ h9 => h9) rfl dX10_comes_34 ?_
      refine kn_ge 0 2 rfl rfl (by omega) (by omega) (tgt := 75) hx hb dX10_comes_37 (by decide) (fun c_3 => ?_) (fun c_3 => ?_)
      · exfalso; omega
      · have hqt := hq0
        have hci := hc0
        refine lv_aload_n hx hb dX10_comes_40 rfl (lv_at hl 2 rfl) ?_
        refine lv_iload hx hb dX10_comes_41 (lv_at hl 0 rfl) ?_
        refine kc_v (As := [.int 0]) (rest := []) S0 (c_X10_findTrader l D tc s.heap.size ad ct (t := 0) (nt := 2) h0 h3 (by omega) (by omega) hqt) (cwV 1 hts gX10_comes_X10_findTrader rfl rfl rfl (by decide +kernel) ⟨Nat.le_of_ble_eq_true rfl, Nat.le_of_ble_eq_true rfl⟩) hK hw h0 rfl rfl hl.1 rfl (Nat.le_of_ble_eq_true rfl) dX10_comes_43 ⟨Nat.le_of_ble_eq_true rfl, (Nat.le_of_ble_eq_true rfl)⟩ ?_
        refine lv_astore (lv' := [(5, .ref (ad (30 + 0))), (4, .int 0), (2, .long 0), (0, .ref (ad 0)), (1, .int (nI c))]) hx hb dX10_comes_46 hl (by decide) rfl (fun ls hl => ?_)
        refine lv_aload hx hb dX10_comes_48 (lv_at hl 0 rfl) ?_
        refine lv_ifnull hx hb dX10_comes_50 ?_
        refine lv_lload_n hx hb dX10_comes_53 rfl (lv_at hl 2 rfl) ?_
        refine lv_aload hx hb dX10_comes_54 (lv_at hl 0 rfl) ?_
        refine lv_iload_n hx hb dX10_comes_56 rfl (lv_at hl 4 rfl) ?_
        refine lv_aload_n hx hb dX10_comes_57 rfl (lv_at hl 3 rfl) ?_
        refine kg_get (v := .ref (ad 1)) (C := RX10) (T := TX10) (N := 9) hx hb hts hinX10 hown hK hw h0 rfl 0 (by decide) (hts (.fieldLink RX10 12 "BetMaker" "maker" "LBetMaker$Maker;") (by decide +kernel)) (fun _ h9 => h9) rfl dX10_comes_58 ?_
        refine kc_v (As := []) (rest := [.int (nI c), .ref (ad (30 + 0)), .long 0]) S0 (c_X3_unit l D tc s.heap.size ad ct (N := N) h1) (cwV 0 hts gX10_comes_X3_unit rfl rfl rfl (by decide +kernel) ⟨Nat.le_of_ble_eq_true rfl, Nat.le_of_ble_eq_true rfl⟩) hK hw h1 rfl rfl hl.1 rfl (Nat.le_of_ble_eq_true rfl) dX10_comes_61 ⟨Nat.le_of_ble_eq_true rfl, (Nat.le_of_ble_eq_true rfl)⟩ ?_
        refine kt_vu (As := [.int (nI c), .long (kU b N)]) (rest := [.long 0]) S0 hci (c_X5_settle l D tc s.heap.size ad ct (c := c) hTo0 hTh0 hci hc (by omega)) (cwV 2 hts gX10_comes_X5_settle rfl rfl rfl (by decide +kernel) ⟨Nat.le_of_ble_eq_true rfl, Nat.le_of_ble_eq_true rfl⟩) (va_cwU 2 hts gX10_comes_X5_settle_u125X7 rfl rfl rfl rfl (by decide +kernel) ⟨Nat.le_of_ble_eq_true rfl, Nat.le_of_ble_eq_true rfl⟩) (va_cwU 2 hts gX10_comes_X5_settle_u125X9 rfl rfl rfl rfl (by decide +kernel) ⟨Nat.le_of_ble_eq_true rfl, Nat.le_of_ble_eq_true rfl⟩) hK hw hA hTo0 rfl hl.1 rfl (Nat.le_of_ble_eq_true rfl) dX10_comes_64 ⟨Nat.le_of_ble_eq_true rfl, (Nat.le_of_ble_eq_true rfl)⟩ (fun H locs hw => ?_)
        obtain ⟨ct_4, ect_4⟩ : ∃ z, z = kw_up (kw_up ct (30 + 0) (.inr (ci 0, [.int (nb 0), .ref (ad (36 + 0)), .ref (ad (42 + 0)), .long ((pu 0) + (kU b N) * (ho 0) c), .int (de 0)]))) (36 + 0) (eJ tc N (kFl (ho 0) 0 N)) := ⟨_, rfl⟩
        rw [← ect_4] at hw
        have h_5 : ct_4 0 = some (.inr (10, [.ref (ad 1), .ref (ad 3), .int (nI 2), .ref (ad 4), .ref (ad 9), .ref (ad 11), .ref (ad 12), .ref (ad 13), .int lf])) := by rw [ect_4, kw_up_n (by omega), kw_up_n (by omega)]; exact h0
        have h_6 : ct_4 1 = some (.inr (3, [.ref (ad 2), .int (nI N), .int b, .long ss, .long g, .int cm])) := by rw [ect_4, kw_up_n (by omega), kw_up_n (by omega)]; exact h1
        have h_7 : ct_4 3 = some (eQ tc 4 6 qt) := by rw [ect_4, kw_up_n (by omega), kw_up_n (by omega)]; exact h3
        have h_8 : ct_4 (30 + 1) = some (.inr (ci 1, [.int (nb 1), .ref (ad (36 + 1)), .ref (ad (42 + 1)), .long (pu 1), .int (de 1)])) := by rw [ect_4, kw_up_n (by omega), kw_up_n (by omega)]; exact hTo1
        have h_9 : ct_4 (36 + 1) = some (eJ tc N (ho 1)) := by rw [ect_4, kw_up_n (by omega), kw_up_n (by omega)]; exact hTh1
        have h_10 : ct_4 (30 + 0) = some (.inr (ci 0, [.int (nb 0), .ref (ad (36 + 0)), .ref (ad (42 + 0)), .long ((pu 0) + (kU b N) * (ho 0) c), .int (de 0)])) := by rw [ect_4, kw_up_n (by omega)]; exact kw_up_s
        have h_11 : ct_4 (36 + 0) = some (eJ tc N (kFl (ho 0) 0 N)) := by rw [ect_4]; exact kw_up_s
        have hfr_12 : ∀ j, j ≠ 1 → j ≠ (30 + 0) → j ≠ (36 + 0) → j ≠ (30 + 1) → j ≠ (36 + 1) → ct_4 j = ct j := fun j a0 a1 a2 a3 a4 => by rw [ect_4]; exact (kw_up_n a2).trans ((kw_up_n a1).trans (hfr j a0 a1 a2 a3 a4))
        refine lv_ladd hx hb dX10_comes_67 ?_
        refine lv_lstore_n (lv' := [(2, .long (0 + ((kU b N) * (ho 0) c))), (5, .ref (ad (30 + 0))), (4, .int 0), (0, .ref (ad 0)), (1, .int (nI c))]) hx hb dX10_comes_68 rfl hl (by decide) rfl (fun ls hl => ?_)
        refine lv_iinc (v := 1) (lv' := [(4, .int 1), (2, .long (0 + ((kU b N) * (ho 0) c))), (5, .ref (ad (30 + 0))), (0, .ref (ad 0)), (1, .int (nI c))]) hx hb dX10_comes_69 hl (k := 2) rfl rfl (by decide) rfl (fun ls hl => ?_)
        refine lv_goto (tgt := 31) hx hb dX10_comes_72 (by decide) ?_
        refine lv_iload hx hb dX10_comes_31 (lv_at hl 0 rfl) ?_
        refine lv_aload_n hx hb dX10_comes_33 rfl (lv_at hl 3 rfl) ?_
        refine kg_get (v := .int (nI 2)) (C := RX10) (T := TX10) (N := 9) hx hb hts hinX10 hown hK hw h_5 rfl 2 (by decide) (hts (.fieldLink RX10 60 "BetMaker" "traderCount" "I") (by decide +kernel)) (fun _ h9 => h9) rfl dX10_comes_34 ?_
        refine kn_ge 1 2 rfl rfl (by omega) (by omega) (tgt := 75) hx hb dX10_comes_37 (by decide) (fun c_13 => ?_) (fun c_13 => ?_)
        · exfalso; omega
        · have hqt := hq1
          have hci := hc1
          refine lv_aload_n hx hb dX10_comes_40 rfl (lv_at hl 3 rfl) ?_
          refine lv_iload hx hb dX10_comes_41 (lv_at hl 0 rfl) ?_
          refine kc_v (As := [.int 1]) (rest := []) S0 (c_X10_findTrader l D tc s.heap.size ad ct_4 (t := 1) (nt := 2) h_5 h_7 (by omega) (by omega) hqt) (cwV 1 hts gX10_comes_X10_findTrader rfl rfl rfl (by decide +kernel) ⟨Nat.le_of_ble_eq_true rfl, Nat.le_of_ble_eq_true rfl⟩) hK hw h_5 rfl rfl hl.1 rfl (Nat.le_of_ble_eq_true rfl) dX10_comes_43 ⟨Nat.le_of_ble_eq_true rfl, (Nat.le_of_ble_eq_true rfl)⟩ ?_
          refine lv_astore (lv' := [(5, .ref (ad (30 + 1))), (4, .int 1), (2, .long (0 + ((kU b N) * (ho 0) c))), (0, .ref (ad 0)), (1, .int (nI c))]) hx hb dX10_comes_46 hl (by decide) rfl (fun ls hl => ?_)
          refine lv_aload hx hb dX10_comes_48 (lv_at hl 0 rfl) ?_
          refine lv_ifnull hx hb dX10_comes_50 ?_
          refine lv_lload_n hx hb dX10_comes_53 rfl (lv_at hl 2 rfl) ?_
          refine lv_aload hx hb dX10_comes_54 (lv_at hl 0 rfl) ?_
          refine lv_iload_n hx hb dX10_comes_56 rfl (lv_at hl 4 rfl) ?_
          refine lv_aload_n hx hb dX10_comes_57 rfl (lv_at hl 3 rfl) ?_
          refine kg_get (v := .ref (ad 1)) (C := RX10) (T := TX10) (N := 9) hx hb hts hinX10 hown hK hw h_5 rfl 0 (by decide) (hts (.fieldLink RX10 12 "BetMaker" "maker" "LBetMaker$Maker;") (by decide +kernel)) (fun _ h9 => h9) rfl dX10_comes_58 ?_
          refine kc_v (As := []) (rest := [.int (nI c), .ref (ad (30 + 1)), .long (0 + ((kU b N) * (ho 0) c))]) S0 (c_X3_unit l D tc s.heap.size ad ct_4 (N := N) h_6) (cwV 0 hts gX10_comes_X3_unit rfl rfl rfl (by decide +kernel) ⟨Nat.le_of_ble_eq_true rfl, Nat.le_of_ble_eq_true rfl⟩) hK hw h_6 rfl rfl hl.1 rfl (Nat.le_of_ble_eq_true rfl) dX10_comes_61 ⟨Nat.le_of_ble_eq_true rfl, (Nat.le_of_ble_eq_true rfl)⟩ ?_
          refine kt_vu (As := [.int (nI c), .long (kU b N)]) (rest := [.long (0 + ((kU b N) * (ho 0) c))]) S0 hci (c_X5_settle l D tc s.heap.size ad ct_4 (c := c) h_8 h_9 hci hc (by omega)) (cwV 2 hts gX10_comes_X5_settle rfl rfl rfl (by decide +kernel) ⟨Nat.le_of_ble_eq_true rfl, Nat.le_of_ble_eq_true rfl⟩) (va_cwU 2 hts gX10_comes_X5_settle_u125X7 rfl rfl rfl rfl (by decide +kernel) ⟨Nat.le_of_ble_eq_true rfl, Nat.le_of_ble_eq_true rfl⟩) (va_cwU 2 hts gX10_comes_X5_settle_u125X9 rfl rfl rfl rfl (by decide +kernel) ⟨Nat.le_of_ble_eq_true rfl, Nat.le_of_ble_eq_true rfl⟩) hK hw hA h_8 rfl hl.1 rfl (Nat.le_of_ble_eq_true rfl) dX10_comes_64 ⟨Nat.le_of_ble_eq_true rfl, (Nat.le_of_ble_eq_true rfl)⟩ (fun H locs hw => ?_)
          obtain ⟨ct_14, ect_14⟩ : ∃ z, z = kw_up (kw_up ct_4 (30 + 1) (.inr (ci 1, [.int (nb 1), .ref (ad (36 + 1)), .ref (ad (42 + 1)), .long ((pu 1) + (kU b N) * (ho 1) c), .int (de 1)]))) (36 + 1) (eJ tc N (kFl (ho 1) 0 N)) := ⟨_, rfl⟩
          rw [← ect_14] at hw
          have h_15 : ct_14 0 = some (.inr (10, [.ref (ad 1), .ref (ad 3), .int (nI 2), .ref (ad 4), .ref (ad 9), .ref (ad 11), .ref (ad 12), .ref (ad 13), .int lf])) := by rw [ect_14, kw_up_n (by omega), kw_up_n (by omega)]; exact h_5
          have h_16 : ct_14 1 = some (.inr (3, [.ref (ad 2), .int (nI N), .int b, .long ss, .long g, .int cm])) := by rw [ect_14, kw_up_n (by omega), kw_up_n (by omega)]; exact h_6
          have h_17 : ct_14 3 = some (eQ tc 4 6 qt) := by rw [ect_14, kw_up_n (by omega), kw_up_n (by omega)]; exact h_7
          have h_18 : ct_14 (30 + 0) = some (.inr (ci 0, [.int (nb 0), .ref (ad (36 + 0)), .ref (ad (42 + 0)), .long ((pu 0) + (kU b N) * (ho 0) c), .int (de 0)])) := by rw [ect_14, kw_up_n (by omega), kw_up_n (by omega)]; exact h_10
          have h_19 : ct_14 (36 + 0) = some (eJ tc N (kFl (ho 0) 0 N)) := by rw [ect_14, kw_up_n (by omega), kw_up_n (by omega)]; exact h_11
          have h_20 : ct_14 (30 + 1) = some (.inr (ci 1, [.int (nb 1), .ref (ad (36 + 1)), .ref (ad (42 + 1)), .long ((pu 1) + (kU b N) * (ho 1) c), .int (de 1)])) := by rw [ect_14, kw_up_n (by omega)]; exact kw_up_s
          have h_21 : ct_14 (36 + 1) = some (eJ tc N (kFl (ho 1) 0 N)) := by rw [ect_14]; exact kw_up_s
          have hfr_22 : ∀ j, j ≠ 1 → j ≠ (30 + 0) → j ≠ (36 + 0) → j ≠ (30 + 1) → j ≠ (36 + 1) → ct_14 j = ct j := fun j a0 a1 a2 a3 a4 => by rw [ect_14]; exact (kw_up_n a4).trans ((kw_up_n a3).trans (hfr_12 j a0 a1 a2 a3 a4))
          refine lv_ladd hx hb dX10_comes_67 ?_
          refine lv_lstore_n (lv' := [(2, .long ((0 + ((kU b N) * (ho 0) c)) + ((kU b N) * (ho 1) c))), (5, .ref (ad (30 + 1))), (4, .int 1), (0, .ref (ad 0)), (1, .int (nI c))]) hx hb dX10_comes_68 rfl hl (by decide) rfl (fun ls hl => ?_)
          refine lv_iinc (v := 2) (lv' := [(4, .int 2), (2, .long ((0 + ((kU b N) * (ho 0) c)) + ((kU b N) * (ho 1) c))), (5, .ref (ad (30 + 1))), (0, .ref (ad 0)), (1, .int (nI c))]) hx hb dX10_comes_69 hl (k := 2) rfl rfl (by decide) rfl (fun ls hl => ?_)
          refine lv_goto (tgt := 31) hx hb dX10_comes_72 (by decide) ?_
          refine lv_iload hx hb dX10_comes_31 (lv_at hl 0 rfl) ?_
          refine lv_aload_n hx hb dX10_comes_33 rfl (lv_at hl 3 rfl) ?_
          refine kg_get (v := .int (nI 2)) (C := RX10) (T := TX10) (N := 9) hx hb hts hinX10 hown hK hw h_15 rfl 2 (by decide) (hts (.fieldLink RX10 60 "BetMaker" "traderCount" "I") (by decide +kernel)) (fun _ h9 => h9) rfl dX10_comes_34 ?_
          refine kn_ge 2 2 rfl rfl (by omega) (by omega) (tgt := 75) hx hb dX10_comes_37 (by decide) (fun c_23 => ?_) (fun c_23 => ?_)
          · refine lv_aload_n hx hb dX10_comes_75 rfl (lv_at hl 3 rfl) ?_
            refine kg_get (v := .ref (ad 1)) (C := RX10) (T := TX10) (N := 9) hx hb hts hinX10 hown hK hw h_15 rfl 0 (by decide) (hts (.fieldLink RX10 12 "BetMaker" "maker" "LBetMaker$Maker;") (by decide +kernel)) (fun _ h9 => h9) rfl dX10_comes_76 ?_
            refine lv_iload_n hx hb dX10_comes_79 rfl (lv_at hl 4 rfl) ?_
            refine lv_lload_n hx hb dX10_comes_80 rfl (lv_at hl 1 rfl) ?_
            refine kc_vu (As := [.int (nI c), .long ((0 + ((kU b N) * (ho 0) c)) + ((kU b N) * (ho 1) c))]) (rest := []) S0 (c_X3_settle l D tc s.heap.size ad ct_14 (N := N) h_16) (cwV 2 hts gX10_comes_X3_settle rfl rfl rfl (by decide +kernel) ⟨Nat.le_of_ble_eq_true rfl, Nat.le_of_ble_eq_true rfl⟩) hK hw hA h_16 rfl rfl hl.1 rfl (Nat.le_of_ble_eq_true rfl) dX10_comes_81 ⟨Nat.le_of_ble_eq_true rfl, (Nat.le_of_ble_eq_true rfl)⟩ (fun H locs hw => ?_)
            obtain ⟨ct_24, ect_24⟩ : ∃ z, z = kw_up ct_14 1 (.inr (3, [.ref (ad 2), .int (nI N), .int b, .long ss, .long (g - ((0 + ((kU b N) * (ho 0) c)) + ((kU b N) * (ho 1) c))), .int (nI c)])) := ⟨_, rfl⟩
            rw [← ect_24] at hw
            have h_25 : ct_24 0 = some (.inr (10, [.ref (ad 1), .ref (ad 3), .int (nI 2), .ref (ad 4), .ref (ad 9), .ref (ad 11), .ref (ad 12), .ref (ad 13), .int lf])) := by rw [ect_24, kw_up_n (by omega)]; exact h_15
            have h_26 : ct_24 3 = some (eQ tc 4 6 qt) := by rw [ect_24, kw_up_n (by omega)]; exact h_17
            have h_27 : ct_24 (30 + 0) = some (.inr (ci 0, [.int (nb 0), .ref (ad (36 + 0)), .ref (ad (42 + 0)), .long ((pu 0) + (kU b N) * (ho 0) c), .int (de 0)])) := by rw [ect_24, kw_up_n (by omega)]; exact h_18
            have h_28 : ct_24 (36 + 0) = some (eJ tc N (kFl (ho 0) 0 N)) := by rw [ect_24, kw_up_n (by omega)]; exact h_19
            have h_29 : ct_24 (30 + 1) = some (.inr (ci 1, [.int (nb 1), .ref (ad (36 + 1)), .ref (ad (42 + 1)), .long ((pu 1) + (kU b N) * (ho 1) c), .int (de 1)])) := by rw [ect_24, kw_up_n (by omega)]; exact h_20
            have h_30 : ct_24 (36 + 1) = some (eJ tc N (kFl (ho 1) 0 N)) := by rw [ect_24, kw_up_n (by omega)]; exact h_21
            have h_31 : ct_24 1 = some (.inr (3, [.ref (ad 2), .int (nI N), .int b, .long ss, .long (g - ((0 + ((kU b N) * (ho 0) c)) + ((kU b N) * (ho 1) c))), .int (nI c)])) := by rw [ect_24]; exact kw_up_s
            have hfr_32 : ∀ j, j ≠ 1 → j ≠ (30 + 0) → j ≠ (36 + 0) → j ≠ (30 + 1) → j ≠ (36 + 1) → ct_24 j = ct j := fun j a0 a1 a2 a3 a4 => by rw [ect_24]; exact (kw_up_n a0).trans (hfr_22 j a0 a1 a2 a3 a4)
            refine lv_iconst (v := 1) hx hb dX10_comes_84 (by decide) ?_
            have hq_33 : ct_24 1 = some (.inr (3, [.ref (ad 2), .int (nI N), .int b, .long ss, .long (g - su (fun t => kU b N * ho t c) 2), .int (nI c)])) := h_31.trans (congrArg some (show (.inr (3, [.ref (ad 2), .int (nI N), .int b, .long ss, .long (g - ((0 + ((kU b N) * (ho 0) c)) + ((kU b N) * (ho 1) c))), .int (nI c)]) : va_E) = .inr (3, [.ref (ad 2), .int (nI N), .int b, .long ss, .long (g - su (fun t => kU b N * ho t c) 2), .int (nI c)]) from by rfl))
            have hq_34 : ct_24 (30 + 0) = some (.inr (ci 0, [.int (nb 0), .ref (ad (36 + 0)), .ref (ad (42 + 0)), .long (pu 0 + kU b N * ho 0 c), .int (de 0)])) := h_27.trans (congrArg some (show (.inr (ci 0, [.int (nb 0), .ref (ad (36 + 0)), .ref (ad (42 + 0)), .long ((pu 0) + (kU b N) * (ho 0) c), .int (de 0)]) : va_E) = .inr (ci 0, [.int (nb 0), .ref (ad (36 + 0)), .ref (ad (42 + 0)), .long (pu 0 + kU b N * ho 0 c), .int (de 0)]) from by rfl))
            have hq_35 := h_28
            have hq_36 : ct_24 (30 + 1) = some (.inr (ci 1, [.int (nb 1), .ref (ad (36 + 1)), .ref (ad (42 + 1)), .long (pu 1 + kU b N * ho 1 c), .int (de 1)])) := h_29.trans (congrArg some (show (.inr (ci 1, [.int (nb 1), .ref (ad (36 + 1)), .ref (ad (42 + 1)), .long ((pu 1) + (kU b N) * (ho 1) c), .int (de 1)]) : va_E) = .inr (ci 1, [.int (nb 1), .ref (ad (36 + 1)), .ref (ad (42 + 1)), .long (pu 1 + kU b N * ho 1 c), .int (de 1)]) from by rfl))
            have hq_37 := h_30
            have hend := kw_eq5 hq_33 hq_34 hq_35 hq_36 hq_37 hfr_32
            rw [hend] at hw
            exact W.iret hx hb hr (fun t ht _ => ⟨rfl, by rw [ht]; exact hw.1, hw.2.2.1, hw.2.1.F ht, by rw [ht]; exact hw.2.2.2⟩) hw.2.1.2.2 dX10_comes_85
          · exfalso; omega
    · exact absurd hm c_2
  · exact absurd kC c_1
set_option maxHeartbeats 4000000 in
set_option maxRecDepth 100000 in
theorem c_X10_comes_m3 (l : Launch) (D : va_G) (tc : Nat → ClassId) (sz : Nat) (ad : Nat → Nat) (ct : Nat → Option va_E) {N : Nat} {b cm lf : Int32} {ss g : Int64}  {qt : Nat → Option Nat}   {ci : Nat → Nat} {nb de : Nat → Int32} {pu : Nat → Int64} {ho : Nat → Nat → Int64} {we : Nat → Nat → Int32} {c : Nat} (h0 : ct 0 = some (.inr (10, [.ref (ad 1), .ref (ad 3), .int (nI 3), .ref (ad 4), .ref (ad 9), .ref (ad 11), .ref (ad 12), .ref (ad 13), .int lf]))) (h1 : ct 1 = some (.inr (3, [.ref (ad 2), .int (nI N), .int b, .long ss, .long g, .int cm]))) (h3 : ct 3 = some (eQ tc 4 6 qt)) (hc : c < N) (hN : N ≤ 8) (hm : cm = (-9)) (hfam : ∀ yy, yy < 3 → (qt yy = some (ad (30 + yy)) ∧ (ci yy = 5 ∨ ci yy = 7 ∨ ci yy = 9)) ∧ ct (30 + yy) = some (.inr (ci yy, [.int (nb yy), .ref (ad (36 + yy)), .ref (ad (42 + yy)), .long (pu yy), .int (de yy)])) ∧ ct (36 + yy) = some (eJ tc N (ho yy)) ∧ ct (42 + yy) = some (eI tc N (we yy))) : Met l yX10_comes wsX10_comes ({ frames := 2, cells := 0, slots := 0, locals := 57 }) (va_Pc [.ref (ad 0), .int (nI c)] (kw_B D tc sz ad ct)) (kw_Q D ad (kw_A ad ct sz) (some (.int 1)) (kw_up (kw_up (kw_up (kw_up (kw_up (kw_up (kw_up ct 1 (.inr (3, [.ref (ad 2), .int (nI N), .int b, .long ss, .long (g - su (fun t => kU b N * ho t c) 3), .int (nI c)]))) (30 + 0) (.inr (ci 0, [.int (nb 0), .ref (ad (36 + 0)), .ref (ad (42 + 0)), .long (pu 0 + kU b N * ho 0 c), .int (de 0)]))) (36 + 0) (eJ tc N (kFl (ho 0) 0 N))) (30 + 1) (.inr (ci 1, [.int (nb 1), .ref (ad (36 + 1)), .ref (ad (42 + 1)), .long (pu 1 + kU b N * ho 1 c), .int (de 1)]))) (36 + 1) (eJ tc N (kFl (ho 1) 0 N))) (30 + 2) (.inr (ci 2, [.int (nb 2), .ref (ad (36 + 2)), .ref (ad (42 + 2)), .long (pu 2 + kU b N * ho 2 c), .int (de 2)]))) (36 + 2) (eJ tc N (kFl (ho 2) 0 N))) 0) 0 0 (kw_A ad ct sz) := by
  refine Met.ofW (cc := cX10_comes) (maxL := 6) (ret := (some .int)) (by decide) rfl ?_
  intro pg en s m args below meth cod s₁ B hml hv
  obtain ⟨rfl, hsz, hP0, hK⟩ := hv
  have hx := B.exec
  have hb := B.bytes
  have hr := B.returns
  have hts := atoms_spec (ws := wsX10_comes) B.pre
  have hown : s.vm.findClass RX10 = some m.cls := findClass_of_methodNamed B.named
  have hlocks := B.notSynchronized
  subst hsz
  have hw := kw_H.start hP0
  generalize hAe : kw_A ad ct s.heap.size = A at hw ⊢
  have hA : ∀ q, s.heap.size ≤ q → A q := fun q h => by rw [← hAe]; exact Or.inr h
  have hinX10 : ∀ w ∈ wsX100, w ∈ wsX10_comes := by decide +kernel
  have hl := lv_entry ([.ref (ad 0), .int (nI c)]) (n := 6) (Nat.le_of_ble_eq_true rfl)
  rw [lg_entry_eq]
  generalize (lg_sl ([.ref (ad 0), .int (nI c)]) ++ List.replicate (6 - (lg_sl ([.ref (ad 0), .int (nI c)])).length) Slot.unset).toArray = ls at hl ⊢
  have hl : lv_has ls 6 [(0, .ref (ad 0)), (1, .int (nI c))] := hl
  have S0 : CallFix pg m cod cX10_comes 6 s _ wsX10_comes RX10 := ⟨hx, hb, hml, hown, hts⟩
  have hfr : ∀ j, j ≠ 1 → j ≠ (30 + 0) → j ≠ (36 + 0) → j ≠ (30 + 1) → j ≠ (36 + 1) → j ≠ (30 + 2) → j ≠ (36 + 2) → ct j = ct j := fun _ _ _ _ _ _ _ _ => rfl
  have kC : 0 ≤ nI c ∧ nI c < nI N := ⟨nI_pos' (by omega), nI_lt hc (by omega)⟩
  refine lv_aload_n hx hb dX10_comes_0 rfl (lv_at hl 0 rfl) ?_
  refine kg_get (v := .ref (ad 1)) (C := RX10) (T := TX10) (N := 9) hx hb hts hinX10 hown hK hw h0 rfl 0 (by decide) (hts (.fieldLink RX10 12 "BetMaker" "maker" "LBetMaker$Maker;") (by decide +kernel)) (fun _ h9 => h9) rfl dX10_comes_1 ?_
  refine lv_iload_n hx hb dX10_comes_4 rfl (lv_at hl 1 rfl) ?_
  refine kc_v (As := [.int (nI c)]) (rest := []) S0 (c_X3_isCase l D tc s.heap.size ad ct (N := N) h1) (cwV 1 hts gX10_comes_X3_isCase rfl rfl rfl (by decide +kernel) ⟨Nat.le_of_ble_eq_true rfl, Nat.le_of_ble_eq_true rfl⟩) hK hw h1 rfl rfl hl.1 rfl (Nat.le_of_ble_eq_true rfl) dX10_comes_5 ⟨Nat.le_of_ble_eq_true rfl, (Nat.le_of_ble_eq_true rfl)⟩ ?_
  refine kb_ifne (tgt := 13) hx hb dX10_comes_8 (by decide) (fun c_1 => ?_) (fun c_1 => ?_)
  · refine lv_aload_n hx hb dX10_comes_13 rfl (lv_at hl 0 rfl) ?_
    refine kg_get (v := .ref (ad 1)) (C := RX10) (T := TX10) (N := 9) hx hb hts hinX10 hown hK hw h0 rfl 0 (by decide) (hts (.fieldLink RX10 12 "BetMaker" "maker" "LBetMaker$Maker;") (by decide +kernel)) (fun _ h9 => h9) rfl dX10_comes_14 ?_
    refine kc_v (As := []) (rest := []) S0 (c_X3_hasCome l D tc s.heap.size ad ct (N := N) h1) (cwV 0 hts gX10_comes_X3_hasCome rfl rfl rfl (by decide +kernel) ⟨Nat.le_of_ble_eq_true rfl, Nat.le_of_ble_eq_true rfl⟩) hK hw h1 rfl rfl hl.1 rfl (Nat.le_of_ble_eq_true rfl) dX10_comes_17 ⟨Nat.le_of_ble_eq_true rfl, (Nat.le_of_ble_eq_true rfl)⟩ ?_
    refine kb_ifeq (tgt := 26) hx hb dX10_comes_20 (by decide) (fun c_2 => ?_) (fun c_2 => ?_)
    · obtain ⟨⟨hq0, hc0⟩, hTo0, hTh0, -⟩ := hfam 0 (by omega)
      obtain ⟨⟨hq1, hc1⟩, hTo1, hTh1, -⟩ := hfam 1 (by omega)
      obtain ⟨⟨hq2, hc2⟩, hTo2, hTh2, -⟩ := hfam 2 (by omega)
      refine lv_lconst (v := 0) hx hb dX10_comes_26 (by decide) ?_
      refine lv_lstore_n (lv' := [(2, .long 0), (0, .ref (ad 0)), (1, .int (nI c))]) hx hb dX10_comes_27 rfl hl (by decide) rfl (fun ls hl => ?_)
      refine lv_iconst (v := 0) hx hb dX10_comes_28 (by decide) ?_
      refine lv_istore (lv' := [(4, .int 0), (2, .long 0), (0, .ref (ad 0)), (1, .int (nI c))]) hx hb dX10_comes_29 hl (by decide) rfl (fun ls hl => ?_)
      refine lv_iload hx hb dX10_comes_31 (lv_at hl 0 rfl) ?_
      refine lv_aload_n hx hb dX10_comes_33 rfl (lv_at hl 2 rfl) ?_
      refine kg_get (v := .int (nI 3)) (C := RX10) (T := TX10) (N := 9) hx hb hts hinX10 hown hK hw h0 rfl 2 (by decide) (hts (.fieldLink RX10 60 "BetMaker" "traderCount" "I") (by decide +kernel)) (fun _ h9 => h9) rfl dX10_comes_34 ?_
      refine kn_ge 0 3 rfl rfl (by omega) (by omega) (tgt := 75) hx hb dX10_comes_37 (by decide) (fun c_3 => ?_) (fun c_3 => ?_)
      · exfalso; omega
      · have hqt := hq0
        have hci := hc0
        refine lv_aload_n hx hb dX10_comes_40 rfl (lv_at hl 2 rfl) ?_
        refine lv_iload hx hb dX10_comes_41 (lv_at hl 0 rfl) ?_
        refine kc_v (As := [.int 0]) (rest := []) S0 (c_X10_findTrader l D tc s.heap.size ad ct (t := 0) (nt := 3) h0 h3 (by omega) (by omega) hqt) (cwV 1 hts gX10_comes_X10_findTrader rfl rfl rfl (by decide +kernel) ⟨Nat.le_of_ble_eq_true rfl, Nat.le_of_ble_eq_true rfl⟩) hK hw h0 rfl rfl hl.1 rfl (Nat.le_of_ble_eq_true rfl) dX10_comes_43 ⟨Nat.le_of_ble_eq_true rfl, (Nat.le_of_ble_eq_true rfl)⟩ ?_
        refine lv_astore (lv' := [(5, .ref (ad (30 + 0))), (4, .int 0), (2, .long 0), (0, .ref (ad 0)), (1, .int (nI c))]) hx hb dX10_comes_46 hl (by decide) rfl (fun ls hl => ?_)
        refine lv_aload hx hb dX10_comes_48 (lv_at hl 0 rfl) ?_
        refine lv_ifnull hx hb dX10_comes_50 ?_
        refine lv_lload_n hx hb dX10_comes_53 rfl (lv_at hl 2 rfl) ?_
        refine lv_aload hx hb dX10_comes_54 (lv_at hl 0 rfl) ?_
        refine lv_iload_n hx hb dX10_comes_56 rfl (lv_at hl 4 rfl) ?_
        refine lv_aload_n hx hb dX10_comes_57 rfl (lv_at hl 3 rfl) ?_
        refine kg_get (v := .ref (ad 1)) (C := RX10) (T := TX10) (N := 9) hx hb hts hinX10 hown hK hw h0 rfl 0 (by decide) (hts (.fieldLink RX10 12 "BetMaker" "maker" "LBetMaker$Maker;") (by decide +kernel)) (fun _ h9 => h9) rfl dX10_comes_58 ?_
        refine kc_v (As := []) (rest := [.int (nI c), .ref (ad (30 + 0)), .long 0]) S0 (c_X3_unit l D tc s.heap.size ad ct (N := N) h1) (cwV 0 hts gX10_comes_X3_unit rfl rfl rfl (by decide +kernel) ⟨Nat.le_of_ble_eq_true rfl, Nat.le_of_ble_eq_true rfl⟩) hK hw h1 rfl rfl hl.1 rfl (Nat.le_of_ble_eq_true rfl) dX10_comes_61 ⟨Nat.le_of_ble_eq_true rfl, (Nat.le_of_ble_eq_true rfl)⟩ ?_
        refine kt_vu (As := [.int (nI c), .long (kU b N)]) (rest := [.long 0]) S0 hci (c_X5_settle l D tc s.heap.size ad ct (c := c) hTo0 hTh0 hci hc (by omega)) (cwV 2 hts gX10_comes_X5_settle rfl rfl rfl (by decide +kernel) ⟨Nat.le_of_ble_eq_true rfl, Nat.le_of_ble_eq_true rfl⟩) (va_cwU 2 hts gX10_comes_X5_settle_u125X7 rfl rfl rfl rfl (by decide +kernel) ⟨Nat.le_of_ble_eq_true rfl, Nat.le_of_ble_eq_true rfl⟩) (va_cwU 2 hts gX10_comes_X5_settle_u125X9 rfl rfl rfl rfl (by decide +kernel) ⟨Nat.le_of_ble_eq_true rfl, Nat.le_of_ble_eq_true rfl⟩) hK hw hA hTo0 rfl hl.1 rfl (Nat.le_of_ble_eq_true rfl) dX10_comes_64 ⟨Nat.le_of_ble_eq_true rfl, (Nat.le_of_ble_eq_true rfl)⟩ (fun H locs hw => ?_)
        obtain ⟨ct_4, ect_4⟩ : ∃ z, z = kw_up (kw_up ct (30 + 0) (.inr (ci 0, [.int (nb 0), .ref (ad (36 + 0)), .ref (ad (42 + 0)), .long ((pu 0) + (kU b N) * (ho 0) c), .int (de 0)]))) (36 + 0) (eJ tc N (kFl (ho 0) 0 N)) := ⟨_, rfl⟩
        rw [← ect_4] at hw
        have h_5 : ct_4 0 = some (.inr (10, [.ref (ad 1), .ref (ad 3), .int (nI 3), .ref (ad 4), .ref (ad 9), .ref (ad 11), .ref (ad 12), .ref (ad 13), .int lf])) := by rw [ect_4, kw_up_n (by omega), kw_up_n (by omega)]; exact h0
        have h_6 : ct_4 1 = some (.inr (3, [.ref (ad 2), .int (nI N), .int b, .long ss, .long g, .int cm])) := by rw [ect_4, kw_up_n (by omega), kw_up_n (by omega)]; exact h1
        have h_7 : ct_4 3 = some (eQ tc 4 6 qt) := by rw [ect_4, kw_up_n (by omega), kw_up_n (by omega)]; exact h3
        have h_8 : ct_4 (30 + 1) = some (.inr (ci 1, [.int (nb 1), .ref (ad (36 + 1)), .ref (ad (42 + 1)), .long (pu 1), .int (de 1)])) := by rw [ect_4, kw_up_n (by omega), kw_up_n (by omega)]; exact hTo1
        have h_9 : ct_4 (36 + 1) = some (eJ tc N (ho 1)) := by rw [ect_4, kw_up_n (by omega), kw_up_n (by omega)]; exact hTh1
        have h_10 : ct_4 (30 + 2) = some (.inr (ci 2, [.int (nb 2), .ref (ad (36 + 2)), .ref (ad (42 + 2)), .long (pu 2), .int (de 2)])) := by rw [ect_4, kw_up_n (by omega), kw_up_n (by omega)]; exact hTo2
        have h_11 : ct_4 (36 + 2) = some (eJ tc N (ho 2)) := by rw [ect_4, kw_up_n (by omega), kw_up_n (by omega)]; exact hTh2
        have h_12 : ct_4 (30 + 0) = some (.inr (ci 0, [.int (nb 0), .ref (ad (36 + 0)), .ref (ad (42 + 0)), .long ((pu 0) + (kU b N) * (ho 0) c), .int (de 0)])) := by rw [ect_4, kw_up_n (by omega)]; exact kw_up_s
        have h_13 : ct_4 (36 + 0) = some (eJ tc N (kFl (ho 0) 0 N)) := by rw [ect_4]; exact kw_up_s
        have hfr_14 : ∀ j, j ≠ 1 → j ≠ (30 + 0) → j ≠ (36 + 0) → j ≠ (30 + 1) → j ≠ (36 + 1) → j ≠ (30 + 2) → j ≠ (36 + 2) → ct_4 j = ct j := fun j a0 a1 a2 a3 a4 a5 a6 => by rw [ect_4]; exact (kw_up_n a2).trans ((kw_up_n a1).trans (hfr j a0 a1 a2 a3 a4 a5 a6))
        refine lv_ladd hx hb dX10_comes_67 ?_
        refine lv_lstore_n (lv' := [(2, .long (0 + ((kU b N) * (ho 0) c))), (5, .ref (ad (30 + 0))), (4, .int 0), (0, .ref (ad 0)), (1, .int (nI c))]) hx hb dX10_comes_68 rfl hl (by decide) rfl (fun ls hl => ?_)
        refine lv_iinc (v := 1) (lv' := [(4, .int 1), (2, .long (0 + ((kU b N) * (ho 0) c))), (5, .ref (ad (30 + 0))), (0, .ref (ad 0)), (1, .int (nI c))]) hx hb dX10_comes_69 hl (k := 2) rfl rfl (by decide) rfl (fun ls hl => ?_)
        refine lv_goto (tgt := 31) hx hb dX10_comes_72 (by decide) ?_
        refine lv_iload hx hb dX10_comes_31 (lv_at hl 0 rfl) ?_
        refine lv_aload_n hx hb dX10_comes_33 rfl (lv_at hl 3 rfl) ?_
        refine kg_get (v := .int (nI 3)) (C := RX10) (T := TX10) (N := 9) hx hb hts hinX10 hown hK hw h_5 rfl 2 (by decide) (hts (.fieldLink RX10 60 "BetMaker" "traderCount" "I") (by decide +kernel)) (fun _ h9 => h9) rfl dX10_comes_34 ?_
        refine kn_ge 1 3 rfl rfl (by omega) (by omega) (tgt := 75) hx hb dX10_comes_37 (by decide) (fun c_15 => ?_) (fun c_15 => ?_)
        · exfalso; omega
        · have hqt := hq1
          have hci := hc1
          refine lv_aload_n hx hb dX10_comes_40 rfl (lv_at hl 3 rfl) ?_
          refine lv_iload hx hb dX10_comes_41 (lv_at hl 0 rfl) ?_
          refine kc_v (As := [.int 1]) (rest := []) S0 (c_X10_findTrader l D tc s.heap.size ad ct_4 (t := 1) (nt := 3) h_5 h_7 (by omega) (by omega) hqt) (cwV 1 hts gX10_comes_X10_findTrader rfl rfl rfl (by decide +kernel) ⟨Nat.le_of_ble_eq_true rfl, Nat.le_of_ble_eq_true rfl⟩) hK hw h_5 rfl rfl hl.1 rfl (Nat.le_of_ble_eq_true rfl) dX10_comes_43 ⟨Nat.le_of_ble_eq_true rfl, (Nat.le_of_ble_eq_true rfl)⟩ ?_
          refine lv_astore (lv' := [(5, .ref (ad (30 + 1))), (4, .int 1), (2, .long (0 + ((kU b N) * (ho 0) c))), (0, .ref (ad 0)), (1, .int (nI c))]) hx hb dX10_comes_46 hl (by decide) rfl (fun ls hl => ?_)
          refine lv_aload hx hb dX10_comes_48 (lv_at hl 0 rfl) ?_
          refine lv_ifnull hx hb dX10_comes_50 ?_
          refine lv_lload_n hx hb dX10_comes_53 rfl (lv_at hl 2 rfl) ?_
          refine lv_aload hx hb dX10_comes_54 (lv_at hl 0 rfl) ?_
          refine lv_iload_n hx hb dX10_comes_56 rfl (lv_at hl 4 rfl) ?_
          refine lv_aload_n hx hb dX10_comes_57 rfl (lv_at hl 3 rfl) ?_
          refine kg_get (v := .ref (ad 1)) (C := RX10) (T := TX10) (N := 9) hx hb hts hinX10 hown hK hw h_5 rfl 0 (by decide) (hts (.fieldLink RX10 12 "BetMaker" "maker" "LBetMaker$Maker;") (by decide +kernel)) (fun _ h9 => h9) rfl dX10_comes_58 ?_
          refine kc_v (As := []) (rest := [.int (nI c), .ref (ad (30 + 1)), .long (0 + ((kU b N) * (ho 0) c))]) S0 (c_X3_unit l D tc s.heap.size ad ct_4 (N := N) h_6) (cwV 0 hts gX10_comes_X3_unit rfl rfl rfl (by decide +kernel) ⟨Nat.le_of_ble_eq_true rfl, Nat.le_of_ble_eq_true rfl⟩) hK hw h_6 rfl rfl hl.1 rfl (Nat.le_of_ble_eq_true rfl) dX10_comes_61 ⟨Nat.le_of_ble_eq_true rfl, (Nat.le_of_ble_eq_true rfl)⟩ ?_
          refine kt_vu (As := [.int (nI c), .long (kU b N)]) (rest := [.long (0 + ((kU b N) * (ho 0) c))]) S0 hci (c_X5_settle l D tc s.heap.size ad ct_4 (c := c) h_8 h_9 hci hc (by omega)) (cwV 2 hts gX10_comes_X5_settle rfl rfl rfl (by decide +kernel) ⟨Nat.le_of_ble_eq_true rfl, Nat.le_of_ble_eq_true rfl⟩) (va_cwU 2 hts gX10_comes_X5_settle_u125X7 rfl rfl rfl rfl (by decide +kernel) ⟨Nat.le_of_ble_eq_true rfl, Nat.le_of_ble_eq_true rfl⟩) (va_cwU 2 hts gX10_comes_X5_settle_u125X9 rfl rfl rfl rfl (by decide +kernel) ⟨Nat.le_of_ble_eq_true rfl, Nat.le_of_ble_eq_true rfl⟩) hK hw hA h_8 rfl hl.1 rfl (Nat.le_of_ble_eq_true rfl) dX10_comes_64 ⟨Nat.le_of_ble_eq_true rfl, (Nat.le_of_ble_eq_true rfl)⟩ (fun H locs hw => ?_)
          obtain ⟨ct_16, ect_16⟩ : ∃ z, z = kw_up (kw_up ct_4 (30 + 1) (.inr (ci 1, [.int (nb 1), .ref (ad (36 + 1)), .ref (ad (42 + 1)), .long ((pu 1) + (kU b N) * (ho 1) c), .int (de 1)]))) (36 + 1) (eJ tc N (kFl (ho 1) 0 N)) := ⟨_, rfl⟩
          rw [← ect_16] at hw
          have h_17 : ct_16 0 = some (.inr (10, [.ref (ad 1), .ref (ad 3), .int (nI 3), .ref (ad 4), .ref (ad 9), .ref (ad 11), .ref (ad 12), .ref (ad 13), .int lf])) := by rw [ect_16, kw_up_n (by omega), kw_up_n (by omega)]; exact h_5
          have h_18 : ct_16 1 = some (.inr (3, [.ref (ad 2), .int (nI N), .int b, .long ss, .long g, .int cm])) := by rw [ect_16, kw_up_n (by omega), kw_up_n (by omega)]; exact h_6
          have h_19 : ct_16 3 = some (eQ tc 4 6 qt) := by rw [ect_16, kw_up_n (by omega), kw_up_n (by omega)]; exact h_7
          have h_20 : ct_16 (30 + 2) = some (.inr (ci 2, [.int (nb 2), .ref (ad (36 + 2)), .ref (ad (42 + 2)), .long (pu 2), .int (de 2)])) := by rw [ect_16, kw_up_n (by omega), kw_up_n (by omega)]; exact h_10
          have h_21 : ct_16 (36 + 2) = some (eJ tc N (ho 2)) := by rw [ect_16, kw_up_n (by omega), kw_up_n (by omega)]; exact h_11
          have h_22 : ct_16 (30 + 0) = some (.inr (ci 0, [.int (nb 0), .ref (ad (36 + 0)), .ref (ad (42 + 0)), .long ((pu 0) + (kU b N) * (ho 0) c), .int (de 0)])) := by rw [ect_16, kw_up_n (by omega), kw_up_n (by omega)]; exact h_12
          have h_23 : ct_16 (36 + 0) = some (eJ tc N (kFl (ho 0) 0 N)) := by rw [ect_16, kw_up_n (by omega), kw_up_n (by omega)]; exact h_13
          have h_24 : ct_16 (30 + 1) = some (.inr (ci 1, [.int (nb 1), .ref (ad (36 + 1)), .ref (ad (42 + 1)), .long ((pu 1) + (kU b N) * (ho 1) c), .int (de 1)])) := by rw [ect_16, kw_up_n (by omega)]; exact kw_up_s
          have h_25 : ct_16 (36 + 1) = some (eJ tc N (kFl (ho 1) 0 N)) := by rw [ect_16]; exact kw_up_s
          have hfr_26 : ∀ j, j ≠ 1 → j ≠ (30 + 0) → j ≠ (36 + 0) → j ≠ (30 + 1) → j ≠ (36 + 1) → j ≠ (30 + 2) → j ≠ (36 + 2) → ct_16 j = ct j := fun j a0 a1 a2 a3 a4 a5 a6 => by rw [ect_16]; exact (kw_up_n a4).trans ((kw_up_n a3).trans (hfr_14 j a0 a1 a2 a3 a4 a5 a6))
          refine lv_ladd hx hb dX10_comes_67 ?_
          refine lv_lstore_n (lv' := [(2, .long ((0 + ((kU b N) * (ho 0) c)) + ((kU b N) * (ho 1) c))), (5, .ref (ad (30 + 1))), (4, .int 1), (0, .ref (ad 0)), (1, .int (nI c))]) hx hb dX10_comes_68 rfl hl (by decide) rfl (fun ls hl => ?_)
          refine lv_iinc (v := 2) (lv' := [(4, .int 2), (2, .long ((0 + ((kU b N) * (ho 0) c)) + ((kU b N) * (ho 1) c))), (5, .ref (ad (30 + 1))), (0, .ref (ad 0)), (1, .int (nI c))]) hx hb dX10_comes_69 hl (k := 2) rfl rfl (by decide) rfl (fun ls hl => ?_)
          refine lv_goto (tgt := 31) hx hb dX10_comes_72 (by decide) ?_
          refine lv_iload hx hb dX10_comes_31 (lv_at hl 0 rfl) ?_
          refine lv_aload_n hx hb dX10_comes_33 rfl (lv_at hl 3 rfl) ?_
          refine kg_get (v := .int (nI 3)) (C := RX10) (T := TX10) (N := 9) hx hb hts hinX10 hown hK hw h_17 rfl 2 (by decide) (hts (.fieldLink RX10 60 "BetMaker" "traderCount" "I") (by decide +kernel)) (fun _ h9 => h9) rfl dX10_comes_34 ?_
          refine kn_ge 2 3 rfl rfl (by omega) (by omega) (tgt := 75) hx hb dX10_comes_37 (by decide) (fun c_27 => ?_) (fun c_27 => ?_)
          · exfalso; omega
          · have hqt := hq2
            have hci := hc2
            refine lv_aload_n hx hb dX10_comes_40 rfl (lv_at hl 3 rfl) ?_
            refine lv_iload hx hb dX10_comes_41 (lv_at hl 0 rfl) ?_
            refine kc_v (As := [.int 2]) (rest := []) S0 (c_X10_findTrader l D tc s.heap.size ad ct_16 (t := 2) (nt := 3) h_17 h_19 (by omega) (by omega) hqt) (cwV 1 hts gX10_comes_X10_findTrader rfl rfl rfl (by decide +kernel) ⟨Nat.le_of_ble_eq_true rfl, Nat.le_of_ble_eq_true rfl⟩) hK hw h_17 rfl rfl hl.1 rfl (Nat.le_of_ble_eq_true rfl) dX10_comes_43 ⟨Nat.le_of_ble_eq_true rfl, (Nat.le_of_ble_eq_true rfl)⟩ ?_
            refine lv_astore (lv' := [(5, .ref (ad (30 + 2))), (4, .int 2), (2, .long ((0 + ((kU b N) * (ho 0) c)) + ((kU b N) * (ho 1) c))), (0, .ref (ad 0)), (1, .int (nI c))]) hx hb dX10_comes_46 hl (by decide) rfl (fun ls hl => ?_)
            refine lv_aload hx hb dX10_comes_48 (lv_at hl 0 rfl) ?_
            refine lv_ifnull hx hb dX10_comes_50 ?_
            refine lv_lload_n hx hb dX10_comes_53 rfl (lv_at hl 2 rfl) ?_
            refine lv_aload hx hb dX10_comes_54 (lv_at hl 0 rfl) ?_
            refine lv_iload_n hx hb dX10_comes_56 rfl (lv_at hl 4 rfl) ?_
            refine lv_aload_n hx hb dX10_comes_57 rfl (lv_at hl 3 rfl) ?_
            refine kg_get (v := .ref (ad 1)) (C := RX10) (T := TX10) (N := 9) hx hb hts hinX10 hown hK hw h_17 rfl 0 (by decide) (hts (.fieldLink RX10 12 "BetMaker" "maker" "LBetMaker$Maker;") (by decide +kernel)) (fun _ h9 => h9) rfl dX10_comes_58 ?_
            refine kc_v (As := []) (rest := [.int (nI c), .ref (ad (30 + 2)), .long ((0 + ((kU b N) * (ho 0) c)) + ((kU b N) * (ho 1) c))]) S0 (c_X3_unit l D tc s.heap.size ad ct_16 (N := N) h_18) (cwV 0 hts gX10_comes_X3_unit rfl rfl rfl (by decide +kernel) ⟨Nat.le_of_ble_eq_true rfl, Nat.le_of_ble_eq_true rfl⟩) hK hw h_18 rfl rfl hl.1 rfl (Nat.le_of_ble_eq_true rfl) dX10_comes_61 ⟨Nat.le_of_ble_eq_true rfl, (Nat.le_of_ble_eq_true rfl)⟩ ?_
            refine kt_vu (As := [.int (nI c), .long (kU b N)]) (rest := [.long ((0 + ((kU b N) * (ho 0) c)) + ((kU b N) * (ho 1) c))]) S0 hci (c_X5_settle l D tc s.heap.size ad ct_16 (c := c) h_20 h_21 hci hc (by omega)) (cwV 2 hts gX10_comes_X5_settle rfl rfl rfl (by decide +kernel) ⟨Nat.le_of_ble_eq_true rfl, Nat.le_of_ble_eq_true rfl⟩) (va_cwU 2 hts gX10_comes_X5_settle_u125X7 rfl rfl rfl rfl (by decide +kernel) ⟨Nat.le_of_ble_eq_true rfl, Nat.le_of_ble_eq_true rfl⟩) (va_cwU 2 hts gX10_comes_X5_settle_u125X9 rfl rfl rfl rfl (by decide +kernel) ⟨Nat.le_of_ble_eq_true rfl, Nat.le_of_ble_eq_true rfl⟩) hK hw hA h_20 rfl hl.1 rfl (Nat.le_of_ble_eq_true rfl) dX10_comes_64 ⟨Nat.le_of_ble_eq_true rfl, (Nat.le_of_ble_eq_true rfl)⟩ (fun H locs hw => ?_)
            obtain ⟨ct_28, ect_28⟩ : ∃ z, z = kw_up (kw_up ct_16 (30 + 2) (.inr (ci 2, [.int (nb 2), .ref (ad (36 + 2)), .ref (ad (42 + 2)), .long ((pu 2) + (kU b N) * (ho 2) c), .int (de 2)]))) (36 + 2) (eJ tc N (kFl (ho 2) 0 N)) := ⟨_, rfl⟩
            rw [← ect_28] at hw
            have h_29 : ct_28 0 = some (.inr (10, [.ref (ad 1), .ref (ad 3), .int (nI 3), .ref (ad 4), .ref (ad 9), .ref (ad 11), .ref (ad 12), .ref (ad 13), .int lf])) := by rw [ect_28, kw_up_n (by omega), kw_up_n (by omega)]; exact h_17
            have h_30 : ct_28 1 = some (.inr (3, [.ref (ad 2), .int (nI N), .int b, .long ss, .long g, .int cm])) := by rw [ect_28, kw_up_n (by omega), kw_up_n (by omega)]; exact h_18
            have h_31 : ct_28 3 = some (eQ tc 4 6 qt) := by rw [ect_28, kw_up_n (by omega), kw_up_n (by omega)]; exact h_19
            have h_32 : ct_28 (30 + 0) = some (.inr (ci 0, [.int (nb 0), .ref (ad (36 + 0)), .ref (ad (42 + 0)), .long ((pu 0) + (kU b N) * (ho 0) c), .int (de 0)])) := by rw [ect_28, kw_up_n (by omega), kw_up_n (by omega)]; exact h_22
            have h_33 : ct_28 (36 + 0) = some (eJ tc N (kFl (ho 0) 0 N)) := by rw [ect_28, kw_up_n (by omega), kw_up_n (by omega)]; exact h_23
            have h_34 : ct_28 (30 + 1) = some (.inr (ci 1, [.int (nb 1), .ref (ad (36 + 1)), .ref (ad (42 + 1)), .long ((pu 1) + (kU b N) * (ho 1) c), .int (de 1)])) := by rw [ect_28, kw_up_n (by omega), kw_up_n (by omega)]; exact h_24
            have h_35 : ct_28 (36 + 1) = some (eJ tc N (kFl (ho 1) 0 N)) := by rw [ect_28, kw_up_n (by omega), kw_up_n (by omega)]; exact h_25
            have h_36 : ct_28 (30 + 2) = some (.inr (ci 2, [.int (nb 2), .ref (ad (36 + 2)), .ref (ad (42 + 2)), .long ((pu 2) + (kU b N) * (ho 2) c), .int (de 2)])) := by rw [ect_28, kw_up_n (by omega)]; exact kw_up_s
            have h_37 : ct_28 (36 + 2) = some (eJ tc N (kFl (ho 2) 0 N)) := by rw [ect_28]; exact kw_up_s
            have hfr_38 : ∀ j, j ≠ 1 → j ≠ (30 + 0) → j ≠ (36 + 0) → j ≠ (30 + 1) → j ≠ (36 + 1) → j ≠ (30 + 2) → j ≠ (36 + 2) → ct_28 j = ct j := fun j a0 a1 a2 a3 a4 a5 a6 => by rw [ect_28]; exact (kw_up_n a6).trans ((kw_up_n a5).trans (hfr_26 j a0 a1 a2 a3 a4 a5 a6))
            refine lv_ladd hx hb dX10_comes_67 ?_
            refine lv_lstore_n (lv' := [(2, .long (((0 + ((kU b N) * (ho 0) c)) + ((kU b N) * (ho 1) c)) + ((kU b N) * (ho 2) c))), (5, .ref (ad (30 + 2))), (4, .int 2), (0, .ref (ad 0)), (1, .int (nI c))]) hx hb dX10_comes_68 rfl hl (by decide) rfl (fun ls hl => ?_)
            refine lv_iinc (v := 3) (lv' := [(4, .int 3), (2, .long (((0 + ((kU b N) * (ho 0) c)) + ((kU b N) * (ho 1) c)) + ((kU b N) * (ho 2) c))), (5, .ref (ad (30 + 2))), (0, .ref (ad 0)), (1, .int (nI c))]) hx hb dX10_comes_69 hl (k := 2) rfl rfl (by decide) rfl (fun ls hl => ?_)
            refine lv_goto (tgt := 31) hx hb dX10_comes_72 (by decide) ?_
            refine lv_iload hx hb dX10_comes_31 (lv_at hl 0 rfl) ?_
            refine lv_aload_n hx hb dX10_comes_33 rfl (lv_at hl 3 rfl) ?_
            refine kg_get (v := .int (nI 3)) (C := RX10) (T := TX10) (N := 9) hx hb hts hinX10 hown hK hw h_29 rfl 2 (by decide) (hts (.fieldLink RX10 60 "BetMaker" "traderCount" "I") (by decide +kernel)) (fun _ h9 => h9) rfl dX10_comes_34 ?_
            refine kn_ge 3 3 rfl rfl (by omega) (by omega) (tgt := 75) hx hb dX10_comes_37 (by decide) (fun c_39 => ?_) (fun c_39 => ?_)
            · refine lv_aload_n hx hb dX10_comes_75 rfl (lv_at hl 3 rfl) ?_
              refine kg_get (v := .ref (ad 1)) (C := RX10) (T := TX10) (N := 9) hx hb hts hinX10 hown hK hw h_29 rfl 0 (by decide) (hts (.fieldLink RX10 12 "BetMaker" "maker" "LBetMaker$Maker;") (by decide +kernel)) (fun _ h9 => h9) rfl dX10_comes_76 ?_
              refine lv_iload_n hx hb dX10_comes_79 rfl (lv_at hl 4 rfl) ?_
              refine lv_lload_n hx hb dX10_comes_80 rfl (lv_at hl 1 rfl) ?_
              refine kc_vu (As := [.int (nI c), .long (((0 + ((kU b N) * (ho 0) c)) + ((kU b N) * (ho 1) c)) + ((kU b N) * (ho 2) c))]) (rest := []) S0 (c_X3_settle l D tc s.heap.size ad ct_28 (N := N) h_30) (cwV 2 hts gX10_comes_X3_settle rfl rfl rfl (by decide +kernel) ⟨Nat.le_of_ble_eq_true rfl, Nat.le_of_ble_eq_true rfl⟩) hK hw hA h_30 rfl rfl hl.1 rfl (Nat.le_of_ble_eq_true rfl) dX10_comes_81 ⟨Nat.le_of_ble_eq_true rfl, (Nat.le_of_ble_eq_true rfl)⟩ (fun H locs hw => ?_)
              obtain ⟨ct_40, ect_40⟩ : ∃ z, z = kw_up ct_28 1 (.inr (3, [.ref (ad 2), .int (nI N), .int b, .long ss, .long (g - (((0 + ((kU b N) * (ho 0) c)) + ((kU b N) * (ho 1) c)) + ((kU b N) * (ho 2) c))), .int (nI c)])) := ⟨_, rfl⟩
              rw [← ect_40] at hw
              have h_41 : ct_40 0 = some (.inr (10, [.ref (ad 1), .ref (ad 3), .int (nI 3), .ref (ad 4), .ref (ad 9), .ref (ad 11), .ref (ad 12), .ref (ad 13), .int lf])) := by rw [ect_40, kw_up_n (by omega)]; exact h_29
              have h_42 : ct_40 3 = some (eQ tc 4 6 qt) := by rw [ect_40, kw_up_n (by omega)]; exact h_31
              have h_43 : ct_40 (30 + 0) = some (.inr (ci 0, [.int (nb 0), .ref (ad (36 + 0)), .ref (ad (42 + 0)), .long ((pu 0) + (kU b N) * (ho 0) c), .int (de 0)])) := by rw [ect_40, kw_up_n (by omega)]; exact h_32
              have h_44 : ct_40 (36 + 0) = some (eJ tc N (kFl (ho 0) 0 N)) := by rw [ect_40, kw_up_n (by omega)]; exact h_33
              have h_45 : ct_40 (30 + 1) = some (.inr (ci 1, [.int (nb 1), .ref (ad (36 + 1)), .ref (ad (42 + 1)), .long ((pu 1) + (kU b N) * (ho 1) c), .int (de 1)])) := by rw [ect_40, kw_up_n (by omega)]; exact h_34
              have h_46 : ct_40 (36 + 1) = some (eJ tc N (kFl (ho 1) 0 N)) := by rw [ect_40, kw_up_n (by omega)]; exact h_35
              have h_47 : ct_40 (30 + 2) = some (.inr (ci 2, [.int (nb 2), .ref (ad (36 + 2)), .ref (ad (42 + 2)), .long ((pu 2) + (kU b N) * (ho 2) c), .int (de 2)])) := by rw [ect_40, kw_up_n (by omega)]; exact h_36
              have h_48 : ct_40 (36 + 2) = some (eJ tc N (kFl (ho 2) 0 N)) := by rw [ect_40, kw_up_n (by omega)]; exact h_37
              have h_49 : ct_40 1 = some (.inr (3, [.ref (ad 2), .int (nI N), .int b, .long ss, .long (g - (((0 + ((kU b N) * (ho 0) c)) + ((kU b N) * (ho 1) c)) + ((kU b N) * (ho 2) c))), .int (nI c)])) := by rw [ect_40]; exact kw_up_s
              have hfr_50 : ∀ j, j ≠ 1 → j ≠ (30 + 0) → j ≠ (36 + 0) → j ≠ (30 + 1) → j ≠ (36 + 1) → j ≠ (30 + 2) → j ≠ (36 + 2) → ct_40 j = ct j := fun j a0 a1 a2 a3 a4 a5 a6 => by rw [ect_40]; exact (kw_up_n a0).trans (hfr_38 j a0 a1 a2 a3 a4 a5 a6)
              refine lv_iconst (v := 1) hx hb dX10_comes_84 (by decide) ?_
              have hq_51 : ct_40 1 = some (.inr (3, [.ref (ad 2), .int (nI N), .int b, .long ss, .long (g - su (fun t => kU b N * ho t c) 3), .int (nI c)])) := h_49.trans (congrArg some (show (.inr (3, [.ref (ad 2), .int (nI N), .int b, .long ss, .long (g - (((0 + ((kU b N) * (ho 0) c)) + ((kU b N) * (ho 1) c)) + ((kU b N) * (ho 2) c))), .int (nI c)]) : va_E) = .inr (3, [.ref (ad 2), .int (nI N), .int b, .long ss, .long (g - su (fun t => kU b N * ho t c) 3), .int (nI c)]) from by rfl))
              have hq_52 : ct_40 (30 + 0) = some (.inr (ci 0, [.int (nb 0), .ref (ad (36 + 0)), .ref (ad (42 + 0)), .long (pu 0 + kU b N * ho 0 c), .int (de 0)])) := h_43.trans (congrArg some (show (.inr (ci 0, [.int (nb 0), .ref (ad (36 + 0)), .ref (ad (42 + 0)), .long ((pu 0) + (kU b N) * (ho 0) c), .int (de 0)]) : va_E) = .inr (ci 0, [.int (nb 0), .ref (ad (36 + 0)), .ref (ad (42 + 0)), .long (pu 0 + kU b N * ho 0 c), .int (de 0)]) from by rfl))
              have hq_53 := h_44
              have hq_54 : ct_40 (30 + 1) = some (.inr (ci 1, [.int (nb 1), .ref (ad (36 + 1)), .ref (ad (42 + 1)), .long (pu 1 + kU b N * ho 1 c), .int (de 1)])) := h_45.trans (congrArg some (show (.inr (ci 1, [.int (nb 1), .ref (ad (36 + 1)), .ref (ad (42 + 1)), .long ((pu 1) + (kU b N) * (ho 1) c), .int (de 1)]) : va_E) = .inr (ci 1, [.int (nb 1), .ref (ad (36 + 1)), .ref (ad (42 + 1)), .long (pu 1 + kU b N * ho 1 c), .int (de 1)]) from by rfl))
              have hq_55 := h_46
              have hq_56 : ct_40 (30 + 2) = some (.inr (ci 2, [.int (nb 2), .ref (ad (36 + 2)), .ref (ad (42 + 2)), .long (pu 2 + kU b N * ho 2 c), .int (de 2)])) := h_47.trans (congrArg some (show (.inr (ci 2, [.int (nb 2), .ref (ad (36 + 2)), .ref (ad (42 + 2)), .long ((pu 2) + (kU b N) * (ho 2) c), .int (de 2)]) : va_E) = .inr (ci 2, [.int (nb 2), .ref (ad (36 + 2)), .ref (ad (42 + 2)), .long (pu 2 + kU b N * ho 2 c), .int (de 2)]) from by rfl))
              have hq_57 := h_48
              have hend := kw_eq7 hq_51 hq_52 hq_53 hq_54 hq_55 hq_56 hq_57 hfr_50
              rw [hend] at hw
              exact W.iret hx hb hr (fun t ht _ => ⟨rfl, by rw [ht]; exact hw.1, hw.2.2.1, hw.2.1.F ht, by rw [ht]; exact hw.2.2.2⟩) hw.2.1.2.2 dX10_comes_85
            · exfalso; omega
    · exact absurd hm c_2
  · exact absurd kC c_1
set_option maxHeartbeats 4000000 in
set_option maxRecDepth 100000 in
theorem c_X10_comes_m4 (l : Launch) (D : va_G) (tc : Nat → ClassId) (sz : Nat) (ad : Nat → Nat) (ct : Nat → Option va_E) {N : Nat} {b cm lf : Int32} {ss g : Int64}  {qt : Nat → Option Nat}   {ci : Nat → Nat} {nb de : Nat → Int32} {pu : Nat → Int64} {ho : Nat → Nat → Int64} {we : Nat → Nat → Int32} {c : Nat} (h0 : ct 0 = some (.inr (10, [.ref (ad 1), .ref (ad 3), .int (nI 4), .ref (ad 4), .ref (ad 9), .ref (ad 11), .ref (ad 12), .ref (ad 13), .int lf]))) (h1 : ct 1 = some (.inr (3, [.ref (ad 2), .int (nI N), .int b, .long ss, .long g, .int cm]))) (h3 : ct 3 = some (eQ tc 4 6 qt)) (hc : c < N) (hN : N ≤ 8) (hm : cm = (-9)) (hfam : ∀ yy, yy < 4 → (qt yy = some (ad (30 + yy)) ∧ (ci yy = 5 ∨ ci yy = 7 ∨ ci yy = 9)) ∧ ct (30 + yy) = some (.inr (ci yy, [.int (nb yy), .ref (ad (36 + yy)), .ref (ad (42 + yy)), .long (pu yy), .int (de yy)])) ∧ ct (36 + yy) = some (eJ tc N (ho yy)) ∧ ct (42 + yy) = some (eI tc N (we yy))) : Met l yX10_comes wsX10_comes ({ frames := 2, cells := 0, slots := 0, locals := 57 }) (va_Pc [.ref (ad 0), .int (nI c)] (kw_B D tc sz ad ct)) (kw_Q D ad (kw_A ad ct sz) (some (.int 1)) (kw_up (kw_up (kw_up (kw_up (kw_up (kw_up (kw_up (kw_up (kw_up ct 1 (.inr (3, [.ref (ad 2), .int (nI N), .int b, .long ss, .long (g - su (fun t => kU b N * ho t c) 4), .int (nI c)]))) (30 + 0) (.inr (ci 0, [.int (nb 0), .ref (ad (36 + 0)), .ref (ad (42 + 0)), .long (pu 0 + kU b N * ho 0 c), .int (de 0)]))) (36 + 0) (eJ tc N (kFl (ho 0) 0 N))) (30 + 1) (.inr (ci 1, [.int (nb 1), .ref (ad (36 + 1)), .ref (ad (42 + 1)), .long (pu 1 + kU b N * ho 1 c), .int (de 1)]))) (36 + 1) (eJ tc N (kFl (ho 1) 0 N))) (30 + 2) (.inr (ci 2, [.int (nb 2), .ref (ad (36 + 2)), .ref (ad (42 + 2)), .long (pu 2 + kU b N * ho 2 c), .int (de 2)]))) (36 + 2) (eJ tc N (kFl (ho 2) 0 N))) (30 + 3) (.inr (ci 3, [.int (nb 3), .ref (ad (36 + 3)), .ref (ad (42 + 3)), .long (pu 3 + kU b N * ho 3 c), .int (de 3)]))) (36 + 3) (eJ tc N (kFl (ho 3) 0 N))) 0) 0 0 (kw_A ad ct sz) := by
  refine Met.ofW (cc := cX10_comes) (maxL := 6) (ret := (some .int)) (by decide) rfl ?_
  intro pg en s m args below meth cod s₁ B hml hv
  obtain ⟨rfl, hsz, hP0, hK⟩ := hv
  have hx := B.exec
  have hb := B.bytes
  have hr := B.returns
  have hts := atoms_spec (ws := wsX10_comes) B.pre
  have hown : s.vm.findClass RX10 = some m.cls := findClass_of_methodNamed B.named
  have hlocks := B.notSynchronized
  subst hsz
  have hw := kw_H.start hP0
  generalize hAe : kw_A ad ct s.heap.size = A at hw ⊢
  have hA : ∀ q, s.heap.size ≤ q → A q := fun q h => by rw [← hAe]; exact Or.inr h
  have hinX10 : ∀ w ∈ wsX100, w ∈ wsX10_comes := by decide +kernel
  have hl := lv_entry ([.ref (ad 0), .int (nI c)]) (n := 6) (Nat.le_of_ble_eq_true rfl)
  rw [lg_entry_eq]
  generalize (lg_sl ([.ref (ad 0), .int (nI c)]) ++ List.replicate (6 - (lg_sl ([.ref (ad 0), .int (nI c)])).length) Slot.unset).toArray = ls at hl ⊢
  have hl : lv_has ls 6 [(0, .ref (ad 0)), (1, .int (nI c))] := hl
  have S0 : CallFix pg m cod cX10_comes 6 s _ wsX10_comes RX10 := ⟨hx, hb, hml, hown, hts⟩
  have hfr : ∀ j, j ≠ 1 → j ≠ (30 + 0) → j ≠ (36 + 0) → j ≠ (30 + 1) → j ≠ (36 + 1) → j ≠ (30 + 2) → j ≠ (36 + 2) → j ≠ (30 + 3) → j ≠ (36 + 3) → ct j = ct j := fun _ _ _ _ _ _ _ _ _ _ => rfl
  have kC : 0 ≤ nI c ∧ nI c < nI N := ⟨nI_pos' (by omega), nI_lt hc (by omega)⟩
  refine lv_aload_n hx hb dX10_comes_0 rfl (lv_at hl 0 rfl) ?_
  refine kg_get (v := .ref (ad 1)) (C := RX10) (T := TX10) (N := 9) hx hb hts hinX10 hown hK hw h0 rfl 0 (by decide) (hts (.fieldLink RX10 12 "BetMaker" "maker" "LBetMaker$Maker;") (by decide +kernel)) (fun _ h9 => h9) rfl dX10_comes_1 ?_
  refine lv_iload_n hx hb dX10_comes_4 rfl (lv_at hl 1 rfl) ?_
  refine kc_v (As := [.int (nI c)]) (rest := []) S0 (c_X3_isCase l D tc s.heap.size ad ct (N := N) h1) (cwV 1 hts gX10_comes_X3_isCase rfl rfl rfl (by decide +kernel) ⟨Nat.le_of_ble_eq_true rfl, Nat.le_of_ble_eq_true rfl⟩) hK hw h1 rfl rfl hl.1 rfl (Nat.le_of_ble_eq_true rfl) dX10_comes_5 ⟨Nat.le_of_ble_eq_true rfl, (Nat.le_of_ble_eq_true rfl)⟩ ?_
  refine kb_ifne (tgt := 13) hx hb dX10_comes_8 (by decide) (fun c_1 => ?_) (fun c_1 => ?_)
  · refine lv_aload_n hx hb dX10_comes_13 rfl (lv_at hl 0 rfl) ?_
    refine kg_get (v := .ref (ad 1)) (C := RX10) (T := TX10) (N := 9) hx hb hts hinX10 hown hK hw h0 rfl 0 (by decide) (hts (.fieldLink RX10 12 "BetMaker" "maker" "LBetMaker$Maker;") (by decide +kernel)) (fun _ h9 => h9) rfl dX10_comes_14 ?_
    refine kc_v (As := []) (rest := []) S0 (c_X3_hasCome l D tc s.heap.size ad ct (N := N) h1) (cwV 0 hts gX10_comes_X3_hasCome rfl rfl rfl (by decide +kernel) ⟨Nat.le_of_ble_eq_true rfl, Nat.le_of_ble_eq_true rfl⟩) hK hw h1 rfl rfl hl.1 rfl (Nat.le_of_ble_eq_true rfl) dX10_comes_17 ⟨Nat.le_of_ble_eq_true rfl, (Nat.le_of_ble_eq_true rfl)⟩ ?_
    refine kb_ifeq (tgt := 26) hx hb dX10_comes_20 (by decide) (fun c_2 => ?_) (fun c_2 => ?_)
    · obtain ⟨⟨hq0, hc0⟩, hTo0, hTh0, -⟩ := hfam 0 (by omega)
      obtain ⟨⟨hq1, hc1⟩, hTo1, hTh1, -⟩ := hfam 1 (by omega)
      obtain ⟨⟨hq2, hc2⟩, hTo2, hTh2, -⟩ := hfam 2 (by omega)
      obtain ⟨⟨hq3, hc3⟩, hTo3, hTh3, -⟩ := hfam 3 (by omega)
      refine lv_lconst (v := 0) hx hb dX10_comes_26 (by decide) ?_
      refine lv_lstore_n (lv' := [(2, .long 0), (0, .ref (ad 0)), (1, .int (nI c))]) hx hb dX10_comes_27 rfl hl (by decide) rfl (fun ls hl => ?_)
      refine lv_iconst (v := 0) hx hb dX10_comes_28 (by decide) ?_
      refine lv_istore (lv' := [(4, .int 0), (2, .long 0), (0, .ref (ad 0)), (1, .int (nI c))]) hx hb dX10_comes_29 hl (by decide) rfl (fun ls hl => ?_)
      refine lv_iload hx hb dX10_comes_31 (lv_at hl 0 rfl) ?_
      refine lv_aload_n hx hb dX10_comes_33 rfl (lv_at hl 2 rfl) ?_
      refine kg_get (v := .int (nI 4)) (C := RX10) (T := TX10) (N := 9) hx hb hts hinX10 hown hK hw h0 rfl 2 (by decide) (hts (.fieldLink RX10 60 "BetMaker" "traderCount" "I") (by decide +kernel)) (fun _ h9 => h9) rfl dX10_comes_34 ?_
      refine kn_ge 0 4 rfl rfl (by omega) (by omega) (tgt := 75) hx hb dX10_comes_37 (by decide) (fun c_3 => ?_) (fun c_3 => ?_)
      · exfalso; omega
      · have hqt := hq0
        have hci := hc0
        refine lv_aload_n hx hb dX10_comes_40 rfl (lv_at hl 2 rfl) ?_
        refine lv_iload hx hb dX10_comes_41 (lv_at hl 0 rfl) ?_
        refine kc_v (As := [.int 0]) (rest := []) S0 (c_X10_findTrader l D tc s.heap.size ad ct (t := 0) (nt := 4) h0 h3 (by omega) (by omega) hqt) (cwV 1 hts gX10_comes_X10_findTrader rfl rfl rfl (by decide +kernel) ⟨Nat.le_of_ble_eq_true rfl, Nat.le_of_ble_eq_true rfl⟩) hK hw h0 rfl rfl hl.1 rfl (Nat.le_of_ble_eq_true rfl) dX10_comes_43 ⟨Nat.le_of_ble_eq_true rfl, (Nat.le_of_ble_eq_true rfl)⟩ ?_
        refine lv_astore (lv' := [(5, .ref (ad (30 + 0))), (4, .int 0), (2, .long 0), (0, .ref (ad 0)), (1, .int (nI c))]) hx hb dX10_comes_46 hl (by decide) rfl (fun ls hl => ?_)
        refine lv_aload hx hb dX10_comes_48 (lv_at hl 0 rfl) ?_
        refine lv_ifnull hx hb dX10_comes_50 ?_
        refine lv_lload_n hx hb dX10_comes_53 rfl (lv_at hl 2 rfl) ?_
        refine lv_aload hx hb dX10_comes_54 (lv_at hl 0 rfl) ?_
        refine lv_iload_n hx hb dX10_comes_56 rfl (lv_at hl 4 rfl) ?_
        refine lv_aload_n hx hb dX10_comes_57 rfl (lv_at hl 3 rfl) ?_
        refine kg_get (v := .ref (ad 1)) (C := RX10) (T := TX10) (N := 9) hx hb hts hinX10 hown hK hw h0 rfl 0 (by decide) (hts (.fieldLink RX10 12 "BetMaker" "maker" "LBetMaker$Maker;") (by decide +kernel)) (fun _ h9 => h9) rfl dX10_comes_58 ?_
        refine kc_v (As := []) (rest := [.int (nI c), .ref (ad (30 + 0)), .long 0]) S0 (c_X3_unit l D tc s.heap.size ad ct (N := N) h1) (cwV 0 hts gX10_comes_X3_unit rfl rfl rfl (by decide +kernel) ⟨Nat.le_of_ble_eq_true rfl, Nat.le_of_ble_eq_true rfl⟩) hK hw h1 rfl rfl hl.1 rfl (Nat.le_of_ble_eq_true rfl) dX10_comes_61 ⟨Nat.le_of_ble_eq_true rfl, (Nat.le_of_ble_eq_true rfl)⟩ ?_
        refine kt_vu (As := [.int (nI c), .long (kU b N)]) (rest := [.long 0]) S0 hci (c_X5_settle l D tc s.heap.size ad ct (c := c) hTo0 hTh0 hci hc (by omega)) (cwV 2 hts gX10_comes_X5_settle rfl rfl rfl (by decide +kernel) ⟨Nat.le_of_ble_eq_true rfl, Nat.le_of_ble_eq_true rfl⟩) (va_cwU 2 hts gX10_comes_X5_settle_u125X7 rfl rfl rfl rfl (by decide +kernel) ⟨Nat.le_of_ble_eq_true rfl, Nat.le_of_ble_eq_true rfl⟩) (va_cwU 2 hts gX10_comes_X5_settle_u125X9 rfl rfl rfl rfl (by decide +kernel) ⟨Nat.le_of_ble_eq_true rfl, Nat.le_of_ble_eq_true rfl⟩) hK hw hA hTo0 rfl hl.1 rfl (Nat.le_of_ble_eq_true rfl) dX10_comes_64 ⟨Nat.le_of_ble_eq_true rfl, (Nat.le_of_ble_eq_true rfl)⟩ (fun H locs hw => ?_)
        obtain ⟨ct_4, ect_4⟩ : ∃ z, z = kw_up (kw_up ct (30 + 0) (.inr (ci 0, [.int (nb 0), .ref (ad (36 + 0)), .ref (ad (42 + 0)), .long ((pu 0) + (kU b N) * (ho 0) c), .int (de 0)]))) (36 + 0) (eJ tc N (kFl (ho 0) 0 N)) := ⟨_, rfl⟩
        rw [← ect_4] at hw
        have h_5 : ct_4 0 = some (.inr (10, [.ref (ad 1), .ref (ad 3), .int (nI 4), .ref (ad 4), .ref (ad 9), .ref (ad 11), .ref (ad 12), .ref (ad 13), .int lf])) := by rw [ect_4, kw_up_n (by omega), kw_up_n (by omega)]; exact h0
        have h_6 : ct_4 1 = some (.inr (3, [.ref (ad 2), .int (nI N), .int b, .long ss, .long g, .int cm])) := by rw [ect_4, kw_up_n (by omega), kw_up_n (by omega)]; exact h1
        have h_7 : ct_4 3 = some (eQ tc 4 6 qt) := by rw [ect_4, kw_up_n (by omega), kw_up_n (by omega)]; exact h3
        have h_8 : ct_4 (30 + 1) = some (.inr (ci 1, [.int (nb 1), .ref (ad (36 + 1)), .ref (ad (42 + 1)), .long (pu 1), .int (de 1)])) := by rw [ect_4, kw_up_n (by omega), kw_up_n (by omega)]; exact hTo1
        have h_9 : ct_4 (36 + 1) = some (eJ tc N (ho 1)) := by rw [ect_4, kw_up_n (by omega), kw_up_n (by omega)]; exact hTh1
        have h_10 : ct_4 (30 + 2) = some (.inr (ci 2, [.int (nb 2), .ref (ad (36 + 2)), .ref (ad (42 + 2)), .long (pu 2), .int (de 2)])) := by rw [ect_4, kw_up_n (by omega), kw_up_n (by omega)]; exact hTo2
        have h_11 : ct_4 (36 + 2) = some (eJ tc N (ho 2)) := by rw [ect_4, kw_up_n (by omega), kw_up_n (by omega)]; exact hTh2
        have h_12 : ct_4 (30 + 3) = some (.inr (ci 3, [.int (nb 3), .ref (ad (36 + 3)), .ref (ad (42 + 3)), .long (pu 3), .int (de 3)])) := by rw [ect_4, kw_up_n (by omega), kw_up_n (by omega)]; exact hTo3
        have h_13 : ct_4 (36 + 3) = some (eJ tc N (ho 3)) := by rw [ect_4, kw_up_n (by omega), kw_up_n (by omega)]; exact hTh3
        have h_14 : ct_4 (30 + 0) = some (.inr (ci 0, [.int (nb 0), .ref (ad (36 + 0)), .ref (ad (42 + 0)), .long ((pu 0) + (kU b N) * (ho 0) c), .int (de 0)])) := by rw [ect_4, kw_up_n (by omega)]; exact kw_up_s
        have h_15 : ct_4 (36 + 0) = some (eJ tc N (kFl (ho 0) 0 N)) := by rw [ect_4]; exact kw_up_s
        have hfr_16 : ∀ j, j ≠ 1 → j ≠ (30 + 0) → j ≠ (36 + 0) → j ≠ (30 + 1) → j ≠ (36 + 1) → j ≠ (30 + 2) → j ≠ (36 + 2) → j ≠ (30 + 3) → j ≠ (36 + 3) → ct_4 j = ct j := fun j a0 a1 a2 a3 a4 a5 a6 a7 a8 => by rw [ect_4]; exact (kw_up_n a2).trans ((kw_up_n a1).trans (hfr j a0 a1 a2 a3 a4 a5 a6 a7 a8))
        refine lv_ladd hx hb dX10_comes_67 ?_
        refine lv_lstore_n (lv' := [(2, .long (0 + ((kU b N) * (ho 0) c))), (5, .ref (ad (30 + 0))), (4, .int 0), (0, .ref (ad 0)), (1, .int (nI c))]) hx hb dX10_comes_68 rfl hl (by decide) rfl (fun ls hl => ?_)
        refine lv_iinc (v := 1) (lv' := [(4, .int 1), (2, .long (0 + ((kU b N) * (ho 0) c))), (5, .ref (ad (30 + 0))), (0, .ref (ad 0)), (1, .int (nI c))]) hx hb dX10_comes_69 hl (k := 2) rfl rfl (by decide) rfl (fun ls hl => ?_)
        refine lv_goto (tgt := 31) hx hb dX10_comes_72 (by decide) ?_
        refine lv_iload hx hb dX10_comes_31 (lv_at hl 0 rfl) ?_
        refine lv_aload_n hx hb dX10_comes_33 rfl (lv_at hl 3 rfl) ?_
        refine kg_get (v := .int (nI 4)) (C := RX10) (T := TX10) (N := 9) hx hb hts hinX10 hown hK hw h_5 rfl 2 (by decide) (hts (.fieldLink RX10 60 "BetMaker" "traderCount" "I") (by decide +kernel)) (fun _ h9 => h9) rfl dX10_comes_34 ?_
        refine kn_ge 1 4 rfl rfl (by omega) (by omega) (tgt := 75) hx hb dX10_comes_37 (by decide) (fun c_17 => ?_) (fun c_17 => ?_)
        · exfalso; omega
        · have hqt := hq1
          have hci := hc1
          refine lv_aload_n hx hb dX10_comes_40 rfl (lv_at hl 3 rfl) ?_
          refine lv_iload hx hb dX10_comes_41 (lv_at hl 0 rfl) ?_
          refine kc_v (As := [.int 1]) (rest := []) S0 (c_X10_findTrader l D tc s.heap.size ad ct_4 (t := 1) (nt := 4) h_5 h_7 (by omega) (by omega) hqt) (cwV 1 hts gX10_comes_X10_findTrader rfl rfl rfl (by decide +kernel) ⟨Nat.le_of_ble_eq_true rfl, Nat.le_of_ble_eq_true rfl⟩) hK hw h_5 rfl rfl hl.1 rfl (Nat.le_of_ble_eq_true rfl) dX10_comes_43 ⟨Nat.le_of_ble_eq_true rfl, (Nat.le_of_ble_eq_true rfl)⟩ ?_
          refine lv_astore (lv' := [(5, .ref (ad (30 + 1))), (4, .int 1), (2, .long (0 + ((kU b N) * (ho 0) c))), (0, .ref (ad 0)), (1, .int (nI c))]) hx hb dX10_comes_46 hl (by decide) rfl (fun ls hl => ?_)
          refine lv_aload hx hb dX10_comes_48 (lv_at hl 0 rfl) ?_
          refine lv_ifnull hx hb dX10_comes_50 ?_
          refine lv_lload_n hx hb dX10_comes_53 rfl (lv_at hl 2 rfl) ?_
          refine lv_aload hx hb dX10_comes_54 (lv_at hl 0 rfl) ?_
          refine lv_iload_n hx hb dX10_comes_56 rfl (lv_at hl 4 rfl) ?_
          refine lv_aload_n hx hb dX10_comes_57 rfl (lv_at hl 3 rfl) ?_
          refine kg_get (v := .ref (ad 1)) (C := RX10) (T := TX10) (N := 9) hx hb hts hinX10 hown hK hw h_5 rfl 0 (by decide) (hts (.fieldLink RX10 12 "BetMaker" "maker" "LBetMaker$Maker;") (by decide +kernel)) (fun _ h9 => h9) rfl dX10_comes_58 ?_
          refine kc_v (As := []) (rest := [.int (nI c), .ref (ad (30 + 1)), .long (0 + ((kU b N) * (ho 0) c))]) S0 (c_X3_unit l D tc s.heap.size ad ct_4 (N := N) h_6) (cwV 0 hts gX10_comes_X3_unit rfl rfl rfl (by decide +kernel) ⟨Nat.le_of_ble_eq_true rfl, Nat.le_of_ble_eq_true rfl⟩) hK hw h_6 rfl rfl hl.1 rfl (Nat.le_of_ble_eq_true rfl) dX10_comes_61 ⟨Nat.le_of_ble_eq_true rfl, (Nat.le_of_ble_eq_true rfl)⟩ ?_
          refine kt_vu (As := [.int (nI c), .long (kU b N)]) (rest := [.long (0 + ((kU b N) * (ho 0) c))]) S0 hci (c_X5_settle l D tc s.heap.size ad ct_4 (c := c) h_8 h_9 hci hc (by omega)) (cwV 2 hts gX10_comes_X5_settle rfl rfl rfl (by decide +kernel) ⟨Nat.le_of_ble_eq_true rfl, Nat.le_of_ble_eq_true rfl⟩) (va_cwU 2 hts gX10_comes_X5_settle_u125X7 rfl rfl rfl rfl (by decide +kernel) ⟨Nat.le_of_ble_eq_true rfl, Nat.le_of_ble_eq_true rfl⟩) (va_cwU 2 hts gX10_comes_X5_settle_u125X9 rfl rfl rfl rfl (by decide +kernel) ⟨Nat.le_of_ble_eq_true rfl, Nat.le_of_ble_eq_true rfl⟩) hK hw hA h_8 rfl hl.1 rfl (Nat.le_of_ble_eq_true rfl) dX10_comes_64 ⟨Nat.le_of_ble_eq_true rfl, (Nat.le_of_ble_eq_true rfl)⟩ (fun H locs hw => ?_)
          obtain ⟨ct_18, ect_18⟩ : ∃ z, z = kw_up (kw_up ct_4 (30 + 1) (.inr (ci 1, [.int (nb 1), .ref (ad (36 + 1)), .ref (ad (42 + 1)), .long ((pu 1) + (kU b N) * (ho 1) c), .int (de 1)]))) (36 + 1) (eJ tc N (kFl (ho 1) 0 N)) := ⟨_, rfl⟩
          rw [← ect_18] at hw
          have h_19 : ct_18 0 = some (.inr (10, [.ref (ad 1), .ref (ad 3), .int (nI 4), .ref (ad 4), .ref (ad 9), .ref (ad 11), .ref (ad 12), .ref (ad 13), .int lf])) := by rw [ect_18, kw_up_n (by omega), kw_up_n (by omega)]; exact h_5
          have h_20 : ct_18 1 = some (.inr (3, [.ref (ad 2), .int (nI N), .int b, .long ss, .long g, .int cm])) := by rw [ect_18, kw_up_n (by omega), kw_up_n (by omega)]; exact h_6
          have h_21 : ct_18 3 = some (eQ tc 4 6 qt) := by rw [ect_18, kw_up_n (by omega), kw_up_n (by omega)]; exact h_7
          have h_22 : ct_18 (30 + 2) = some (.inr (ci 2, [.int (nb 2), .ref (ad (36 + 2)), .ref (ad (42 + 2)), .long (pu 2), .int (de 2)])) := by rw [ect_18, kw_up_n (by omega), kw_up_n (by omega)]; exact h_10
          have h_23 : ct_18 (36 + 2) = some (eJ tc N (ho 2)) := by rw [ect_18, kw_up_n (by omega), kw_up_n (by omega)]; exact h_11
          have h_24 : ct_18 (30 + 3) = some (.inr (ci 3, [.int (nb 3), .ref (ad (36 + 3)), .ref (ad (42 + 3)), .long (pu 3), .int (de 3)])) := by rw [ect_18, kw_up_n (by omega), kw_up_n (by omega)]; exact h_12
          have h_25 : ct_18 (36 + 3) = some (eJ tc N (ho 3)) := by rw [ect_18, kw_up_n (by omega), kw_up_n (by omega)]; exact h_13
          have h_26 : ct_18 (30 + 0) = some (.inr (ci 0, [.int (nb 0), .ref (ad (36 + 0)), .ref (ad (42 + 0)), .long ((pu 0) + (kU b N) * (ho 0) c), .int (de 0)])) := by rw [ect_18, kw_up_n (by omega), kw_up_n (by omega)]; exact h_14
          have h_27 : ct_18 (36 + 0) = some (eJ tc N (kFl (ho 0) 0 N)) := by rw [ect_18, kw_up_n (by omega), kw_up_n (by omega)]; exact h_15
          have h_28 : ct_18 (30 + 1) = some (.inr (ci 1, [.int (nb 1), .ref (ad (36 + 1)), .ref (ad (42 + 1)), .long ((pu 1) + (kU b N) * (ho 1) c), .int (de 1)])) := by rw [ect_18, kw_up_n (by omega)]; exact kw_up_s
          have h_29 : ct_18 (36 + 1) = some (eJ tc N (kFl (ho 1) 0 N)) := by rw [ect_18]; exact kw_up_s
          have hfr_30 : ∀ j, j ≠ 1 → j ≠ (30 + 0) → j ≠ (36 + 0) → j ≠ (30 + 1) → j ≠ (36 + 1) → j ≠ (30 + 2) → j ≠ (36 + 2) → j ≠ (30 + 3) → j ≠ (36 + 3) → ct_18 j = ct j := fun j a0 a1 a2 a3 a4 a5 a6 a7 a8 => by rw [ect_18]; exact (kw_up_n a4).trans ((kw_up_n a3).trans (hfr_16 j a0 a1 a2 a3 a4 a5 a6 a7 a8))
          refine lv_ladd hx hb dX10_comes_67 ?_
          refine lv_lstore_n (lv' := [(2, .long ((0 + ((kU b N) * (ho 0) c)) + ((kU b N) * (ho 1) c))), (5, .ref (ad (30 + 1))), (4, .int 1), (0, .ref (ad 0)), (1, .int (nI c))]) hx hb dX10_comes_68 rfl hl (by decide) rfl (fun ls hl => ?_)
          refine lv_iinc (v := 2) (lv' := [(4, .int 2), (2, .long ((0 + ((kU b N) * (ho 0) c)) + ((kU b N) * (ho 1) c))), (5, .ref (ad (30 + 1))), (0, .ref (ad 0)), (1, .int (nI c))]) hx hb dX10_comes_69 hl (k := 2) rfl rfl (by decide) rfl (fun ls hl => ?_)
          refine lv_goto (tgt := 31) hx hb dX10_comes_72 (by decide) ?_
          refine lv_iload hx hb dX10_comes_31 (lv_at hl 0 rfl) ?_
          refine lv_aload_n hx hb dX10_comes_33 rfl (lv_at hl 3 rfl) ?_
          refine kg_get (v := .int (nI 4)) (C := RX10) (T := TX10) (N := 9) hx hb hts hinX10 hown hK hw h_19 rfl 2 (by decide) (hts (.fieldLink RX10 60 "BetMaker" "traderCount" "I") (by decide +kernel)) (fun _ h9 => h9) rfl dX10_comes_34 ?_
          refine kn_ge 2 4 rfl rfl (by omega) (by omega) (tgt := 75) hx hb dX10_comes_37 (by decide) (fun c_31 => ?_) (fun c_31 => ?_)
          · exfalso; omega
          · have hqt := hq2
            have hci := hc2
            refine lv_aload_n hx hb dX10_comes_40 rfl (lv_at hl 3 rfl) ?_
            refine lv_iload hx hb dX10_comes_41 (lv_at hl 0 rfl) ?_
            refine kc_v (As := [.int 2]) (rest := []) S0 (c_X10_findTrader l D tc s.heap.size ad ct_18 (t := 2) (nt := 4) h_19 h_21 (by omega) (by omega) hqt) (cwV 1 hts gX10_comes_X10_findTrader rfl rfl rfl (by decide +kernel) ⟨Nat.le_of_ble_eq_true rfl, Nat.le_of_ble_eq_true rfl⟩) hK hw h_19 rfl rfl hl.1 rfl (Nat.le_of_ble_eq_true rfl) dX10_comes_43 ⟨Nat.le_of_ble_eq_true rfl, (Nat.le_of_ble_eq_true rfl)⟩ ?_
            refine lv_astore (lv' := [(5, .ref (ad (30 + 2))), (4, .int 2), (2, .long ((0 + ((kU b N) * (ho 0) c)) + ((kU b N) * (ho 1) c))), (0, .ref (ad 0)), (1, .int (nI c))]) hx hb dX10_comes_46 hl (by decide) rfl (fun ls hl => ?_)
            refine lv_aload hx hb dX10_comes_48 (lv_at hl 0 rfl) ?_
            refine lv_ifnull hx hb dX10_comes_50 ?_
            refine lv_lload_n hx hb dX10_comes_53 rfl (lv_at hl 2 rfl) ?_
            refine lv_aload hx hb dX10_comes_54 (lv_at hl 0 rfl) ?_
            refine lv_iload_n hx hb dX10_comes_56 rfl (lv_at hl 4 rfl) ?_
            refine lv_aload_n hx hb dX10_comes_57 rfl (lv_at hl 3 rfl) ?_
            refine kg_get (v := .ref (ad 1)) (C := RX10) (T := TX10) (N := 9) hx hb hts hinX10 hown hK hw h_19 rfl 0 (by decide) (hts (.fieldLink RX10 12 "BetMaker" "maker" "LBetMaker$Maker;") (by decide +kernel)) (fun _ h9 => h9) rfl dX10_comes_58 ?_
            refine kc_v (As := []) (rest := [.int (nI c), .ref (ad (30 + 2)), .long ((0 + ((kU b N) * (ho 0) c)) + ((kU b N) * (ho 1) c))]) S0 (c_X3_unit l D tc s.heap.size ad ct_18 (N := N) h_20) (cwV 0 hts gX10_comes_X3_unit rfl rfl rfl (by decide +kernel) ⟨Nat.le_of_ble_eq_true rfl, Nat.le_of_ble_eq_true rfl⟩) hK hw h_20 rfl rfl hl.1 rfl (Nat.le_of_ble_eq_true rfl) dX10_comes_61 ⟨Nat.le_of_ble_eq_true rfl, (Nat.le_of_ble_eq_true rfl)⟩ ?_
            refine kt_vu (As := [.int (nI c), .long (kU b N)]) (rest := [.long ((0 + ((kU b N) * (ho 0) c)) + ((kU b N) * (ho 1) c))]) S0 hci (c_X5_settle l D tc s.heap.size ad ct_18 (c := c) h_22 h_23 hci hc (by omega)) (cwV 2 hts gX10_comes_X5_settle rfl rfl rfl (by decide +kernel) ⟨Nat.le_of_ble_eq_true rfl, Nat.le_of_ble_eq_true rfl⟩) (va_cwU 2 hts gX10_comes_X5_settle_u125X7 rfl rfl rfl rfl (by decide +kernel) ⟨Nat.le_of_ble_eq_true rfl, Nat.le_of_ble_eq_true rfl⟩) (va_cwU 2 hts gX10_comes_X5_settle_u125X9 rfl rfl rfl rfl (by decide +kernel) ⟨Nat.le_of_ble_eq_true rfl, Nat.le_of_ble_eq_true rfl⟩) hK hw hA h_22 rfl hl.1 rfl (Nat.le_of_ble_eq_true rfl) dX10_comes_64 ⟨Nat.le_of_ble_eq_true rfl, (Nat.le_of_ble_eq_true rfl)⟩ (fun H locs hw => ?_)
            obtain ⟨ct_32, ect_32⟩ : ∃ z, z = kw_up (kw_up ct_18 (30 + 2) (.inr (ci 2, [.int (nb 2), .ref (ad (36 + 2)), .ref (ad (42 + 2)), .long ((pu 2) + (kU b N) * (ho 2) c), .int (de 2)]))) (36 + 2) (eJ tc N (kFl (ho 2) 0 N)) := ⟨_, rfl⟩
            rw [← ect_32] at hw
            have h_33 : ct_32 0 = some (.inr (10, [.ref (ad 1), .ref (ad 3), .int (nI 4), .ref (ad 4), .ref (ad 9), .ref (ad 11), .ref (ad 12), .ref (ad 13), .int lf])) := by rw [ect_32, kw_up_n (by omega), kw_up_n (by omega)]; exact h_19
            have h_34 : ct_32 1 = some (.inr (3, [.ref (ad 2), .int (nI N), .int b, .long ss, .long g, .int cm])) := by rw [ect_32, kw_up_n (by omega), kw_up_n (by omega)]; exact h_20
            have h_35 : ct_32 3 = some (eQ tc 4 6 qt) := by rw [ect_32, kw_up_n (by omega), kw_up_n (by omega)]; exact h_21
            have h_36 : ct_32 (30 + 3) = some (.inr (ci 3, [.int (nb 3), .ref (ad (36 + 3)), .ref (ad (42 + 3)), .long (pu 3), .int (de 3)])) := by rw [ect_32, kw_up_n (by omega), kw_up_n (by omega)]; exact h_24
            have h_37 : ct_32 (36 + 3) = some (eJ tc N (ho 3)) := by rw [ect_32, kw_up_n (by omega), kw_up_n (by omega)]; exact h_25
            have h_38 : ct_32 (30 + 0) = some (.inr (ci 0, [.int (nb 0), .ref (ad (36 + 0)), .ref (ad (42 + 0)), .long ((pu 0) + (kU b N) * (ho 0) c), .int (de 0)])) := by rw [ect_32, kw_up_n (by omega), kw_up_n (by omega)]; exact h_26
            have h_39 : ct_32 (36 + 0) = some (eJ tc N (kFl (ho 0) 0 N)) := by rw [ect_32, kw_up_n (by omega), kw_up_n (by omega)]; exact h_27
            have h_40 : ct_32 (30 + 1) = some (.inr (ci 1, [.int (nb 1), .ref (ad (36 + 1)), .ref (ad (42 + 1)), .long ((pu 1) + (kU b N) * (ho 1) c), .int (de 1)])) := by rw [ect_32, kw_up_n (by omega), kw_up_n (by omega)]; exact h_28
            have h_41 : ct_32 (36 + 1) = some (eJ tc N (kFl (ho 1) 0 N)) := by rw [ect_32, kw_up_n (by omega), kw_up_n (by omega)]; exact h_29
            have h_42 : ct_32 (30 + 2) = some (.inr (ci 2, [.int (nb 2), .ref (ad (36 + 2)), .ref (ad (42 + 2)), .long ((pu 2) + (kU b N) * (ho 2) c), .int (de 2)])) := by rw [ect_32, kw_up_n (by omega)]; exact kw_up_s
            have h_43 : ct_32 (36 + 2) = some (eJ tc N (kFl (ho 2) 0 N)) := by rw [ect_32]; exact kw_up_s
            have hfr_44 : ∀ j, j ≠ 1 → j ≠ (30 + 0) → j ≠ (36 + 0) → j ≠ (30 + 1) → j ≠ (36 + 1) → j ≠ (30 + 2) → j ≠ (36 + 2) → j ≠ (30 + 3) → j ≠ (36 + 3) → ct_32 j = ct j := fun j a0 a1 a2 a3 a4 a5 a6 a7 a8 => by rw [ect_32]; exact (kw_up_n a6).trans ((kw_up_n a5).trans (hfr_30 j a0 a1 a2 a3 a4 a5 a6 a7 a8))
            refine lv_ladd hx hb dX10_comes_67 ?_
            refine lv_lstore_n (lv' := [(2, .long (((0 + ((kU b N) * (ho 0) c)) + ((kU b N) * (ho 1) c)) + ((kU b N) * (ho 2) c))), (5, .ref (ad (30 + 2))), (4, .int 2), (0, .ref (ad 0)), (1, .int (nI c))]) hx hb dX10_comes_68 rfl hl (by decide) rfl (fun ls hl => ?_)
            refine lv_iinc (v := 3) (lv' := [(4, .int 3), (2, .long (((0 + ((kU b N) * (ho 0) c)) + ((kU b N) * (ho 1) c)) + ((kU b N) * (ho 2) c))), (5, .ref (ad (30 + 2))), (0, .ref (ad 0)), (1, .int (nI c))]) hx hb dX10_comes_69 hl (k := 2) rfl rfl (by decide) rfl (fun ls hl => ?_)
            refine lv_goto (tgt := 31) hx hb dX10_comes_72 (by decide) ?_
            refine lv_iload hx hb dX10_comes_31 (lv_at hl 0 rfl) ?_
            refine lv_aload_n hx hb dX10_comes_33 rfl (lv_at hl 3 rfl) ?_
            refine kg_get (v := .int (nI 4)) (C := RX10) (T := TX10) (N := 9) hx hb hts hinX10 hown hK hw h_33 rfl 2 (by decide) (hts (.fieldLink RX10 60 "BetMaker" "traderCount" "I") (by decide +kernel)) (fun _ h9 => h9) rfl dX10_comes_34 ?_
            refine kn_ge 3 4 rfl rfl (by omega) (by omega) (tgt := 75) hx hb dX10_comes_37 (by decide) (fun c_45 => ?_) (fun c_45 => ?_)
            · exfalso; omega
            · have hqt := hq3
              have hci := hc3
              refine lv_aload_n hx hb dX10_comes_40 rfl (lv_at hl 3 rfl) ?_
              refine lv_iload hx hb dX10_comes_41 (lv_at hl 0 rfl) ?_
              refine kc_v (As := [.int 3]) (rest := []) S0 (c_X10_findTrader l D tc s.heap.size ad ct_32 (t := 3) (nt := 4) h_33 h_35 (by omega) (by omega) hqt) (cwV 1 hts gX10_comes_X10_findTrader rfl rfl rfl (by decide +kernel) ⟨Nat.le_of_ble_eq_true rfl, Nat.le_of_ble_eq_true rfl⟩) hK hw h_33 rfl rfl hl.1 rfl (Nat.le_of_ble_eq_true rfl) dX10_comes_43 ⟨Nat.le_of_ble_eq_true rfl, (Nat.le_of_ble_eq_true rfl)⟩ ?_
              refine lv_astore (lv' := [(5, .ref (ad (30 + 3))), (4, .int 3), (2, .long (((0 + ((kU b N) * (ho 0) c)) + ((kU b N) * (ho 1) c)) + ((kU b N) * (ho 2) c))), (0, .ref (ad 0)), (1, .int (nI c))]) hx hb dX10_comes_46 hl (by decide) rfl (fun ls hl => ?_)
              refine lv_aload hx hb dX10_comes_48 (lv_at hl 0 rfl) ?_
              refine lv_ifnull hx hb dX10_comes_50 ?_
              refine lv_lload_n hx hb dX10_comes_53 rfl (lv_at hl 2 rfl) ?_
              refine lv_aload hx hb dX10_comes_54 (lv_at hl 0 rfl) ?_
              refine lv_iload_n hx hb dX10_comes_56 rfl (lv_at hl 4 rfl) ?_
              refine lv_aload_n hx hb dX10_comes_57 rfl (lv_at hl 3 rfl) ?_
              refine kg_get (v := .ref (ad 1)) (C := RX10) (T := TX10) (N := 9) hx hb hts hinX10 hown hK hw h_33 rfl 0 (by decide) (hts (.fieldLink RX10 12 "BetMaker" "maker" "LBetMaker$Maker;") (by decide +kernel)) (fun _ h9 => h9) rfl dX10_comes_58 ?_
              refine kc_v (As := []) (rest := [.int (nI c), .ref (ad (30 + 3)), .long (((0 + ((kU b N) * (ho 0) c)) + ((kU b N) * (ho 1) c)) + ((kU b N) * (ho 2) c))]) S0 (c_X3_unit l D tc s.heap.size ad ct_32 (N := N) h_34) (cwV 0 hts gX10_comes_X3_unit rfl rfl rfl (by decide +kernel) ⟨Nat.le_of_ble_eq_true rfl, Nat.le_of_ble_eq_true rfl⟩) hK hw h_34 rfl rfl hl.1 rfl (Nat.le_of_ble_eq_true rfl) dX10_comes_61 ⟨Nat.le_of_ble_eq_true rfl, (Nat.le_of_ble_eq_true rfl)⟩ ?_
              refine kt_vu (As := [.int (nI c), .long (kU b N)]) (rest := [.long (((0 + ((kU b N) * (ho 0) c)) + ((kU b N) * (ho 1) c)) + ((kU b N) * (ho 2) c))]) S0 hci (c_X5_settle l D tc s.heap.size ad ct_32 (c := c) h_36 h_37 hci hc (by omega)) (cwV 2 hts gX10_comes_X5_settle rfl rfl rfl (by decide +kernel) ⟨Nat.le_of_ble_eq_true rfl, Nat.le_of_ble_eq_true rfl⟩) (va_cwU 2 hts gX10_comes_X5_settle_u125X7 rfl rfl rfl rfl (by decide +kernel) ⟨Nat.le_of_ble_eq_true rfl, Nat.le_of_ble_eq_true rfl⟩) (va_cwU 2 hts gX10_comes_X5_settle_u125X9 rfl rfl rfl rfl (by decide +kernel) ⟨Nat.le_of_ble_eq_true rfl, Nat.le_of_ble_eq_true rfl⟩) hK hw hA h_36 rfl hl.1 rfl (Nat.le_of_ble_eq_true rfl) dX10_comes_64 ⟨Nat.le_of_ble_eq_true rfl, (Nat.le_of_ble_eq_true rfl)⟩ (fun H locs hw => ?_)
              obtain ⟨ct_46, ect_46⟩ : ∃ z, z = kw_up (kw_up ct_32 (30 + 3) (.inr (ci 3, [.int (nb 3), .ref (ad (36 + 3)), .ref (ad (42 + 3)), .long ((pu 3) + (kU b N) * (ho 3) c), .int (de 3)]))) (36 + 3) (eJ tc N (kFl (ho 3) 0 N)) := ⟨_, rfl⟩
              rw [← ect_46] at hw
              have h_47 : ct_46 0 = some (.inr (10, [.ref (ad 1), .ref (ad 3), .int (nI 4), .ref (ad 4), .ref (ad 9), .ref (ad 11), .ref (ad 12), .ref (ad 13), .int lf])) := by rw [ect_46, kw_up_n (by omega), kw_up_n (by omega)]; exact h_33
              have h_48 : ct_46 1 = some (.inr (3, [.ref (ad 2), .int (nI N), .int b, .long ss, .long g, .int cm])) := by rw [ect_46, kw_up_n (by omega), kw_up_n (by omega)]; exact h_34
              have h_49 : ct_46 3 = some (eQ tc 4 6 qt) := by rw [ect_46, kw_up_n (by omega), kw_up_n (by omega)]; exact h_35
              have h_50 : ct_46 (30 + 0) = some (.inr (ci 0, [.int (nb 0), .ref (ad (36 + 0)), .ref (ad (42 + 0)), .long ((pu 0) + (kU b N) * (ho 0) c), .int (de 0)])) := by rw [ect_46, kw_up_n (by omega), kw_up_n (by omega)]; exact h_38
              have h_51 : ct_46 (36 + 0) = some (eJ tc N (kFl (ho 0) 0 N)) := by rw [ect_46, kw_up_n (by omega), kw_up_n (by omega)]; exact h_39
              have h_52 : ct_46 (30 + 1) = some (.inr (ci 1, [.int (nb 1), .ref (ad (36 + 1)), .ref (ad (42 + 1)), .long ((pu 1) + (kU b N) * (ho 1) c), .int (de 1)])) := by rw [ect_46, kw_up_n (by omega), kw_up_n (by omega)]; exact h_40
              have h_53 : ct_46 (36 + 1) = some (eJ tc N (kFl (ho 1) 0 N)) := by rw [ect_46, kw_up_n (by omega), kw_up_n (by omega)]; exact h_41
              have h_54 : ct_46 (30 + 2) = some (.inr (ci 2, [.int (nb 2), .ref (ad (36 + 2)), .ref (ad (42 + 2)), .long ((pu 2) + (kU b N) * (ho 2) c), .int (de 2)])) := by rw [ect_46, kw_up_n (by omega), kw_up_n (by omega)]; exact h_42
              have h_55 : ct_46 (36 + 2) = some (eJ tc N (kFl (ho 2) 0 N)) := by rw [ect_46, kw_up_n (by omega), kw_up_n (by omega)]; exact h_43
              have h_56 : ct_46 (30 + 3) = some (.inr (ci 3, [.int (nb 3), .ref (ad (36 + 3)), .ref (ad (42 + 3)), .long ((pu 3) + (kU b N) * (ho 3) c), .int (de 3)])) := by rw [ect_46, kw_up_n (by omega)]; exact kw_up_s
              have h_57 : ct_46 (36 + 3) = some (eJ tc N (kFl (ho 3) 0 N)) := by rw [ect_46]; exact kw_up_s
              have hfr_58 : ∀ j, j ≠ 1 → j ≠ (30 + 0) → j ≠ (36 + 0) → j ≠ (30 + 1) → j ≠ (36 + 1) → j ≠ (30 + 2) → j ≠ (36 + 2) → j ≠ (30 + 3) → j ≠ (36 + 3) → ct_46 j = ct j := fun j a0 a1 a2 a3 a4 a5 a6 a7 a8 => by rw [ect_46]; exact (kw_up_n a8).trans ((kw_up_n a7).trans (hfr_44 j a0 a1 a2 a3 a4 a5 a6 a7 a8))
              refine lv_ladd hx hb dX10_comes_67 ?_
              refine lv_lstore_n (lv' := [(2, .long ((((0 + ((kU b N) * (ho 0) c)) + ((kU b N) * (ho 1) c)) + ((kU b N) * (ho 2) c)) + ((kU b N) * (ho 3) c))), (5, .ref (ad (30 + 3))), (4, .int 3), (0, .ref (ad 0)), (1, .int (nI c))]) hx hb dX10_comes_68 rfl hl (by decide) rfl (fun ls hl => ?_)
              refine lv_iinc (v := 4) (lv' := [(4, .int 4), (2, .long ((((0 + ((kU b N) * (ho 0) c)) + ((kU b N) * (ho 1) c)) + ((kU b N) * (ho 2) c)) + ((kU b N) * (ho 3) c))), (5, .ref (ad (30 + 3))), (0, .ref (ad 0)), (1, .int (nI c))]) hx hb dX10_comes_69 hl (k := 2) rfl rfl (by decide) rfl (fun ls hl => ?_)
              refine lv_goto (tgt := 31) hx hb dX10_comes_72 (by decide) ?_
              refine lv_iload hx hb dX10_comes_31 (lv_at hl 0 rfl) ?_
              refine lv_aload_n hx hb dX10_comes_33 rfl (lv_at hl 3 rfl) ?_
              refine kg_get (v := .int (nI 4)) (C := RX10) (T := TX10) (N := 9) hx hb hts hinX10 hown hK hw h_47 rfl 2 (by decide) (hts (.fieldLink RX10 60 "BetMaker" "traderCount" "I") (by decide +kernel)) (fun _ h9 => h9) rfl dX10_comes_34 ?_
              refine kn_ge 4 4 rfl rfl (by omega) (by omega) (tgt := 75) hx hb dX10_comes_37 (by decide) (fun c_59 => ?_) (fun c_59 => ?_)
              · refine lv_aload_n hx hb dX10_comes_75 rfl (lv_at hl 3 rfl) ?_
                refine kg_get (v := .ref (ad 1)) (C := RX10) (T := TX10) (N := 9) hx hb hts hinX10 hown hK hw h_47 rfl 0 (by decide) (hts (.fieldLink RX10 12 "BetMaker" "maker" "LBetMaker$Maker;") (by decide +kernel)) (fun _ h9 => h9) rfl dX10_comes_76 ?_
                refine lv_iload_n hx hb dX10_comes_79 rfl (lv_at hl 4 rfl) ?_
                refine lv_lload_n hx hb dX10_comes_80 rfl (lv_at hl 1 rfl) ?_
                refine kc_vu (As := [.int (nI c), .long ((((0 + ((kU b N) * (ho 0) c)) + ((kU b N) * (ho 1) c)) + ((kU b N) * (ho 2) c)) + ((kU b N) * (ho 3) c))]) (rest := []) S0 (c_X3_settle l D tc s.heap.size ad ct_46 (N := N) h_48) (cwV 2 hts gX10_comes_X3_settle rfl rfl rfl (by decide +kernel) ⟨Nat.le_of_ble_eq_true rfl, Nat.le_of_ble_eq_true rfl⟩) hK hw hA h_48 rfl rfl hl.1 rfl (Nat.le_of_ble_eq_true rfl) dX10_comes_81 ⟨Nat.le_of_ble_eq_true rfl, (Nat.le_of_ble_eq_true rfl)⟩ (fun H locs hw => ?_)
                obtain ⟨ct_60, ect_60⟩ : ∃ z, z = kw_up ct_46 1 (.inr (3, [.ref (ad 2), .int (nI N), .int b, .long ss, .long (g - ((((0 + ((kU b N) * (ho 0) c)) + ((kU b N) * (ho 1) c)) + ((kU b N) * (ho 2) c)) + ((kU b N) * (ho 3) c))), .int (nI c)])) := ⟨_, rfl⟩
                rw [← ect_60] at hw
                have h_61 : ct_60 0 = some (.inr (10, [.ref (ad 1), .ref (ad 3), .int (nI 4), .ref (ad 4), .ref (ad 9), .ref (ad 11), .ref (ad 12), .ref (ad 13), .int lf])) := by rw [ect_60, kw_up_n (by omega)]; exact h_47
                have h_62 : ct_60 3 = some (eQ tc 4 6 qt) := by rw [ect_60, kw_up_n (by omega)]; exact h_49
                have h_63 : ct_60 (30 + 0) = some (.inr (ci 0, [.int (nb 0), .ref (ad (36 + 0)), .ref (ad (42 + 0)), .long ((pu 0) + (kU b N) * (ho 0) c), .int (de 0)])) := by rw [ect_60, kw_up_n (by omega)]; exact h_50
                have h_64 : ct_60 (36 + 0) = some (eJ tc N (kFl (ho 0) 0 N)) := by rw [ect_60, kw_up_n (by omega)]; exact h_51
                have h_65 : ct_60 (30 + 1) = some (.inr (ci 1, [.int (nb 1), .ref (ad (36 + 1)), .ref (ad (42 + 1)), .long ((pu 1) + (kU b N) * (ho 1) c), .int (de 1)])) := by rw [ect_60, kw_up_n (by omega)]; exact h_52
                have h_66 : ct_60 (36 + 1) = some (eJ tc N (kFl (ho 1) 0 N)) := by rw [ect_60, kw_up_n (by omega)]; exact h_53
                have h_67 : ct_60 (30 + 2) = some (.inr (ci 2, [.int (nb 2), .ref (ad (36 + 2)), .ref (ad (42 + 2)), .long ((pu 2) + (kU b N) * (ho 2) c), .int (de 2)])) := by rw [ect_60, kw_up_n (by omega)]; exact h_54
                have h_68 : ct_60 (36 + 2) = some (eJ tc N (kFl (ho 2) 0 N)) := by rw [ect_60, kw_up_n (by omega)]; exact h_55
                have h_69 : ct_60 (30 + 3) = some (.inr (ci 3, [.int (nb 3), .ref (ad (36 + 3)), .ref (ad (42 + 3)), .long ((pu 3) + (kU b N) * (ho 3) c), .int (de 3)])) := by rw [ect_60, kw_up_n (by omega)]; exact h_56
                have h_70 : ct_60 (36 + 3) = some (eJ tc N (kFl (ho 3) 0 N)) := by rw [ect_60, kw_up_n (by omega)]; exact h_57
                have h_71 : ct_60 1 = some (.inr (3, [.ref (ad 2), .int (nI N), .int b, .long ss, .long (g - ((((0 + ((kU b N) * (ho 0) c)) + ((kU b N) * (ho 1) c)) + ((kU b N) * (ho 2) c)) + ((kU b N) * (ho 3) c))), .int (nI c)])) := by rw [ect_60]; exact kw_up_s
                have hfr_72 : ∀ j, j ≠ 1 → j ≠ (30 + 0) → j ≠ (36 + 0) → j ≠ (30 + 1) → j ≠ (36 + 1) → j ≠ (30 + 2) → j ≠ (36 + 2) → j ≠ (30 + 3) → j ≠ (36 + 3) → ct_60 j = ct j := fun j a0 a1 a2 a3 a4 a5 a6 a7 a8 => by rw [ect_60]; exact (kw_up_n a0).trans (hfr_58 j a0 a1 a2 a3 a4 a5 a6 a7 a8)
                refine lv_iconst (v := 1) hx hb dX10_comes_84 (by decide) ?_
                have hq_73 : ct_60 1 = some (.inr (3, [.ref (ad 2), .int (nI N), .int b, .long ss, .long (g - su (fun t => kU b N * ho t c) 4), .int (nI c)])) := h_71.trans (congrArg some (show (.inr (3, [.ref (ad 2), .int (nI N), .int b, .long ss, .long (g - ((((0 + ((kU b N) * (ho 0) c)) + ((kU b N) * (ho 1) c)) + ((kU b N) * (ho 2) c)) + ((kU b N) * (ho 3) c))), .int (nI c)]) : va_E) = .inr (3, [.ref (ad 2), .int (nI N), .int b, .long ss, .long (g - su (fun t => kU b N * ho t c) 4), .int (nI c)]) from by rfl))
                have hq_74 : ct_60 (30 + 0) = some (.inr (ci 0, [.int (nb 0), .ref (ad (36 + 0)), .ref (ad (42 + 0)), .long (pu 0 + kU b N * ho 0 c), .int (de 0)])) := h_63.trans (congrArg some (show (.inr (ci 0, [.int (nb 0), .ref (ad (36 + 0)), .ref (ad (42 + 0)), .long ((pu 0) + (kU b N) * (ho 0) c), .int (de 0)]) : va_E) = .inr (ci 0, [.int (nb 0), .ref (ad (36 + 0)), .ref (ad (42 + 0)), .long (pu 0 + kU b N * ho 0 c), .int (de 0)]) from by rfl))
                have hq_75 := h_64
                have hq_76 : ct_60 (30 + 1) = some (.inr (ci 1, [.int (nb 1), .ref (ad (36 + 1)), .ref (ad (42 + 1)), .long (pu 1 + kU b N * ho 1 c), .int (de 1)])) := h_65.trans (congrArg some (show (.inr (ci 1, [.int (nb 1), .ref (ad (36 + 1)), .ref (ad (42 + 1)), .long ((pu 1) + (kU b N) * (ho 1) c), .int (de 1)]) : va_E) = .inr (ci 1, [.int (nb 1), .ref (ad (36 + 1)), .ref (ad (42 + 1)), .long (pu 1 + kU b N * ho 1 c), .int (de 1)]) from by rfl))
                have hq_77 := h_66
                have hq_78 : ct_60 (30 + 2) = some (.inr (ci 2, [.int (nb 2), .ref (ad (36 + 2)), .ref (ad (42 + 2)), .long (pu 2 + kU b N * ho 2 c), .int (de 2)])) := h_67.trans (congrArg some (show (.inr (ci 2, [.int (nb 2), .ref (ad (36 + 2)), .ref (ad (42 + 2)), .long ((pu 2) + (kU b N) * (ho 2) c), .int (de 2)]) : va_E) = .inr (ci 2, [.int (nb 2), .ref (ad (36 + 2)), .ref (ad (42 + 2)), .long (pu 2 + kU b N * ho 2 c), .int (de 2)]) from by rfl))
                have hq_79 := h_68
                have hq_80 : ct_60 (30 + 3) = some (.inr (ci 3, [.int (nb 3), .ref (ad (36 + 3)), .ref (ad (42 + 3)), .long (pu 3 + kU b N * ho 3 c), .int (de 3)])) := h_69.trans (congrArg some (show (.inr (ci 3, [.int (nb 3), .ref (ad (36 + 3)), .ref (ad (42 + 3)), .long ((pu 3) + (kU b N) * (ho 3) c), .int (de 3)]) : va_E) = .inr (ci 3, [.int (nb 3), .ref (ad (36 + 3)), .ref (ad (42 + 3)), .long (pu 3 + kU b N * ho 3 c), .int (de 3)]) from by rfl))
                have hq_81 := h_70
                have hend := kw_eq9 hq_73 hq_74 hq_75 hq_76 hq_77 hq_78 hq_79 hq_80 hq_81 hfr_72
                rw [hend] at hw
                exact W.iret hx hb hr (fun t ht _ => ⟨rfl, by rw [ht]; exact hw.1, hw.2.2.1, hw.2.1.F ht, by rw [ht]; exact hw.2.2.2⟩) hw.2.1.2.2 dX10_comes_85
              · exfalso; omega
    · exact absurd hm c_2
  · exact absurd kC c_1
set_option maxHeartbeats 4000000 in
set_option maxRecDepth 100000 in
theorem c_X10_comes_m5 (l : Launch) (D : va_G) (tc : Nat → ClassId) (sz : Nat) (ad : Nat → Nat) (ct : Nat → Option va_E) {N : Nat} {b cm lf : Int32} {ss g : Int64}  {qt : Nat → Option Nat}   {ci : Nat → Nat} {nb de : Nat → Int32} {pu : Nat → Int64} {ho : Nat → Nat → Int64} {we : Nat → Nat → Int32} {c : Nat} (h0 : ct 0 = some (.inr (10, [.ref (ad 1), .ref (ad 3), .int (nI 5), .ref (ad 4), .ref (ad 9), .ref (ad 11), .ref (ad 12), .ref (ad 13), .int lf]))) (h1 : ct 1 = some (.inr (3, [.ref (ad 2), .int (nI N), .int b, .long ss, .long g, .int cm]))) (h3 : ct 3 = some (eQ tc 4 6 qt)) (hc : c < N) (hN : N ≤ 8) (hm : cm = (-9)) (hfam : ∀ yy, yy < 5 → (qt yy = some (ad (30 + yy)) ∧ (ci yy = 5 ∨ ci yy = 7 ∨ ci yy = 9)) ∧ ct (30 + yy) = some (.inr (ci yy, [.int (nb yy), .ref (ad (36 + yy)), .ref (ad (42 + yy)), .long (pu yy), .int (de yy)])) ∧ ct (36 + yy) = some (eJ tc N (ho yy)) ∧ ct (42 + yy) = some (eI tc N (we yy))) : Met l yX10_comes wsX10_comes ({ frames := 2, cells := 0, slots := 0, locals := 57 }) (va_Pc [.ref (ad 0), .int (nI c)] (kw_B D tc sz ad ct)) (kw_Q D ad (kw_A ad ct sz) (some (.int 1)) (kw_up (kw_up (kw_up (kw_up (kw_up (kw_up (kw_up (kw_up (kw_up (kw_up (kw_up ct 1 (.inr (3, [.ref (ad 2), .int (nI N), .int b, .long ss, .long (g - su (fun t => kU b N * ho t c) 5), .int (nI c)]))) (30 + 0) (.inr (ci 0, [.int (nb 0), .ref (ad (36 + 0)), .ref (ad (42 + 0)), .long (pu 0 + kU b N * ho 0 c), .int (de 0)]))) (36 + 0) (eJ tc N (kFl (ho 0) 0 N))) (30 + 1) (.inr (ci 1, [.int (nb 1), .ref (ad (36 + 1)), .ref (ad (42 + 1)), .long (pu 1 + kU b N * ho 1 c), .int (de 1)]))) (36 + 1) (eJ tc N (kFl (ho 1) 0 N))) (30 + 2) (.inr (ci 2, [.int (nb 2), .ref (ad (36 + 2)), .ref (ad (42 + 2)), .long (pu 2 + kU b N * ho 2 c), .int (de 2)]))) (36 + 2) (eJ tc N (kFl (ho 2) 0 N))) (30 + 3) (.inr (ci 3, [.int (nb 3), .ref (ad (36 + 3)), .ref (ad (42 + 3)), .long (pu 3 + kU b N * ho 3 c), .int (de 3)]))) (36 + 3) (eJ tc N (kFl (ho 3) 0 N))) (30 + 4) (.inr (ci 4, [.int (nb 4), .ref (ad (36 + 4)), .ref (ad (42 + 4)), .long (pu 4 + kU b N * ho 4 c), .int (de 4)]))) (36 + 4) (eJ tc N (kFl (ho 4) 0 N))) 0) 0 0 (kw_A ad ct sz) := by
  refine Met.ofW (cc := cX10_comes) (maxL := 6) (ret := (some .int)) (by decide) rfl ?_
  intro pg en s m args below meth cod s₁ B hml hv
  obtain ⟨rfl, hsz, hP0, hK⟩ := hv
  have hx := B.exec
  have hb := B.bytes
  have hr := B.returns
  have hts := atoms_spec (ws := wsX10_comes) B.pre
  have hown : s.vm.findClass RX10 = some m.cls := findClass_of_methodNamed B.named
  have hlocks := B.notSynchronized
  subst hsz
  have hw := kw_H.start hP0
  generalize hAe : kw_A ad ct s.heap.size = A at hw ⊢
  have hA : ∀ q, s.heap.size ≤ q → A q := fun q h => by rw [← hAe]; exact Or.inr h
  have hinX10 : ∀ w ∈ wsX100, w ∈ wsX10_comes := by decide +kernel
  have hl := lv_entry ([.ref (ad 0), .int (nI c)]) (n := 6) (Nat.le_of_ble_eq_true rfl)
  rw [lg_entry_eq]
  generalize (lg_sl ([.ref (ad 0), .int (nI c)]) ++ List.replicate (6 - (lg_sl ([.ref (ad 0), .int (nI c)])).length) Slot.unset).toArray = ls at hl ⊢
  have hl : lv_has ls 6 [(0, .ref (ad 0)), (1, .int (nI c))] := hl
  have S0 : CallFix pg m cod cX10_comes 6 s _ wsX10_comes RX10 := ⟨hx, hb, hml, hown, hts⟩
  have hfr : ∀ j, j ≠ 1 → j ≠ (30 + 0) → j ≠ (36 + 0) → j ≠ (30 + 1) → j ≠ (36 + 1) → j ≠ (30 + 2) → j ≠ (36 + 2) → j ≠ (30 + 3) → j ≠ (36 + 3) → j ≠ (30 + 4) → j ≠ (36 + 4) → ct j = ct j := fun _ _ _ _ _ _ _ _ _ _ _ _ => rfl
  have kC : 0 ≤ nI c ∧ nI c < nI N := ⟨nI_pos' (by omega), nI_lt hc (by omega)⟩
  refine lv_aload_n hx hb dX10_comes_0 rfl (lv_at hl 0 rfl) ?_
  refine kg_get (v := .ref (ad 1)) (C := RX10) (T := TX10) (N := 9) hx hb hts hinX10 hown hK hw h0 rfl 0 (by decide) (hts (.fieldLink RX10 12 "BetMaker" "maker" "LBetMaker$Maker;") (by decide +kernel)) (fun _ h9 => h9) rfl dX10_comes_1 ?_
  refine lv_iload_n hx hb dX10_comes_4 rfl (lv_at hl 1 rfl) ?_
  refine kc_v (As := [.int (nI c)]) (rest := []) S0 (c_X3_isCase l D tc s.heap.size ad ct (N := N) h1) (cwV 1 hts gX10_comes_X3_isCase rfl rfl rfl (by decide +kernel) ⟨Nat.le_of_ble_eq_true rfl, Nat.le_of_ble_eq_true rfl⟩) hK hw h1 rfl rfl hl.1 rfl (Nat.le_of_ble_eq_true rfl) dX10_comes_5 ⟨Nat.le_of_ble_eq_true rfl, (Nat.le_of_ble_eq_true rfl)⟩ ?_
  refine kb_ifne (tgt := 13) hx hb dX10_comes_8 (by decide) (fun c_1 => ?_) (fun c_1 => ?_)
  · refine lv_aload_n hx hb dX10_comes_13 rfl (lv_at hl 0 rfl) ?_
    refine kg_get (v := .ref (ad 1)) (C := RX10) (T := TX10) (N := 9) hx hb hts hinX10 hown hK hw h0 rfl 0 (by decide) (hts (.fieldLink RX10 12 "BetMaker" "maker" "LBetMaker$Maker;") (by decide +kernel)) (fun _ h9 => h9) rfl dX10_comes_14 ?_
    refine kc_v (As := []) (rest := []) S0 (c_X3_hasCome l D tc s.heap.size ad ct (N := N) h1) (cwV 0 hts gX10_comes_X3_hasCome rfl rfl rfl (by decide +kernel) ⟨Nat.le_of_ble_eq_true rfl, Nat.le_of_ble_eq_true rfl⟩) hK hw h1 rfl rfl hl.1 rfl (Nat.le_of_ble_eq_true rfl) dX10_comes_17 ⟨Nat.le_of_ble_eq_true rfl, (Nat.le_of_ble_eq_true rfl)⟩ ?_
    refine kb_ifeq (tgt := 26) hx hb dX10_comes_20 (by decide) (fun c_2 => ?_) (fun c_2 => ?_)
    · obtain ⟨⟨hq0, hc0⟩, hTo0, hTh0, -⟩ := hfam 0 (by omega)
      obtain ⟨⟨hq1, hc1⟩, hTo1, hTh1, -⟩ := hfam 1 (by omega)
      obtain ⟨⟨hq2, hc2⟩, hTo2, hTh2, -⟩ := hfam 2 (by omega)
      obtain ⟨⟨hq3, hc3⟩, hTo3, hTh3, -⟩ := hfam 3 (by omega)
      obtain ⟨⟨hq4, hc4⟩, hTo4, hTh4, -⟩ := hfam 4 (by omega)
      refine lv_lconst (v := 0) hx hb dX10_comes_26 (by decide) ?_
      refine lv_lstore_n (lv' := [(2, .long 0), (0, .ref (ad 0)), (1, .int (nI c))]) hx hb dX10_comes_27 rfl hl (by decide) rfl (fun ls hl => ?_)
      refine lv_iconst (v := 0) hx hb dX10_comes_28 (by decide) ?_
      refine lv_istore (lv' := [(4, .int 0), (2, .long 0), (0, .ref (ad 0)), (1, .int (nI c))]) hx hb dX10_comes_29 hl (by decide) rfl (fun ls hl => ?_)
      refine lv_iload hx hb dX10_comes_31 (lv_at hl 0 rfl) ?_
      refine lv_aload_n hx hb dX10_comes_33 rfl (lv_at hl 2 rfl) ?_
      refine kg_get (v := .int (nI 5)) (C := RX10) (T := TX10) (N := 9) hx hb hts hinX10 hown hK hw h0 rfl 2 (by decide) (hts (.fieldLink RX10 60 "BetMaker" "traderCount" "I") (by decide +kernel)) (fun _ h9 => h9) rfl dX10_comes_34 ?_
      refine kn_ge 0 5 rfl rfl (by omega) (by omega) (tgt := 75) hx hb dX10_comes_37 (by decide) (fun c_3 => ?_) (fun c_3 => ?_)
      · exfalso; omega
      · have hqt := hq0
        have hci := hc0
        refine lv_aload_n hx hb dX10_comes_40 rfl (lv_at hl 2 rfl) ?_
        refine lv_iload hx hb dX10_comes_41 (lv_at hl 0 rfl) ?_
        refine kc_v (As := [.int 0]) (rest := []) S0 (c_X10_findTrader l D tc s.heap.size ad ct (t := 0) (nt := 5) h0 h3 (by omega) (by omega) hqt) (cwV 1 hts gX10_comes_X10_findTrader rfl rfl rfl (by decide +kernel) ⟨Nat.le_of_ble_eq_true rfl, Nat.le_of_ble_eq_true rfl⟩) hK hw h0 rfl rfl hl.1 rfl (Nat.le_of_ble_eq_true rfl) dX10_comes_43 ⟨Nat.le_of_ble_eq_true rfl, (Nat.le_of_ble_eq_true rfl)⟩ ?_
        refine lv_astore (lv' := [(5, .ref (ad (30 + 0))), (4, .int 0), (2, .long 0), (0, .ref (ad 0)), (1, .int (nI c))]) hx hb dX10_comes_46 hl (by decide) rfl (fun ls hl => ?_)
        refine lv_aload hx hb dX10_comes_48 (lv_at hl 0 rfl) ?_
        refine lv_ifnull hx hb dX10_comes_50 ?_
        refine lv_lload_n hx hb dX10_comes_53 rfl (lv_at hl 2 rfl) ?_
        refine lv_aload hx hb dX10_comes_54 (lv_at hl 0 rfl) ?_
        refine lv_iload_n hx hb dX10_comes_56 rfl (lv_at hl 4 rfl) ?_
        refine lv_aload_n hx hb dX10_comes_57 rfl (lv_at hl 3 rfl) ?_
        refine kg_get (v := .ref (ad 1)) (C := RX10) (T := TX10) (N := 9) hx hb hts hinX10 hown hK hw h0 rfl 0 (by decide) (hts (.fieldLink RX10 12 "BetMaker" "maker" "LBetMaker$Maker;") (by decide +kernel)) (fun _ h9 => h9) rfl dX10_comes_58 ?_
        refine kc_v (As := []) (rest := [.int (nI c), .ref (ad (30 + 0)), .long 0]) S0 (c_X3_unit l D tc s.heap.size ad ct (N := N) h1) (cwV 0 hts gX10_comes_X3_unit rfl rfl rfl (by decide +kernel) ⟨Nat.le_of_ble_eq_true rfl, Nat.le_of_ble_eq_true rfl⟩) hK hw h1 rfl rfl hl.1 rfl (Nat.le_of_ble_eq_true rfl) dX10_comes_61 ⟨Nat.le_of_ble_eq_true rfl, (Nat.le_of_ble_eq_true rfl)⟩ ?_
        refine kt_vu (As := [.int (nI c), .long (kU b N)]) (rest := [.long 0]) S0 hci (c_X5_settle l D tc s.heap.size ad ct (c := c) hTo0 hTh0 hci hc (by omega)) (cwV 2 hts gX10_comes_X5_settle rfl rfl rfl (by decide +kernel) ⟨Nat.le_of_ble_eq_true rfl, Nat.le_of_ble_eq_true rfl⟩) (va_cwU 2 hts gX10_comes_X5_settle_u125X7 rfl rfl rfl rfl (by decide +kernel) ⟨Nat.le_of_ble_eq_true rfl, Nat.le_of_ble_eq_true rfl⟩) (va_cwU 2 hts gX10_comes_X5_settle_u125X9 rfl rfl rfl rfl (by decide +kernel) ⟨Nat.le_of_ble_eq_true rfl, Nat.le_of_ble_eq_true rfl⟩) hK hw hA hTo0 rfl hl.1 rfl (Nat.le_of_ble_eq_true rfl) dX10_comes_64 ⟨Nat.le_of_ble_eq_true rfl, (Nat.le_of_ble_eq_true rfl)⟩ (fun H locs hw => ?_)
        obtain ⟨ct_4, ect_4⟩ : ∃ z, z = kw_up (kw_up ct (30 + 0) (.inr (ci 0, [.int (nb 0), .ref (ad (36 + 0)), .ref (ad (42 + 0)), .long ((pu 0) + (kU b N) * (ho 0) c), .int (de 0)]))) (36 + 0) (eJ tc N (kFl (ho 0) 0 N)) := ⟨_, rfl⟩
        rw [← ect_4] at hw
        have h_5 : ct_4 0 = some (.inr (10, [.ref (ad 1), .ref (ad 3), .int (nI 5), .ref (ad 4), .ref (ad 9), .ref (ad 11), .ref (ad 12), .ref (ad 13), .int lf])) := by rw [ect_4, kw_up_n (by omega), kw_up_n (by omega)]; exact h0
        have h_6 : ct_4 1 = some (.inr (3, [.ref (ad 2), .int (nI N), .int b, .long ss, .long g, .int cm])) := by rw [ect_4, kw_up_n (by omega), kw_up_n (by omega)]; exact h1
        have h_7 : ct_4 3 = some (eQ tc 4 6 qt) := by rw [ect_4, kw_up_n (by omega), kw_up_n (by omega)]; exact h3
        have h_8 : ct_4 (30 + 1) = some (.inr (ci 1, [.int (nb 1), .ref (ad (36 + 1)), .ref (ad (42 + 1)), .long (pu 1), .int (de 1)])) := by rw [ect_4, kw_up_n (by omega), kw_up_n (by omega)]; exact hTo1
        have h_9 : ct_4 (36 + 1) = some (eJ tc N (ho 1)) := by rw [ect_4, kw_up_n (by omega), kw_up_n (by omega)]; exact hTh1
        have h_10 : ct_4 (30 + 2) = some (.inr (ci 2, [.int (nb 2), .ref (ad (36 + 2)), .ref (ad (42 + 2)), .long (pu 2), .int (de 2)])) := by rw [ect_4, kw_up_n (by omega), kw_up_n (by omega)]; exact hTo2
        have h_11 : ct_4 (36 + 2) = some (eJ tc N (ho 2)) := by rw [ect_4, kw_up_n (by omega), kw_up_n (by omega)]; exact hTh2
        have h_12 : ct_4 (30 + 3) = some (.inr (ci 3, [.int (nb 3), .ref (ad (36 + 3)), .ref (ad (42 + 3)), .long (pu 3), .int (de 3)])) := by rw [ect_4, kw_up_n (by omega), kw_up_n (by omega)]; exact hTo3
        have h_13 : ct_4 (36 + 3) = some (eJ tc N (ho 3)) := by rw [ect_4, kw_up_n (by omega), kw_up_n (by omega)]; exact hTh3
        have h_14 : ct_4 (30 + 4) = some (.inr (ci 4, [.int (nb 4), .ref (ad (36 + 4)), .ref (ad (42 + 4)), .long (pu 4), .int (de 4)])) := by rw [ect_4, kw_up_n (by omega), kw_up_n (by omega)]; exact hTo4
        have h_15 : ct_4 (36 + 4) = some (eJ tc N (ho 4)) := by rw [ect_4, kw_up_n (by omega), kw_up_n (by omega)]; exact hTh4
        have h_16 : ct_4 (30 + 0) = some (.inr (ci 0, [.int (nb 0), .ref (ad (36 + 0)), .ref (ad (42 + 0)), .long ((pu 0) + (kU b N) * (ho 0) c), .int (de 0)])) := by rw [ect_4, kw_up_n (by omega)]; exact kw_up_s
        have h_17 : ct_4 (36 + 0) = some (eJ tc N (kFl (ho 0) 0 N)) := by rw [ect_4]; exact kw_up_s
        have hfr_18 : ∀ j, j ≠ 1 → j ≠ (30 + 0) → j ≠ (36 + 0) → j ≠ (30 + 1) → j ≠ (36 + 1) → j ≠ (30 + 2) → j ≠ (36 + 2) → j ≠ (30 + 3) → j ≠ (36 + 3) → j ≠ (30 + 4) → j ≠ (36 + 4) → ct_4 j = ct j := fun j a0 a1 a2 a3 a4 a5 a6 a7 a8 a9 a10 => by rw [ect_4]; exact (kw_up_n a2).trans ((kw_up_n a1).trans (hfr j a0 a1 a2 a3 a4 a5 a6 a7 a8 a9 a10))
        refine lv_ladd hx hb dX10_comes_67 ?_
        refine lv_lstore_n (lv' := [(2, .long (0 + ((kU b N) * (ho 0) c))), (5, .ref (ad (30 + 0))), (4, .int 0), (0, .ref (ad 0)), (1, .int (nI c))]) hx hb dX10_comes_68 rfl hl (by decide) rfl (fun ls hl => ?_)
        refine lv_iinc (v := 1) (lv' := [(4, .int 1), (2, .long (0 + ((kU b N) * (ho 0) c))), (5, .ref (ad (30 + 0))), (0, .ref (ad 0)), (1, .int (nI c))]) hx hb dX10_comes_69 hl (k := 2) rfl rfl (by decide) rfl (fun ls hl => ?_)
        refine lv_goto (tgt := 31) hx hb dX10_comes_72 (by decide) ?_
        refine lv_iload hx hb dX10_comes_31 (lv_at hl 0 rfl) ?_
        refine lv_aload_n hx hb dX10_comes_33 rfl (lv_at hl 3 rfl) ?_
        refine kg_get (v := .int (nI 5)) (C := RX10) (T := TX10) (N := 9) hx hb hts hinX10 hown hK hw h_5 rfl 2 (by decide) (hts (.fieldLink RX10 60 "BetMaker" "traderCount" "I") (by decide +kernel)) (fun _ h9 => h9) rfl dX10_comes_34 ?_
        refine kn_ge 1 5 rfl rfl (by omega) (by omega) (tgt := 75) hx hb dX10_comes_37 (by decide) (fun c_19 => ?_) (fun c_19 => ?_)
        · exfalso; omega
        · have hqt := hq1
          have hci := hc1
          refine lv_aload_n hx hb dX10_comes_40 rfl (lv_at hl 3 rfl) ?_
          refine lv_iload hx hb dX10_comes_41 (lv_at hl 0 rfl) ?_
          refine kc_v (As := [.int 1]) (rest := []) S0 (c_X10_findTrader l D tc s.heap.size ad ct_4 (t := 1) (nt := 5) h_5 h_7 (by omega) (by omega) hqt) (cwV 1 hts gX10_comes_X10_findTrader rfl rfl rfl (by decide +kernel) ⟨Nat.le_of_ble_eq_true rfl, Nat.le_of_ble_eq_true rfl⟩) hK hw h_5 rfl rfl hl.1 rfl (Nat.le_of_ble_eq_true rfl) dX10_comes_43 ⟨Nat.le_of_ble_eq_true rfl, (Nat.le_of_ble_eq_true rfl)⟩ ?_
          refine lv_astore (lv' := [(5, .ref (ad (30 + 1))), (4, .int 1), (2, .long (0 + ((kU b N) * (ho 0) c))), (0, .ref (ad 0)), (1, .int (nI c))]) hx hb dX10_comes_46 hl (by decide) rfl (fun ls hl => ?_)
          refine lv_aload hx hb dX10_comes_48 (lv_at hl 0 rfl) ?_
          refine lv_ifnull hx hb dX10_comes_50 ?_
          refine lv_lload_n hx hb dX10_comes_53 rfl (lv_at hl 2 rfl) ?_
          refine lv_aload hx hb dX10_comes_54 (lv_at hl 0 rfl) ?_
          refine lv_iload_n hx hb dX10_comes_56 rfl (lv_at hl 4 rfl) ?_
          refine lv_aload_n hx hb dX10_comes_57 rfl (lv_at hl 3 rfl) ?_
          refine kg_get (v := .ref (ad 1)) (C := RX10) (T := TX10) (N := 9) hx hb hts hinX10 hown hK hw h_5 rfl 0 (by decide) (hts (.fieldLink RX10 12 "BetMaker" "maker" "LBetMaker$Maker;") (by decide +kernel)) (fun _ h9 => h9) rfl dX10_comes_58 ?_
          refine kc_v (As := []) (rest := [.int (nI c), .ref (ad (30 + 1)), .long (0 + ((kU b N) * (ho 0) c))]) S0 (c_X3_unit l D tc s.heap.size ad ct_4 (N := N) h_6) (cwV 0 hts gX10_comes_X3_unit rfl rfl rfl (by decide +kernel) ⟨Nat.le_of_ble_eq_true rfl, Nat.le_of_ble_eq_true rfl⟩) hK hw h_6 rfl rfl hl.1 rfl (Nat.le_of_ble_eq_true rfl) dX10_comes_61 ⟨Nat.le_of_ble_eq_true rfl, (Nat.le_of_ble_eq_true rfl)⟩ ?_
          refine kt_vu (As := [.int (nI c), .long (kU b N)]) (rest := [.long (0 + ((kU b N) * (ho 0) c))]) S0 hci (c_X5_settle l D tc s.heap.size ad ct_4 (c := c) h_8 h_9 hci hc (by omega)) (cwV 2 hts gX10_comes_X5_settle rfl rfl rfl (by decide +kernel) ⟨Nat.le_of_ble_eq_true rfl, Nat.le_of_ble_eq_true rfl⟩) (va_cwU 2 hts gX10_comes_X5_settle_u125X7 rfl rfl rfl rfl (by decide +kernel) ⟨Nat.le_of_ble_eq_true rfl, Nat.le_of_ble_eq_true rfl⟩) (va_cwU 2 hts gX10_comes_X5_settle_u125X9 rfl rfl rfl rfl (by decide +kernel) ⟨Nat.le_of_ble_eq_true rfl, Nat.le_of_ble_eq_true rfl⟩) hK hw hA h_8 rfl hl.1 rfl (Nat.le_of_ble_eq_true rfl) dX10_comes_64 ⟨Nat.le_of_ble_eq_true rfl, (Nat.le_of_ble_eq_true rfl)⟩ (fun H locs hw => ?_)
          obtain ⟨ct_20, ect_20⟩ : ∃ z, z = kw_up (kw_up ct_4 (30 + 1) (.inr (ci 1, [.int (nb 1), .ref (ad (36 + 1)), .ref (ad (42 + 1)), .long ((pu 1) + (kU b N) * (ho 1) c), .int (de 1)]))) (36 + 1) (eJ tc N (kFl (ho 1) 0 N)) := ⟨_, rfl⟩
          rw [← ect_20] at hw
          have h_21 : ct_20 0 = some (.inr (10, [.ref (ad 1), .ref (ad 3), .int (nI 5), .ref (ad 4), .ref (ad 9), .ref (ad 11), .ref (ad 12), .ref (ad 13), .int lf])) := by rw [ect_20, kw_up_n (by omega), kw_up_n (by omega)]; exact h_5
          have h_22 : ct_20 1 = some (.inr (3, [.ref (ad 2), .int (nI N), .int b, .long ss, .long g, .int cm])) := by rw [ect_20, kw_up_n (by omega), kw_up_n (by omega)]; exact h_6
          have h_23 : ct_20 3 = some (eQ tc 4 6 qt) := by rw [ect_20, kw_up_n (by omega), kw_up_n (by omega)]; exact h_7
          have h_24 : ct_20 (30 + 2) = some (.inr (ci 2, [.int (nb 2), .ref (ad (36 + 2)), .ref (ad (42 + 2)), .long (pu 2), .int (de 2)])) := by rw [ect_20, kw_up_n (by omega), kw_up_n (by omega)]; exact h_10
          have h_25 : ct_20 (36 + 2) = some (eJ tc N (ho 2)) := by rw [ect_20, kw_up_n (by omega), kw_up_n (by omega)]; exact h_11
          have h_26 : ct_20 (30 + 3) = some (.inr (ci 3, [.int (nb 3), .ref (ad (36 + 3)), .ref (ad (42 + 3)), .long (pu 3), .int (de 3)])) := by rw [ect_20, kw_up_n (by omega), kw_up_n (by omega)]; exact h_12
          have h_27 : ct_20 (36 + 3) = some (eJ tc N (ho 3)) := by rw [ect_20, kw_up_n (by omega), kw_up_n (by omega)]; exact h_13
          have h_28 : ct_20 (30 + 4) = some (.inr (ci 4, [.int (nb 4), .ref (ad (36 + 4)), .ref (ad (42 + 4)), .long (pu 4), .int (de 4)])) := by rw [ect_20, kw_up_n (by omega), kw_up_n (by omega)]; exact h_14
          have h_29 : ct_20 (36 + 4) = some (eJ tc N (ho 4)) := by rw [ect_20, kw_up_n (by omega), kw_up_n (by omega)]; exact h_15
          have h_30 : ct_20 (30 + 0) = some (.inr (ci 0, [.int (nb 0), .ref (ad (36 + 0)), .ref (ad (42 + 0)), .long ((pu 0) + (kU b N) * (ho 0) c), .int (de 0)])) := by rw [ect_20, kw_up_n (by omega), kw_up_n (by omega)]; exact h_16
          have h_31 : ct_20 (36 + 0) = some (eJ tc N (kFl (ho 0) 0 N)) := by rw [ect_20, kw_up_n (by omega), kw_up_n (by omega)]; exact h_17
          have h_32 : ct_20 (30 + 1) = some (.inr (ci 1, [.int (nb 1), .ref (ad (36 + 1)), .ref (ad (42 + 1)), .long ((pu 1) + (kU b N) * (ho 1) c), .int (de 1)])) := by rw [ect_20, kw_up_n (by omega)]; exact kw_up_s
          have h_33 : ct_20 (36 + 1) = some (eJ tc N (kFl (ho 1) 0 N)) := by rw [ect_20]; exact kw_up_s
          have hfr_34 : ∀ j, j ≠ 1 → j ≠ (30 + 0) → j ≠ (36 + 0) → j ≠ (30 + 1) → j ≠ (36 + 1) → j ≠ (30 + 2) → j ≠ (36 + 2) → j ≠ (30 + 3) → j ≠ (36 + 3) → j ≠ (30 + 4) → j ≠ (36 + 4) → ct_20 j = ct j := fun j a0 a1 a2 a3 a4 a5 a6 a7 a8 a9 a10 => by rw [ect_20]; exact (kw_up_n a4).trans ((kw_up_n a3).trans (hfr_18 j a0 a1 a2 a3 a4 a5 a6 a7 a8 a9 a10))
          refine lv_ladd hx hb dX10_comes_67 ?_
          refine lv_lstore_n (lv' := [(2, .long ((0 + ((kU b N) * (ho 0) c)) + ((kU b N) * (ho 1) c))), (5, .ref (ad (30 + 1))), (4, .int 1), (0, .ref (ad 0)), (1, .int (nI c))]) hx hb dX10_comes_68 rfl hl (by decide) rfl (fun ls hl => ?_)
          refine lv_iinc (v := 2) (lv' := [(4, .int 2), (2, .long ((0 + ((kU b N) * (ho 0) c)) + ((kU b N) * (ho 1) c))), (5, .ref (ad (30 + 1))), (0, .ref (ad 0)), (1, .int (nI c))]) hx hb dX10_comes_69 hl (k := 2) rfl rfl (by decide) rfl (fun ls hl => ?_)
          refine lv_goto (tgt := 31) hx hb dX10_comes_72 (by decide) ?_
          refine lv_iload hx hb dX10_comes_31 (lv_at hl 0 rfl) ?_
          refine lv_aload_n hx hb dX10_comes_33 rfl (lv_at hl 3 rfl) ?_
          refine kg_get (v := .int (nI 5)) (C := RX10) (T := TX10) (N := 9) hx hb hts hinX10 hown hK hw h_21 rfl 2 (by decide) (hts (.fieldLink RX10 60 "BetMaker" "traderCount" "I") (by decide +kernel)) (fun _ h9 => h9) rfl dX10_comes_34 ?_
          refine kn_ge 2 5 rfl rfl (by omega) (by omega) (tgt := 75) hx hb dX10_comes_37 (by decide) (fun c_35 => ?_) (fun c_35 => ?_)
          · exfalso; omega
          · have hqt := hq2
            have hci := hc2
            refine lv_aload_n hx hb dX10_comes_40 rfl (lv_at hl 3 rfl) ?_
            refine lv_iload hx hb dX10_comes_41 (lv_at hl 0 rfl) ?_
            refine kc_v (As := [.int 2]) (rest := []) S0 (c_X10_findTrader l D tc s.heap.size ad ct_20 (t := 2) (nt := 5) h_21 h_23 (by omega) (by omega) hqt) (cwV 1 hts gX10_comes_X10_findTrader rfl rfl rfl (by decide +kernel) ⟨Nat.le_of_ble_eq_true rfl, Nat.le_of_ble_eq_true rfl⟩) hK hw h_21 rfl rfl hl.1 rfl (Nat.le_of_ble_eq_true rfl) dX10_comes_43 ⟨Nat.le_of_ble_eq_true rfl, (Nat.le_of_ble_eq_true rfl)⟩ ?_
            refine lv_astore (lv' := [(5, .ref (ad (30 + 2))), (4, .int 2), (2, .long ((0 + ((kU b N) * (ho 0) c)) + ((kU b N) * (ho 1) c))), (0, .ref (ad 0)), (1, .int (nI c))]) hx hb dX10_comes_46 hl (by decide) rfl (fun ls hl => ?_)
            refine lv_aload hx hb dX10_comes_48 (lv_at hl 0 rfl) ?_
            refine lv_ifnull hx hb dX10_comes_50 ?_
            refine lv_lload_n hx hb dX10_comes_53 rfl (lv_at hl 2 rfl) ?_
            refine lv_aload hx hb dX10_comes_54 (lv_at hl 0 rfl) ?_
            refine lv_iload_n hx hb dX10_comes_56 rfl (lv_at hl 4 rfl) ?_
            refine lv_aload_n hx hb dX10_comes_57 rfl (lv_at hl 3 rfl) ?_
            refine kg_get (v := .ref (ad 1)) (C := RX10) (T := TX10) (N := 9) hx hb hts hinX10 hown hK hw h_21 rfl 0 (by decide) (hts (.fieldLink RX10 12 "BetMaker" "maker" "LBetMaker$Maker;") (by decide +kernel)) (fun _ h9 => h9) rfl dX10_comes_58 ?_
            refine kc_v (As := []) (rest := [.int (nI c), .ref (ad (30 + 2)), .long ((0 + ((kU b N) * (ho 0) c)) + ((kU b N) * (ho 1) c))]) S0 (c_X3_unit l D tc s.heap.size ad ct_20 (N := N) h_22) (cwV 0 hts gX10_comes_X3_unit rfl rfl rfl (by decide +kernel) ⟨Nat.le_of_ble_eq_true rfl, Nat.le_of_ble_eq_true rfl⟩) hK hw h_22 rfl rfl hl.1 rfl (Nat.le_of_ble_eq_true rfl) dX10_comes_61 ⟨Nat.le_of_ble_eq_true rfl, (Nat.le_of_ble_eq_true rfl)⟩ ?_
            refine kt_vu (As := [.int (nI c), .long (kU b N)]) (rest := [.long ((0 + ((kU b N) * (ho 0) c)) + ((kU b N) * (ho 1) c))]) S0 hci (c_X5_settle l D tc s.heap.size ad ct_20 (c := c) h_24 h_25 hci hc (by omega)) (cwV 2 hts gX10_comes_X5_settle rfl rfl rfl (by decide +kernel) ⟨Nat.le_of_ble_eq_true rfl, Nat.le_of_ble_eq_true rfl⟩) (va_cwU 2 hts gX10_comes_X5_settle_u125X7 rfl rfl rfl rfl (by decide +kernel) ⟨Nat.le_of_ble_eq_true rfl, Nat.le_of_ble_eq_true rfl⟩) (va_cwU 2 hts gX10_comes_X5_settle_u125X9 rfl rfl rfl rfl (by decide +kernel) ⟨Nat.le_of_ble_eq_true rfl, Nat.le_of_ble_eq_true rfl⟩) hK hw hA h_24 rfl hl.1 rfl (Nat.le_of_ble_eq_true rfl) dX10_comes_64 ⟨Nat.le_of_ble_eq_true rfl, (Nat.le_of_ble_eq_true rfl)⟩ (fun H locs hw => ?_)
            obtain ⟨ct_36, ect_36⟩ : ∃ z, z = kw_up (kw_up ct_20 (30 + 2) (.inr (ci 2, [.int (nb 2), .ref (ad (36 + 2)), .ref (ad (42 + 2)), .long ((pu 2) + (kU b N) * (ho 2) c), .int (de 2)]))) (36 + 2) (eJ tc N (kFl (ho 2) 0 N)) := ⟨_, rfl⟩
            rw [← ect_36] at hw
            have h_37 : ct_36 0 = some (.inr (10, [.ref (ad 1), .ref (ad 3), .int (nI 5), .ref (ad 4), .ref (ad 9), .ref (ad 11), .ref (ad 12), .ref (ad 13), .int lf])) := by rw [ect_36, kw_up_n (by omega), kw_up_n (by omega)]; exact h_21
            have h_38 : ct_36 1 = some (.inr (3, [.ref (ad 2), .int (nI N), .int b, .long ss, .long g, .int cm])) := by rw [ect_36, kw_up_n (by omega), kw_up_n (by omega)]; exact h_22
            have h_39 : ct_36 3 = some (eQ tc 4 6 qt) := by rw [ect_36, kw_up_n (by omega), kw_up_n (by omega)]; exact h_23
            have h_40 : ct_36 (30 + 3) = some (.inr (ci 3, [.int (nb 3), .ref (ad (36 + 3)), .ref (ad (42 + 3)), .long (pu 3), .int (de 3)])) := by rw [ect_36, kw_up_n (by omega), kw_up_n (by omega)]; exact h_26
            have h_41 : ct_36 (36 + 3) = some (eJ tc N (ho 3)) := by rw [ect_36, kw_up_n (by omega), kw_up_n (by omega)]; exact h_27
            have h_42 : ct_36 (30 + 4) = some (.inr (ci 4, [.int (nb 4), .ref (ad (36 + 4)), .ref (ad (42 + 4)), .long (pu 4), .int (de 4)])) := by rw [ect_36, kw_up_n (by omega), kw_up_n (by omega)]; exact h_28
            have h_43 : ct_36 (36 + 4) = some (eJ tc N (ho 4)) := by rw [ect_36, kw_up_n (by omega), kw_up_n (by omega)]; exact h_29
            have h_44 : ct_36 (30 + 0) = some (.inr (ci 0, [.int (nb 0), .ref (ad (36 + 0)), .ref (ad (42 + 0)), .long ((pu 0) + (kU b N) * (ho 0) c), .int (de 0)])) := by rw [ect_36, kw_up_n (by omega), kw_up_n (by omega)]; exact h_30
            have h_45 : ct_36 (36 + 0) = some (eJ tc N (kFl (ho 0) 0 N)) := by rw [ect_36, kw_up_n (by omega), kw_up_n (by omega)]; exact h_31
            have h_46 : ct_36 (30 + 1) = some (.inr (ci 1, [.int (nb 1), .ref (ad (36 + 1)), .ref (ad (42 + 1)), .long ((pu 1) + (kU b N) * (ho 1) c), .int (de 1)])) := by rw [ect_36, kw_up_n (by omega), kw_up_n (by omega)]; exact h_32
            have h_47 : ct_36 (36 + 1) = some (eJ tc N (kFl (ho 1) 0 N)) := by rw [ect_36, kw_up_n (by omega), kw_up_n (by omega)]; exact h_33
            have h_48 : ct_36 (30 + 2) = some (.inr (ci 2, [.int (nb 2), .ref (ad (36 + 2)), .ref (ad (42 + 2)), .long ((pu 2) + (kU b N) * (ho 2) c), .int (de 2)])) := by rw [ect_36, kw_up_n (by omega)]; exact kw_up_s
            have h_49 : ct_36 (36 + 2) = some (eJ tc N (kFl (ho 2) 0 N)) := by rw [ect_36]; exact kw_up_s
            have hfr_50 : ∀ j, j ≠ 1 → j ≠ (30 + 0) → j ≠ (36 + 0) → j ≠ (30 + 1) → j ≠ (36 + 1) → j ≠ (30 + 2) → j ≠ (36 + 2) → j ≠ (30 + 3) → j ≠ (36 + 3) → j ≠ (30 + 4) → j ≠ (36 + 4) → ct_36 j = ct j := fun j a0 a1 a2 a3 a4 a5 a6 a7 a8 a9 a10 => by rw [ect_36]; exact (kw_up_n a6).trans ((kw_up_n a5).trans (hfr_34 j a0 a1 a2 a3 a4 a5 a6 a7 a8 a9 a10))
            refine lv_ladd hx hb dX10_comes_67 ?_
            refine lv_lstore_n (lv' := [(2, .long (((0 + ((kU b N) * (ho 0) c)) + ((kU b N) * (ho 1) c)) + ((kU b N) * (ho 2) c))), (5, .ref (ad (30 + 2))), (4, .int 2), (0, .ref (ad 0)), (1, .int (nI c))]) hx hb dX10_comes_68 rfl hl (by decide) rfl (fun ls hl => ?_)
            refine lv_iinc (v := 3) (lv' := [(4, .int 3), (2, .long (((0 + ((kU b N) * (ho 0) c)) + ((kU b N) * (ho 1) c)) + ((kU b N) * (ho 2) c))), (5, .ref (ad (30 + 2))), (0, .ref (ad 0)), (1, .int (nI c))]) hx hb dX10_comes_69 hl (k := 2) rfl rfl (by decide) rfl (fun ls hl => ?_)
            refine lv_goto (tgt := 31) hx hb dX10_comes_72 (by decide) ?_
            refine lv_iload hx hb dX10_comes_31 (lv_at hl 0 rfl) ?_
            refine lv_aload_n hx hb dX10_comes_33 rfl (lv_at hl 3 rfl) ?_
            refine kg_get (v := .int (nI 5)) (C := RX10) (T := TX10) (N := 9) hx hb hts hinX10 hown hK hw h_37 rfl 2 (by decide) (hts (.fieldLink RX10 60 "BetMaker" "traderCount" "I") (by decide +kernel)) (fun _ h9 => h9) rfl dX10_comes_34 ?_
            refine kn_ge 3 5 rfl rfl (by omega) (by omega) (tgt := 75) hx hb dX10_comes_37 (by decide) (fun c_51 => ?_) (fun c_51 => ?_)
            · exfalso; omega
            · have hqt := hq3
              have hci := hc3
              refine lv_aload_n hx hb dX10_comes_40 rfl (lv_at hl 3 rfl) ?_
              refine lv_iload hx hb dX10_comes_41 (lv_at hl 0 rfl) ?_
              refine kc_v (As := [.int 3]) (rest := []) S0 (c_X10_findTrader l D tc s.heap.size ad ct_36 (t := 3) (nt := 5) h_37 h_39 (by omega) (by omega) hqt) (cwV 1 hts gX10_comes_X10_findTrader rfl rfl rfl (by decide +kernel) ⟨Nat.le_of_ble_eq_true rfl, Nat.le_of_ble_eq_true rfl⟩) hK hw h_37 rfl rfl hl.1 rfl (Nat.le_of_ble_eq_true rfl) dX10_comes_43 ⟨Nat.le_of_ble_eq_true rfl, (Nat.le_of_ble_eq_true rfl)⟩ ?_
              refine lv_astore (lv' := [(5, .ref (ad (30 + 3))), (4, .int 3), (2, .long (((0 + ((kU b N) * (ho 0) c)) + ((kU b N) * (ho 1) c)) + ((kU b N) * (ho 2) c))), (0, .ref (ad 0)), (1, .int (nI c))]) hx hb dX10_comes_46 hl (by decide) rfl (fun ls hl => ?_)
              refine lv_aload hx hb dX10_comes_48 (lv_at hl 0 rfl) ?_
              refine lv_ifnull hx hb dX10_comes_50 ?_
              refine lv_lload_n hx hb dX10_comes_53 rfl (lv_at hl 2 rfl) ?_
              refine lv_aload hx hb dX10_comes_54 (lv_at hl 0 rfl) ?_
              refine lv_iload_n hx hb dX10_comes_56 rfl (lv_at hl 4 rfl) ?_
              refine lv_aload_n hx hb dX10_comes_57 rfl (lv_at hl 3 rfl) ?_
              refine kg_get (v := .ref (ad 1)) (C := RX10) (T := TX10) (N := 9) hx hb hts hinX10 hown hK hw h_37 rfl 0 (by decide) (hts (.fieldLink RX10 12 "BetMaker" "maker" "LBetMaker$Maker;") (by decide +kernel)) (fun _ h9 => h9) rfl dX10_comes_58 ?_
              refine kc_v (As := []) (rest := [.int (nI c), .ref (ad (30 + 3)), .long (((0 + ((kU b N) * (ho 0) c)) + ((kU b N) * (ho 1) c)) + ((kU b N) * (ho 2) c))]) S0 (c_X3_unit l D tc s.heap.size ad ct_36 (N := N) h_38) (cwV 0 hts gX10_comes_X3_unit rfl rfl rfl (by decide +kernel) ⟨Nat.le_of_ble_eq_true rfl, Nat.le_of_ble_eq_true rfl⟩) hK hw h_38 rfl rfl hl.1 rfl (Nat.le_of_ble_eq_true rfl) dX10_comes_61 ⟨Nat.le_of_ble_eq_true rfl, (Nat.le_of_ble_eq_true rfl)⟩ ?_
              refine kt_vu (As := [.int (nI c), .long (kU b N)]) (rest := [.long (((0 + ((kU b N) * (ho 0) c)) + ((kU b N) * (ho 1) c)) + ((kU b N) * (ho 2) c))]) S0 hci (c_X5_settle l D tc s.heap.size ad ct_36 (c := c) h_40 h_41 hci hc (by omega)) (cwV 2 hts gX10_comes_X5_settle rfl rfl rfl (by decide +kernel) ⟨Nat.le_of_ble_eq_true rfl, Nat.le_of_ble_eq_true rfl⟩) (va_cwU 2 hts gX10_comes_X5_settle_u125X7 rfl rfl rfl rfl (by decide +kernel) ⟨Nat.le_of_ble_eq_true rfl, Nat.le_of_ble_eq_true rfl⟩) (va_cwU 2 hts gX10_comes_X5_settle_u125X9 rfl rfl rfl rfl (by decide +kernel) ⟨Nat.le_of_ble_eq_true rfl, Nat.le_of_ble_eq_true rfl⟩) hK hw hA h_40 rfl hl.1 rfl (Nat.le_of_ble_eq_true rfl) dX10_comes_64 ⟨Nat.le_of_ble_eq_true rfl, (Nat.le_of_ble_eq_true rfl)⟩ (fun H locs hw => ?_)
              obtain ⟨ct_52, ect_52⟩ : ∃ z, z = kw_up (kw_up ct_36 (30 + 3) (.inr (ci 3, [.int (nb 3), .ref (ad (36 + 3)), .ref (ad (42 + 3)), .long ((pu 3) + (kU b N) * (ho 3) c), .int (de 3)]))) (36 + 3) (eJ tc N (kFl (ho 3) 0 N)) := ⟨_, rfl⟩
              rw [← ect_52] at hw
              have h_53 : ct_52 0 = some (.inr (10, [.ref (ad 1), .ref (ad 3), .int (nI 5), .ref (ad 4), .ref (ad 9), .ref (ad 11), .ref (ad 12), .ref (ad 13), .int lf])) := by rw [ect_52, kw_up_n (by omega), kw_up_n (by omega)]; exact h_37
              have h_54 : ct_52 1 = some (.inr (3, [.ref (ad 2), .int (nI N), .int b, .long ss, .long g, .int cm])) := by rw [ect_52, kw_up_n (by omega), kw_up_n (by omega)]; exact h_38
              have h_55 : ct_52 3 = some (eQ tc 4 6 qt) := by rw [ect_52, kw_up_n (by omega), kw_up_n (by omega)]; exact h_39
              have h_56 : ct_52 (30 + 4) = some (.inr (ci 4, [.int (nb 4), .ref (ad (36 + 4)), .ref (ad (42 + 4)), .long (pu 4), .int (de 4)])) := by rw [ect_52, kw_up_n (by omega), kw_up_n (by omega)]; exact h_42
              have h_57 : ct_52 (36 + 4) = some (eJ tc N (ho 4)) := by rw [ect_52, kw_up_n (by omega), kw_up_n (by omega)]; exact h_43
              have h_58 : ct_52 (30 + 0) = some (.inr (ci 0, [.int (nb 0), .ref (ad (36 + 0)), .ref (ad (42 + 0)), .long ((pu 0) + (kU b N) * (ho 0) c), .int (de 0)])) := by rw [ect_52, kw_up_n (by omega), kw_up_n (by omega)]; exact h_44
              have h_59 : ct_52 (36 + 0) = some (eJ tc N (kFl (ho 0) 0 N)) := by rw [ect_52, kw_up_n (by omega), kw_up_n (by omega)]; exact h_45
              have h_60 : ct_52 (30 + 1) = some (.inr (ci 1, [.int (nb 1), .ref (ad (36 + 1)), .ref (ad (42 + 1)), .long ((pu 1) + (kU b N) * (ho 1) c), .int (de 1)])) := by rw [ect_52, kw_up_n (by omega), kw_up_n (by omega)]; exact h_46
              have h_61 : ct_52 (36 + 1) = some (eJ tc N (kFl (ho 1) 0 N)) := by rw [ect_52, kw_up_n (by omega), kw_up_n (by omega)]; exact h_47
              have h_62 : ct_52 (30 + 2) = some (.inr (ci 2, [.int (nb 2), .ref (ad (36 + 2)), .ref (ad (42 + 2)), .long ((pu 2) + (kU b N) * (ho 2) c), .int (de 2)])) := by rw [ect_52, kw_up_n (by omega), kw_up_n (by omega)]; exact h_48
              have h_63 : ct_52 (36 + 2) = some (eJ tc N (kFl (ho 2) 0 N)) := by rw [ect_52, kw_up_n (by omega), kw_up_n (by omega)]; exact h_49
              have h_64 : ct_52 (30 + 3) = some (.inr (ci 3, [.int (nb 3), .ref (ad (36 + 3)), .ref (ad (42 + 3)), .long ((pu 3) + (kU b N) * (ho 3) c), .int (de 3)])) := by rw [ect_52, kw_up_n (by omega)]; exact kw_up_s
              have h_65 : ct_52 (36 + 3) = some (eJ tc N (kFl (ho 3) 0 N)) := by rw [ect_52]; exact kw_up_s
              have hfr_66 : ∀ j, j ≠ 1 → j ≠ (30 + 0) → j ≠ (36 + 0) → j ≠ (30 + 1) → j ≠ (36 + 1) → j ≠ (30 + 2) → j ≠ (36 + 2) → j ≠ (30 + 3) → j ≠ (36 + 3) → j ≠ (30 + 4) → j ≠ (36 + 4) → ct_52 j = ct j := fun j a0 a1 a2 a3 a4 a5 a6 a7 a8 a9 a10 => by rw [ect_52]; exact (kw_up_n a8).trans ((kw_up_n a7).trans (hfr_50 j a0 a1 a2 a3 a4 a5 a6 a7 a8 a9 a10))
              refine lv_ladd hx hb dX10_comes_67 ?_
              refine lv_lstore_n (lv' := [(2, .long ((((0 + ((kU b N) * (ho 0) c)) + ((kU b N) * (ho 1) c)) + ((kU b N) * (ho 2) c)) + ((kU b N) * (ho 3) c))), (5, .ref (ad (30 + 3))), (4, .int 3), (0, .ref (ad 0)), (1, .int (nI c))]) hx hb dX10_comes_68 rfl hl (by decide) rfl (fun ls hl => ?_)
              refine lv_iinc (v := 4) (lv' := [(4, .int 4), (2, .long ((((0 + ((kU b N) * (ho 0) c)) + ((kU b N) * (ho 1) c)) + ((kU b N) * (ho 2) c)) + ((kU b N) * (ho 3) c))), (5, .ref (ad (30 + 3))), (0, .ref (ad 0)), (1, .int (nI c))]) hx hb dX10_comes_69 hl (k := 2) rfl rfl (by decide) rfl (fun ls hl => ?_)
              refine lv_goto (tgt := 31) hx hb dX10_comes_72 (by decide) ?_
              refine lv_iload hx hb dX10_comes_31 (lv_at hl 0 rfl) ?_
              refine lv_aload_n hx hb dX10_comes_33 rfl (lv_at hl 3 rfl) ?_
              refine kg_get (v := .int (nI 5)) (C := RX10) (T := TX10) (N := 9) hx hb hts hinX10 hown hK hw h_53 rfl 2 (by decide) (hts (.fieldLink RX10 60 "BetMaker" "traderCount" "I") (by decide +kernel)) (fun _ h9 => h9) rfl dX10_comes_34 ?_
              refine kn_ge 4 5 rfl rfl (by omega) (by omega) (tgt := 75) hx hb dX10_comes_37 (by decide) (fun c_67 => ?_) (fun c_67 => ?_)
              · exfalso; omega
              · have hqt := hq4
                have hci := hc4
                refine lv_aload_n hx hb dX10_comes_40 rfl (lv_at hl 3 rfl) ?_
                refine lv_iload hx hb dX10_comes_41 (lv_at hl 0 rfl) ?_
                refine kc_v (As := [.int 4]) (rest := []) S0 (c_X10_findTrader l D tc s.heap.size ad ct_52 (t := 4) (nt := 5) h_53 h_55 (by omega) (by omega) hqt) (cwV 1 hts gX10_comes_X10_findTrader rfl rfl rfl (by decide +kernel) ⟨Nat.le_of_ble_eq_true rfl, Nat.le_of_ble_eq_true rfl⟩) hK hw h_53 rfl rfl hl.1 rfl (Nat.le_of_ble_eq_true rfl) dX10_comes_43 ⟨Nat.le_of_ble_eq_true rfl, (Nat.le_of_ble_eq_true rfl)⟩ ?_
                refine lv_astore (lv' := [(5, .ref (ad (30 + 4))), (4, .int 4), (2, .long ((((0 + ((kU b N) * (ho 0) c)) + ((kU b N) * (ho 1) c)) + ((kU b N) * (ho 2) c)) + ((kU b N) * (ho 3) c))), (0, .ref (ad 0)), (1, .int (nI c))]) hx hb dX10_comes_46 hl (by decide) rfl (fun ls hl => ?_)
                refine lv_aload hx hb dX10_comes_48 (lv_at hl 0 rfl) ?_
                refine lv_ifnull hx hb dX10_comes_50 ?_
                refine lv_lload_n hx hb dX10_comes_53 rfl (lv_at hl 2 rfl) ?_
                refine lv_aload hx hb dX10_comes_54 (lv_at hl 0 rfl) ?_
                refine lv_iload_n hx hb dX10_comes_56 rfl (lv_at hl 4 rfl) ?_
                refine lv_aload_n hx hb dX10_comes_57 rfl (lv_at hl 3 rfl) ?_
                refine kg_get (v := .ref (ad 1)) (C := RX10) (T := TX10) (N := 9) hx hb hts hinX10 hown hK hw h_53 rfl 0 (by decide) (hts (.fieldLink RX10 12 "BetMaker" "maker" "LBetMaker$Maker;") (by decide +kernel)) (fun _ h9 => h9) rfl dX10_comes_58 ?_
                refine kc_v (As := []) (rest := [.int (nI c), .ref (ad (30 + 4)), .long ((((0 + ((kU b N) * (ho 0) c)) + ((kU b N) * (ho 1) c)) + ((kU b N) * (ho 2) c)) + ((kU b N) * (ho 3) c))]) S0 (c_X3_unit l D tc s.heap.size ad ct_52 (N := N) h_54) (cwV 0 hts gX10_comes_X3_unit rfl rfl rfl (by decide +kernel) ⟨Nat.le_of_ble_eq_true rfl, Nat.le_of_ble_eq_true rfl⟩) hK hw h_54 rfl rfl hl.1 rfl (Nat.le_of_ble_eq_true rfl) dX10_comes_61 ⟨Nat.le_of_ble_eq_true rfl, (Nat.le_of_ble_eq_true rfl)⟩ ?_
                refine kt_vu (As := [.int (nI c), .long (kU b N)]) (rest := [.long ((((0 + ((kU b N) * (ho 0) c)) + ((kU b N) * (ho 1) c)) + ((kU b N) * (ho 2) c)) + ((kU b N) * (ho 3) c))]) S0 hci (c_X5_settle l D tc s.heap.size ad ct_52 (c := c) h_56 h_57 hci hc (by omega)) (cwV 2 hts gX10_comes_X5_settle rfl rfl rfl (by decide +kernel) ⟨Nat.le_of_ble_eq_true rfl, Nat.le_of_ble_eq_true rfl⟩) (va_cwU 2 hts gX10_comes_X5_settle_u125X7 rfl rfl rfl rfl (by decide +kernel) ⟨Nat.le_of_ble_eq_true rfl, Nat.le_of_ble_eq_true rfl⟩) (va_cwU 2 hts gX10_comes_X5_settle_u125X9 rfl rfl rfl rfl (by decide +kernel) ⟨Nat.le_of_ble_eq_true rfl, Nat.le_of_ble_eq_true rfl⟩) hK hw hA h_56 rfl hl.1 rfl (Nat.le_of_ble_eq_true rfl) dX10_comes_64 ⟨Nat.le_of_ble_eq_true rfl, (Nat.le_of_ble_eq_true rfl)⟩ (fun H locs hw => ?_)
                obtain ⟨ct_68, ect_68⟩ : ∃ z, z = kw_up (kw_up ct_52 (30 + 4) (.inr (ci 4, [.int (nb 4), .ref (ad (36 + 4)), .ref (ad (42 + 4)), .long ((pu 4) + (kU b N) * (ho 4) c), .int (de 4)]))) (36 + 4) (eJ tc N (kFl (ho 4) 0 N)) := ⟨_, rfl⟩
                rw [← ect_68] at hw
                have h_69 : ct_68 0 = some (.inr (10, [.ref (ad 1), .ref (ad 3), .int (nI 5), .ref (ad 4), .ref (ad 9), .ref (ad 11), .ref (ad 12), .ref (ad 13), .int lf])) := by rw [ect_68, kw_up_n (by omega), kw_up_n (by omega)]; exact h_53
                have h_70 : ct_68 1 = some (.inr (3, [.ref (ad 2), .int (nI N), .int b, .long ss, .long g, .int cm])) := by rw [ect_68, kw_up_n (by omega), kw_up_n (by omega)]; exact h_54
                have h_71 : ct_68 3 = some (eQ tc 4 6 qt) := by rw [ect_68, kw_up_n (by omega), kw_up_n (by omega)]; exact h_55
                have h_72 : ct_68 (30 + 0) = some (.inr (ci 0, [.int (nb 0), .ref (ad (36 + 0)), .ref (ad (42 + 0)), .long ((pu 0) + (kU b N) * (ho 0) c), .int (de 0)])) := by rw [ect_68, kw_up_n (by omega), kw_up_n (by omega)]; exact h_58
                have h_73 : ct_68 (36 + 0) = some (eJ tc N (kFl (ho 0) 0 N)) := by rw [ect_68, kw_up_n (by omega), kw_up_n (by omega)]; exact h_59
                have h_74 : ct_68 (30 + 1) = some (.inr (ci 1, [.int (nb 1), .ref (ad (36 + 1)), .ref (ad (42 + 1)), .long ((pu 1) + (kU b N) * (ho 1) c), .int (de 1)])) := by rw [ect_68, kw_up_n (by omega), kw_up_n (by omega)]; exact h_60
                have h_75 : ct_68 (36 + 1) = some (eJ tc N (kFl (ho 1) 0 N)) := by rw [ect_68, kw_up_n (by omega), kw_up_n (by omega)]; exact h_61
                have h_76 : ct_68 (30 + 2) = some (.inr (ci 2, [.int (nb 2), .ref (ad (36 + 2)), .ref (ad (42 + 2)), .long ((pu 2) + (kU b N) * (ho 2) c), .int (de 2)])) := by rw [ect_68, kw_up_n (by omega), kw_up_n (by omega)]; exact h_62
                have h_77 : ct_68 (36 + 2) = some (eJ tc N (kFl (ho 2) 0 N)) := by rw [ect_68, kw_up_n (by omega), kw_up_n (by omega)]; exact h_63
                have h_78 : ct_68 (30 + 3) = some (.inr (ci 3, [.int (nb 3), .ref (ad (36 + 3)), .ref (ad (42 + 3)), .long ((pu 3) + (kU b N) * (ho 3) c), .int (de 3)])) := by rw [ect_68, kw_up_n (by omega), kw_up_n (by omega)]; exact h_64
                have h_79 : ct_68 (36 + 3) = some (eJ tc N (kFl (ho 3) 0 N)) := by rw [ect_68, kw_up_n (by omega), kw_up_n (by omega)]; exact h_65
                have h_80 : ct_68 (30 + 4) = some (.inr (ci 4, [.int (nb 4), .ref (ad (36 + 4)), .ref (ad (42 + 4)), .long ((pu 4) + (kU b N) * (ho 4) c), .int (de 4)])) := by rw [ect_68, kw_up_n (by omega)]; exact kw_up_s
                have h_81 : ct_68 (36 + 4) = some (eJ tc N (kFl (ho 4) 0 N)) := by rw [ect_68]; exact kw_up_s
                have hfr_82 : ∀ j, j ≠ 1 → j ≠ (30 + 0) → j ≠ (36 + 0) → j ≠ (30 + 1) → j ≠ (36 + 1) → j ≠ (30 + 2) → j ≠ (36 + 2) → j ≠ (30 + 3) → j ≠ (36 + 3) → j ≠ (30 + 4) → j ≠ (36 + 4) → ct_68 j = ct j := fun j a0 a1 a2 a3 a4 a5 a6 a7 a8 a9 a10 => by rw [ect_68]; exact (kw_up_n a10).trans ((kw_up_n a9).trans (hfr_66 j a0 a1 a2 a3 a4 a5 a6 a7 a8 a9 a10))
                refine lv_ladd hx hb dX10_comes_67 ?_
                refine lv_lstore_n (lv' := [(2, .long (((((0 + ((kU b N) * (ho 0) c)) + ((kU b N) * (ho 1) c)) + ((kU b N) * (ho 2) c)) + ((kU b N) * (ho 3) c)) + ((kU b N) * (ho 4) c))), (5, .ref (ad (30 + 4))), (4, .int 4), (0, .ref (ad 0)), (1, .int (nI c))]) hx hb dX10_comes_68 rfl hl (by decide) rfl (fun ls hl => ?_)
                refine lv_iinc (v := 5) (lv' := [(4, .int 5), (2, .long (((((0 + ((kU b N) * (ho 0) c)) + ((kU b N) * (ho 1) c)) + ((kU b N) * (ho 2) c)) + ((kU b N) * (ho 3) c)) + ((kU b N) * (ho 4) c))), (5, .ref (ad (30 + 4))), (0, .ref (ad 0)), (1, .int (nI c))]) hx hb dX10_comes_69 hl (k := 2) rfl rfl (by decide) rfl (fun ls hl => ?_)
                refine lv_goto (tgt := 31) hx hb dX10_comes_72 (by decide) ?_
                refine lv_iload hx hb dX10_comes_31 (lv_at hl 0 rfl) ?_
                refine lv_aload_n hx hb dX10_comes_33 rfl (lv_at hl 3 rfl) ?_
                refine kg_get (v := .int (nI 5)) (C := RX10) (T := TX10) (N := 9) hx hb hts hinX10 hown hK hw h_69 rfl 2 (by decide) (hts (.fieldLink RX10 60 "BetMaker" "traderCount" "I") (by decide +kernel)) (fun _ h9 => h9) rfl dX10_comes_34 ?_
                refine kn_ge 5 5 rfl rfl (by omega) (by omega) (tgt := 75) hx hb dX10_comes_37 (by decide) (fun c_83 => ?_) (fun c_83 => ?_)
                · refine lv_aload_n hx hb dX10_comes_75 rfl (lv_at hl 3 rfl) ?_
                  refine kg_get (v := .ref (ad 1)) (C := RX10) (T := TX10) (N := 9) hx hb hts hinX10 hown hK hw h_69 rfl 0 (by decide) (hts (.fieldLink RX10 12 "BetMaker" "maker" "LBetMaker$Maker;") (by decide +kernel)) (fun _ h9 => h9) rfl dX10_comes_76 ?_
                  refine lv_iload_n hx hb dX10_comes_79 rfl (lv_at hl 4 rfl) ?_
                  refine lv_lload_n hx hb dX10_comes_80 rfl (lv_at hl 1 rfl) ?_
                  refine kc_vu (As := [.int (nI c), .long (((((0 + ((kU b N) * (ho 0) c)) + ((kU b N) * (ho 1) c)) + ((kU b N) * (ho 2) c)) + ((kU b N) * (ho 3) c)) + ((kU b N) * (ho 4) c))]) (rest := []) S0 (c_X3_settle l D tc s.heap.size ad ct_68 (N := N) h_70) (cwV 2 hts gX10_comes_X3_settle rfl rfl rfl (by decide +kernel) ⟨Nat.le_of_ble_eq_true rfl, Nat.le_of_ble_eq_true rfl⟩) hK hw hA h_70 rfl rfl hl.1 rfl (Nat.le_of_ble_eq_true rfl) dX10_comes_81 ⟨Nat.le_of_ble_eq_true rfl, (Nat.le_of_ble_eq_true rfl)⟩ (fun H locs hw => ?_)
                  obtain ⟨ct_84, ect_84⟩ : ∃ z, z = kw_up ct_68 1 (.inr (3, [.ref (ad 2), .int (nI N), .int b, .long ss, .long (g - (((((0 + ((kU b N) * (ho 0) c)) + ((kU b N) * (ho 1) c)) + ((kU b N) * (ho 2) c)) + ((kU b N) * (ho 3) c)) + ((kU b N) * (ho 4) c))), .int (nI c)])) := ⟨_, rfl⟩
                  rw [← ect_84] at hw
                  have h_85 : ct_84 0 = some (.inr (10, [.ref (ad 1), .ref (ad 3), .int (nI 5), .ref (ad 4), .ref (ad 9), .ref (ad 11), .ref (ad 12), .ref (ad 13), .int lf])) := by rw [ect_84, kw_up_n (by omega)]; exact h_69
                  have h_86 : ct_84 3 = some (eQ tc 4 6 qt) := by rw [ect_84, kw_up_n (by omega)]; exact h_71
                  have h_87 : ct_84 (30 + 0) = some (.inr (ci 0, [.int (nb 0), .ref (ad (36 + 0)), .ref (ad (42 + 0)), .long ((pu 0) + (kU b N) * (ho 0) c), .int (de 0)])) := by rw [ect_84, kw_up_n (by omega)]; exact h_72
                  have h_88 : ct_84 (36 + 0) = some (eJ tc N (kFl (ho 0) 0 N)) := by rw [ect_84, kw_up_n (by omega)]; exact h_73
                  have h_89 : ct_84 (30 + 1) = some (.inr (ci 1, [.int (nb 1), .ref (ad (36 + 1)), .ref (ad (42 + 1)), .long ((pu 1) + (kU b N) * (ho 1) c), .int (de 1)])) := by rw [ect_84, kw_up_n (by omega)]; exact h_74
                  have h_90 : ct_84 (36 + 1) = some (eJ tc N (kFl (ho 1) 0 N)) := by rw [ect_84, kw_up_n (by omega)]; exact h_75
                  have h_91 : ct_84 (30 + 2) = some (.inr (ci 2, [.int (nb 2), .ref (ad (36 + 2)), .ref (ad (42 + 2)), .long ((pu 2) + (kU b N) * (ho 2) c), .int (de 2)])) := by rw [ect_84, kw_up_n (by omega)]; exact h_76
                  have h_92 : ct_84 (36 + 2) = some (eJ tc N (kFl (ho 2) 0 N)) := by rw [ect_84, kw_up_n (by omega)]; exact h_77
                  have h_93 : ct_84 (30 + 3) = some (.inr (ci 3, [.int (nb 3), .ref (ad (36 + 3)), .ref (ad (42 + 3)), .long ((pu 3) + (kU b N) * (ho 3) c), .int (de 3)])) := by rw [ect_84, kw_up_n (by omega)]; exact h_78
                  have h_94 : ct_84 (36 + 3) = some (eJ tc N (kFl (ho 3) 0 N)) := by rw [ect_84, kw_up_n (by omega)]; exact h_79
                  have h_95 : ct_84 (30 + 4) = some (.inr (ci 4, [.int (nb 4), .ref (ad (36 + 4)), .ref (ad (42 + 4)), .long ((pu 4) + (kU b N) * (ho 4) c), .int (de 4)])) := by rw [ect_84, kw_up_n (by omega)]; exact h_80
                  have h_96 : ct_84 (36 + 4) = some (eJ tc N (kFl (ho 4) 0 N)) := by rw [ect_84, kw_up_n (by omega)]; exact h_81
                  have h_97 : ct_84 1 = some (.inr (3, [.ref (ad 2), .int (nI N), .int b, .long ss, .long (g - (((((0 + ((kU b N) * (ho 0) c)) + ((kU b N) * (ho 1) c)) + ((kU b N) * (ho 2) c)) + ((kU b N) * (ho 3) c)) + ((kU b N) * (ho 4) c))), .int (nI c)])) := by rw [ect_84]; exact kw_up_s
                  have hfr_98 : ∀ j, j ≠ 1 → j ≠ (30 + 0) → j ≠ (36 + 0) → j ≠ (30 + 1) → j ≠ (36 + 1) → j ≠ (30 + 2) → j ≠ (36 + 2) → j ≠ (30 + 3) → j ≠ (36 + 3) → j ≠ (30 + 4) → j ≠ (36 + 4) → ct_84 j = ct j := fun j a0 a1 a2 a3 a4 a5 a6 a7 a8 a9 a10 => by rw [ect_84]; exact (kw_up_n a0).trans (hfr_82 j a0 a1 a2 a3 a4 a5 a6 a7 a8 a9 a10)
                  refine lv_iconst (v := 1) hx hb dX10_comes_84 (by decide) ?_
                  have hq_99 : ct_84 1 = some (.inr (3, [.ref (ad 2), .int (nI N), .int b, .long ss, .long (g - su (fun t => kU b N * ho t c) 5), .int (nI c)])) := h_97.trans (congrArg some (show (.inr (3, [.ref (ad 2), .int (nI N), .int b, .long ss, .long (g - (((((0 + ((kU b N) * (ho 0) c)) + ((kU b N) * (ho 1) c)) + ((kU b N) * (ho 2) c)) + ((kU b N) * (ho 3) c)) + ((kU b N) * (ho 4) c))), .int (nI c)]) : va_E) = .inr (3, [.ref (ad 2), .int (nI N), .int b, .long ss, .long (g - su (fun t => kU b N * ho t c) 5), .int (nI c)]) from by rfl))
                  have hq_100 : ct_84 (30 + 0) = some (.inr (ci 0, [.int (nb 0), .ref (ad (36 + 0)), .ref (ad (42 + 0)), .long (pu 0 + kU b N * ho 0 c), .int (de 0)])) := h_87.trans (congrArg some (show (.inr (ci 0, [.int (nb 0), .ref (ad (36 + 0)), .ref (ad (42 + 0)), .long ((pu 0) + (kU b N) * (ho 0) c), .int (de 0)]) : va_E) = .inr (ci 0, [.int (nb 0), .ref (ad (36 + 0)), .ref (ad (42 + 0)), .long (pu 0 + kU b N * ho 0 c), .int (de 0)]) from by rfl))
                  have hq_101 := h_88
                  have hq_102 : ct_84 (30 + 1) = some (.inr (ci 1, [.int (nb 1), .ref (ad (36 + 1)), .ref (ad (42 + 1)), .long (pu 1 + kU b N * ho 1 c), .int (de 1)])) := h_89.trans (congrArg some (show (.inr (ci 1, [.int (nb 1), .ref (ad (36 + 1)), .ref (ad (42 + 1)), .long ((pu 1) + (kU b N) * (ho 1) c), .int (de 1)]) : va_E) = .inr (ci 1, [.int (nb 1), .ref (ad (36 + 1)), .ref (ad (42 + 1)), .long (pu 1 + kU b N * ho 1 c), .int (de 1)]) from by rfl))
                  have hq_103 := h_90
                  have hq_104 : ct_84 (30 + 2) = some (.inr (ci 2, [.int (nb 2), .ref (ad (36 + 2)), .ref (ad (42 + 2)), .long (pu 2 + kU b N * ho 2 c), .int (de 2)])) := h_91.trans (congrArg some (show (.inr (ci 2, [.int (nb 2), .ref (ad (36 + 2)), .ref (ad (42 + 2)), .long ((pu 2) + (kU b N) * (ho 2) c), .int (de 2)]) : va_E) = .inr (ci 2, [.int (nb 2), .ref (ad (36 + 2)), .ref (ad (42 + 2)), .long (pu 2 + kU b N * ho 2 c), .int (de 2)]) from by rfl))
                  have hq_105 := h_92
                  have hq_106 : ct_84 (30 + 3) = some (.inr (ci 3, [.int (nb 3), .ref (ad (36 + 3)), .ref (ad (42 + 3)), .long (pu 3 + kU b N * ho 3 c), .int (de 3)])) := h_93.trans (congrArg some (show (.inr (ci 3, [.int (nb 3), .ref (ad (36 + 3)), .ref (ad (42 + 3)), .long ((pu 3) + (kU b N) * (ho 3) c), .int (de 3)]) : va_E) = .inr (ci 3, [.int (nb 3), .ref (ad (36 + 3)), .ref (ad (42 + 3)), .long (pu 3 + kU b N * ho 3 c), .int (de 3)]) from by rfl))
                  have hq_107 := h_94
                  have hq_108 : ct_84 (30 + 4) = some (.inr (ci 4, [.int (nb 4), .ref (ad (36 + 4)), .ref (ad (42 + 4)), .long (pu 4 + kU b N * ho 4 c), .int (de 4)])) := h_95.trans (congrArg some (show (.inr (ci 4, [.int (nb 4), .ref (ad (36 + 4)), .ref (ad (42 + 4)), .long ((pu 4) + (kU b N) * (ho 4) c), .int (de 4)]) : va_E) = .inr (ci 4, [.int (nb 4), .ref (ad (36 + 4)), .ref (ad (42 + 4)), .long (pu 4 + kU b N * ho 4 c), .int (de 4)]) from by rfl))
                  have hq_109 := h_96
                  have hend := kw_eq11 hq_99 hq_100 hq_101 hq_102 hq_103 hq_104 hq_105 hq_106 hq_107 hq_108 hq_109 hfr_98
                  rw [hend] at hw
                  exact W.iret hx hb hr (fun t ht _ => ⟨rfl, by rw [ht]; exact hw.1, hw.2.2.1, hw.2.1.F ht, by rw [ht]; exact hw.2.2.2⟩) hw.2.1.2.2 dX10_comes_85
                · exfalso; omega
    · exact absurd hm c_2
  · exact absurd kC c_1
set_option maxHeartbeats 4000000 in
set_option maxRecDepth 100000 in
theorem c_X10_comes_m6 (l : Launch) (D : va_G) (tc : Nat → ClassId) (sz : Nat) (ad : Nat → Nat) (ct : Nat → Option va_E) {N : Nat} {b cm lf : Int32} {ss g : Int64}  {qt : Nat → Option Nat}   {ci : Nat → Nat} {nb de : Nat → Int32} {pu : Nat → Int64} {ho : Nat → Nat → Int64} {we : Nat → Nat → Int32} {c : Nat} (h0 : ct 0 = some (.inr (10, [.ref (ad 1), .ref (ad 3), .int (nI 6), .ref (ad 4), .ref (ad 9), .ref (ad 11), .ref (ad 12), .ref (ad 13), .int lf]))) (h1 : ct 1 = some (.inr (3, [.ref (ad 2), .int (nI N), .int b, .long ss, .long g, .int cm]))) (h3 : ct 3 = some (eQ tc 4 6 qt)) (hc : c < N) (hN : N ≤ 8) (hm : cm = (-9)) (hfam : ∀ yy, yy < 6 → (qt yy = some (ad (30 + yy)) ∧ (ci yy = 5 ∨ ci yy = 7 ∨ ci yy = 9)) ∧ ct (30 + yy) = some (.inr (ci yy, [.int (nb yy), .ref (ad (36 + yy)), .ref (ad (42 + yy)), .long (pu yy), .int (de yy)])) ∧ ct (36 + yy) = some (eJ tc N (ho yy)) ∧ ct (42 + yy) = some (eI tc N (we yy))) : Met l yX10_comes wsX10_comes ({ frames := 2, cells := 0, slots := 0, locals := 57 }) (va_Pc [.ref (ad 0), .int (nI c)] (kw_B D tc sz ad ct)) (kw_Q D ad (kw_A ad ct sz) (some (.int 1)) (kw_up (kw_up (kw_up (kw_up (kw_up (kw_up (kw_up (kw_up (kw_up (kw_up (kw_up (kw_up (kw_up ct 1 (.inr (3, [.ref (ad 2), .int (nI N), .int b, .long ss, .long (g - su (fun t => kU b N * ho t c) 6), .int (nI c)]))) (30 + 0) (.inr (ci 0, [.int (nb 0), .ref (ad (36 + 0)), .ref (ad (42 + 0)), .long (pu 0 + kU b N * ho 0 c), .int (de 0)]))) (36 + 0) (eJ tc N (kFl (ho 0) 0 N))) (30 + 1) (.inr (ci 1, [.int (nb 1), .ref (ad (36 + 1)), .ref (ad (42 + 1)), .long (pu 1 + kU b N * ho 1 c), .int (de 1)]))) (36 + 1) (eJ tc N (kFl (ho 1) 0 N))) (30 + 2) (.inr (ci 2, [.int (nb 2), .ref (ad (36 + 2)), .ref (ad (42 + 2)), .long (pu 2 + kU b N * ho 2 c), .int (de 2)]))) (36 + 2) (eJ tc N (kFl (ho 2) 0 N))) (30 + 3) (.inr (ci 3, [.int (nb 3), .ref (ad (36 + 3)), .ref (ad (42 + 3)), .long (pu 3 + kU b N * ho 3 c), .int (de 3)]))) (36 + 3) (eJ tc N (kFl (ho 3) 0 N))) (30 + 4) (.inr (ci 4, [.int (nb 4), .ref (ad (36 + 4)), .ref (ad (42 + 4)), .long (pu 4 + kU b N * ho 4 c), .int (de 4)]))) (36 + 4) (eJ tc N (kFl (ho 4) 0 N))) (30 + 5) (.inr (ci 5, [.int (nb 5), .ref (ad (36 + 5)), .ref (ad (42 + 5)), .long (pu 5 + kU b N * ho 5 c), .int (de 5)]))) (36 + 5) (eJ tc N (kFl (ho 5) 0 N))) 0) 0 0 (kw_A ad ct sz) := by
  refine Met.ofW (cc := cX10_comes) (maxL := 6) (ret := (some .int)) (by decide) rfl ?_
  intro pg en s m args below meth cod s₁ B hml hv
  obtain ⟨rfl, hsz, hP0, hK⟩ := hv
  have hx := B.exec
  have hb := B.bytes
  have hr := B.returns
  have hts := atoms_spec (ws := wsX10_comes) B.pre
  have hown : s.vm.findClass RX10 = some m.cls := findClass_of_methodNamed B.named
  have hlocks := B.notSynchronized
  subst hsz
  have hw := kw_H.start hP0
  generalize hAe : kw_A ad ct s.heap.size = A at hw ⊢
  have hA : ∀ q, s.heap.size ≤ q → A q := fun q h => by rw [← hAe]; exact Or.inr h
  have hinX10 : ∀ w ∈ wsX100, w ∈ wsX10_comes := by decide +kernel
  have hl := lv_entry ([.ref (ad 0), .int (nI c)]) (n := 6) (Nat.le_of_ble_eq_true rfl)
  rw [lg_entry_eq]
  generalize (lg_sl ([.ref (ad 0), .int (nI c)]) ++ List.replicate (6 - (lg_sl ([.ref (ad 0), .int (nI c)])).length) Slot.unset).toArray = ls at hl ⊢
  have hl : lv_has ls 6 [(0, .ref (ad 0)), (1, .int (nI c))] := hl
  have S0 : CallFix pg m cod cX10_comes 6 s _ wsX10_comes RX10 := ⟨hx, hb, hml, hown, hts⟩
  have hfr : ∀ j, j ≠ 1 → j ≠ (30 + 0) → j ≠ (36 + 0) → j ≠ (30 + 1) → j ≠ (36 + 1) → j ≠ (30 + 2) → j ≠ (36 + 2) → j ≠ (30 + 3) → j ≠ (36 + 3) → j ≠ (30 + 4) → j ≠ (36 + 4) → j ≠ (30 + 5) → j ≠ (36 + 5) → ct j = ct j := fun _ _ _ _ _ _ _ _ _ _ _ _ _ _ => rfl
  have kC : 0 ≤ nI c ∧ nI c < nI N := ⟨nI_pos' (by omega), nI_lt hc (by omega)⟩
  refine lv_aload_n hx hb dX10_comes_0 rfl (lv_at hl 0 rfl) ?_
  refine kg_get (v := .ref (ad 1)) (C := RX10) (T := TX10) (N := 9) hx hb hts hinX10 hown hK hw h0 rfl 0 (by decide) (hts (.fieldLink RX10 12 "BetMaker" "maker" "LBetMaker$Maker;") (by decide +kernel)) (fun _ h9 => h9) rfl dX10_comes_1 ?_
  refine lv_iload_n hx hb dX10_comes_4 rfl (lv_at hl 1 rfl) ?_
  refine kc_v (As := [.int (nI c)]) (rest := []) S0 (c_X3_isCase l D tc s.heap.size ad ct (N := N) h1) (cwV 1 hts gX10_comes_X3_isCase rfl rfl rfl (by decide +kernel) ⟨Nat.le_of_ble_eq_true rfl, Nat.le_of_ble_eq_true rfl⟩) hK hw h1 rfl rfl hl.1 rfl (Nat.le_of_ble_eq_true rfl) dX10_comes_5 ⟨Nat.le_of_ble_eq_true rfl, (Nat.le_of_ble_eq_true rfl)⟩ ?_
  refine kb_ifne (tgt := 13) hx hb dX10_comes_8 (by decide) (fun c_1 => ?_) (fun c_1 => ?_)
  · refine lv_aload_n hx hb dX10_comes_13 rfl (lv_at hl 0 rfl) ?_
    refine kg_get (v := .ref (ad 1)) (C := RX10) (T := TX10) (N := 9) hx hb hts hinX10 hown hK hw h0 rfl 0 (by decide) (hts (.fieldLink RX10 12 "BetMaker" "maker" "LBetMaker$Maker;") (by decide +kernel)) (fun _ h9 => h9) rfl dX10_comes_14 ?_
    refine kc_v (As := []) (rest := []) S0 (c_X3_hasCome l D tc s.heap.size ad ct (N := N) h1) (cwV 0 hts gX10_comes_X3_hasCome rfl rfl rfl (by decide +kernel) ⟨Nat.le_of_ble_eq_true rfl, Nat.le_of_ble_eq_true rfl⟩) hK hw h1 rfl rfl hl.1 rfl (Nat.le_of_ble_eq_true rfl) dX10_comes_17 ⟨Nat.le_of_ble_eq_true rfl, (Nat.le_of_ble_eq_true rfl)⟩ ?_
    refine kb_ifeq (tgt := 26) hx hb dX10_comes_20 (by decide) (fun c_2 => ?_) (fun c_2 => ?_)
    · obtain ⟨⟨hq0, hc0⟩, hTo0, hTh0, -⟩ := hfam 0 (by omega)
      obtain ⟨⟨hq1, hc1⟩, hTo1, hTh1, -⟩ := hfam 1 (by omega)
      obtain ⟨⟨hq2, hc2⟩, hTo2, hTh2, -⟩ := hfam 2 (by omega)
      obtain ⟨⟨hq3, hc3⟩, hTo3, hTh3, -⟩ := hfam 3 (by omega)
      obtain ⟨⟨hq4, hc4⟩, hTo4, hTh4, -⟩ := hfam 4 (by omega)
      obtain ⟨⟨hq5, hc5⟩, hTo5, hTh5, -⟩ := hfam 5 (by omega)
      refine lv_lconst (v := 0) hx hb dX10_comes_26 (by decide) ?_
      refine lv_lstore_n (lv' := [(2, .long 0), (0, .ref (ad 0)), (1, .int (nI c))]) hx hb dX10_comes_27 rfl hl (by decide) rfl (fun ls hl => ?_)
      refine lv_iconst (v := 0) hx hb dX10_comes_28 (by decide) ?_
      refine lv_istore (lv' := [(4, .int 0), (2, .long 0), (0, .ref (ad 0)), (1, .int (nI c))]) hx hb dX10_comes_29 hl (by decide) rfl (fun ls hl => ?_)
      refine lv_iload hx hb dX10_comes_31 (lv_at hl 0 rfl) ?_
      refine lv_aload_n hx hb dX10_comes_33 rfl (lv_at hl 2 rfl) ?_
      refine kg_get (v := .int (nI 6)) (C := RX10) (T := TX10) (N := 9) hx hb hts hinX10 hown hK hw h0 rfl 2 (by decide) (hts (.fieldLink RX10 60 "BetMaker" "traderCount" "I") (by decide +kernel)) (fun _ h9 => h9) rfl dX10_comes_34 ?_
      refine kn_ge 0 6 rfl rfl (by omega) (by omega) (tgt := 75) hx hb dX10_comes_37 (by decide) (fun c_3 => ?_) (fun c_3 => ?_)
      · exfalso; omega
      · have hqt := hq0
        have hci := hc0
        refine lv_aload_n hx hb dX10_comes_40 rfl (lv_at hl 2 rfl) ?_
        refine lv_iload hx hb dX10_comes_41 (lv_at hl 0 rfl) ?_
        refine kc_v (As := [.int 0]) (rest := []) S0 (c_X10_findTrader l D tc s.heap.size ad ct (t := 0) (nt := 6) h0 h3 (by omega) (by omega) hqt) (cwV 1 hts gX10_comes_X10_findTrader rfl rfl rfl (by decide +kernel) ⟨Nat.le_of_ble_eq_true rfl, Nat.le_of_ble_eq_true rfl⟩) hK hw h0 rfl rfl hl.1 rfl (Nat.le_of_ble_eq_true rfl) dX10_comes_43 ⟨Nat.le_of_ble_eq_true rfl, (Nat.le_of_ble_eq_true rfl)⟩ ?_
        refine lv_astore (lv' := [(5, .ref (ad (30 + 0))), (4, .int 0), (2, .long 0), (0, .ref (ad 0)), (1, .int (nI c))]) hx hb dX10_comes_46 hl (by decide) rfl (fun ls hl => ?_)
        refine lv_aload hx hb dX10_comes_48 (lv_at hl 0 rfl) ?_
        refine lv_ifnull hx hb dX10_comes_50 ?_
        refine lv_lload_n hx hb dX10_comes_53 rfl (lv_at hl 2 rfl) ?_
        refine lv_aload hx hb dX10_comes_54 (lv_at hl 0 rfl) ?_
        refine lv_iload_n hx hb dX10_comes_56 rfl (lv_at hl 4 rfl) ?_
        refine lv_aload_n hx hb dX10_comes_57 rfl (lv_at hl 3 rfl) ?_
        refine kg_get (v := .ref (ad 1)) (C := RX10) (T := TX10) (N := 9) hx hb hts hinX10 hown hK hw h0 rfl 0 (by decide) (hts (.fieldLink RX10 12 "BetMaker" "maker" "LBetMaker$Maker;") (by decide +kernel)) (fun _ h9 => h9) rfl dX10_comes_58 ?_
        refine kc_v (As := []) (rest := [.int (nI c), .ref (ad (30 + 0)), .long 0]) S0 (c_X3_unit l D tc s.heap.size ad ct (N := N) h1) (cwV 0 hts gX10_comes_X3_unit rfl rfl rfl (by decide +kernel) ⟨Nat.le_of_ble_eq_true rfl, Nat.le_of_ble_eq_true rfl⟩) hK hw h1 rfl rfl hl.1 rfl (Nat.le_of_ble_eq_true rfl) dX10_comes_61 ⟨Nat.le_of_ble_eq_true rfl, (Nat.le_of_ble_eq_true rfl)⟩ ?_
        refine kt_vu (As := [.int (nI c), .long (kU b N)]) (rest := [.long 0]) S0 hci (c_X5_settle l D tc s.heap.size ad ct (c := c) hTo0 hTh0 hci hc (by omega)) (cwV 2 hts gX10_comes_X5_settle rfl rfl rfl (by decide +kernel) ⟨Nat.le_of_ble_eq_true rfl, Nat.le_of_ble_eq_true rfl⟩) (va_cwU 2 hts gX10_comes_X5_settle_u125X7 rfl rfl rfl rfl (by decide +kernel) ⟨Nat.le_of_ble_eq_true rfl, Nat.le_of_ble_eq_true rfl⟩) (va_cwU 2 hts gX10_comes_X5_settle_u125X9 rfl rfl rfl rfl (by decide +kernel) ⟨Nat.le_of_ble_eq_true rfl, Nat.le_of_ble_eq_true rfl⟩) hK hw hA hTo0 rfl hl.1 rfl (Nat.le_of_ble_eq_true rfl) dX10_comes_64 ⟨Nat.le_of_ble_eq_true rfl, (Nat.le_of_ble_eq_true rfl)⟩ (fun H locs hw => ?_)
        obtain ⟨ct_4, ect_4⟩ : ∃ z, z = kw_up (kw_up ct (30 + 0) (.inr (ci 0, [.int (nb 0), .ref (ad (36 + 0)), .ref (ad (42 + 0)), .long ((pu 0) + (kU b N) * (ho 0) c), .int (de 0)]))) (36 + 0) (eJ tc N (kFl (ho 0) 0 N)) := ⟨_, rfl⟩
        rw [← ect_4] at hw
        have h_5 : ct_4 0 = some (.inr (10, [.ref (ad 1), .ref (ad 3), .int (nI 6), .ref (ad 4), .ref (ad 9), .ref (ad 11), .ref (ad 12), .ref (ad 13), .int lf])) := by rw [ect_4, kw_up_n (by omega), kw_up_n (by omega)]; exact h0
        have h_6 : ct_4 1 = some (.inr (3, [.ref (ad 2), .int (nI N), .int b, .long ss, .long g, .int cm])) := by rw [ect_4, kw_up_n (by omega), kw_up_n (by omega)]; exact h1
        have h_7 : ct_4 3 = some (eQ tc 4 6 qt) := by rw [ect_4, kw_up_n (by omega), kw_up_n (by omega)]; exact h3
        have h_8 : ct_4 (30 + 1) = some (.inr (ci 1, [.int (nb 1), .ref (ad (36 + 1)), .ref (ad (42 + 1)), .long (pu 1), .int (de 1)])) := by rw [ect_4, kw_up_n (by omega), kw_up_n (by omega)]; exact hTo1
        have h_9 : ct_4 (36 + 1) = some (eJ tc N (ho 1)) := by rw [ect_4, kw_up_n (by omega), kw_up_n (by omega)]; exact hTh1
        have h_10 : ct_4 (30 + 2) = some (.inr (ci 2, [.int (nb 2), .ref (ad (36 + 2)), .ref (ad (42 + 2)), .long (pu 2), .int (de 2)])) := by rw [ect_4, kw_up_n (by omega), kw_up_n (by omega)]; exact hTo2
        have h_11 : ct_4 (36 + 2) = some (eJ tc N (ho 2)) := by rw [ect_4, kw_up_n (by omega), kw_up_n (by omega)]; exact hTh2
        have h_12 : ct_4 (30 + 3) = some (.inr (ci 3, [.int (nb 3), .ref (ad (36 + 3)), .ref (ad (42 + 3)), .long (pu 3), .int (de 3)])) := by rw [ect_4, kw_up_n (by omega), kw_up_n (by omega)]; exact hTo3
        have h_13 : ct_4 (36 + 3) = some (eJ tc N (ho 3)) := by rw [ect_4, kw_up_n (by omega), kw_up_n (by omega)]; exact hTh3
        have h_14 : ct_4 (30 + 4) = some (.inr (ci 4, [.int (nb 4), .ref (ad (36 + 4)), .ref (ad (42 + 4)), .long (pu 4), .int (de 4)])) := by rw [ect_4, kw_up_n (by omega), kw_up_n (by omega)]; exact hTo4
        have h_15 : ct_4 (36 + 4) = some (eJ tc N (ho 4)) := by rw [ect_4, kw_up_n (by omega), kw_up_n (by omega)]; exact hTh4
        have h_16 : ct_4 (30 + 5) = some (.inr (ci 5, [.int (nb 5), .ref (ad (36 + 5)), .ref (ad (42 + 5)), .long (pu 5), .int (de 5)])) := by rw [ect_4, kw_up_n (by omega), kw_up_n (by omega)]; exact hTo5
        have h_17 : ct_4 (36 + 5) = some (eJ tc N (ho 5)) := by rw [ect_4, kw_up_n (by omega), kw_up_n (by omega)]; exact hTh5
        have h_18 : ct_4 (30 + 0) = some (.inr (ci 0, [.int (nb 0), .ref (ad (36 + 0)), .ref (ad (42 + 0)), .long ((pu 0) + (kU b N) * (ho 0) c), .int (de 0)])) := by rw [ect_4, kw_up_n (by omega)]; exact kw_up_s
        have h_19 : ct_4 (36 + 0) = some (eJ tc N (kFl (ho 0) 0 N)) := by rw [ect_4]; exact kw_up_s
        have hfr_20 : ∀ j, j ≠ 1 → j ≠ (30 + 0) → j ≠ (36 + 0) → j ≠ (30 + 1) → j ≠ (36 + 1) → j ≠ (30 + 2) → j ≠ (36 + 2) → j ≠ (30 + 3) → j ≠ (36 + 3) → j ≠ (30 + 4) → j ≠ (36 + 4) → j ≠ (30 + 5) → j ≠ (36 + 5) → ct_4 j = ct j := fun j a0 a1 a2 a3 a4 a5 a6 a7 a8 a9 a10 a11 a12 => by rw [ect_4]; exact (kw_up_n a2).trans ((kw_up_n a1).trans (hfr j a0 a1 a2 a3 a4 a5 a6 a7 a8 a9 a10 a11 a12))
        refine lv_ladd hx hb dX10_comes_67 ?_
        refine lv_lstore_n (lv' := [(2, .long (0 + ((kU b N) * (ho 0) c))), (5, .ref (ad (30 + 0))), (4, .int 0), (0, .ref (ad 0)), (1, .int (nI c))]) hx hb dX10_comes_68 rfl hl (by decide) rfl (fun ls hl => ?_)
        refine lv_iinc (v := 1) (lv' := [(4, .int 1), (2, .long (0 + ((kU b N) * (ho 0) c))), (5, .ref (ad (30 + 0))), (0, .ref (ad 0)), (1, .int (nI c))]) hx hb dX10_comes_69 hl (k := 2) rfl rfl (by decide) rfl (fun ls hl => ?_)
        refine lv_goto (tgt := 31) hx hb dX10_comes_72 (by decide) ?_
        refine lv_iload hx hb dX10_comes_31 (lv_at hl 0 rfl) ?_
        refine lv_aload_n hx hb dX10_comes_33 rfl (lv_at hl 3 rfl) ?_
        refine kg_get (v := .int (nI 6)) (C := RX10) (T := TX10) (N := 9) hx hb hts hinX10 hown hK hw h_5 rfl 2 (by decide) (hts (.fieldLink RX10 60 "BetMaker" "traderCount" "I") (by decide +kernel)) (fun _ h9 => h9) rfl dX10_comes_34 ?_
        refine kn_ge 1 6 rfl rfl (by omega) (by omega) (tgt := 75) hx hb dX10_comes_37 (by decide) (fun c_21 => ?_) (fun c_21 => ?_)
        · exfalso; omega
        · have hqt := hq1
          have hci := hc1
          refine lv_aload_n hx hb dX10_comes_40 rfl (lv_at hl 3 rfl) ?_
          refine lv_iload hx hb dX10_comes_41 (lv_at hl 0 rfl) ?_
          refine kc_v (As := [.int 1]) (rest := []) S0 (c_X10_findTrader l D tc s.heap.size ad ct_4 (t := 1) (nt := 6) h_5 h_7 (by omega) (by omega) hqt) (cwV 1 hts gX10_comes_X10_findTrader rfl rfl rfl (by decide +kernel) ⟨Nat.le_of_ble_eq_true rfl, Nat.le_of_ble_eq_true rfl⟩) hK hw h_5 rfl rfl hl.1 rfl (Nat.le_of_ble_eq_true rfl) dX10_comes_43 ⟨Nat.le_of_ble_eq_true rfl, (Nat.le_of_ble_eq_true rfl)⟩ ?_
          refine lv_astore (lv' := [(5, .ref (ad (30 + 1))), (4, .int 1), (2, .long (0 + ((kU b N) * (ho 0) c))), (0, .ref (ad 0)), (1, .int (nI c))]) hx hb dX10_comes_46 hl (by decide) rfl (fun ls hl => ?_)
          refine lv_aload hx hb dX10_comes_48 (lv_at hl 0 rfl) ?_
          refine lv_ifnull hx hb dX10_comes_50 ?_
          refine lv_lload_n hx hb dX10_comes_53 rfl (lv_at hl 2 rfl) ?_
          refine lv_aload hx hb dX10_comes_54 (lv_at hl 0 rfl) ?_
          refine lv_iload_n hx hb dX10_comes_56 rfl (lv_at hl 4 rfl) ?_
          refine lv_aload_n hx hb dX10_comes_57 rfl (lv_at hl 3 rfl) ?_
          refine kg_get (v := .ref (ad 1)) (C := RX10) (T := TX10) (N := 9) hx hb hts hinX10 hown hK hw h_5 rfl 0 (by decide) (hts (.fieldLink RX10 12 "BetMaker" "maker" "LBetMaker$Maker;") (by decide +kernel)) (fun _ h9 => h9) rfl dX10_comes_58 ?_
          refine kc_v (As := []) (rest := [.int (nI c), .ref (ad (30 + 1)), .long (0 + ((kU b N) * (ho 0) c))]) S0 (c_X3_unit l D tc s.heap.size ad ct_4 (N := N) h_6) (cwV 0 hts gX10_comes_X3_unit rfl rfl rfl (by decide +kernel) ⟨Nat.le_of_ble_eq_true rfl, Nat.le_of_ble_eq_true rfl⟩) hK hw h_6 rfl rfl hl.1 rfl (Nat.le_of_ble_eq_true rfl) dX10_comes_61 ⟨Nat.le_of_ble_eq_true rfl, (Nat.le_of_ble_eq_true rfl)⟩ ?_
          refine kt_vu (As := [.int (nI c), .long (kU b N)]) (rest := [.long (0 + ((kU b N) * (ho 0) c))]) S0 hci (c_X5_settle l D tc s.heap.size ad ct_4 (c := c) h_8 h_9 hci hc (by omega)) (cwV 2 hts gX10_comes_X5_settle rfl rfl rfl (by decide +kernel) ⟨Nat.le_of_ble_eq_true rfl, Nat.le_of_ble_eq_true rfl⟩) (va_cwU 2 hts gX10_comes_X5_settle_u125X7 rfl rfl rfl rfl (by decide +kernel) ⟨Nat.le_of_ble_eq_true rfl, Nat.le_of_ble_eq_true rfl⟩) (va_cwU 2 hts gX10_comes_X5_settle_u125X9 rfl rfl rfl rfl (by decide +kernel) ⟨Nat.le_of_ble_eq_true rfl, Nat.le_of_ble_eq_true rfl⟩) hK hw hA h_8 rfl hl.1 rfl (Nat.le_of_ble_eq_true rfl) dX10_comes_64 ⟨Nat.le_of_ble_eq_true rfl, (Nat.le_of_ble_eq_true rfl)⟩ (fun H locs hw => ?_)
          obtain ⟨ct_22, ect_22⟩ : ∃ z, z = kw_up (kw_up ct_4 (30 + 1) (.inr (ci 1, [.int (nb 1), .ref (ad (36 + 1)), .ref (ad (42 + 1)), .long ((pu 1) + (kU b N) * (ho 1) c), .int (de 1)]))) (36 + 1) (eJ tc N (kFl (ho 1) 0 N)) := ⟨_, rfl⟩
          rw [← ect_22] at hw
          have h_23 : ct_22 0 = some (.inr (10, [.ref (ad 1), .ref (ad 3), .int (nI 6), .ref (ad 4), .ref (ad 9), .ref (ad 11), .ref (ad 12), .ref (ad 13), .int lf])) := by rw [ect_22, kw_up_n (by omega), kw_up_n (by omega)]; exact h_5
          have h_24 : ct_22 1 = some (.inr (3, [.ref (ad 2), .int (nI N), .int b, .long ss, .long g, .int cm])) := by rw [ect_22, kw_up_n (by omega), kw_up_n (by omega)]; exact h_6
          have h_25 : ct_22 3 = some (eQ tc 4 6 qt) := by rw [ect_22, kw_up_n (by omega), kw_up_n (by omega)]; exact h_7
          have h_26 : ct_22 (30 + 2) = some (.inr (ci 2, [.int (nb 2), .ref (ad (36 + 2)), .ref (ad (42 + 2)), .long (pu 2), .int (de 2)])) := by rw [ect_22, kw_up_n (by omega), kw_up_n (by omega)]; exact h_10
          have h_27 : ct_22 (36 + 2) = some (eJ tc N (ho 2)) := by rw [ect_22, kw_up_n (by omega), kw_up_n (by omega)]; exact h_11
          have h_28 : ct_22 (30 + 3) = some (.inr (ci 3, [.int (nb 3), .ref (ad (36 + 3)), .ref (ad (42 + 3)), .long (pu 3), .int (de 3)])) := by rw [ect_22, kw_up_n (by omega), kw_up_n (by omega)]; exact h_12
          have h_29 : ct_22 (36 + 3) = some (eJ tc N (ho 3)) := by rw [ect_22, kw_up_n (by omega), kw_up_n (by omega)]; exact h_13
          have h_30 : ct_22 (30 + 4) = some (.inr (ci 4, [.int (nb 4), .ref (ad (36 + 4)), .ref (ad (42 + 4)), .long (pu 4), .int (de 4)])) := by rw [ect_22, kw_up_n (by omega), kw_up_n (by omega)]; exact h_14
          have h_31 : ct_22 (36 + 4) = some (eJ tc N (ho 4)) := by rw [ect_22, kw_up_n (by omega), kw_up_n (by omega)]; exact h_15
          have h_32 : ct_22 (30 + 5) = some (.inr (ci 5, [.int (nb 5), .ref (ad (36 + 5)), .ref (ad (42 + 5)), .long (pu 5), .int (de 5)])) := by rw [ect_22, kw_up_n (by omega), kw_up_n (by omega)]; exact h_16
          have h_33 : ct_22 (36 + 5) = some (eJ tc N (ho 5)) := by rw [ect_22, kw_up_n (by omega), kw_up_n (by omega)]; exact h_17
          have h_34 : ct_22 (30 + 0) = some (.inr (ci 0, [.int (nb 0), .ref (ad (36 + 0)), .ref (ad (42 + 0)), .long ((pu 0) + (kU b N) * (ho 0) c), .int (de 0)])) := by rw [ect_22, kw_up_n (by omega), kw_up_n (by omega)]; exact h_18
          have h_35 : ct_22 (36 + 0) = some (eJ tc N (kFl (ho 0) 0 N)) := by rw [ect_22, kw_up_n (by omega), kw_up_n (by omega)]; exact h_19
          have h_36 : ct_22 (30 + 1) = some (.inr (ci 1, [.int (nb 1), .ref (ad (36 + 1)), .ref (ad (42 + 1)), .long ((pu 1) + (kU b N) * (ho 1) c), .int (de 1)])) := by rw [ect_22, kw_up_n (by omega)]; exact kw_up_s
          have h_37 : ct_22 (36 + 1) = some (eJ tc N (kFl (ho 1) 0 N)) := by rw [ect_22]; exact kw_up_s
          have hfr_38 : ∀ j, j ≠ 1 → j ≠ (30 + 0) → j ≠ (36 + 0) → j ≠ (30 + 1) → j ≠ (36 + 1) → j ≠ (30 + 2) → j ≠ (36 + 2) → j ≠ (30 + 3) → j ≠ (36 + 3) → j ≠ (30 + 4) → j ≠ (36 + 4) → j ≠ (30 + 5) → j ≠ (36 + 5) → ct_22 j = ct j := fun j a0 a1 a2 a3 a4 a5 a6 a7 a8 a9 a10 a11 a12 => by rw [ect_22]; exact (kw_up_n a4).trans ((kw_up_n a3).trans (hfr_20 j a0 a1 a2 a3 a4 a5 a6 a7 a8 a9 a10 a11 a12))
          refine lv_ladd hx hb dX10_comes_67 ?_
          refine lv_lstore_n (lv' := [(2, .long ((0 + ((kU b N) * (ho 0) c)) + ((kU b N) * (ho 1) c))), (5, .ref (ad (30 + 1))), (4, .int 1), (0, .ref (ad 0)), (1, .int (nI c))]) hx hb dX10_comes_68 rfl hl (by decide) rfl (fun ls hl => ?_)
          refine lv_iinc (v := 2) (lv' := [(4, .int 2), (2, .long ((0 + ((kU b N) * (ho 0) c)) + ((kU b N) * (ho 1) c))), (5, .ref (ad (30 + 1))), (0, .ref (ad 0)), (1, .int (nI c))]) hx hb dX10_comes_69 hl (k := 2) rfl rfl (by decide) rfl (fun ls hl => ?_)
          refine lv_goto (tgt := 31) hx hb dX10_comes_72 (by decide) ?_
          refine lv_iload hx hb dX10_comes_31 (lv_at hl 0 rfl) ?_
          refine lv_aload_n hx hb dX10_comes_33 rfl (lv_at hl 3 rfl) ?_
          refine kg_get (v := .int (nI 6)) (C := RX10) (T := TX10) (N := 9) hx hb hts hinX10 hown hK hw h_23 rfl 2 (by decide) (hts (.fieldLink RX10 60 "BetMaker" "traderCount" "I") (by decide +kernel)) (fun _ h9 => h9) rfl dX10_comes_34 ?_
          refine kn_ge 2 6 rfl rfl (by omega) (by omega) (tgt := 75) hx hb dX10_comes_37 (by decide) (fun c_39 => ?_) (fun c_39 => ?_)
          · exfalso; omega
          · have hqt := hq2
            have hci := hc2
            refine lv_aload_n hx hb dX10_comes_40 rfl (lv_at hl 3 rfl) ?_
            refine lv_iload hx hb dX10_comes_41 (lv_at hl 0 rfl) ?_
            refine kc_v (As := [.int 2]) (rest := []) S0 (c_X10_findTrader l D tc s.heap.size ad ct_22 (t := 2) (nt := 6) h_23 h_25 (by omega) (by omega) hqt) (cwV 1 hts gX10_comes_X10_findTrader rfl rfl rfl (by decide +kernel) ⟨Nat.le_of_ble_eq_true rfl, Nat.le_of_ble_eq_true rfl⟩) hK hw h_23 rfl rfl hl.1 rfl (Nat.le_of_ble_eq_true rfl) dX10_comes_43 ⟨Nat.le_of_ble_eq_true rfl, (Nat.le_of_ble_eq_true rfl)⟩ ?_
            refine lv_astore (lv' := [(5, .ref (ad (30 + 2))), (4, .int 2), (2, .long ((0 + ((kU b N) * (ho 0) c)) + ((kU b N) * (ho 1) c))), (0, .ref (ad 0)), (1, .int (nI c))]) hx hb dX10_comes_46 hl (by decide) rfl (fun ls hl => ?_)
            refine lv_aload hx hb dX10_comes_48 (lv_at hl 0 rfl) ?_
            refine lv_ifnull hx hb dX10_comes_50 ?_
            refine lv_lload_n hx hb dX10_comes_53 rfl (lv_at hl 2 rfl) ?_
            refine lv_aload hx hb dX10_comes_54 (lv_at hl 0 rfl) ?_
            refine lv_iload_n hx hb dX10_comes_56 rfl (lv_at hl 4 rfl) ?_
            refine lv_aload_n hx hb dX10_comes_57 rfl (lv_at hl 3 rfl) ?_
            refine kg_get (v := .ref (ad 1)) (C := RX10) (T := TX10) (N := 9) hx hb hts hinX10 hown hK hw h_23 rfl 0 (by decide) (hts (.fieldLink RX10 12 "BetMaker" "maker" "LBetMaker$Maker;") (by decide +kernel)) (fun _ h9 => h9) rfl dX10_comes_58 ?_
            refine kc_v (As := []) (rest := [.int (nI c), .ref (ad (30 + 2)), .long ((0 + ((kU b N) * (ho 0) c)) + ((kU b N) * (ho 1) c))]) S0 (c_X3_unit l D tc s.heap.size ad ct_22 (N := N) h_24) (cwV 0 hts gX10_comes_X3_unit rfl rfl rfl (by decide +kernel) ⟨Nat.le_of_ble_eq_true rfl, Nat.le_of_ble_eq_true rfl⟩) hK hw h_24 rfl rfl hl.1 rfl (Nat.le_of_ble_eq_true rfl) dX10_comes_61 ⟨Nat.le_of_ble_eq_true rfl, (Nat.le_of_ble_eq_true rfl)⟩ ?_
            refine kt_vu (As := [.int (nI c), .long (kU b N)]) (rest := [.long ((0 + ((kU b N) * (ho 0) c)) + ((kU b N) * (ho 1) c))]) S0 hci (c_X5_settle l D tc s.heap.size ad ct_22 (c := c) h_26 h_27 hci hc (by omega)) (cwV 2 hts gX10_comes_X5_settle rfl rfl rfl (by decide +kernel) ⟨Nat.le_of_ble_eq_true rfl, Nat.le_of_ble_eq_true rfl⟩) (va_cwU 2 hts gX10_comes_X5_settle_u125X7 rfl rfl rfl rfl (by decide +kernel) ⟨Nat.le_of_ble_eq_true rfl, Nat.le_of_ble_eq_true rfl⟩) (va_cwU 2 hts gX10_comes_X5_settle_u125X9 rfl rfl rfl rfl (by decide +kernel) ⟨Nat.le_of_ble_eq_true rfl, Nat.le_of_ble_eq_true rfl⟩) hK hw hA h_26 rfl hl.1 rfl (Nat.le_of_ble_eq_true rfl) dX10_comes_64 ⟨Nat.le_of_ble_eq_true rfl, (Nat.le_of_ble_eq_true rfl)⟩ (fun H locs hw => ?_)
            obtain ⟨ct_40, ect_40⟩ : ∃ z, z = kw_up (kw_up ct_22 (30 + 2) (.inr (ci 2, [.int (nb 2), .ref (ad (36 + 2)), .ref (ad (42 + 2)), .long ((pu 2) + (kU b N) * (ho 2) c), .int (de 2)]))) (36 + 2) (eJ tc N (kFl (ho 2) 0 N)) := ⟨_, rfl⟩
            rw [← ect_40] at hw
            have h_41 : ct_40 0 = some (.inr (10, [.ref (ad 1), .ref (ad 3), .int (nI 6), .ref (ad 4), .ref (ad 9), .ref (ad 11), .ref (ad 12), .ref (ad 13), .int lf])) := by rw [ect_40, kw_up_n (by omega), kw_up_n (by omega)]; exact h_23
            have h_42 : ct_40 1 = some (.inr (3, [.ref (ad 2), .int (nI N), .int b, .long ss, .long g, .int cm])) := by rw [ect_40, kw_up_n (by omega), kw_up_n (by omega)]; exact h_24
            have h_43 : ct_40 3 = some (eQ tc 4 6 qt) := by rw [ect_40, kw_up_n (by omega), kw_up_n (by omega)]; exact h_25
            have h_44 : ct_40 (30 + 3) = some (.inr (ci 3, [.int (nb 3), .ref (ad (36 + 3)), .ref (ad (42 + 3)), .long (pu 3), .int (de 3)])) := by rw [ect_40, kw_up_n (by omega), kw_up_n (by omega)]; exact h_28
            have h_45 : ct_40 (36 + 3) = some (eJ tc N (ho 3)) := by rw [ect_40, kw_up_n (by omega), kw_up_n (by omega)]; exact h_29
            have h_46 : ct_40 (30 + 4) = some (.inr (ci 4, [.int (nb 4), .ref (ad (36 + 4)), .ref (ad (42 + 4)), .long (pu 4), .int (de 4)])) := by rw [ect_40, kw_up_n (by omega), kw_up_n (by omega)]; exact h_30
            have h_47 : ct_40 (36 + 4) = some (eJ tc N (ho 4)) := by rw [ect_40, kw_up_n (by omega), kw_up_n (by omega)]; exact h_31
            have h_48 : ct_40 (30 + 5) = some (.inr (ci 5, [.int (nb 5), .ref (ad (36 + 5)), .ref (ad (42 + 5)), .long (pu 5), .int (de 5)])) := by rw [ect_40, kw_up_n (by omega), kw_up_n (by omega)]; exact h_32
            have h_49 : ct_40 (36 + 5) = some (eJ tc N (ho 5)) := by rw [ect_40, kw_up_n (by omega), kw_up_n (by omega)]; exact h_33
            have h_50 : ct_40 (30 + 0) = some (.inr (ci 0, [.int (nb 0), .ref (ad (36 + 0)), .ref (ad (42 + 0)), .long ((pu 0) + (kU b N) * (ho 0) c), .int (de 0)])) := by rw [ect_40, kw_up_n (by omega), kw_up_n (by omega)]; exact h_34
            have h_51 : ct_40 (36 + 0) = some (eJ tc N (kFl (ho 0) 0 N)) := by rw [ect_40, kw_up_n (by omega), kw_up_n (by omega)]; exact h_35
            have h_52 : ct_40 (30 + 1) = some (.inr (ci 1, [.int (nb 1), .ref (ad (36 + 1)), .ref (ad (42 + 1)), .long ((pu 1) + (kU b N) * (ho 1) c), .int (de 1)])) := by rw [ect_40, kw_up_n (by omega), kw_up_n (by omega)]; exact h_36
            have h_53 : ct_40 (36 + 1) = some (eJ tc N (kFl (ho 1) 0 N)) := by rw [ect_40, kw_up_n (by omega), kw_up_n (by omega)]; exact h_37
            have h_54 : ct_40 (30 + 2) = some (.inr (ci 2, [.int (nb 2), .ref (ad (36 + 2)), .ref (ad (42 + 2)), .long ((pu 2) + (kU b N) * (ho 2) c), .int (de 2)])) := by rw [ect_40, kw_up_n (by omega)]; exact kw_up_s
            have h_55 : ct_40 (36 + 2) = some (eJ tc N (kFl (ho 2) 0 N)) := by rw [ect_40]; exact kw_up_s
            have hfr_56 : ∀ j, j ≠ 1 → j ≠ (30 + 0) → j ≠ (36 + 0) → j ≠ (30 + 1) → j ≠ (36 + 1) → j ≠ (30 + 2) → j ≠ (36 + 2) → j ≠ (30 + 3) → j ≠ (36 + 3) → j ≠ (30 + 4) → j ≠ (36 + 4) → j ≠ (30 + 5) → j ≠ (36 + 5) → ct_40 j = ct j := fun j a0 a1 a2 a3 a4 a5 a6 a7 a8 a9 a10 a11 a12 => by rw [ect_40]; exact (kw_up_n a6).trans ((kw_up_n a5).trans (hfr_38 j a0 a1 a2 a3 a4 a5 a6 a7 a8 a9 a10 a11 a12))
            refine lv_ladd hx hb dX10_comes_67 ?_
            refine lv_lstore_n (lv' := [(2, .long (((0 + ((kU b N) * (ho 0) c)) + ((kU b N) * (ho 1) c)) + ((kU b N) * (ho 2) c))), (5, .ref (ad (30 + 2))), (4, .int 2), (0, .ref (ad 0)), (1, .int (nI c))]) hx hb dX10_comes_68 rfl hl (by decide) rfl (fun ls hl => ?_)
            refine lv_iinc (v := 3) (lv' := [(4, .int 3), (2, .long (((0 + ((kU b N) * (ho 0) c)) + ((kU b N) * (ho 1) c)) + ((kU b N) * (ho 2) c))), (5, .ref (ad (30 + 2))), (0, .ref (ad 0)), (1, .int (nI c))]) hx hb dX10_comes_69 hl (k := 2) rfl rfl (by decide) rfl (fun ls hl => ?_)
            refine lv_goto (tgt := 31) hx hb dX10_comes_72 (by decide) ?_
            refine lv_iload hx hb dX10_comes_31 (lv_at hl 0 rfl) ?_
            refine lv_aload_n hx hb dX10_comes_33 rfl (lv_at hl 3 rfl) ?_
            refine kg_get (v := .int (nI 6)) (C := RX10) (T := TX10) (N := 9) hx hb hts hinX10 hown hK hw h_41 rfl 2 (by decide) (hts (.fieldLink RX10 60 "BetMaker" "traderCount" "I") (by decide +kernel)) (fun _ h9 => h9) rfl dX10_comes_34 ?_
            refine kn_ge 3 6 rfl rfl (by omega) (by omega) (tgt := 75) hx hb dX10_comes_37 (by decide) (fun c_57 => ?_) (fun c_57 => ?_)
            · exfalso; omega
            · have hqt := hq3
              have hci := hc3
              refine lv_aload_n hx hb dX10_comes_40 rfl (lv_at hl 3 rfl) ?_
              refine lv_iload hx hb dX10_comes_41 (lv_at hl 0 rfl) ?_
              refine kc_v (As := [.int 3]) (rest := []) S0 (c_X10_findTrader l D tc s.heap.size ad ct_40 (t := 3) (nt := 6) h_41 h_43 (by omega) (by omega) hqt) (cwV 1 hts gX10_comes_X10_findTrader rfl rfl rfl (by decide +kernel) ⟨Nat.le_of_ble_eq_true rfl, Nat.le_of_ble_eq_true rfl⟩) hK hw h_41 rfl rfl hl.1 rfl (Nat.le_of_ble_eq_true rfl) dX10_comes_43 ⟨Nat.le_of_ble_eq_true rfl, (Nat.le_of_ble_eq_true rfl)⟩ ?_
              refine lv_astore (lv' := [(5, .ref (ad (30 + 3))), (4, .int 3), (2, .long (((0 + ((kU b N) * (ho 0) c)) + ((kU b N) * (ho 1) c)) + ((kU b N) * (ho 2) c))), (0, .ref (ad 0)), (1, .int (nI c))]) hx hb dX10_comes_46 hl (by decide) rfl (fun ls hl => ?_)
              refine lv_aload hx hb dX10_comes_48 (lv_at hl 0 rfl) ?_
              refine lv_ifnull hx hb dX10_comes_50 ?_
              refine lv_lload_n hx hb dX10_comes_53 rfl (lv_at hl 2 rfl) ?_
              refine lv_aload hx hb dX10_comes_54 (lv_at hl 0 rfl) ?_
              refine lv_iload_n hx hb dX10_comes_56 rfl (lv_at hl 4 rfl) ?_
              refine lv_aload_n hx hb dX10_comes_57 rfl (lv_at hl 3 rfl) ?_
              refine kg_get (v := .ref (ad 1)) (C := RX10) (T := TX10) (N := 9) hx hb hts hinX10 hown hK hw h_41 rfl 0 (by decide) (hts (.fieldLink RX10 12 "BetMaker" "maker" "LBetMaker$Maker;") (by decide +kernel)) (fun _ h9 => h9) rfl dX10_comes_58 ?_
              refine kc_v (As := []) (rest := [.int (nI c), .ref (ad (30 + 3)), .long (((0 + ((kU b N) * (ho 0) c)) + ((kU b N) * (ho 1) c)) + ((kU b N) * (ho 2) c))]) S0 (c_X3_unit l D tc s.heap.size ad ct_40 (N := N) h_42) (cwV 0 hts gX10_comes_X3_unit rfl rfl rfl (by decide +kernel) ⟨Nat.le_of_ble_eq_true rfl, Nat.le_of_ble_eq_true rfl⟩) hK hw h_42 rfl rfl hl.1 rfl (Nat.le_of_ble_eq_true rfl) dX10_comes_61 ⟨Nat.le_of_ble_eq_true rfl, (Nat.le_of_ble_eq_true rfl)⟩ ?_
              refine kt_vu (As := [.int (nI c), .long (kU b N)]) (rest := [.long (((0 + ((kU b N) * (ho 0) c)) + ((kU b N) * (ho 1) c)) + ((kU b N) * (ho 2) c))]) S0 hci (c_X5_settle l D tc s.heap.size ad ct_40 (c := c) h_44 h_45 hci hc (by omega)) (cwV 2 hts gX10_comes_X5_settle rfl rfl rfl (by decide +kernel) ⟨Nat.le_of_ble_eq_true rfl, Nat.le_of_ble_eq_true rfl⟩) (va_cwU 2 hts gX10_comes_X5_settle_u125X7 rfl rfl rfl rfl (by decide +kernel) ⟨Nat.le_of_ble_eq_true rfl, Nat.le_of_ble_eq_true rfl⟩) (va_cwU 2 hts gX10_comes_X5_settle_u125X9 rfl rfl rfl rfl (by decide +kernel) ⟨Nat.le_of_ble_eq_true rfl, Nat.le_of_ble_eq_true rfl⟩) hK hw hA h_44 rfl hl.1 rfl (Nat.le_of_ble_eq_true rfl) dX10_comes_64 ⟨Nat.le_of_ble_eq_true rfl, (Nat.le_of_ble_eq_true rfl)⟩ (fun H locs hw => ?_)
              obtain ⟨ct_58, ect_58⟩ : ∃ z, z = kw_up (kw_up ct_40 (30 + 3) (.inr (ci 3, [.int (nb 3), .ref (ad (36 + 3)), .ref (ad (42 + 3)), .long ((pu 3) + (kU b N) * (ho 3) c), .int (de 3)]))) (36 + 3) (eJ tc N (kFl (ho 3) 0 N)) := ⟨_, rfl⟩
              rw [← ect_58] at hw
              have h_59 : ct_58 0 = some (.inr (10, [.ref (ad 1), .ref (ad 3), .int (nI 6), .ref (ad 4), .ref (ad 9), .ref (ad 11), .ref (ad 12), .ref (ad 13), .int lf])) := by rw [ect_58, kw_up_n (by omega), kw_up_n (by omega)]; exact h_41
              have h_60 : ct_58 1 = some (.inr (3, [.ref (ad 2), .int (nI N), .int b, .long ss, .long g, .int cm])) := by rw [ect_58, kw_up_n (by omega), kw_up_n (by omega)]; exact h_42
              have h_61 : ct_58 3 = some (eQ tc 4 6 qt) := by rw [ect_58, kw_up_n (by omega), kw_up_n (by omega)]; exact h_43
              have h_62 : ct_58 (30 + 4) = some (.inr (ci 4, [.int (nb 4), .ref (ad (36 + 4)), .ref (ad (42 + 4)), .long (pu 4), .int (de 4)])) := by rw [ect_58, kw_up_n (by omega), kw_up_n (by omega)]; exact h_46
              have h_63 : ct_58 (36 + 4) = some (eJ tc N (ho 4)) := by rw [ect_58, kw_up_n (by omega), kw_up_n (by omega)]; exact h_47
              have h_64 : ct_58 (30 + 5) = some (.inr (ci 5, [.int (nb 5), .ref (ad (36 + 5)), .ref (ad (42 + 5)), .long (pu 5), .int (de 5)])) := by rw [ect_58, kw_up_n (by omega), kw_up_n (by omega)]; exact h_48
              have h_65 : ct_58 (36 + 5) = some (eJ tc N (ho 5)) := by rw [ect_58, kw_up_n (by omega), kw_up_n (by omega)]; exact h_49
              have h_66 : ct_58 (30 + 0) = some (.inr (ci 0, [.int (nb 0), .ref (ad (36 + 0)), .ref (ad (42 + 0)), .long ((pu 0) + (kU b N) * (ho 0) c), .int (de 0)])) := by rw [ect_58, kw_up_n (by omega), kw_up_n (by omega)]; exact h_50
              have h_67 : ct_58 (36 + 0) = some (eJ tc N (kFl (ho 0) 0 N)) := by rw [ect_58, kw_up_n (by omega), kw_up_n (by omega)]; exact h_51
              have h_68 : ct_58 (30 + 1) = some (.inr (ci 1, [.int (nb 1), .ref (ad (36 + 1)), .ref (ad (42 + 1)), .long ((pu 1) + (kU b N) * (ho 1) c), .int (de 1)])) := by rw [ect_58, kw_up_n (by omega), kw_up_n (by omega)]; exact h_52
              have h_69 : ct_58 (36 + 1) = some (eJ tc N (kFl (ho 1) 0 N)) := by rw [ect_58, kw_up_n (by omega), kw_up_n (by omega)]; exact h_53
              have h_70 : ct_58 (30 + 2) = some (.inr (ci 2, [.int (nb 2), .ref (ad (36 + 2)), .ref (ad (42 + 2)), .long ((pu 2) + (kU b N) * (ho 2) c), .int (de 2)])) := by rw [ect_58, kw_up_n (by omega), kw_up_n (by omega)]; exact h_54
              have h_71 : ct_58 (36 + 2) = some (eJ tc N (kFl (ho 2) 0 N)) := by rw [ect_58, kw_up_n (by omega), kw_up_n (by omega)]; exact h_55
              have h_72 : ct_58 (30 + 3) = some (.inr (ci 3, [.int (nb 3), .ref (ad (36 + 3)), .ref (ad (42 + 3)), .long ((pu 3) + (kU b N) * (ho 3) c), .int (de 3)])) := by rw [ect_58, kw_up_n (by omega)]; exact kw_up_s
              have h_73 : ct_58 (36 + 3) = some (eJ tc N (kFl (ho 3) 0 N)) := by rw [ect_58]; exact kw_up_s
              have hfr_74 : ∀ j, j ≠ 1 → j ≠ (30 + 0) → j ≠ (36 + 0) → j ≠ (30 + 1) → j ≠ (36 + 1) → j ≠ (30 + 2) → j ≠ (36 + 2) → j ≠ (30 + 3) → j ≠ (36 + 3) → j ≠ (30 + 4) → j ≠ (36 + 4) → j ≠ (30 + 5) → j ≠ (36 + 5) → ct_58 j = ct j := fun j a0 a1 a2 a3 a4 a5 a6 a7 a8 a9 a10 a11 a12 => by rw [ect_58]; exact (kw_up_n a8).trans ((kw_up_n a7).trans (hfr_56 j a0 a1 a2 a3 a4 a5 a6 a7 a8 a9 a10 a11 a12))
              refine lv_ladd hx hb dX10_comes_67 ?_
              refine lv_lstore_n (lv' := [(2, .long ((((0 + ((kU b N) * (ho 0) c)) + ((kU b N) * (ho 1) c)) + ((kU b N) * (ho 2) c)) + ((kU b N) * (ho 3) c))), (5, .ref (ad (30 + 3))), (4, .int 3), (0, .ref (ad 0)), (1, .int (nI c))]) hx hb dX10_comes_68 rfl hl (by decide) rfl (fun ls hl => ?_)
              refine lv_iinc (v := 4) (lv' := [(4, .int 4), (2, .long ((((0 + ((kU b N) * (ho 0) c)) + ((kU b N) * (ho 1) c)) + ((kU b N) * (ho 2) c)) + ((kU b N) * (ho 3) c))), (5, .ref (ad (30 + 3))), (0, .ref (ad 0)), (1, .int (nI c))]) hx hb dX10_comes_69 hl (k := 2) rfl rfl (by decide) rfl (fun ls hl => ?_)
              refine lv_goto (tgt := 31) hx hb dX10_comes_72 (by decide) ?_
              refine lv_iload hx hb dX10_comes_31 (lv_at hl 0 rfl) ?_
              refine lv_aload_n hx hb dX10_comes_33 rfl (lv_at hl 3 rfl) ?_
              refine kg_get (v := .int (nI 6)) (C := RX10) (T := TX10) (N := 9) hx hb hts hinX10 hown hK hw h_59 rfl 2 (by decide) (hts (.fieldLink RX10 60 "BetMaker" "traderCount" "I") (by decide +kernel)) (fun _ h9 => h9) rfl dX10_comes_34 ?_
              refine kn_ge 4 6 rfl rfl (by omega) (by omega) (tgt := 75) hx hb dX10_comes_37 (by decide) (fun c_75 => ?_) (fun c_75 => ?_)
              · exfalso; omega
              · have hqt := hq4
                have hci := hc4
                refine lv_aload_n hx hb dX10_comes_40 rfl (lv_at hl 3 rfl) ?_
                refine lv_iload hx hb dX10_comes_41 (lv_at hl 0 rfl) ?_
                refine kc_v (As := [.int 4]) (rest := []) S0 (c_X10_findTrader l D tc s.heap.size ad ct_58 (t := 4) (nt := 6) h_59 h_61 (by omega) (by omega) hqt) (cwV 1 hts gX10_comes_X10_findTrader rfl rfl rfl (by decide +kernel) ⟨Nat.le_of_ble_eq_true rfl, Nat.le_of_ble_eq_true rfl⟩) hK hw h_59 rfl rfl hl.1 rfl (Nat.le_of_ble_eq_true rfl) dX10_comes_43 ⟨Nat.le_of_ble_eq_true rfl, (Nat.le_of_ble_eq_true rfl)⟩ ?_
                refine lv_astore (lv' := [(5, .ref (ad (30 + 4))), (4, .int 4), (2, .long ((((0 + ((kU b N) * (ho 0) c)) + ((kU b N) * (ho 1) c)) + ((kU b N) * (ho 2) c)) + ((kU b N) * (ho 3) c))), (0, .ref (ad 0)), (1, .int (nI c))]) hx hb dX10_comes_46 hl (by decide) rfl (fun ls hl => ?_)
                refine lv_aload hx hb dX10_comes_48 (lv_at hl 0 rfl) ?_
                refine lv_ifnull hx hb dX10_comes_50 ?_
                refine lv_lload_n hx hb dX10_comes_53 rfl (lv_at hl 2 rfl) ?_
                refine lv_aload hx hb dX10_comes_54 (lv_at hl 0 rfl) ?_
                refine lv_iload_n hx hb dX10_comes_56 rfl (lv_at hl 4 rfl) ?_
                refine lv_aload_n hx hb dX10_comes_57 rfl (lv_at hl 3 rfl) ?_
                refine kg_get (v := .ref (ad 1)) (C := RX10) (T := TX10) (N := 9) hx hb hts hinX10 hown hK hw h_59 rfl 0 (by decide) (hts (.fieldLink RX10 12 "BetMaker" "maker" "LBetMaker$Maker;") (by decide +kernel)) (fun _ h9 => h9) rfl dX10_comes_58 ?_
                refine kc_v (As := []) (rest := [.int (nI c), .ref (ad (30 + 4)), .long ((((0 + ((kU b N) * (ho 0) c)) + ((kU b N) * (ho 1) c)) + ((kU b N) * (ho 2) c)) + ((kU b N) * (ho 3) c))]) S0 (c_X3_unit l D tc s.heap.size ad ct_58 (N := N) h_60) (cwV 0 hts gX10_comes_X3_unit rfl rfl rfl (by decide +kernel) ⟨Nat.le_of_ble_eq_true rfl, Nat.le_of_ble_eq_true rfl⟩) hK hw h_60 rfl rfl hl.1 rfl (Nat.le_of_ble_eq_true rfl) dX10_comes_61 ⟨Nat.le_of_ble_eq_true rfl, (Nat.le_of_ble_eq_true rfl)⟩ ?_
                refine kt_vu (As := [.int (nI c), .long (kU b N)]) (rest := [.long ((((0 + ((kU b N) * (ho 0) c)) + ((kU b N) * (ho 1) c)) + ((kU b N) * (ho 2) c)) + ((kU b N) * (ho 3) c))]) S0 hci (c_X5_settle l D tc s.heap.size ad ct_58 (c := c) h_62 h_63 hci hc (by omega)) (cwV 2 hts gX10_comes_X5_settle rfl rfl rfl (by decide +kernel) ⟨Nat.le_of_ble_eq_true rfl, Nat.le_of_ble_eq_true rfl⟩) (va_cwU 2 hts gX10_comes_X5_settle_u125X7 rfl rfl rfl rfl (by decide +kernel) ⟨Nat.le_of_ble_eq_true rfl, Nat.le_of_ble_eq_true rfl⟩) (va_cwU 2 hts gX10_comes_X5_settle_u125X9 rfl rfl rfl rfl (by decide +kernel) ⟨Nat.le_of_ble_eq_true rfl, Nat.le_of_ble_eq_true rfl⟩) hK hw hA h_62 rfl hl.1 rfl (Nat.le_of_ble_eq_true rfl) dX10_comes_64 ⟨Nat.le_of_ble_eq_true rfl, (Nat.le_of_ble_eq_true rfl)⟩ (fun H locs hw => ?_)
                obtain ⟨ct_76, ect_76⟩ : ∃ z, z = kw_up (kw_up ct_58 (30 + 4) (.inr (ci 4, [.int (nb 4), .ref (ad (36 + 4)), .ref (ad (42 + 4)), .long ((pu 4) + (kU b N) * (ho 4) c), .int (de 4)]))) (36 + 4) (eJ tc N (kFl (ho 4) 0 N)) := ⟨_, rfl⟩
                rw [← ect_76] at hw
                have h_77 : ct_76 0 = some (.inr (10, [.ref (ad 1), .ref (ad 3), .int (nI 6), .ref (ad 4), .ref (ad 9), .ref (ad 11), .ref (ad 12), .ref (ad 13), .int lf])) := by rw [ect_76, kw_up_n (by omega), kw_up_n (by omega)]; exact h_59
                have h_78 : ct_76 1 = some (.inr (3, [.ref (ad 2), .int (nI N), .int b, .long ss, .long g, .int cm])) := by rw [ect_76, kw_up_n (by omega), kw_up_n (by omega)]; exact h_60
                have h_79 : ct_76 3 = some (eQ tc 4 6 qt) := by rw [ect_76, kw_up_n (by omega), kw_up_n (by omega)]; exact h_61
                have h_80 : ct_76 (30 + 5) = some (.inr (ci 5, [.int (nb 5), .ref (ad (36 + 5)), .ref (ad (42 + 5)), .long (pu 5), .int (de 5)])) := by rw [ect_76, kw_up_n (by omega), kw_up_n (by omega)]; exact h_64
                have h_81 : ct_76 (36 + 5) = some (eJ tc N (ho 5)) := by rw [ect_76, kw_up_n (by omega), kw_up_n (by omega)]; exact h_65
                have h_82 : ct_76 (30 + 0) = some (.inr (ci 0, [.int (nb 0), .ref (ad (36 + 0)), .ref (ad (42 + 0)), .long ((pu 0) + (kU b N) * (ho 0) c), .int (de 0)])) := by rw [ect_76, kw_up_n (by omega), kw_up_n (by omega)]; exact h_66
                have h_83 : ct_76 (36 + 0) = some (eJ tc N (kFl (ho 0) 0 N)) := by rw [ect_76, kw_up_n (by omega), kw_up_n (by omega)]; exact h_67
                have h_84 : ct_76 (30 + 1) = some (.inr (ci 1, [.int (nb 1), .ref (ad (36 + 1)), .ref (ad (42 + 1)), .long ((pu 1) + (kU b N) * (ho 1) c), .int (de 1)])) := by rw [ect_76, kw_up_n (by omega), kw_up_n (by omega)]; exact h_68
                have h_85 : ct_76 (36 + 1) = some (eJ tc N (kFl (ho 1) 0 N)) := by rw [ect_76, kw_up_n (by omega), kw_up_n (by omega)]; exact h_69
                have h_86 : ct_76 (30 + 2) = some (.inr (ci 2, [.int (nb 2), .ref (ad (36 + 2)), .ref (ad (42 + 2)), .long ((pu 2) + (kU b N) * (ho 2) c), .int (de 2)])) := by rw [ect_76, kw_up_n (by omega), kw_up_n (by omega)]; exact h_70
                have h_87 : ct_76 (36 + 2) = some (eJ tc N (kFl (ho 2) 0 N)) := by rw [ect_76, kw_up_n (by omega), kw_up_n (by omega)]; exact h_71
                have h_88 : ct_76 (30 + 3) = some (.inr (ci 3, [.int (nb 3), .ref (ad (36 + 3)), .ref (ad (42 + 3)), .long ((pu 3) + (kU b N) * (ho 3) c), .int (de 3)])) := by rw [ect_76, kw_up_n (by omega), kw_up_n (by omega)]; exact h_72
                have h_89 : ct_76 (36 + 3) = some (eJ tc N (kFl (ho 3) 0 N)) := by rw [ect_76, kw_up_n (by omega), kw_up_n (by omega)]; exact h_73
                have h_90 : ct_76 (30 + 4) = some (.inr (ci 4, [.int (nb 4), .ref (ad (36 + 4)), .ref (ad (42 + 4)), .long ((pu 4) + (kU b N) * (ho 4) c), .int (de 4)])) := by rw [ect_76, kw_up_n (by omega)]; exact kw_up_s
                have h_91 : ct_76 (36 + 4) = some (eJ tc N (kFl (ho 4) 0 N)) := by rw [ect_76]; exact kw_up_s
                have hfr_92 : ∀ j, j ≠ 1 → j ≠ (30 + 0) → j ≠ (36 + 0) → j ≠ (30 + 1) → j ≠ (36 + 1) → j ≠ (30 + 2) → j ≠ (36 + 2) → j ≠ (30 + 3) → j ≠ (36 + 3) → j ≠ (30 + 4) → j ≠ (36 + 4) → j ≠ (30 + 5) → j ≠ (36 + 5) → ct_76 j = ct j := fun j a0 a1 a2 a3 a4 a5 a6 a7 a8 a9 a10 a11 a12 => by rw [ect_76]; exact (kw_up_n a10).trans ((kw_up_n a9).trans (hfr_74 j a0 a1 a2 a3 a4 a5 a6 a7 a8 a9 a10 a11 a12))
                refine lv_ladd hx hb dX10_comes_67 ?_
                refine lv_lstore_n (lv' := [(2, .long (((((0 + ((kU b N) * (ho 0) c)) + ((kU b N) * (ho 1) c)) + ((kU b N) * (ho 2) c)) + ((kU b N) * (ho 3) c)) + ((kU b N) * (ho 4) c))), (5, .ref (ad (30 + 4))), (4, .int 4), (0, .ref (ad 0)), (1, .int (nI c))]) hx hb dX10_comes_68 rfl hl (by decide) rfl (fun ls hl => ?_)
                refine lv_iinc (v := 5) (lv' := [(4, .int 5), (2, .long (((((0 + ((kU b N) * (ho 0) c)) + ((kU b N) * (ho 1) c)) + ((kU b N) * (ho 2) c)) + ((kU b N) * (ho 3) c)) + ((kU b N) * (ho 4) c))), (5, .ref (ad (30 + 4))), (0, .ref (ad 0)), (1, .int (nI c))]) hx hb dX10_comes_69 hl (k := 2) rfl rfl (by decide) rfl (fun ls hl => ?_)
                refine lv_goto (tgt := 31) hx hb dX10_comes_72 (by decide) ?_
                refine lv_iload hx hb dX10_comes_31 (lv_at hl 0 rfl) ?_
                refine lv_aload_n hx hb dX10_comes_33 rfl (lv_at hl 3 rfl) ?_
                refine kg_get (v := .int (nI 6)) (C := RX10) (T := TX10) (N := 9) hx hb hts hinX10 hown hK hw h_77 rfl 2 (by decide) (hts (.fieldLink RX10 60 "BetMaker" "traderCount" "I") (by decide +kernel)) (fun _ h9 => h9) rfl dX10_comes_34 ?_
                refine kn_ge 5 6 rfl rfl (by omega) (by omega) (tgt := 75) hx hb dX10_comes_37 (by decide) (fun c_93 => ?_) (fun c_93 => ?_)
                · exfalso; omega
                · have hqt := hq5
                  have hci := hc5
                  refine lv_aload_n hx hb dX10_comes_40 rfl (lv_at hl 3 rfl) ?_
                  refine lv_iload hx hb dX10_comes_41 (lv_at hl 0 rfl) ?_
                  refine kc_v (As := [.int 5]) (rest := []) S0 (c_X10_findTrader l D tc s.heap.size ad ct_76 (t := 5) (nt := 6) h_77 h_79 (by omega) (by omega) hqt) (cwV 1 hts gX10_comes_X10_findTrader rfl rfl rfl (by decide +kernel) ⟨Nat.le_of_ble_eq_true rfl, Nat.le_of_ble_eq_true rfl⟩) hK hw h_77 rfl rfl hl.1 rfl (Nat.le_of_ble_eq_true rfl) dX10_comes_43 ⟨Nat.le_of_ble_eq_true rfl, (Nat.le_of_ble_eq_true rfl)⟩ ?_
                  refine lv_astore (lv' := [(5, .ref (ad (30 + 5))), (4, .int 5), (2, .long (((((0 + ((kU b N) * (ho 0) c)) + ((kU b N) * (ho 1) c)) + ((kU b N) * (ho 2) c)) + ((kU b N) * (ho 3) c)) + ((kU b N) * (ho 4) c))), (0, .ref (ad 0)), (1, .int (nI c))]) hx hb dX10_comes_46 hl (by decide) rfl (fun ls hl => ?_)
                  refine lv_aload hx hb dX10_comes_48 (lv_at hl 0 rfl) ?_
                  refine lv_ifnull hx hb dX10_comes_50 ?_
                  refine lv_lload_n hx hb dX10_comes_53 rfl (lv_at hl 2 rfl) ?_
                  refine lv_aload hx hb dX10_comes_54 (lv_at hl 0 rfl) ?_
                  refine lv_iload_n hx hb dX10_comes_56 rfl (lv_at hl 4 rfl) ?_
                  refine lv_aload_n hx hb dX10_comes_57 rfl (lv_at hl 3 rfl) ?_
                  refine kg_get (v := .ref (ad 1)) (C := RX10) (T := TX10) (N := 9) hx hb hts hinX10 hown hK hw h_77 rfl 0 (by decide) (hts (.fieldLink RX10 12 "BetMaker" "maker" "LBetMaker$Maker;") (by decide +kernel)) (fun _ h9 => h9) rfl dX10_comes_58 ?_
                  refine kc_v (As := []) (rest := [.int (nI c), .ref (ad (30 + 5)), .long (((((0 + ((kU b N) * (ho 0) c)) + ((kU b N) * (ho 1) c)) + ((kU b N) * (ho 2) c)) + ((kU b N) * (ho 3) c)) + ((kU b N) * (ho 4) c))]) S0 (c_X3_unit l D tc s.heap.size ad ct_76 (N := N) h_78) (cwV 0 hts gX10_comes_X3_unit rfl rfl rfl (by decide +kernel) ⟨Nat.le_of_ble_eq_true rfl, Nat.le_of_ble_eq_true rfl⟩) hK hw h_78 rfl rfl hl.1 rfl (Nat.le_of_ble_eq_true rfl) dX10_comes_61 ⟨Nat.le_of_ble_eq_true rfl, (Nat.le_of_ble_eq_true rfl)⟩ ?_
                  refine kt_vu (As := [.int (nI c), .long (kU b N)]) (rest := [.long (((((0 + ((kU b N) * (ho 0) c)) + ((kU b N) * (ho 1) c)) + ((kU b N) * (ho 2) c)) + ((kU b N) * (ho 3) c)) + ((kU b N) * (ho 4) c))]) S0 hci (c_X5_settle l D tc s.heap.size ad ct_76 (c := c) h_80 h_81 hci hc (by omega)) (cwV 2 hts gX10_comes_X5_settle rfl rfl rfl (by decide +kernel) ⟨Nat.le_of_ble_eq_true rfl, Nat.le_of_ble_eq_true rfl⟩) (va_cwU 2 hts gX10_comes_X5_settle_u125X7 rfl rfl rfl rfl (by decide +kernel) ⟨Nat.le_of_ble_eq_true rfl, Nat.le_of_ble_eq_true rfl⟩) (va_cwU 2 hts gX10_comes_X5_settle_u125X9 rfl rfl rfl rfl (by decide +kernel) ⟨Nat.le_of_ble_eq_true rfl, Nat.le_of_ble_eq_true rfl⟩) hK hw hA h_80 rfl hl.1 rfl (Nat.le_of_ble_eq_true rfl) dX10_comes_64 ⟨Nat.le_of_ble_eq_true rfl, (Nat.le_of_ble_eq_true rfl)⟩ (fun H locs hw => ?_)
                  obtain ⟨ct_94, ect_94⟩ : ∃ z, z = kw_up (kw_up ct_76 (30 + 5) (.inr (ci 5, [.int (nb 5), .ref (ad (36 + 5)), .ref (ad (42 + 5)), .long ((pu 5) + (kU b N) * (ho 5) c), .int (de 5)]))) (36 + 5) (eJ tc N (kFl (ho 5) 0 N)) := ⟨_, rfl⟩
                  rw [← ect_94] at hw
                  have h_95 : ct_94 0 = some (.inr (10, [.ref (ad 1), .ref (ad 3), .int (nI 6), .ref (ad 4), .ref (ad 9), .ref (ad 11), .ref (ad 12), .ref (ad 13), .int lf])) := by rw [ect_94, kw_up_n (by omega), kw_up_n (by omega)]; exact h_77
                  have h_96 : ct_94 1 = some (.inr (3, [.ref (ad 2), .int (nI N), .int b, .long ss, .long g, .int cm])) := by rw [ect_94, kw_up_n (by omega), kw_up_n (by omega)]; exact h_78
                  have h_97 : ct_94 3 = some (eQ tc 4 6 qt) := by rw [ect_94, kw_up_n (by omega), kw_up_n (by omega)]; exact h_79
                  have h_98 : ct_94 (30 + 0) = some (.inr (ci 0, [.int (nb 0), .ref (ad (36 + 0)), .ref (ad (42 + 0)), .long ((pu 0) + (kU b N) * (ho 0) c), .int (de 0)])) := by rw [ect_94, kw_up_n (by omega), kw_up_n (by omega)]; exact h_82
                  have h_99 : ct_94 (36 + 0) = some (eJ tc N (kFl (ho 0) 0 N)) := by rw [ect_94, kw_up_n (by omega), kw_up_n (by omega)]; exact h_83
                  have h_100 : ct_94 (30 + 1) = some (.inr (ci 1, [.int (nb 1), .ref (ad (36 + 1)), .ref (ad (42 + 1)), .long ((pu 1) + (kU b N) * (ho 1) c), .int (de 1)])) := by rw [ect_94, kw_up_n (by omega), kw_up_n (by omega)]; exact h_84
                  have h_101 : ct_94 (36 + 1) = some (eJ tc N (kFl (ho 1) 0 N)) := by rw [ect_94, kw_up_n (by omega), kw_up_n (by omega)]; exact h_85
                  have h_102 : ct_94 (30 + 2) = some (.inr (ci 2, [.int (nb 2), .ref (ad (36 + 2)), .ref (ad (42 + 2)), .long ((pu 2) + (kU b N) * (ho 2) c), .int (de 2)])) := by rw [ect_94, kw_up_n (by omega), kw_up_n (by omega)]; exact h_86
                  have h_103 : ct_94 (36 + 2) = some (eJ tc N (kFl (ho 2) 0 N)) := by rw [ect_94, kw_up_n (by omega), kw_up_n (by omega)]; exact h_87
                  have h_104 : ct_94 (30 + 3) = some (.inr (ci 3, [.int (nb 3), .ref (ad (36 + 3)), .ref (ad (42 + 3)), .long ((pu 3) + (kU b N) * (ho 3) c), .int (de 3)])) := by rw [ect_94, kw_up_n (by omega), kw_up_n (by omega)]; exact h_88
                  have h_105 : ct_94 (36 + 3) = some (eJ tc N (kFl (ho 3) 0 N)) := by rw [ect_94, kw_up_n (by omega), kw_up_n (by omega)]; exact h_89
                  have h_106 : ct_94 (30 + 4) = some (.inr (ci 4, [.int (nb 4), .ref (ad (36 + 4)), .ref (ad (42 + 4)), .long ((pu 4) + (kU b N) * (ho 4) c), .int (de 4)])) := by rw [ect_94, kw_up_n (by omega), kw_up_n (by omega)]; exact h_90
                  have h_107 : ct_94 (36 + 4) = some (eJ tc N (kFl (ho 4) 0 N)) := by rw [ect_94, kw_up_n (by omega), kw_up_n (by omega)]; exact h_91
                  have h_108 : ct_94 (30 + 5) = some (.inr (ci 5, [.int (nb 5), .ref (ad (36 + 5)), .ref (ad (42 + 5)), .long ((pu 5) + (kU b N) * (ho 5) c), .int (de 5)])) := by rw [ect_94, kw_up_n (by omega)]; exact kw_up_s
                  have h_109 : ct_94 (36 + 5) = some (eJ tc N (kFl (ho 5) 0 N)) := by rw [ect_94]; exact kw_up_s
                  have hfr_110 : ∀ j, j ≠ 1 → j ≠ (30 + 0) → j ≠ (36 + 0) → j ≠ (30 + 1) → j ≠ (36 + 1) → j ≠ (30 + 2) → j ≠ (36 + 2) → j ≠ (30 + 3) → j ≠ (36 + 3) → j ≠ (30 + 4) → j ≠ (36 + 4) → j ≠ (30 + 5) → j ≠ (36 + 5) → ct_94 j = ct j := fun j a0 a1 a2 a3 a4 a5 a6 a7 a8 a9 a10 a11 a12 => by rw [ect_94]; exact (kw_up_n a12).trans ((kw_up_n a11).trans (hfr_92 j a0 a1 a2 a3 a4 a5 a6 a7 a8 a9 a10 a11 a12))
                  refine lv_ladd hx hb dX10_comes_67 ?_
                  refine lv_lstore_n (lv' := [(2, .long ((((((0 + ((kU b N) * (ho 0) c)) + ((kU b N) * (ho 1) c)) + ((kU b N) * (ho 2) c)) + ((kU b N) * (ho 3) c)) + ((kU b N) * (ho 4) c)) + ((kU b N) * (ho 5) c))), (5, .ref (ad (30 + 5))), (4, .int 5), (0, .ref (ad 0)), (1, .int (nI c))]) hx hb dX10_comes_68 rfl hl (by decide) rfl (fun ls hl => ?_)
                  refine lv_iinc (v := 6) (lv' := [(4, .int 6), (2, .long ((((((0 + ((kU b N) * (ho 0) c)) + ((kU b N) * (ho 1) c)) + ((kU b N) * (ho 2) c)) + ((kU b N) * (ho 3) c)) + ((kU b N) * (ho 4) c)) + ((kU b N) * (ho 5) c))), (5, .ref (ad (30 + 5))), (0, .ref (ad 0)), (1, .int (nI c))]) hx hb dX10_comes_69 hl (k := 2) rfl rfl (by decide) rfl (fun ls hl => ?_)
                  refine lv_goto (tgt := 31) hx hb dX10_comes_72 (by decide) ?_
                  refine lv_iload hx hb dX10_comes_31 (lv_at hl 0 rfl) ?_
                  refine lv_aload_n hx hb dX10_comes_33 rfl (lv_at hl 3 rfl) ?_
                  refine kg_get (v := .int (nI 6)) (C := RX10) (T := TX10) (N := 9) hx hb hts hinX10 hown hK hw h_95 rfl 2 (by decide) (hts (.fieldLink RX10 60 "BetMaker" "traderCount" "I") (by decide +kernel)) (fun _ h9 => h9) rfl dX10_comes_34 ?_
                  refine kn_ge 6 6 rfl rfl (by omega) (by omega) (tgt := 75) hx hb dX10_comes_37 (by decide) (fun c_111 => ?_) (fun c_111 => ?_)
                  · refine lv_aload_n hx hb dX10_comes_75 rfl (lv_at hl 3 rfl) ?_
                    refine kg_get (v := .ref (ad 1)) (C := RX10) (T := TX10) (N := 9) hx hb hts hinX10 hown hK hw h_95 rfl 0 (by decide) (hts (.fieldLink RX10 12 "BetMaker" "maker" "LBetMaker$Maker;") (by decide +kernel)) (fun _ h9 => h9) rfl dX10_comes_76 ?_
                    refine lv_iload_n hx hb dX10_comes_79 rfl (lv_at hl 4 rfl) ?_
                    refine lv_lload_n hx hb dX10_comes_80 rfl (lv_at hl 1 rfl) ?_
                    refine kc_vu (As := [.int (nI c), .long ((((((0 + ((kU b N) * (ho 0) c)) + ((kU b N) * (ho 1) c)) + ((kU b N) * (ho 2) c)) + ((kU b N) * (ho 3) c)) + ((kU b N) * (ho 4) c)) + ((kU b N) * (ho 5) c))]) (rest := []) S0 (c_X3_settle l D tc s.heap.size ad ct_94 (N := N) h_96) (cwV 2 hts gX10_comes_X3_settle rfl rfl rfl (by decide +kernel) ⟨Nat.le_of_ble_eq_true rfl, Nat.le_of_ble_eq_true rfl⟩) hK hw hA h_96 rfl rfl hl.1 rfl (Nat.le_of_ble_eq_true rfl) dX10_comes_81 ⟨Nat.le_of_ble_eq_true rfl, (Nat.le_of_ble_eq_true rfl)⟩ (fun H locs hw => ?_)
                    obtain ⟨ct_112, ect_112⟩ : ∃ z, z = kw_up ct_94 1 (.inr (3, [.ref (ad 2), .int (nI N), .int b, .long ss, .long (g - ((((((0 + ((kU b N) * (ho 0) c)) + ((kU b N) * (ho 1) c)) + ((kU b N) * (ho 2) c)) + ((kU b N) * (ho 3) c)) + ((kU b N) * (ho 4) c)) + ((kU b N) * (ho 5) c))), .int (nI c)])) := ⟨_, rfl⟩
                    rw [← ect_112] at hw
                    have h_113 : ct_112 0 = some (.inr (10, [.ref (ad 1), .ref (ad 3), .int (nI 6), .ref (ad 4), .ref (ad 9), .ref (ad 11), .ref (ad 12), .ref (ad 13), .int lf])) := by rw [ect_112, kw_up_n (by omega)]; exact h_95
                    have h_114 : ct_112 3 = some (eQ tc 4 6 qt) := by rw [ect_112, kw_up_n (by omega)]; exact h_97
                    have h_115 : ct_112 (30 + 0) = some (.inr (ci 0, [.int (nb 0), .ref (ad (36 + 0)), .ref (ad (42 + 0)), .long ((pu 0) + (kU b N) * (ho 0) c), .int (de 0)])) := by rw [ect_112, kw_up_n (by omega)]; exact h_98
                    have h_116 : ct_112 (36 + 0) = some (eJ tc N (kFl (ho 0) 0 N)) := by rw [ect_112, kw_up_n (by omega)]; exact h_99
                    have h_117 : ct_112 (30 + 1) = some (.inr (ci 1, [.int (nb 1), .ref (ad (36 + 1)), .ref (ad (42 + 1)), .long ((pu 1) + (kU b N) * (ho 1) c), .int (de 1)])) := by rw [ect_112, kw_up_n (by omega)]; exact h_100
                    have h_118 : ct_112 (36 + 1) = some (eJ tc N (kFl (ho 1) 0 N)) := by rw [ect_112, kw_up_n (by omega)]; exact h_101
                    have h_119 : ct_112 (30 + 2) = some (.inr (ci 2, [.int (nb 2), .ref (ad (36 + 2)), .ref (ad (42 + 2)), .long ((pu 2) + (kU b N) * (ho 2) c), .int (de 2)])) := by rw [ect_112, kw_up_n (by omega)]; exact h_102
                    have h_120 : ct_112 (36 + 2) = some (eJ tc N (kFl (ho 2) 0 N)) := by rw [ect_112, kw_up_n (by omega)]; exact h_103
                    have h_121 : ct_112 (30 + 3) = some (.inr (ci 3, [.int (nb 3), .ref (ad (36 + 3)), .ref (ad (42 + 3)), .long ((pu 3) + (kU b N) * (ho 3) c), .int (de 3)])) := by rw [ect_112, kw_up_n (by omega)]; exact h_104
                    have h_122 : ct_112 (36 + 3) = some (eJ tc N (kFl (ho 3) 0 N)) := by rw [ect_112, kw_up_n (by omega)]; exact h_105
                    have h_123 : ct_112 (30 + 4) = some (.inr (ci 4, [.int (nb 4), .ref (ad (36 + 4)), .ref (ad (42 + 4)), .long ((pu 4) + (kU b N) * (ho 4) c), .int (de 4)])) := by rw [ect_112, kw_up_n (by omega)]; exact h_106
                    have h_124 : ct_112 (36 + 4) = some (eJ tc N (kFl (ho 4) 0 N)) := by rw [ect_112, kw_up_n (by omega)]; exact h_107
                    have h_125 : ct_112 (30 + 5) = some (.inr (ci 5, [.int (nb 5), .ref (ad (36 + 5)), .ref (ad (42 + 5)), .long ((pu 5) + (kU b N) * (ho 5) c), .int (de 5)])) := by rw [ect_112, kw_up_n (by omega)]; exact h_108
                    have h_126 : ct_112 (36 + 5) = some (eJ tc N (kFl (ho 5) 0 N)) := by rw [ect_112, kw_up_n (by omega)]; exact h_109
                    have h_127 : ct_112 1 = some (.inr (3, [.ref (ad 2), .int (nI N), .int b, .long ss, .long (g - ((((((0 + ((kU b N) * (ho 0) c)) + ((kU b N) * (ho 1) c)) + ((kU b N) * (ho 2) c)) + ((kU b N) * (ho 3) c)) + ((kU b N) * (ho 4) c)) + ((kU b N) * (ho 5) c))), .int (nI c)])) := by rw [ect_112]; exact kw_up_s
                    have hfr_128 : ∀ j, j ≠ 1 → j ≠ (30 + 0) → j ≠ (36 + 0) → j ≠ (30 + 1) → j ≠ (36 + 1) → j ≠ (30 + 2) → j ≠ (36 + 2) → j ≠ (30 + 3) → j ≠ (36 + 3) → j ≠ (30 + 4) → j ≠ (36 + 4) → j ≠ (30 + 5) → j ≠ (36 + 5) → ct_112 j = ct j := fun j a0 a1 a2 a3 a4 a5 a6 a7 a8 a9 a10 a11 a12 => by rw [ect_112]; exact (kw_up_n a0).trans (hfr_110 j a0 a1 a2 a3 a4 a5 a6 a7 a8 a9 a10 a11 a12)
                    refine lv_iconst (v := 1) hx hb dX10_comes_84 (by decide) ?_
                    have hq_129 : ct_112 1 = some (.inr (3, [.ref (ad 2), .int (nI N), .int b, .long ss, .long (g - su (fun t => kU b N * ho t c) 6), .int (nI c)])) := h_127.trans (congrArg some (show (.inr (3, [.ref (ad 2), .int (nI N), .int b, .long ss, .long (g - ((((((0 + ((kU b N) * (ho 0) c)) + ((kU b N) * (ho 1) c)) + ((kU b N) * (ho 2) c)) + ((kU b N) * (ho 3) c)) + ((kU b N) * (ho 4) c)) + ((kU b N) * (ho 5) c))), .int (nI c)]) : va_E) = .inr (3, [.ref (ad 2), .int (nI N), .int b, .long ss, .long (g - su (fun t => kU b N * ho t c) 6), .int (nI c)]) from by rfl))
                    have hq_130 : ct_112 (30 + 0) = some (.inr (ci 0, [.int (nb 0), .ref (ad (36 + 0)), .ref (ad (42 + 0)), .long (pu 0 + kU b N * ho 0 c), .int (de 0)])) := h_115.trans (congrArg some (show (.inr (ci 0, [.int (nb 0), .ref (ad (36 + 0)), .ref (ad (42 + 0)), .long ((pu 0) + (kU b N) * (ho 0) c), .int (de 0)]) : va_E) = .inr (ci 0, [.int (nb 0), .ref (ad (36 + 0)), .ref (ad (42 + 0)), .long (pu 0 + kU b N * ho 0 c), .int (de 0)]) from by rfl))
                    have hq_131 := h_116
                    have hq_132 : ct_112 (30 + 1) = some (.inr (ci 1, [.int (nb 1), .ref (ad (36 + 1)), .ref (ad (42 + 1)), .long (pu 1 + kU b N * ho 1 c), .int (de 1)])) := h_117.trans (congrArg some (show (.inr (ci 1, [.int (nb 1), .ref (ad (36 + 1)), .ref (ad (42 + 1)), .long ((pu 1) + (kU b N) * (ho 1) c), .int (de 1)]) : va_E) = .inr (ci 1, [.int (nb 1), .ref (ad (36 + 1)), .ref (ad (42 + 1)), .long (pu 1 + kU b N * ho 1 c), .int (de 1)]) from by rfl))
                    have hq_133 := h_118
                    have hq_134 : ct_112 (30 + 2) = some (.inr (ci 2, [.int (nb 2), .ref (ad (36 + 2)), .ref (ad (42 + 2)), .long (pu 2 + kU b N * ho 2 c), .int (de 2)])) := h_119.trans (congrArg some (show (.inr (ci 2, [.int (nb 2), .ref (ad (36 + 2)), .ref (ad (42 + 2)), .long ((pu 2) + (kU b N) * (ho 2) c), .int (de 2)]) : va_E) = .inr (ci 2, [.int (nb 2), .ref (ad (36 + 2)), .ref (ad (42 + 2)), .long (pu 2 + kU b N * ho 2 c), .int (de 2)]) from by rfl))
                    have hq_135 := h_120
                    have hq_136 : ct_112 (30 + 3) = some (.inr (ci 3, [.int (nb 3), .ref (ad (36 + 3)), .ref (ad (42 + 3)), .long (pu 3 + kU b N * ho 3 c), .int (de 3)])) := h_121.trans (congrArg some (show (.inr (ci 3, [.int (nb 3), .ref (ad (36 + 3)), .ref (ad (42 + 3)), .long ((pu 3) + (kU b N) * (ho 3) c), .int (de 3)]) : va_E) = .inr (ci 3, [.int (nb 3), .ref (ad (36 + 3)), .ref (ad (42 + 3)), .long (pu 3 + kU b N * ho 3 c), .int (de 3)]) from by rfl))
                    have hq_137 := h_122
                    have hq_138 : ct_112 (30 + 4) = some (.inr (ci 4, [.int (nb 4), .ref (ad (36 + 4)), .ref (ad (42 + 4)), .long (pu 4 + kU b N * ho 4 c), .int (de 4)])) := h_123.trans (congrArg some (show (.inr (ci 4, [.int (nb 4), .ref (ad (36 + 4)), .ref (ad (42 + 4)), .long ((pu 4) + (kU b N) * (ho 4) c), .int (de 4)]) : va_E) = .inr (ci 4, [.int (nb 4), .ref (ad (36 + 4)), .ref (ad (42 + 4)), .long (pu 4 + kU b N * ho 4 c), .int (de 4)]) from by rfl))
                    have hq_139 := h_124
                    have hq_140 : ct_112 (30 + 5) = some (.inr (ci 5, [.int (nb 5), .ref (ad (36 + 5)), .ref (ad (42 + 5)), .long (pu 5 + kU b N * ho 5 c), .int (de 5)])) := h_125.trans (congrArg some (show (.inr (ci 5, [.int (nb 5), .ref (ad (36 + 5)), .ref (ad (42 + 5)), .long ((pu 5) + (kU b N) * (ho 5) c), .int (de 5)]) : va_E) = .inr (ci 5, [.int (nb 5), .ref (ad (36 + 5)), .ref (ad (42 + 5)), .long (pu 5 + kU b N * ho 5 c), .int (de 5)]) from by rfl))
                    have hq_141 := h_126
                    have hend := kw_eq13 hq_129 hq_130 hq_131 hq_132 hq_133 hq_134 hq_135 hq_136 hq_137 hq_138 hq_139 hq_140 hq_141 hfr_128
                    rw [hend] at hw
                    exact W.iret hx hb hr (fun t ht _ => ⟨rfl, by rw [ht]; exact hw.1, hw.2.2.1, hw.2.1.F ht, by rw [ht]; exact hw.2.2.2⟩) hw.2.1.2.2 dX10_comes_85
                  · exfalso; omega
    · exact absurd hm c_2
  · exact absurd kC c_1
set_option maxHeartbeats 4000000 in
set_option maxRecDepth 100000 in
theorem c_X10_forecast_u1 (l : Launch) (D : va_G) (tc : Nat → ClassId) (sz : Nat) (ad : Nat → Nat) (ct : Nat → Option va_E) {nt : Nat} {lf : Int32}      {k1 lane i1 c1 : Int32} (h0 : ct 0 = some (.inr (10, [.ref (ad 1), .ref (ad 3), .int (nI nt), .ref (ad 4), .ref (ad 9), .ref (ad 11), .ref (ad 12), .ref (ad 13), .int lf]))) (hk : ¬ (0 ≤ k1 ∧ k1 < 4)) : Met l yX10_forecast wsX10_forecast ({ frames := 3, cells := 0, slots := 0, locals := 84 }) (va_Pc [.ref (ad 0), .int k1, .int lane, .int i1, .int c1] (kw_B D tc sz ad ct)) (kw_Q D ad (kw_A ad ct sz) (some (.int (-1))) (kw_up ct 0 (.inr (10, [.ref (ad 1), .ref (ad 3), .int (nI nt), .ref (ad 4), .ref (ad 9), .ref (ad 11), .ref (ad 12), .ref (ad 13), .int 0]))) 0) 0 0 (kw_A ad ct sz) := by
  refine Met.ofW (cc := cX10_forecast) (maxL := 7) (ret := (some .int)) (by decide) rfl ?_
  intro pg en s m args below meth cod s₁ B hml hv
  obtain ⟨rfl, hsz, hP0, hK⟩ := hv
  have hx := B.exec
  have hb := B.bytes
  have hr := B.returns
  have hts := atoms_spec (ws := wsX10_forecast) B.pre
  have hown : s.vm.findClass RX10 = some m.cls := findClass_of_methodNamed B.named
  have hlocks := B.notSynchronized
  subst hsz
  have hw := kw_H.start hP0
  generalize hAe : kw_A ad ct s.heap.size = A at hw ⊢
  have hA : ∀ q, s.heap.size ≤ q → A q := fun q h => by rw [← hAe]; exact Or.inr h
  have hinX1 : ∀ w ∈ wsX10, w ∈ wsX10_forecast := by decide +kernel
  have hinX10 : ∀ w ∈ wsX100, w ∈ wsX10_forecast := by decide +kernel
  have hl := lv_entry ([.ref (ad 0), .int k1, .int lane, .int i1, .int c1]) (n := 7) (Nat.le_of_ble_eq_true rfl)
  rw [lg_entry_eq]
  generalize (lg_sl ([.ref (ad 0), .int k1, .int lane, .int i1, .int c1]) ++ List.replicate (7 - (lg_sl ([.ref (ad 0), .int k1, .int lane, .int i1, .int c1])).length) Slot.unset).toArray = ls at hl ⊢
  have hl : lv_has ls 7 [(0, .ref (ad 0)), (1, .int k1), (2, .int lane), (3, .int i1), (4, .int c1)] := hl
  have S0 : CallFix pg m cod cX10_forecast 7 s _ wsX10_forecast RX10 := ⟨hx, hb, hml, hown, hts⟩
  have hfr : ∀ j, j ≠ 0 → ct j = ct j := fun _ _ => rfl
  refine lv_aload_n hx hb dX10_forecast_0 rfl (lv_at hl 0 rfl) ?_
  refine lv_iconst (v := 0) hx hb dX10_forecast_1 (by decide) ?_
  refine kg_put (v := .int 0) (ty := .int) (C := RX10) (T := TX10) (N := 9) (fs' := [.ref (ad 1), .ref (ad 3), .int (nI nt), .ref (ad 4), .ref (ad 9), .ref (ad 11), .ref (ad 12), .ref (ad 13), .int 0]) hx hb hts hinX10 tyX10 tyX10_ok nmX10 hown hK hw h0 rfl 8 (by decide) (hts (.fieldLink RX10 179 "BetMaker" "latestFault" "I") (by decide +kernel)) (fun _ h9 => h9) rfl (by decide +kernel) rfl rfl (Nat.le_of_ble_eq_true rfl) rfl dX10_forecast_2 (fun H locs hw => ?_)
  obtain ⟨ct_1, ect_1⟩ : ∃ z, z = kw_up ct 0 (.inr (10, [.ref (ad 1), .ref (ad 3), .int (nI nt), .ref (ad 4), .ref (ad 9), .ref (ad 11), .ref (ad 12), .ref (ad 13), .int 0])) := ⟨_, rfl⟩
  rw [← ect_1] at hw
  have h_2 : ct_1 0 = some (.inr (10, [.ref (ad 1), .ref (ad 3), .int (nI nt), .ref (ad 4), .ref (ad 9), .ref (ad 11), .ref (ad 12), .ref (ad 13), .int 0])) := by rw [ect_1]; exact kw_up_s
  have hfr_3 : ∀ j, j ≠ 0 → ct_1 j = ct j := fun j a0 => by rw [ect_1]; exact (kw_up_n a0).trans (hfr j a0)
  refine lv_aload_n hx hb dX10_forecast_5 rfl (lv_at hl 0 rfl) ?_
  refine lv_iload_n hx hb dX10_forecast_6 rfl (lv_at hl 1 rfl) ?_
  refine kc_v (As := [.int k1]) (rest := []) S0 (c_X10_findSheet_n l D tc s.heap.size ad ct_1 (nt := nt) h_2 hk) (cwV 1 hts gX10_forecast_X10_findSheet rfl rfl rfl (by decide +kernel) ⟨Nat.le_of_ble_eq_true rfl, Nat.le_of_ble_eq_true rfl⟩) hK hw h_2 rfl rfl hl.1 rfl (Nat.le_of_ble_eq_true rfl) dX10_forecast_7 ⟨Nat.le_of_ble_eq_true rfl, (Nat.le_of_ble_eq_true rfl)⟩ ?_
  refine lv_astoreN (lv' := [(5, .null), (0, .ref (ad 0)), (1, .int k1), (2, .int lane), (3, .int i1), (4, .int c1)]) hx hb dX10_forecast_10 hl (by decide) rfl (fun ls hl => ?_)
  refine lv_aloadN hx hb dX10_forecast_12 (lv_at hl 0 rfl) ?_
  refine lv_ifnullN (tgt := 29) hx hb dX10_forecast_14 (by decide) ?_
  refine lv_iconst (v := (-1)) hx hb dX10_forecast_29 (by decide) ?_
  have hq_4 := h_2
  have hend := kw_eq1 hq_4 hfr_3
  rw [hend] at hw
  exact W.iret hx hb hr (fun t ht _ => ⟨rfl, by rw [ht]; exact hw.1, hw.2.2.1, hw.2.1.F ht, by rw [ht]; exact hw.2.2.2⟩) hw.2.1.2.2 dX10_forecast_30
set_option maxHeartbeats 4000000 in
set_option maxRecDepth 100000 in
theorem c_X10_forecast_u2 (l : Launch) (D : va_G) (tc : Nat → ClassId) (sz : Nat) (ad : Nat → Nat) (ct : Nat → Option va_E) {N nt k : Nat} {b cm lf : Int32} {ss g : Int64}  {qs : Nat → Option Nat}   {lane i1 c1 : Int32} (h0 : ct 0 = some (.inr (10, [.ref (ad 1), .ref (ad 3), .int (nI nt), .ref (ad 4), .ref (ad 9), .ref (ad 11), .ref (ad 12), .ref (ad 13), .int lf]))) (h1 : ct 1 = some (.inr (3, [.ref (ad 2), .int (nI N), .int b, .long ss, .long g, .int cm]))) (h11 : ct 11 = some (eQ tc 5 4 qs)) (hk4 : k < 4) (hqs : qs k = some (ad (20 + k))) (hc1 : ¬ (0 ≤ c1 ∧ c1 < nI N)) : Met l yX10_forecast wsX10_forecast ({ frames := 3, cells := 0, slots := 0, locals := 84 }) (va_Pc [.ref (ad 0), .int (nI k), .int lane, .int i1, .int c1] (kw_B D tc sz ad ct)) (kw_Q D ad (kw_A ad ct sz) (some (.int (-1))) (kw_up ct 0 (.inr (10, [.ref (ad 1), .ref (ad 3), .int (nI nt), .ref (ad 4), .ref (ad 9), .ref (ad 11), .ref (ad 12), .ref (ad 13), .int 0]))) 0) 0 0 (kw_A ad ct sz) := by
  refine Met.ofW (cc := cX10_forecast) (maxL := 7) (ret := (some .int)) (by decide) rfl ?_
  intro pg en s m args below meth cod s₁ B hml hv
  obtain ⟨rfl, hsz, hP0, hK⟩ := hv
  have hx := B.exec
  have hb := B.bytes
  have hr := B.returns
  have hts := atoms_spec (ws := wsX10_forecast) B.pre
  have hown : s.vm.findClass RX10 = some m.cls := findClass_of_methodNamed B.named
  have hlocks := B.notSynchronized
  subst hsz
  have hw := kw_H.start hP0
  generalize hAe : kw_A ad ct s.heap.size = A at hw ⊢
  have hA : ∀ q, s.heap.size ≤ q → A q := fun q h => by rw [← hAe]; exact Or.inr h
  have hinX1 : ∀ w ∈ wsX10, w ∈ wsX10_forecast := by decide +kernel
  have hinX10 : ∀ w ∈ wsX100, w ∈ wsX10_forecast := by decide +kernel
  have hl := lv_entry ([.ref (ad 0), .int (nI k), .int lane, .int i1, .int c1]) (n := 7) (Nat.le_of_ble_eq_true rfl)
  rw [lg_entry_eq]
  generalize (lg_sl ([.ref (ad 0), .int (nI k), .int lane, .int i1, .int c1]) ++ List.replicate (7 - (lg_sl ([.ref (ad 0), .int (nI k), .int lane, .int i1, .int c1])).length) Slot.unset).toArray = ls at hl ⊢
  have hl : lv_has ls 7 [(0, .ref (ad 0)), (1, .int (nI k)), (2, .int lane), (3, .int i1), (4, .int c1)] := hl
  have S0 : CallFix pg m cod cX10_forecast 7 s _ wsX10_forecast RX10 := ⟨hx, hb, hml, hown, hts⟩
  have hfr : ∀ j, j ≠ 0 → ct j = ct j := fun _ _ => rfl
  refine lv_aload_n hx hb dX10_forecast_0 rfl (lv_at hl 0 rfl) ?_
  refine lv_iconst (v := 0) hx hb dX10_forecast_1 (by decide) ?_
  refine kg_put (v := .int 0) (ty := .int) (C := RX10) (T := TX10) (N := 9) (fs' := [.ref (ad 1), .ref (ad 3), .int (nI nt), .ref (ad 4), .ref (ad 9), .ref (ad 11), .ref (ad 12), .ref (ad 13), .int 0]) hx hb hts hinX10 tyX10 tyX10_ok nmX10 hown hK hw h0 rfl 8 (by decide) (hts (.fieldLink RX10 179 "BetMaker" "latestFault" "I") (by decide +kernel)) (fun _ h9 => h9) rfl (by decide +kernel) rfl rfl (Nat.le_of_ble_eq_true rfl) rfl dX10_forecast_2 (fun H locs hw => ?_)
  obtain ⟨ct_1, ect_1⟩ : ∃ z, z = kw_up ct 0 (.inr (10, [.ref (ad 1), .ref (ad 3), .int (nI nt), .ref (ad 4), .ref (ad 9), .ref (ad 11), .ref (ad 12), .ref (ad 13), .int 0])) := ⟨_, rfl⟩
  rw [← ect_1] at hw
  have h_2 : ct_1 1 = some (.inr (3, [.ref (ad 2), .int (nI N), .int b, .long ss, .long g, .int cm])) := by rw [ect_1, kw_up_n (by omega)]; exact h1
  have h_3 : ct_1 11 = some (eQ tc 5 4 qs) := by rw [ect_1, kw_up_n (by omega)]; exact h11
  have h_4 : ct_1 0 = some (.inr (10, [.ref (ad 1), .ref (ad 3), .int (nI nt), .ref (ad 4), .ref (ad 9), .ref (ad 11), .ref (ad 12), .ref (ad 13), .int 0])) := by rw [ect_1]; exact kw_up_s
  have hfr_5 : ∀ j, j ≠ 0 → ct_1 j = ct j := fun j a0 => by rw [ect_1]; exact (kw_up_n a0).trans (hfr j a0)
  refine lv_aload_n hx hb dX10_forecast_5 rfl (lv_at hl 0 rfl) ?_
  refine lv_iload_n hx hb dX10_forecast_6 rfl (lv_at hl 1 rfl) ?_
  refine kc_v (As := [.int (nI k)]) (rest := []) S0 (c_X10_findSheet l D tc s.heap.size ad ct_1 (k := k) (nt := nt) h_4 h_3 hk4 hqs) (cwV 1 hts gX10_forecast_X10_findSheet rfl rfl rfl (by decide +kernel) ⟨Nat.le_of_ble_eq_true rfl, Nat.le_of_ble_eq_true rfl⟩) hK hw h_4 rfl rfl hl.1 rfl (Nat.le_of_ble_eq_true rfl) dX10_forecast_7 ⟨Nat.le_of_ble_eq_true rfl, (Nat.le_of_ble_eq_true rfl)⟩ ?_
  refine lv_astore (lv' := [(5, .ref (ad (20 + k))), (0, .ref (ad 0)), (1, .int (nI k)), (2, .int lane), (3, .int i1), (4, .int c1)]) hx hb dX10_forecast_10 hl (by decide) rfl (fun ls hl => ?_)
  refine lv_aload hx hb dX10_forecast_12 (lv_at hl 0 rfl) ?_
  refine lv_ifnull hx hb dX10_forecast_14 ?_
  refine lv_aload_n hx hb dX10_forecast_17 rfl (lv_at hl 1 rfl) ?_
  refine kg_get (v := .ref (ad 1)) (C := RX10) (T := TX10) (N := 9) hx hb hts hinX10 hown hK hw h_4 rfl 0 (by decide) (hts (.fieldLink RX10 12 "BetMaker" "maker" "LBetMaker$Maker;") (by decide +kernel)) (fun _ h9 => h9) rfl dX10_forecast_18 ?_
  refine lv_iload hx hb dX10_forecast_21 (lv_at hl 5 rfl) ?_
  refine kc_v (As := [.int c1]) (rest := []) S0 (c_X3_isCase l D tc s.heap.size ad ct_1 (N := N) h_2) (cwV 1 hts gX10_forecast_X3_isCase rfl rfl rfl (by decide +kernel) ⟨Nat.le_of_ble_eq_true rfl, Nat.le_of_ble_eq_true rfl⟩) hK hw h_2 rfl rfl hl.1 rfl (Nat.le_of_ble_eq_true rfl) dX10_forecast_23 ⟨Nat.le_of_ble_eq_true rfl, (Nat.le_of_ble_eq_true rfl)⟩ ?_
  refine kb_ifne (tgt := 31) hx hb dX10_forecast_26 (by decide) (fun c_6 => ?_) (fun c_6 => ?_)
  · exact absurd c_6 hc1
  · refine lv_iconst (v := (-1)) hx hb dX10_forecast_29 (by decide) ?_
    have hq_7 := h_4
    have hend := kw_eq1 hq_7 hfr_5
    rw [hend] at hw
    exact W.iret hx hb hr (fun t ht _ => ⟨rfl, by rw [ht]; exact hw.1, hw.2.2.1, hw.2.1.F ht, by rw [ht]; exact hw.2.2.2⟩) hw.2.1.2.2 dX10_forecast_30
set_option maxHeartbeats 4000000 in
set_option maxRecDepth 100000 in
theorem c_X10_forecast_o (l : Launch) (D : va_G) (tc : Nat → ClassId) (sz : Nat) (ad : Nat → Nat) (ct : Nat → Option va_E) {N nt k : Nat} {b cm lf : Int32} {ss g : Int64}  {qs : Nat → Option Nat}   {lane i1 c1 : Int32} (h0 : ct 0 = some (.inr (10, [.ref (ad 1), .ref (ad 3), .int (nI nt), .ref (ad 4), .ref (ad 9), .ref (ad 11), .ref (ad 12), .ref (ad 13), .int lf]))) (h1 : ct 1 = some (.inr (3, [.ref (ad 2), .int (nI N), .int b, .long ss, .long g, .int cm]))) (h11 : ct 11 = some (eQ tc 5 4 qs)) (hk4 : k < 4) (hqs : qs k = some (ad (20 + k))) (hc1 : 0 ≤ c1 ∧ c1 < nI N) (hL : ¬ (0 ≤ lane ∧ lane ≤ 2)) : Met l yX10_forecast wsX10_forecast ({ frames := 3, cells := 0, slots := 0, locals := 84 }) (va_Pc [.ref (ad 0), .int (nI k), .int lane, .int i1, .int c1] (kw_B D tc sz ad ct)) (kw_Q D ad (kw_A ad ct sz) (some (.int (-2))) (kw_up ct 0 (.inr (10, [.ref (ad 1), .ref (ad 3), .int (nI nt), .ref (ad 4), .ref (ad 9), .ref (ad 11), .ref (ad 12), .ref (ad 13), .int 0]))) 0) 0 0 (kw_A ad ct sz) := by
  refine Met.ofW (cc := cX10_forecast) (maxL := 7) (ret := (some .int)) (by decide) rfl ?_
  intro pg en s m args below meth cod s₁ B hml hv
  obtain ⟨rfl, hsz, hP0, hK⟩ := hv
  have hx := B.exec
  have hb := B.bytes
  have hr := B.returns
  have hts := atoms_spec (ws := wsX10_forecast) B.pre
  have hown : s.vm.findClass RX10 = some m.cls := findClass_of_methodNamed B.named
  have hlocks := B.notSynchronized
  subst hsz
  have hw := kw_H.start hP0
  generalize hAe : kw_A ad ct s.heap.size = A at hw ⊢
  have hA : ∀ q, s.heap.size ≤ q → A q := fun q h => by rw [← hAe]; exact Or.inr h
  have hinX1 : ∀ w ∈ wsX10, w ∈ wsX10_forecast := by decide +kernel
  have hinX10 : ∀ w ∈ wsX100, w ∈ wsX10_forecast := by decide +kernel
  have hl := lv_entry ([.ref (ad 0), .int (nI k), .int lane, .int i1, .int c1]) (n := 7) (Nat.le_of_ble_eq_true rfl)
  rw [lg_entry_eq]
  generalize (lg_sl ([.ref (ad 0), .int (nI k), .int lane, .int i1, .int c1]) ++ List.replicate (7 - (lg_sl ([.ref (ad 0), .int (nI k), .int lane, .int i1, .int c1])).length) Slot.unset).toArray = ls at hl ⊢
  have hl : lv_has ls 7 [(0, .ref (ad 0)), (1, .int (nI k)), (2, .int lane), (3, .int i1), (4, .int c1)] := hl
  have S0 : CallFix pg m cod cX10_forecast 7 s _ wsX10_forecast RX10 := ⟨hx, hb, hml, hown, hts⟩
  have hfr : ∀ j, j ≠ 0 → ct j = ct j := fun _ _ => rfl
  refine lv_aload_n hx hb dX10_forecast_0 rfl (lv_at hl 0 rfl) ?_
  refine lv_iconst (v := 0) hx hb dX10_forecast_1 (by decide) ?_
  refine kg_put (v := .int 0) (ty := .int) (C := RX10) (T := TX10) (N := 9) (fs' := [.ref (ad 1), .ref (ad 3), .int (nI nt), .ref (ad 4), .ref (ad 9), .ref (ad 11), .ref (ad 12), .ref (ad 13), .int 0]) hx hb hts hinX10 tyX10 tyX10_ok nmX10 hown hK hw h0 rfl 8 (by decide) (hts (.fieldLink RX10 179 "BetMaker" "latestFault" "I") (by decide +kernel)) (fun _ h9 => h9) rfl (by decide +kernel) rfl rfl (Nat.le_of_ble_eq_true rfl) rfl dX10_forecast_2 (fun H locs hw => ?_)
  obtain ⟨ct_1, ect_1⟩ : ∃ z, z = kw_up ct 0 (.inr (10, [.ref (ad 1), .ref (ad 3), .int (nI nt), .ref (ad 4), .ref (ad 9), .ref (ad 11), .ref (ad 12), .ref (ad 13), .int 0])) := ⟨_, rfl⟩
  rw [← ect_1] at hw
  have h_2 : ct_1 1 = some (.inr (3, [.ref (ad 2), .int (nI N), .int b, .long ss, .long g, .int cm])) := by rw [ect_1, kw_up_n (by omega)]; exact h1
  have h_3 : ct_1 11 = some (eQ tc 5 4 qs) := by rw [ect_1, kw_up_n (by omega)]; exact h11
  have h_4 : ct_1 0 = some (.inr (10, [.ref (ad 1), .ref (ad 3), .int (nI nt), .ref (ad 4), .ref (ad 9), .ref (ad 11), .ref (ad 12), .ref (ad 13), .int 0])) := by rw [ect_1]; exact kw_up_s
  have hfr_5 : ∀ j, j ≠ 0 → ct_1 j = ct j := fun j a0 => by rw [ect_1]; exact (kw_up_n a0).trans (hfr j a0)
  refine lv_aload_n hx hb dX10_forecast_5 rfl (lv_at hl 0 rfl) ?_
  refine lv_iload_n hx hb dX10_forecast_6 rfl (lv_at hl 1 rfl) ?_
  refine kc_v (As := [.int (nI k)]) (rest := []) S0 (c_X10_findSheet l D tc s.heap.size ad ct_1 (k := k) (nt := nt) h_4 h_3 hk4 hqs) (cwV 1 hts gX10_forecast_X10_findSheet rfl rfl rfl (by decide +kernel) ⟨Nat.le_of_ble_eq_true rfl, Nat.le_of_ble_eq_true rfl⟩) hK hw h_4 rfl rfl hl.1 rfl (Nat.le_of_ble_eq_true rfl) dX10_forecast_7 ⟨Nat.le_of_ble_eq_true rfl, (Nat.le_of_ble_eq_true rfl)⟩ ?_
  refine lv_astore (lv' := [(5, .ref (ad (20 + k))), (0, .ref (ad 0)), (1, .int (nI k)), (2, .int lane), (3, .int i1), (4, .int c1)]) hx hb dX10_forecast_10 hl (by decide) rfl (fun ls hl => ?_)
  refine lv_aload hx hb dX10_forecast_12 (lv_at hl 0 rfl) ?_
  refine lv_ifnull hx hb dX10_forecast_14 ?_
  refine lv_aload_n hx hb dX10_forecast_17 rfl (lv_at hl 1 rfl) ?_
  refine kg_get (v := .ref (ad 1)) (C := RX10) (T := TX10) (N := 9) hx hb hts hinX10 hown hK hw h_4 rfl 0 (by decide) (hts (.fieldLink RX10 12 "BetMaker" "maker" "LBetMaker$Maker;") (by decide +kernel)) (fun _ h9 => h9) rfl dX10_forecast_18 ?_
  refine lv_iload hx hb dX10_forecast_21 (lv_at hl 5 rfl) ?_
  refine kc_v (As := [.int c1]) (rest := []) S0 (c_X3_isCase l D tc s.heap.size ad ct_1 (N := N) h_2) (cwV 1 hts gX10_forecast_X3_isCase rfl rfl rfl (by decide +kernel) ⟨Nat.le_of_ble_eq_true rfl, Nat.le_of_ble_eq_true rfl⟩) hK hw h_2 rfl rfl hl.1 rfl (Nat.le_of_ble_eq_true rfl) dX10_forecast_23 ⟨Nat.le_of_ble_eq_true rfl, (Nat.le_of_ble_eq_true rfl)⟩ ?_
  refine kb_ifne (tgt := 31) hx hb dX10_forecast_26 (by decide) (fun c_6 => ?_) (fun c_6 => ?_)
  · refine lv_aload_n hx hb dX10_forecast_31 rfl (lv_at hl 1 rfl) ?_
    refine lv_aload hx hb dX10_forecast_32 (lv_at hl 0 rfl) ?_
    refine lv_iload_n hx hb dX10_forecast_34 rfl (lv_at hl 3 rfl) ?_
    refine lv_iload_n hx hb dX10_forecast_35 rfl (lv_at hl 4 rfl) ?_
    refine kc_v (As := [.ref (ad (20 + k)), .int lane, .int i1]) (rest := []) S0 (c_X10_takeWeights_o l D tc s.heap.size ad ct_1 (k := k) hL) (cwV 3 hts gX10_forecast_X10_takeWeights rfl rfl rfl (by decide +kernel) ⟨Nat.le_of_ble_eq_true rfl, Nat.le_of_ble_eq_true rfl⟩) hK hw h_4 rfl rfl hl.1 rfl (Nat.le_of_ble_eq_true rfl) dX10_forecast_36 ⟨Nat.le_of_ble_eq_true rfl, (Nat.le_of_ble_eq_true rfl)⟩ ?_
    refine lv_istore (lv' := [(6, .int (-2)), (5, .ref (ad (20 + k))), (0, .ref (ad 0)), (1, .int (nI k)), (2, .int lane), (3, .int i1), (4, .int c1)]) hx hb dX10_forecast_39 hl (by decide) rfl (fun ls hl => ?_)
    refine lv_iload hx hb dX10_forecast_41 (lv_at hl 0 rfl) ?_
    refine lv_if_gt (tgt := 49) hx hb dX10_forecast_43 (by decide) (fun c_7 => ?_) (fun c_7 => ?_)
    · exact absurd c_7 (by decide)
    · refine lv_iload hx hb dX10_forecast_46 (lv_at hl 0 rfl) ?_
      have hq_8 := h_4
      have hend := kw_eq1 hq_8 hfr_5
      rw [hend] at hw
      exact W.iret hx hb hr (fun t ht _ => ⟨rfl, by rw [ht]; exact hw.1, hw.2.2.1, hw.2.1.F ht, by rw [ht]; exact hw.2.2.2⟩) hw.2.1.2.2 dX10_forecast_48
  · exact absurd hc1 c_6
set_option maxHeartbeats 4000000 in
set_option maxRecDepth 100000 in
theorem c_X10_forecast_f (l : Launch) (D : va_G) (tc : Nat → ClassId) (sz : Nat) (ad : Nat → Nat) (ct : Nat → Option va_E) {N nt n k : Nat} {b cm lf ln : Int32} {ss g : Int64}  {qs : Nat → Option Nat}  {th : Bool} {lane i1 c1 : Int32} (h0 : ct 0 = some (.inr (10, [.ref (ad 1), .ref (ad 3), .int (nI nt), .ref (ad 4), .ref (ad 9), .ref (ad 11), .ref (ad 12), .ref (ad 13), .int lf]))) (h1 : ct 1 = some (.inr (3, [.ref (ad 2), .int (nI N), .int b, .long ss, .long g, .int cm]))) (h11 : ct 11 = some (eQ tc 5 4 qs)) (h20 : ct (20 + k) = some (.inr (6, [.ref (ad (24 + k)), .int (kb (th = true)), .int ln, .int (nI n)]))) (hk4 : k < 4) (hqs : qs k = some (ad (20 + k))) (hc1 : 0 ≤ c1 ∧ c1 < nI N) (hL : 0 ≤ lane ∧ lane ≤ 2) (hdf : ¬ (kDF th ln lane i1 n (nI N) = 0)) (hle : ¬ (0 < (-10) - kDF th ln lane i1 n (nI N))) : Met l yX10_forecast wsX10_forecast ({ frames := 3, cells := 0, slots := 0, locals := 84 }) (va_Pc [.ref (ad 0), .int (nI k), .int lane, .int i1, .int c1] (kw_B D tc sz ad ct)) (kw_Q D ad (kw_A ad ct sz) (some (.int ((-10) - kDF th ln lane i1 n (nI N)))) (kw_up ct 0 (.inr (10, [.ref (ad 1), .ref (ad 3), .int (nI nt), .ref (ad 4), .ref (ad 9), .ref (ad 11), .ref (ad 12), .ref (ad 13), .int (kDF th ln lane i1 n (nI N))]))) 0) 0 0 (kw_A ad ct sz) := by
  refine Met.ofW (cc := cX10_forecast) (maxL := 7) (ret := (some .int)) (by decide) rfl ?_
  intro pg en s m args below meth cod s₁ B hml hv
  obtain ⟨rfl, hsz, hP0, hK⟩ := hv
  have hx := B.exec
  have hb := B.bytes
  have hr := B.returns
  have hts := atoms_spec (ws := wsX10_forecast) B.pre
  have hown : s.vm.findClass RX10 = some m.cls := findClass_of_methodNamed B.named
  have hlocks := B.notSynchronized
  subst hsz
  have hw := kw_H.start hP0
  generalize hAe : kw_A ad ct s.heap.size = A at hw ⊢
  have hA : ∀ q, s.heap.size ≤ q → A q := fun q h => by rw [← hAe]; exact Or.inr h
  have hinX1 : ∀ w ∈ wsX10, w ∈ wsX10_forecast := by decide +kernel
  have hinX10 : ∀ w ∈ wsX100, w ∈ wsX10_forecast := by decide +kernel
  have hl := lv_entry ([.ref (ad 0), .int (nI k), .int lane, .int i1, .int c1]) (n := 7) (Nat.le_of_ble_eq_true rfl)
  rw [lg_entry_eq]
  generalize (lg_sl ([.ref (ad 0), .int (nI k), .int lane, .int i1, .int c1]) ++ List.replicate (7 - (lg_sl ([.ref (ad 0), .int (nI k), .int lane, .int i1, .int c1])).length) Slot.unset).toArray = ls at hl ⊢
  have hl : lv_has ls 7 [(0, .ref (ad 0)), (1, .int (nI k)), (2, .int lane), (3, .int i1), (4, .int c1)] := hl
  have S0 : CallFix pg m cod cX10_forecast 7 s _ wsX10_forecast RX10 := ⟨hx, hb, hml, hown, hts⟩
  have hfr : ∀ j, j ≠ 0 → ct j = ct j := fun _ _ => rfl
  refine lv_aload_n hx hb dX10_forecast_0 rfl (lv_at hl 0 rfl) ?_
  refine lv_iconst (v := 0) hx hb dX10_forecast_1 (by decide) ?_
  refine kg_put (v := .int 0) (ty := .int) (C := RX10) (T := TX10) (N := 9) (fs' := [.ref (ad 1), .ref (ad 3), .int (nI nt), .ref (ad 4), .ref (ad 9), .ref (ad 11), .ref (ad 12), .ref (ad 13), .int 0]) hx hb hts hinX10 tyX10 tyX10_ok nmX10 hown hK hw h0 rfl 8 (by decide) (hts (.fieldLink RX10 179 "BetMaker" "latestFault" "I") (by decide +kernel)) (fun _ h9 => h9) rfl (by decide +kernel) rfl rfl (Nat.le_of_ble_eq_true rfl) rfl dX10_forecast_2 (fun H locs hw => ?_)
  obtain ⟨ct_1, ect_1⟩ : ∃ z, z = kw_up ct 0 (.inr (10, [.ref (ad 1), .ref (ad 3), .int (nI nt), .ref (ad 4), .ref (ad 9), .ref (ad 11), .ref (ad 12), .ref (ad 13), .int 0])) := ⟨_, rfl⟩
  rw [← ect_1] at hw
  have h_2 : ct_1 1 = some (.inr (3, [.ref (ad 2), .int (nI N), .int b, .long ss, .long g, .int cm])) := by rw [ect_1, kw_up_n (by omega)]; exact h1
  have h_3 : ct_1 11 = some (eQ tc 5 4 qs) := by rw [ect_1, kw_up_n (by omega)]; exact h11
  have h_4 : ct_1 (20 + k) = some (.inr (6, [.ref (ad (24 + k)), .int (kb (th = true)), .int ln, .int (nI n)])) := by rw [ect_1, kw_up_n (by omega)]; exact h20
  have h_5 : ct_1 0 = some (.inr (10, [.ref (ad 1), .ref (ad 3), .int (nI nt), .ref (ad 4), .ref (ad 9), .ref (ad 11), .ref (ad 12), .ref (ad 13), .int 0])) := by rw [ect_1]; exact kw_up_s
  have hfr_6 : ∀ j, j ≠ 0 → ct_1 j = ct j := fun j a0 => by rw [ect_1]; exact (kw_up_n a0).trans (hfr j a0)
  refine lv_aload_n hx hb dX10_forecast_5 rfl (lv_at hl 0 rfl) ?_
  refine lv_iload_n hx hb dX10_forecast_6 rfl (lv_at hl 1 rfl) ?_
  refine kc_v (As := [.int (nI k)]) (rest := []) S0 (c_X10_findSheet l D tc s.heap.size ad ct_1 (k := k) (nt := nt) h_5 h_3 hk4 hqs) (cwV 1 hts gX10_forecast_X10_findSheet rfl rfl rfl (by decide +kernel) ⟨Nat.le_of_ble_eq_true rfl, Nat.le_of_ble_eq_true rfl⟩) hK hw h_5 rfl rfl hl.1 rfl (Nat.le_of_ble_eq_true rfl) dX10_forecast_7 ⟨Nat.le_of_ble_eq_true rfl, (Nat.le_of_ble_eq_true rfl)⟩ ?_
  refine lv_astore (lv' := [(5, .ref (ad (20 + k))), (0, .ref (ad 0)), (1, .int (nI k)), (2, .int lane), (3, .int i1), (4, .int c1)]) hx hb dX10_forecast_10 hl (by decide) rfl (fun ls hl => ?_)
  refine lv_aload hx hb dX10_forecast_12 (lv_at hl 0 rfl) ?_
  refine lv_ifnull hx hb dX10_forecast_14 ?_
  refine lv_aload_n hx hb dX10_forecast_17 rfl (lv_at hl 1 rfl) ?_
  refine kg_get (v := .ref (ad 1)) (C := RX10) (T := TX10) (N := 9) hx hb hts hinX10 hown hK hw h_5 rfl 0 (by decide) (hts (.fieldLink RX10 12 "BetMaker" "maker" "LBetMaker$Maker;") (by decide +kernel)) (fun _ h9 => h9) rfl dX10_forecast_18 ?_
  refine lv_iload hx hb dX10_forecast_21 (lv_at hl 5 rfl) ?_
  refine kc_v (As := [.int c1]) (rest := []) S0 (c_X3_isCase l D tc s.heap.size ad ct_1 (N := N) h_2) (cwV 1 hts gX10_forecast_X3_isCase rfl rfl rfl (by decide +kernel) ⟨Nat.le_of_ble_eq_true rfl, Nat.le_of_ble_eq_true rfl⟩) hK hw h_2 rfl rfl hl.1 rfl (Nat.le_of_ble_eq_true rfl) dX10_forecast_23 ⟨Nat.le_of_ble_eq_true rfl, (Nat.le_of_ble_eq_true rfl)⟩ ?_
  refine kb_ifne (tgt := 31) hx hb dX10_forecast_26 (by decide) (fun c_7 => ?_) (fun c_7 => ?_)
  · refine lv_aload_n hx hb dX10_forecast_31 rfl (lv_at hl 1 rfl) ?_
    refine lv_aload hx hb dX10_forecast_32 (lv_at hl 0 rfl) ?_
    refine lv_iload_n hx hb dX10_forecast_34 rfl (lv_at hl 3 rfl) ?_
    refine lv_iload_n hx hb dX10_forecast_35 rfl (lv_at hl 4 rfl) ?_
    refine kc_vu (As := [.ref (ad (20 + k)), .int lane, .int i1]) (rest := []) S0 (c_X10_takeWeights_f l D tc s.heap.size ad ct_1 (k := k) (nt := nt) (N := N) (n := n) h_5 h_2 h_4 hL hdf) (cwV 3 hts gX10_forecast_X10_takeWeights rfl rfl rfl (by decide +kernel) ⟨Nat.le_of_ble_eq_true rfl, Nat.le_of_ble_eq_true rfl⟩) hK hw hA h_5 rfl rfl hl.1 rfl (Nat.le_of_ble_eq_true rfl) dX10_forecast_36 ⟨Nat.le_of_ble_eq_true rfl, (Nat.le_of_ble_eq_true rfl)⟩ (fun H locs hw => ?_)
    obtain ⟨ct_8, ect_8⟩ : ∃ z, z = kw_up ct_1 0 (.inr (10, [.ref (ad 1), .ref (ad 3), .int (nI nt), .ref (ad 4), .ref (ad 9), .ref (ad 11), .ref (ad 12), .ref (ad 13), .int (kDF th ln lane i1 n (nI N))])) := ⟨_, rfl⟩
    rw [← ect_8] at hw
    have h_9 : ct_8 1 = some (.inr (3, [.ref (ad 2), .int (nI N), .int b, .long ss, .long g, .int cm])) := by rw [ect_8, kw_up_n (by omega)]; exact h_2
    have h_10 : ct_8 11 = some (eQ tc 5 4 qs) := by rw [ect_8, kw_up_n (by omega)]; exact h_3
    have h_11 : ct_8 (20 + k) = some (.inr (6, [.ref (ad (24 + k)), .int (kb (th = true)), .int ln, .int (nI n)])) := by rw [ect_8, kw_up_n (by omega)]; exact h_4
    have h_12 : ct_8 0 = some (.inr (10, [.ref (ad 1), .ref (ad 3), .int (nI nt), .ref (ad 4), .ref (ad 9), .ref (ad 11), .ref (ad 12), .ref (ad 13), .int (kDF th ln lane i1 n (nI N))])) := by rw [ect_8]; exact kw_up_s
    have hfr_13 : ∀ j, j ≠ 0 → ct_8 j = ct j := fun j a0 => by rw [ect_8]; exact (kw_up_n a0).trans (hfr_6 j a0)
    refine lv_istore (lv' := [(6, .int ((-10) - kDF th ln lane i1 n (nI N))), (5, .ref (ad (20 + k))), (0, .ref (ad 0)), (1, .int (nI k)), (2, .int lane), (3, .int i1), (4, .int c1)]) hx hb dX10_forecast_39 hl (by decide) rfl (fun ls hl => ?_)
    refine lv_iload hx hb dX10_forecast_41 (lv_at hl 0 rfl) ?_
    refine lv_if_gt (tgt := 49) hx hb dX10_forecast_43 (by decide) (fun c_14 => ?_) (fun c_14 => ?_)
    · exact absurd c_14 hle
    · refine lv_iload hx hb dX10_forecast_46 (lv_at hl 0 rfl) ?_
      have hq_15 := h_12
      have hend := kw_eq1 hq_15 hfr_13
      rw [hend] at hw
      exact W.iret hx hb hr (fun t ht _ => ⟨rfl, by rw [ht]; exact hw.1, hw.2.2.1, hw.2.1.F ht, by rw [ht]; exact hw.2.2.2⟩) hw.2.1.2.2 dX10_forecast_48
  · exact absurd hc1 c_7
set_option maxHeartbeats 4000000 in
set_option maxRecDepth 100000 in
theorem c_X10_forecast_v (l : Launch) (D : va_G) (tc : Nat → ClassId) (sz : Nat) (ad : Nat → Nat) (ct : Nat → Option va_E) {N nt n k i : Nat} {b cm lf ln : Int32} {ss g : Int64}  {qs : Nat → Option Nat} {tk sc : Nat → Int32} {th : Bool} {lane c1 : Int32} (h0 : ct 0 = some (.inr (10, [.ref (ad 1), .ref (ad 3), .int (nI nt), .ref (ad 4), .ref (ad 9), .ref (ad 11), .ref (ad 12), .ref (ad 13), .int lf]))) (h1 : ct 1 = some (.inr (3, [.ref (ad 2), .int (nI N), .int b, .long ss, .long g, .int cm]))) (h11 : ct 11 = some (eQ tc 5 4 qs)) (h13 : ct 13 = some (eI tc 8 tk)) (h20 : ct (20 + k) = some (.inr (6, [.ref (ad (24 + k)), .int (kb (th = true)), .int ln, .int (nI n)]))) (h24 : ct (24 + k) = some (eI tc 24 sc)) (hk4 : k < 4) (hqs : qs k = some (ad (20 + k))) (hL : 0 ≤ lane ∧ lane ≤ 2) (hdf : kDF th ln lane (nI i) n (nI N) = 0) (hiN : i + N ≤ n) (hn24 : n ≤ 24) (hN : N ≤ 8) (hc1 : 0 ≤ c1 ∧ c1 < nI N) (hbad : ¬ (kall (kWc (fun z => sc (i + z))) N = true ∧ ¬ sw (fun z => sc (i + z)) N = 0)) : Met l yX10_forecast wsX10_forecast ({ frames := 3, cells := 0, slots := 0, locals := 84 }) (va_Pc [.ref (ad 0), .int (nI k), .int lane, .int (nI i), .int c1] (kw_B D tc sz ad ct)) (kw_Q D ad (kw_A ad ct sz) (some (.int (-2))) (kw_up (kw_up ct 0 (.inr (10, [.ref (ad 1), .ref (ad 3), .int (nI nt), .ref (ad 4), .ref (ad 9), .ref (ad 11), .ref (ad 12), .ref (ad 13), .int 0]))) 13 (eI tc 8 (kCp tk (fun z => sc (i + z)) (kfs (kWc (fun z => sc (i + z))) N)))) 0) 0 0 (kw_A ad ct sz) := by
  refine Met.ofW (cc := cX10_forecast) (maxL := 7) (ret := (some .int)) (by decide) rfl ?_
  intro pg en s m args below meth cod s₁ B hml hv
  obtain ⟨rfl, hsz, hP0, hK⟩ := hv
  have hx := B.exec
  have hb := B.bytes
  have hr := B.returns
  have hts := atoms_spec (ws := wsX10_forecast) B.pre
  have hown : s.vm.findClass RX10 = some m.cls := findClass_of_methodNamed B.named
  have hlocks := B.notSynchronized
  subst hsz
  have hw := kw_H.start hP0
  generalize hAe : kw_A ad ct s.heap.size = A at hw ⊢
  have hA : ∀ q, s.heap.size ≤ q → A q := fun q h => by rw [← hAe]; exact Or.inr h
  have hinX1 : ∀ w ∈ wsX10, w ∈ wsX10_forecast := by decide +kernel
  have hinX10 : ∀ w ∈ wsX100, w ∈ wsX10_forecast := by decide +kernel
  have hl := lv_entry ([.ref (ad 0), .int (nI k), .int lane, .int (nI i), .int c1]) (n := 7) (Nat.le_of_ble_eq_true rfl)
  rw [lg_entry_eq]
  generalize (lg_sl ([.ref (ad 0), .int (nI k), .int lane, .int (nI i), .int c1]) ++ List.replicate (7 - (lg_sl ([.ref (ad 0), .int (nI k), .int lane, .int (nI i), .int c1])).length) Slot.unset).toArray = ls at hl ⊢
  have hl : lv_has ls 7 [(0, .ref (ad 0)), (1, .int (nI k)), (2, .int lane), (3, .int (nI i)), (4, .int c1)] := hl
  have S0 : CallFix pg m cod cX10_forecast 7 s _ wsX10_forecast RX10 := ⟨hx, hb, hml, hown, hts⟩
  have hfr : ∀ j, j ≠ 0 → j ≠ 13 → ct j = ct j := fun _ _ _ => rfl
  refine lv_aload_n hx hb dX10_forecast_0 rfl (lv_at hl 0 rfl) ?_
  refine lv_iconst (v := 0) hx hb dX10_forecast_1 (by decide) ?_
  refine kg_put (v := .int 0) (ty := .int) (C := RX10) (T := TX10) (N := 9) (fs' := [.ref (ad 1), .ref (ad 3), .int (nI nt), .ref (ad 4), .ref (ad 9), .ref (ad 11), .ref (ad 12), .ref (ad 13), .int 0]) hx hb hts hinX10 tyX10 tyX10_ok nmX10 hown hK hw h0 rfl 8 (by decide) (hts (.fieldLink RX10 179 "BetMaker" "latestFault" "I") (by decide +kernel)) (fun _ h9 => h9) rfl (by decide +kernel) rfl rfl (Nat.le_of_ble_eq_true rfl) rfl dX10_forecast_2 (fun H locs hw => ?_)
  obtain ⟨ct_1, ect_1⟩ : ∃ z, z = kw_up ct 0 (.inr (10, [.ref (ad 1), .ref (ad 3), .int (nI nt), .ref (ad 4), .ref (ad 9), .ref (ad 11), .ref (ad 12), .ref (ad 13), .int 0])) := ⟨_, rfl⟩
  rw [← ect_1] at hw
  have h_2 : ct_1 1 = some (.inr (3, [.ref (ad 2), .int (nI N), .int b, .long ss, .long g, .int cm])) := by rw [ect_1, kw_up_n (by omega)]; exact h1
  have h_3 : ct_1 11 = some (eQ tc 5 4 qs) := by rw [ect_1, kw_up_n (by omega)]; exact h11
  have h_4 : ct_1 13 = some (eI tc 8 tk) := by rw [ect_1, kw_up_n (by omega)]; exact h13
  have h_5 : ct_1 (20 + k) = some (.inr (6, [.ref (ad (24 + k)), .int (kb (th = true)), .int ln, .int (nI n)])) := by rw [ect_1, kw_up_n (by omega)]; exact h20
  have h_6 : ct_1 (24 + k) = some (eI tc 24 sc) := by rw [ect_1, kw_up_n (by omega)]; exact h24
  have h_7 : ct_1 0 = some (.inr (10, [.ref (ad 1), .ref (ad 3), .int (nI nt), .ref (ad 4), .ref (ad 9), .ref (ad 11), .ref (ad 12), .ref (ad 13), .int 0])) := by rw [ect_1]; exact kw_up_s
  have hfr_8 : ∀ j, j ≠ 0 → j ≠ 13 → ct_1 j = ct j := fun j a0 a1 => by rw [ect_1]; exact (kw_up_n a0).trans (hfr j a0 a1)
  refine lv_aload_n hx hb dX10_forecast_5 rfl (lv_at hl 0 rfl) ?_
  refine lv_iload_n hx hb dX10_forecast_6 rfl (lv_at hl 1 rfl) ?_
  refine kc_v (As := [.int (nI k)]) (rest := []) S0 (c_X10_findSheet l D tc s.heap.size ad ct_1 (k := k) (nt := nt) h_7 h_3 hk4 hqs) (cwV 1 hts gX10_forecast_X10_findSheet rfl rfl rfl (by decide +kernel) ⟨Nat.le_of_ble_eq_true rfl, Nat.le_of_ble_eq_true rfl⟩) hK hw h_7 rfl rfl hl.1 rfl (Nat.le_of_ble_eq_true rfl) dX10_forecast_7 ⟨Nat.le_of_ble_eq_true rfl, (Nat.le_of_ble_eq_true rfl)⟩ ?_
  refine lv_astore (lv' := [(5, .ref (ad (20 + k))), (0, .ref (ad 0)), (1, .int (nI k)), (2, .int lane), (3, .int (nI i)), (4, .int c1)]) hx hb dX10_forecast_10 hl (by decide) rfl (fun ls hl => ?_)
  refine lv_aload hx hb dX10_forecast_12 (lv_at hl 0 rfl) ?_
  refine lv_ifnull hx hb dX10_forecast_14 ?_
  refine lv_aload_n hx hb dX10_forecast_17 rfl (lv_at hl 1 rfl) ?_
  refine kg_get (v := .ref (ad 1)) (C := RX10) (T := TX10) (N := 9) hx hb hts hinX10 hown hK hw h_7 rfl 0 (by decide) (hts (.fieldLink RX10 12 "BetMaker" "maker" "LBetMaker$Maker;") (by decide +kernel)) (fun _ h9 => h9) rfl dX10_forecast_18 ?_
  refine lv_iload hx hb dX10_forecast_21 (lv_at hl 5 rfl) ?_
  refine kc_v (As := [.int c1]) (rest := []) S0 (c_X3_isCase l D tc s.heap.size ad ct_1 (N := N) h_2) (cwV 1 hts gX10_forecast_X3_isCase rfl rfl rfl (by decide +kernel) ⟨Nat.le_of_ble_eq_true rfl, Nat.le_of_ble_eq_true rfl⟩) hK hw h_2 rfl rfl hl.1 rfl (Nat.le_of_ble_eq_true rfl) dX10_forecast_23 ⟨Nat.le_of_ble_eq_true rfl, (Nat.le_of_ble_eq_true rfl)⟩ ?_
  refine kb_ifne (tgt := 31) hx hb dX10_forecast_26 (by decide) (fun c_9 => ?_) (fun c_9 => ?_)
  · refine lv_aload_n hx hb dX10_forecast_31 rfl (lv_at hl 1 rfl) ?_
    refine lv_aload hx hb dX10_forecast_32 (lv_at hl 0 rfl) ?_
    refine lv_iload_n hx hb dX10_forecast_34 rfl (lv_at hl 3 rfl) ?_
    refine lv_iload_n hx hb dX10_forecast_35 rfl (lv_at hl 4 rfl) ?_
    refine kc_vu (As := [.ref (ad (20 + k)), .int lane, .int (nI i)]) (rest := []) S0 (c_X10_takeWeights_v l D tc s.heap.size ad ct_1 (k := k) (i := i) (nt := nt) (N := N) (n := n) h_7 h_2 h_4 h_5 h_6 hL hdf hiN hn24 hN hbad) (cwV 3 hts gX10_forecast_X10_takeWeights rfl rfl rfl (by decide +kernel) ⟨Nat.le_of_ble_eq_true rfl, Nat.le_of_ble_eq_true rfl⟩) hK hw hA h_7 rfl rfl hl.1 rfl (Nat.le_of_ble_eq_true rfl) dX10_forecast_36 ⟨Nat.le_of_ble_eq_true rfl, (Nat.le_of_ble_eq_true rfl)⟩ (fun H locs hw => ?_)
    obtain ⟨ct_10, ect_10⟩ : ∃ z, z = kw_up ct_1 13 (eI tc 8 (kCp tk (fun z => sc (i + z)) (kfs (kWc (fun z => sc (i + z))) N))) := ⟨_, rfl⟩
    rw [← ect_10] at hw
    have h_11 : ct_10 1 = some (.inr (3, [.ref (ad 2), .int (nI N), .int b, .long ss, .long g, .int cm])) := by rw [ect_10, kw_up_n (by omega)]; exact h_2
    have h_12 : ct_10 11 = some (eQ tc 5 4 qs) := by rw [ect_10, kw_up_n (by omega)]; exact h_3
    have h_13 : ct_10 (20 + k) = some (.inr (6, [.ref (ad (24 + k)), .int (kb (th = true)), .int ln, .int (nI n)])) := by rw [ect_10, kw_up_n (by omega)]; exact h_5
    have h_14 : ct_10 (24 + k) = some (eI tc 24 sc) := by rw [ect_10, kw_up_n (by omega)]; exact h_6
    have h_15 : ct_10 0 = some (.inr (10, [.ref (ad 1), .ref (ad 3), .int (nI nt), .ref (ad 4), .ref (ad 9), .ref (ad 11), .ref (ad 12), .ref (ad 13), .int 0])) := by rw [ect_10, kw_up_n (by omega)]; exact h_7
    have h_16 : ct_10 13 = some (eI tc 8 (kCp tk (fun z => sc (i + z)) (kfs (kWc (fun z => sc (i + z))) N))) := by rw [ect_10]; exact kw_up_s
    have hfr_17 : ∀ j, j ≠ 0 → j ≠ 13 → ct_10 j = ct j := fun j a0 a1 => by rw [ect_10]; exact (kw_up_n a1).trans (hfr_8 j a0 a1)
    refine lv_istore (lv' := [(6, .int (-2)), (5, .ref (ad (20 + k))), (0, .ref (ad 0)), (1, .int (nI k)), (2, .int lane), (3, .int (nI i)), (4, .int c1)]) hx hb dX10_forecast_39 hl (by decide) rfl (fun ls hl => ?_)
    refine lv_iload hx hb dX10_forecast_41 (lv_at hl 0 rfl) ?_
    refine lv_if_gt (tgt := 49) hx hb dX10_forecast_43 (by decide) (fun c_18 => ?_) (fun c_18 => ?_)
    · exact absurd c_18 (by decide)
    · refine lv_iload hx hb dX10_forecast_46 (lv_at hl 0 rfl) ?_
      have hq_19 := h_15
      have hq_20 := h_16
      have hend := kw_eq2 hq_19 hq_20 hfr_17
      rw [hend] at hw
      exact W.iret hx hb hr (fun t ht _ => ⟨rfl, by rw [ht]; exact hw.1, hw.2.2.1, hw.2.1.F ht, by rw [ht]; exact hw.2.2.2⟩) hw.2.1.2.2 dX10_forecast_48
  · exact absurd hc1 c_9
set_option maxHeartbeats 4000000 in
set_option maxRecDepth 100000 in
theorem c_X10_forecast_full (l : Launch) (D : va_G) (tc : Nat → ClassId) (sz : Nat) (ad : Nat → Nat) (ct : Nat → Option va_E) {N nt nf n k i : Nat} {b cm lf ln : Int32} {ss g : Int64}  {qs : Nat → Option Nat} {tk sc : Nat → Int32} {th : Bool} {lane c1 : Int32} (h0 : ct 0 = some (.inr (10, [.ref (ad 1), .ref (ad 3), .int (nI nt), .ref (ad 4), .ref (ad 9), .ref (ad 11), .ref (ad 12), .ref (ad 13), .int lf]))) (h1 : ct 1 = some (.inr (3, [.ref (ad 2), .int (nI N), .int b, .long ss, .long g, .int cm]))) (h11 : ct 11 = some (eQ tc 5 4 qs)) (h13 : ct 13 = some (eI tc 8 tk)) (h20 : ct (20 + k) = some (.inr (6, [.ref (ad (24 + k)), .int (kb (th = true)), .int ln, .int (nI n)]))) (h24 : ct (24 + k) = some (eI tc 24 sc)) (h9 : ct 9 = some (.inr (2, [.ref (ad 10), .int (nI nf)]))) (hk4 : k < 4) (hqs : qs k = some (ad (20 + k))) (hL : 0 ≤ lane ∧ lane ≤ 2) (hdf : kDF th ln lane (nI i) n (nI N) = 0) (hiN : i + N ≤ n) (hn24 : n ≤ 24) (hN : N ≤ 8) (hc1 : 0 ≤ c1 ∧ c1 < nI N) (hok : kall (kWc (fun z => sc (i + z))) N = true) (hnz : ¬ sw (fun z => sc (i + z)) N = 0) (hle : 0 < sw (fun z => sc (i + z)) N) (hfull : nf = 40) : Met l yX10_forecast wsX10_forecast ({ frames := 3, cells := 0, slots := 0, locals := 84 }) (va_Pc [.ref (ad 0), .int (nI k), .int lane, .int (nI i), .int c1] (kw_B D tc sz ad ct)) (kw_Q D ad (kw_A ad ct sz) (some (.int (-4))) (kw_up (kw_up ct 0 (.inr (10, [.ref (ad 1), .ref (ad 3), .int (nI nt), .ref (ad 4), .ref (ad 9), .ref (ad 11), .ref (ad 12), .ref (ad 13), .int 0]))) 13 (eI tc 8 (kCp tk (fun z => sc (i + z)) N))) 0) 0 0 (kw_A ad ct sz) := by
  refine Met.ofW (cc := cX10_forecast) (maxL := 7) (ret := (some .int)) (by decide) rfl ?_
  intro pg en s m args below meth cod s₁ B hml hv
  obtain ⟨rfl, hsz, hP0, hK⟩ := hv
  have hx := B.exec
  have hb := B.bytes
  have hr := B.returns
  have hts := atoms_spec (ws := wsX10_forecast) B.pre
  have hown : s.vm.findClass RX10 = some m.cls := findClass_of_methodNamed B.named
  have hlocks := B.notSynchronized
  subst hsz
  have hw := kw_H.start hP0
  generalize hAe : kw_A ad ct s.heap.size = A at hw ⊢
  have hA : ∀ q, s.heap.size ≤ q → A q := fun q h => by rw [← hAe]; exact Or.inr h
  have hinX1 : ∀ w ∈ wsX10, w ∈ wsX10_forecast := by decide +kernel
  have hinX10 : ∀ w ∈ wsX100, w ∈ wsX10_forecast := by decide +kernel
  have hl := lv_entry ([.ref (ad 0), .int (nI k), .int lane, .int (nI i), .int c1]) (n := 7) (Nat.le_of_ble_eq_true rfl)
  rw [lg_entry_eq]
  generalize (lg_sl ([.ref (ad 0), .int (nI k), .int lane, .int (nI i), .int c1]) ++ List.replicate (7 - (lg_sl ([.ref (ad 0), .int (nI k), .int lane, .int (nI i), .int c1])).length) Slot.unset).toArray = ls at hl ⊢
  have hl : lv_has ls 7 [(0, .ref (ad 0)), (1, .int (nI k)), (2, .int lane), (3, .int (nI i)), (4, .int c1)] := hl
  have S0 : CallFix pg m cod cX10_forecast 7 s _ wsX10_forecast RX10 := ⟨hx, hb, hml, hown, hts⟩
  have hfr : ∀ j, j ≠ 0 → j ≠ 13 → ct j = ct j := fun _ _ _ => rfl
  refine lv_aload_n hx hb dX10_forecast_0 rfl (lv_at hl 0 rfl) ?_
  refine lv_iconst (v := 0) hx hb dX10_forecast_1 (by decide) ?_
  refine kg_put (v := .int 0) (ty := .int) (C := RX10) (T := TX10) (N := 9) (fs' := [.ref (ad 1), .ref (ad 3), .int (nI nt), .ref (ad 4), .ref (ad 9), .ref (ad 11), .ref (ad 12), .ref (ad 13), .int 0]) hx hb hts hinX10 tyX10 tyX10_ok nmX10 hown hK hw h0 rfl 8 (by decide) (hts (.fieldLink RX10 179 "BetMaker" "latestFault" "I") (by decide +kernel)) (fun _ h9 => h9) rfl (by decide +kernel) rfl rfl (Nat.le_of_ble_eq_true rfl) rfl dX10_forecast_2 (fun H locs hw => ?_)
  obtain ⟨ct_1, ect_1⟩ : ∃ z, z = kw_up ct 0 (.inr (10, [.ref (ad 1), .ref (ad 3), .int (nI nt), .ref (ad 4), .ref (ad 9), .ref (ad 11), .ref (ad 12), .ref (ad 13), .int 0])) := ⟨_, rfl⟩
  rw [← ect_1] at hw
  have h_2 : ct_1 1 = some (.inr (3, [.ref (ad 2), .int (nI N), .int b, .long ss, .long g, .int cm])) := by rw [ect_1, kw_up_n (by omega)]; exact h1
  have h_3 : ct_1 11 = some (eQ tc 5 4 qs) := by rw [ect_1, kw_up_n (by omega)]; exact h11
  have h_4 : ct_1 13 = some (eI tc 8 tk) := by rw [ect_1, kw_up_n (by omega)]; exact h13
  have h_5 : ct_1 (20 + k) = some (.inr (6, [.ref (ad (24 + k)), .int (kb (th = true)), .int ln, .int (nI n)])) := by rw [ect_1, kw_up_n (by omega)]; exact h20
  have h_6 : ct_1 (24 + k) = some (eI tc 24 sc) := by rw [ect_1, kw_up_n (by omega)]; exact h24
  have h_7 : ct_1 9 = some (.inr (2, [.ref (ad 10), .int (nI nf)])) := by rw [ect_1, kw_up_n (by omega)]; exact h9
  have h_8 : ct_1 0 = some (.inr (10, [.ref (ad 1), .ref (ad 3), .int (nI nt), .ref (ad 4), .ref (ad 9), .ref (ad 11), .ref (ad 12), .ref (ad 13), .int 0])) := by rw [ect_1]; exact kw_up_s
  have hfr_9 : ∀ j, j ≠ 0 → j ≠ 13 → ct_1 j = ct j := fun j a0 a1 => by rw [ect_1]; exact (kw_up_n a0).trans (hfr j a0 a1)
  refine lv_aload_n hx hb dX10_forecast_5 rfl (lv_at hl 0 rfl) ?_
  refine lv_iload_n hx hb dX10_forecast_6 rfl (lv_at hl 1 rfl) ?_
  refine kc_v (As := [.int (nI k)]) (rest := []) S0 (c_X10_findSheet l D tc s.heap.size ad ct_1 (k := k) (nt := nt) h_8 h_3 hk4 hqs) (cwV 1 hts gX10_forecast_X10_findSheet rfl rfl rfl (by decide +kernel) ⟨Nat.le_of_ble_eq_true rfl, Nat.le_of_ble_eq_true rfl⟩) hK hw h_8 rfl rfl hl.1 rfl (Nat.le_of_ble_eq_true rfl) dX10_forecast_7 ⟨Nat.le_of_ble_eq_true rfl, (Nat.le_of_ble_eq_true rfl)⟩ ?_
  refine lv_astore (lv' := [(5, .ref (ad (20 + k))), (0, .ref (ad 0)), (1, .int (nI k)), (2, .int lane), (3, .int (nI i)), (4, .int c1)]) hx hb dX10_forecast_10 hl (by decide) rfl (fun ls hl => ?_)
  refine lv_aload hx hb dX10_forecast_12 (lv_at hl 0 rfl) ?_
  refine lv_ifnull hx hb dX10_forecast_14 ?_
  refine lv_aload_n hx hb dX10_forecast_17 rfl (lv_at hl 1 rfl) ?_
  refine kg_get (v := .ref (ad 1)) (C := RX10) (T := TX10) (N := 9) hx hb hts hinX10 hown hK hw h_8 rfl 0 (by decide) (hts (.fieldLink RX10 12 "BetMaker" "maker" "LBetMaker$Maker;") (by decide +kernel)) (fun _ h9 => h9) rfl dX10_forecast_18 ?_
  refine lv_iload hx hb dX10_forecast_21 (lv_at hl 5 rfl) ?_
  refine kc_v (As := [.int c1]) (rest := []) S0 (c_X3_isCase l D tc s.heap.size ad ct_1 (N := N) h_2) (cwV 1 hts gX10_forecast_X3_isCase rfl rfl rfl (by decide +kernel) ⟨Nat.le_of_ble_eq_true rfl, Nat.le_of_ble_eq_true rfl⟩) hK hw h_2 rfl rfl hl.1 rfl (Nat.le_of_ble_eq_true rfl) dX10_forecast_23 ⟨Nat.le_of_ble_eq_true rfl, (Nat.le_of_ble_eq_true rfl)⟩ ?_
  refine kb_ifne (tgt := 31) hx hb dX10_forecast_26 (by decide) (fun c_10 => ?_) (fun c_10 => ?_)
  · refine lv_aload_n hx hb dX10_forecast_31 rfl (lv_at hl 1 rfl) ?_
    refine lv_aload hx hb dX10_forecast_32 (lv_at hl 0 rfl) ?_
    refine lv_iload_n hx hb dX10_forecast_34 rfl (lv_at hl 3 rfl) ?_
    refine lv_iload_n hx hb dX10_forecast_35 rfl (lv_at hl 4 rfl) ?_
    refine kc_vu (As := [.ref (ad (20 + k)), .int lane, .int (nI i)]) (rest := []) S0 (c_X10_takeWeights l D tc s.heap.size ad ct_1 (k := k) (i := i) (nt := nt) (N := N) (n := n) h_8 h_2 h_4 h_5 h_6 hL hdf hiN hn24 hN hok hnz) (cwV 3 hts gX10_forecast_X10_takeWeights rfl rfl rfl (by decide +kernel) ⟨Nat.le_of_ble_eq_true rfl, Nat.le_of_ble_eq_true rfl⟩) hK hw hA h_8 rfl rfl hl.1 rfl (Nat.le_of_ble_eq_true rfl) dX10_forecast_36 ⟨Nat.le_of_ble_eq_true rfl, (Nat.le_of_ble_eq_true rfl)⟩ (fun H locs hw => ?_)
    obtain ⟨ct_11, ect_11⟩ : ∃ z, z = kw_up ct_1 13 (eI tc 8 (kCp tk (fun z => sc (i + z)) N)) := ⟨_, rfl⟩
    rw [← ect_11] at hw
    have h_12 : ct_11 1 = some (.inr (3, [.ref (ad 2), .int (nI N), .int b, .long ss, .long g, .int cm])) := by rw [ect_11, kw_up_n (by omega)]; exact h_2
    have h_13 : ct_11 11 = some (eQ tc 5 4 qs) := by rw [ect_11, kw_up_n (by omega)]; exact h_3
    have h_14 : ct_11 (20 + k) = some (.inr (6, [.ref (ad (24 + k)), .int (kb (th = true)), .int ln, .int (nI n)])) := by rw [ect_11, kw_up_n (by omega)]; exact h_5
    have h_15 : ct_11 (24 + k) = some (eI tc 24 sc) := by rw [ect_11, kw_up_n (by omega)]; exact h_6
    have h_16 : ct_11 9 = some (.inr (2, [.ref (ad 10), .int (nI nf)])) := by rw [ect_11, kw_up_n (by omega)]; exact h_7
    have h_17 : ct_11 0 = some (.inr (10, [.ref (ad 1), .ref (ad 3), .int (nI nt), .ref (ad 4), .ref (ad 9), .ref (ad 11), .ref (ad 12), .ref (ad 13), .int 0])) := by rw [ect_11, kw_up_n (by omega)]; exact h_8
    have h_18 : ct_11 13 = some (eI tc 8 (kCp tk (fun z => sc (i + z)) N)) := by rw [ect_11]; exact kw_up_s
    have hfr_19 : ∀ j, j ≠ 0 → j ≠ 13 → ct_11 j = ct j := fun j a0 a1 => by rw [ect_11]; exact (kw_up_n a1).trans (hfr_9 j a0 a1)
    refine lv_istore (lv' := [(6, .int (sw (fun z => sc (i + z)) N)), (5, .ref (ad (20 + k))), (0, .ref (ad 0)), (1, .int (nI k)), (2, .int lane), (3, .int (nI i)), (4, .int c1)]) hx hb dX10_forecast_39 hl (by decide) rfl (fun ls hl => ?_)
    refine lv_iload hx hb dX10_forecast_41 (lv_at hl 0 rfl) ?_
    refine lv_if_gt (tgt := 49) hx hb dX10_forecast_43 (by decide) (fun c_20 => ?_) (fun c_20 => ?_)
    · refine lv_aload_n hx hb dX10_forecast_49 rfl (lv_at hl 2 rfl) ?_
      refine kg_get (v := .ref (ad 9)) (C := RX10) (T := TX10) (N := 9) hx hb hts hinX10 hown hK hw h_17 rfl 4 (by decide) (hts (.fieldLink RX10 34 "BetMaker" "forecasts" "LBetMaker$Log;") (by decide +kernel)) (fun _ h9 => h9) rfl dX10_forecast_50 ?_
      refine kc_v (As := []) (rest := []) S0 (c_X2_isFull l D tc s.heap.size ad ct_11 (nf := nf) h_16 (by omega)) (cwV 0 hts gX10_forecast_X2_isFull rfl rfl rfl (by decide +kernel) ⟨Nat.le_of_ble_eq_true rfl, Nat.le_of_ble_eq_true rfl⟩) hK hw h_16 rfl rfl hl.1 rfl (Nat.le_of_ble_eq_true rfl) dX10_forecast_53 ⟨Nat.le_of_ble_eq_true rfl, (Nat.le_of_ble_eq_true rfl)⟩ ?_
      refine kb_ifeq (tgt := 62) hx hb dX10_forecast_56 (by decide) (fun c_21 => ?_) (fun c_21 => ?_)
      · exfalso; omega
      · refine lv_bipush (v := (-4)) hx hb dX10_forecast_59 (by decide) ?_
        have hq_22 := h_17
        have hq_23 := h_18
        have hend := kw_eq2 hq_22 hq_23 hfr_19
        rw [hend] at hw
        exact W.iret hx hb hr (fun t ht _ => ⟨rfl, by rw [ht]; exact hw.1, hw.2.2.1, hw.2.1.F ht, by rw [ht]; exact hw.2.2.2⟩) hw.2.1.2.2 dX10_forecast_61
    · exact absurd hle c_20
  · exact absurd hc1 c_10
set_option maxHeartbeats 4000000 in
set_option maxRecDepth 100000 in
theorem c_X10_forecast (l : Launch) (D : va_G) (tc : Nat → ClassId) (sz : Nat) (ad : Nat → Nat) (ct : Nat → Option va_E) {N nt nf n k i c : Nat} {b cm lf ln : Int32} {ss g : Int64}  {qf qs : Nat → Option Nat} {tk sc : Nat → Int32} {th : Bool} {lane : Int32} (h0 : ct 0 = some (.inr (10, [.ref (ad 1), .ref (ad 3), .int (nI nt), .ref (ad 4), .ref (ad 9), .ref (ad 11), .ref (ad 12), .ref (ad 13), .int lf]))) (h1 : ct 1 = some (.inr (3, [.ref (ad 2), .int (nI N), .int b, .long ss, .long g, .int cm]))) (h11 : ct 11 = some (eQ tc 5 4 qs)) (h13 : ct 13 = some (eI tc 8 tk)) (h20 : ct (20 + k) = some (.inr (6, [.ref (ad (24 + k)), .int (kb (th = true)), .int ln, .int (nI n)]))) (h24 : ct (24 + k) = some (eI tc 24 sc)) (h9 : ct 9 = some (.inr (2, [.ref (ad 10), .int (nI nf)]))) (h10 : ct 10 = some (eQ tc 2 40 qf)) (hk4 : k < 4) (hqs : qs k = some (ad (20 + k))) (hL : 0 ≤ lane ∧ lane ≤ 2) (hdf : kDF th ln lane (nI i) n (nI N) = 0) (hiN : i + N ≤ n) (hn24 : n ≤ 24) (hN : N ≤ 8) (hcc : c < N) (hok : kall (kWc (fun z => sc (i + z))) N = true) (hnz : ¬ sw (fun z => sc (i + z)) N = 0) (hle : 0 < sw (fun z => sc (i + z)) N) (hnf : nf < 40) (hN8 : N < 8) (hka : ct (100 + nf) = none) (hkaa : ad (100 + nf) = sz) (hkb : ct (140 + nf) = none) (hkba : ad (140 + nf) = sz + 1) : Met l yX10_forecast wsX10_forecast ({ frames := 3, cells := 2, slots := 12, locals := 84 }) (va_Pc [.ref (ad 0), .int (nI k), .int lane, .int (nI i), .int (nI c)] (kw_B D tc sz ad ct)) (kw_Q D ad (kw_A ad ct sz) (some (.int (nI nf))) (kw_up (kw_up (kw_up (kw_up (kw_up (kw_up ct 0 (.inr (10, [.ref (ad 1), .ref (ad 3), .int (nI nt), .ref (ad 4), .ref (ad 9), .ref (ad 11), .ref (ad 12), .ref (ad 13), .int 0]))) 13 (eI tc 8 (kCp tk (fun z => sc (i + z)) N))) 9 (.inr (2, [.ref (ad 10), .int (nI (nf + 1))]))) 10 (eQ tc 2 40 (va_up qf nf (some (ad (100 + nf)))))) (100 + nf) (.inr (1, [.ref (ad (140 + nf)), .int (nI c), .long (su (fun c => ((kCp (fun _ => 0) (kCp tk (fun z => sc (i + z)) N) N) c).toInt64) N), .long (su (fun c => ((kCp (fun _ => 0) (kCp tk (fun z => sc (i + z)) N) N) c * (kCp (fun _ => 0) (kCp tk (fun z => sc (i + z)) N) N) c).toInt64) N)]))) (140 + nf) (eI tc N (kCp (fun _ => 0) (kCp tk (fun z => sc (i + z)) N) N))) 2) 2 12 (kw_A ad ct sz) := by
  refine Met.ofW (cc := cX10_forecast) (maxL := 7) (ret := (some .int)) (by decide) rfl ?_
  intro pg en s m args below meth cod s₁ B hml hv
  obtain ⟨rfl, hsz, hP0, hK⟩ := hv
  have hx := B.exec
  have hb := B.bytes
  have hr := B.returns
  have hts := atoms_spec (ws := wsX10_forecast) B.pre
  have hown : s.vm.findClass RX10 = some m.cls := findClass_of_methodNamed B.named
  have hlocks := B.notSynchronized
  subst hsz
  have hw := kw_H.start hP0
  generalize hAe : kw_A ad ct s.heap.size = A at hw ⊢
  have hA : ∀ q, s.heap.size ≤ q → A q := fun q h => by rw [← hAe]; exact Or.inr h
  have hinX1 : ∀ w ∈ wsX10, w ∈ wsX10_forecast := by decide +kernel
  have hinX10 : ∀ w ∈ wsX100, w ∈ wsX10_forecast := by decide +kernel
  have hl := lv_entry ([.ref (ad 0), .int (nI k), .int lane, .int (nI i), .int (nI c)]) (n := 7) (Nat.le_of_ble_eq_true rfl)
  rw [lg_entry_eq]
  generalize (lg_sl ([.ref (ad 0), .int (nI k), .int lane, .int (nI i), .int (nI c)]) ++ List.replicate (7 - (lg_sl ([.ref (ad 0), .int (nI k), .int lane, .int (nI i), .int (nI c)])).length) Slot.unset).toArray = ls at hl ⊢
  have hl : lv_has ls 7 [(0, .ref (ad 0)), (1, .int (nI k)), (2, .int lane), (3, .int (nI i)), (4, .int (nI c))] := hl
  have S0 : CallFix pg m cod cX10_forecast 7 s _ wsX10_forecast RX10 := ⟨hx, hb, hml, hown, hts⟩
  have hfr : ∀ j, j ≠ 0 → j ≠ 13 → j ≠ 9 → j ≠ 10 → j ≠ (100 + nf) → j ≠ (140 + nf) → ct j = ct j := fun _ _ _ _ _ _ _ => rfl
  have hc1 : 0 ≤ nI c ∧ nI c < nI N := ⟨nI_pos' (by omega), nI_lt hcc (by omega)⟩
  refine lv_aload_n hx hb dX10_forecast_0 rfl (lv_at hl 0 rfl) ?_
  refine lv_iconst (v := 0) hx hb dX10_forecast_1 (by decide) ?_
  refine kg_put (v := .int 0) (ty := .int) (C := RX10) (T := TX10) (N := 9) (fs' := [.ref (ad 1), .ref (ad 3), .int (nI nt), .ref (ad 4), .ref (ad 9), .ref (ad 11), .ref (ad 12), .ref (ad 13), .int 0]) hx hb hts hinX10 tyX10 tyX10_ok nmX10 hown hK hw h0 rfl 8 (by decide) (hts (.fieldLink RX10 179 "BetMaker" "latestFault" "I") (by decide +kernel)) (fun _ h9 => h9) rfl (by decide +kernel) rfl rfl (Nat.le_of_ble_eq_true rfl) rfl dX10_forecast_2 (fun H locs hw => ?_)
  obtain ⟨ct_1, ect_1⟩ : ∃ z, z = kw_up ct 0 (.inr (10, [.ref (ad 1), .ref (ad 3), .int (nI nt), .ref (ad 4), .ref (ad 9), .ref (ad 11), .ref (ad 12), .ref (ad 13), .int 0])) := ⟨_, rfl⟩
  rw [← ect_1] at hw
  have h_2 : ct_1 1 = some (.inr (3, [.ref (ad 2), .int (nI N), .int b, .long ss, .long g, .int cm])) := by rw [ect_1, kw_up_n (by omega)]; exact h1
  have h_3 : ct_1 11 = some (eQ tc 5 4 qs) := by rw [ect_1, kw_up_n (by omega)]; exact h11
  have h_4 : ct_1 13 = some (eI tc 8 tk) := by rw [ect_1, kw_up_n (by omega)]; exact h13
  have h_5 : ct_1 (20 + k) = some (.inr (6, [.ref (ad (24 + k)), .int (kb (th = true)), .int ln, .int (nI n)])) := by rw [ect_1, kw_up_n (by omega)]; exact h20
  have h_6 : ct_1 (24 + k) = some (eI tc 24 sc) := by rw [ect_1, kw_up_n (by omega)]; exact h24
  have h_7 : ct_1 9 = some (.inr (2, [.ref (ad 10), .int (nI nf)])) := by rw [ect_1, kw_up_n (by omega)]; exact h9
  have h_8 : ct_1 10 = some (eQ tc 2 40 qf) := by rw [ect_1, kw_up_n (by omega)]; exact h10
  have h_9 : ct_1 0 = some (.inr (10, [.ref (ad 1), .ref (ad 3), .int (nI nt), .ref (ad 4), .ref (ad 9), .ref (ad 11), .ref (ad 12), .ref (ad 13), .int 0])) := by rw [ect_1]; exact kw_up_s
  have h_10 : ct_1 (100 + nf) = none := by rw [ect_1, kw_up_n (by omega)]; exact hka
  have h_11 : ct_1 (140 + nf) = none := by rw [ect_1, kw_up_n (by omega)]; exact hkb
  have hfr_12 : ∀ j, j ≠ 0 → j ≠ 13 → j ≠ 9 → j ≠ 10 → j ≠ (100 + nf) → j ≠ (140 + nf) → ct_1 j = ct j := fun j a0 a1 a2 a3 a4 a5 => by rw [ect_1]; exact (kw_up_n a0).trans (hfr j a0 a1 a2 a3 a4 a5)
  refine lv_aload_n hx hb dX10_forecast_5 rfl (lv_at hl 0 rfl) ?_
  refine lv_iload_n hx hb dX10_forecast_6 rfl (lv_at hl 1 rfl) ?_
  refine kc_v (As := [.int (nI k)]) (rest := []) S0 (c_X10_findSheet l D tc s.heap.size ad ct_1 (k := k) (nt := nt) h_9 h_3 hk4 hqs) (cwV 1 hts gX10_forecast_X10_findSheet rfl rfl rfl (by decide +kernel) ⟨Nat.le_of_ble_eq_true rfl, Nat.le_of_ble_eq_true rfl⟩) hK hw h_9 rfl rfl hl.1 rfl (Nat.le_of_ble_eq_true rfl) dX10_forecast_7 ⟨Nat.le_of_ble_eq_true rfl, (Nat.le_of_ble_eq_true rfl)⟩ ?_
  refine lv_astore (lv' := [(5, .ref (ad (20 + k))), (0, .ref (ad 0)), (1, .int (nI k)), (2, .int lane), (3, .int (nI i)), (4, .int (nI c))]) hx hb dX10_forecast_10 hl (by decide) rfl (fun ls hl => ?_)
  refine lv_aload hx hb dX10_forecast_12 (lv_at hl 0 rfl) ?_
  refine lv_ifnull hx hb dX10_forecast_14 ?_
  refine lv_aload_n hx hb dX10_forecast_17 rfl (lv_at hl 1 rfl) ?_
  refine kg_get (v := .ref (ad 1)) (C := RX10) (T := TX10) (N := 9) hx hb hts hinX10 hown hK hw h_9 rfl 0 (by decide) (hts (.fieldLink RX10 12 "BetMaker" "maker" "LBetMaker$Maker;") (by decide +kernel)) (fun _ h9 => h9) rfl dX10_forecast_18 ?_
  refine lv_iload hx hb dX10_forecast_21 (lv_at hl 5 rfl) ?_
  refine kc_v (As := [.int (nI c)]) (rest := []) S0 (c_X3_isCase l D tc s.heap.size ad ct_1 (N := N) h_2) (cwV 1 hts gX10_forecast_X3_isCase rfl rfl rfl (by decide +kernel) ⟨Nat.le_of_ble_eq_true rfl, Nat.le_of_ble_eq_true rfl⟩) hK hw h_2 rfl rfl hl.1 rfl (Nat.le_of_ble_eq_true rfl) dX10_forecast_23 ⟨Nat.le_of_ble_eq_true rfl, (Nat.le_of_ble_eq_true rfl)⟩ ?_
  refine kb_ifne (tgt := 31) hx hb dX10_forecast_26 (by decide) (fun c_13 => ?_) (fun c_13 => ?_)
  · refine lv_aload_n hx hb dX10_forecast_31 rfl (lv_at hl 1 rfl) ?_
    refine lv_aload hx hb dX10_forecast_32 (lv_at hl 0 rfl) ?_
    refine lv_iload_n hx hb dX10_forecast_34 rfl (lv_at hl 3 rfl) ?_
    refine lv_iload_n hx hb dX10_forecast_35 rfl (lv_at hl 4 rfl) ?_
    refine kc_vu (As := [.ref (ad (20 + k)), .int lane, .int (nI i)]) (rest := []) S0 (c_X10_takeWeights l D tc s.heap.size ad ct_1 (k := k) (i := i) (nt := nt) (N := N) (n := n) h_9 h_2 h_4 h_5 h_6 hL hdf hiN hn24 (by omega) hok hnz) (cwV 3 hts gX10_forecast_X10_takeWeights rfl rfl rfl (by decide +kernel) ⟨Nat.le_of_ble_eq_true rfl, Nat.le_of_ble_eq_true rfl⟩) hK hw hA h_9 rfl rfl hl.1 rfl (Nat.le_of_ble_eq_true rfl) dX10_forecast_36 ⟨Nat.le_of_ble_eq_true rfl, (Nat.le_of_ble_eq_true rfl)⟩ (fun H locs hw => ?_)
    obtain ⟨ct_14, ect_14⟩ : ∃ z, z = kw_up ct_1 13 (eI tc 8 (kCp tk (fun z => sc (i + z)) N)) := ⟨_, rfl⟩
    rw [← ect_14] at hw
    have h_15 : ct_14 1 = some (.inr (3, [.ref (ad 2), .int (nI N), .int b, .long ss, .long g, .int cm])) := by rw [ect_14, kw_up_n (by omega)]; exact h_2
    have h_16 : ct_14 11 = some (eQ tc 5 4 qs) := by rw [ect_14, kw_up_n (by omega)]; exact h_3
    have h_17 : ct_14 (20 + k) = some (.inr (6, [.ref (ad (24 + k)), .int (kb (th = true)), .int ln, .int (nI n)])) := by rw [ect_14, kw_up_n (by omega)]; exact h_5
    have h_18 : ct_14 (24 + k) = some (eI tc 24 sc) := by rw [ect_14, kw_up_n (by omega)]; exact h_6
    have h_19 : ct_14 9 = some (.inr (2, [.ref (ad 10), .int (nI nf)])) := by rw [ect_14, kw_up_n (by omega)]; exact h_7
    have h_20 : ct_14 10 = some (eQ tc 2 40 qf) := by rw [ect_14, kw_up_n (by omega)]; exact h_8
    have h_21 : ct_14 0 = some (.inr (10, [.ref (ad 1), .ref (ad 3), .int (nI nt), .ref (ad 4), .ref (ad 9), .ref (ad 11), .ref (ad 12), .ref (ad 13), .int 0])) := by rw [ect_14, kw_up_n (by omega)]; exact h_9
    have h_22 : ct_14 13 = some (eI tc 8 (kCp tk (fun z => sc (i + z)) N)) := by rw [ect_14]; exact kw_up_s
    have h_23 : ct_14 (100 + nf) = none := by rw [ect_14, kw_up_n (by omega)]; exact h_10
    have h_24 : ct_14 (140 + nf) = none := by rw [ect_14, kw_up_n (by omega)]; exact h_11
    have hfr_25 : ∀ j, j ≠ 0 → j ≠ 13 → j ≠ 9 → j ≠ 10 → j ≠ (100 + nf) → j ≠ (140 + nf) → ct_14 j = ct j := fun j a0 a1 a2 a3 a4 a5 => by rw [ect_14]; exact (kw_up_n a1).trans (hfr_12 j a0 a1 a2 a3 a4 a5)
    refine lv_istore (lv' := [(6, .int (sw (fun z => sc (i + z)) N)), (5, .ref (ad (20 + k))), (0, .ref (ad 0)), (1, .int (nI k)), (2, .int lane), (3, .int (nI i)), (4, .int (nI c))]) hx hb dX10_forecast_39 hl (by decide) rfl (fun ls hl => ?_)
    refine lv_iload hx hb dX10_forecast_41 (lv_at hl 0 rfl) ?_
    refine lv_if_gt (tgt := 49) hx hb dX10_forecast_43 (by decide) (fun c_26 => ?_) (fun c_26 => ?_)
    · refine lv_aload_n hx hb dX10_forecast_49 rfl (lv_at hl 2 rfl) ?_
      refine kg_get (v := .ref (ad 9)) (C := RX10) (T := TX10) (N := 9) hx hb hts hinX10 hown hK hw h_21 rfl 4 (by decide) (hts (.fieldLink RX10 34 "BetMaker" "forecasts" "LBetMaker$Log;") (by decide +kernel)) (fun _ h9 => h9) rfl dX10_forecast_50 ?_
      refine kc_v (As := []) (rest := []) S0 (c_X2_isFull l D tc s.heap.size ad ct_14 (nf := nf) h_19 (by omega)) (cwV 0 hts gX10_forecast_X2_isFull rfl rfl rfl (by decide +kernel) ⟨Nat.le_of_ble_eq_true rfl, Nat.le_of_ble_eq_true rfl⟩) hK hw h_19 rfl rfl hl.1 rfl (Nat.le_of_ble_eq_true rfl) dX10_forecast_53 ⟨Nat.le_of_ble_eq_true rfl, (Nat.le_of_ble_eq_true rfl)⟩ ?_
      refine kb_ifeq (tgt := 62) hx hb dX10_forecast_56 (by decide) (fun c_27 => ?_) (fun c_27 => ?_)
      · refine lv_aload_n hx hb dX10_forecast_62 rfl (lv_at hl 2 rfl) ?_
        refine kg_get (v := .ref (ad 9)) (C := RX10) (T := TX10) (N := 9) hx hb hts hinX10 hown hK hw h_21 rfl 4 (by decide) (hts (.fieldLink RX10 34 "BetMaker" "forecasts" "LBetMaker$Log;") (by decide +kernel)) (fun _ h9 => h9) rfl dX10_forecast_63 ?_
        refine kg_new (ci := 1) (C := RX1) (T := TX1) (N := 4) (fs := [.null, .int 0, .long 0, .long 0]) hx hb hts hinX1 tyX1 tyX1_ok hown (hts (.classLink RX10 229 RX1) (by decide +kernel)) (hts (.instantiable RX1 4) (by decide +kernel)) (hts (.initialized RX1) (by decide +kernel)) hK hw hA (100 + nf) h_23 hkaa rfl (fun j hj => by rcases (show j = 0 ∨ j = 1 ∨ j = 2 ∨ j = 3 by omega) with rfl | rfl | rfl | rfl <;> rfl) (Nat.le_of_ble_eq_true rfl) (Nat.le_of_ble_eq_true rfl) dX10_forecast_66 (fun H hw => ?_)
        obtain ⟨ct_28, ect_28⟩ : ∃ z, z = kw_up ct_14 (100 + nf) (.inr (1, [.null, .int 0, .long 0, .long 0])) := ⟨_, rfl⟩
        rw [← ect_28] at hw
        have h_29 : ct_28 1 = some (.inr (3, [.ref (ad 2), .int (nI N), .int b, .long ss, .long g, .int cm])) := by rw [ect_28, kw_up_n (by omega)]; exact h_15
        have h_30 : ct_28 11 = some (eQ tc 5 4 qs) := by rw [ect_28, kw_up_n (by omega)]; exact h_16
        have h_31 : ct_28 (20 + k) = some (.inr (6, [.ref (ad (24 + k)), .int (kb (th = true)), .int ln, .int (nI n)])) := by rw [ect_28, kw_up_n (by omega)]; exact h_17
        have h_32 : ct_28 (24 + k) = some (eI tc 24 sc) := by rw [ect_28, kw_up_n (by omega)]; exact h_18
        have h_33 : ct_28 9 = some (.inr (2, [.ref (ad 10), .int (nI nf)])) := by rw [ect_28, kw_up_n (by omega)]; exact h_19
        have h_34 : ct_28 10 = some (eQ tc 2 40 qf) := by rw [ect_28, kw_up_n (by omega)]; exact h_20
        have h_35 : ct_28 0 = some (.inr (10, [.ref (ad 1), .ref (ad 3), .int (nI nt), .ref (ad 4), .ref (ad 9), .ref (ad 11), .ref (ad 12), .ref (ad 13), .int 0])) := by rw [ect_28, kw_up_n (by omega)]; exact h_21
        have h_36 : ct_28 13 = some (eI tc 8 (kCp tk (fun z => sc (i + z)) N)) := by rw [ect_28, kw_up_n (by omega)]; exact h_22
        have h_37 : ct_28 (100 + nf) = some (.inr (1, [.null, .int 0, .long 0, .long 0])) := by rw [ect_28]; exact kw_up_s
        have h_38 : ct_28 (140 + nf) = none := by rw [ect_28, kw_up_n (by omega)]; exact h_24
        have hfr_39 : ∀ j, j ≠ 0 → j ≠ 13 → j ≠ 9 → j ≠ 10 → j ≠ (100 + nf) → j ≠ (140 + nf) → ct_28 j = ct j := fun j a0 a1 a2 a3 a4 a5 => by rw [ect_28]; exact (kw_up_n a4).trans (hfr_25 j a0 a1 a2 a3 a4 a5)
        refine lv_dup hx hb dX10_forecast_69 rfl ?_
        refine lv_aload_n hx hb dX10_forecast_70 rfl (lv_at hl 2 rfl) ?_
        refine kg_get (v := .ref (ad 13)) (C := RX10) (T := TX10) (N := 9) hx hb hts hinX10 hown hK hw h_35 rfl 7 (by decide) (hts (.fieldLink RX10 51 "BetMaker" "taken" "[I") (by decide +kernel)) (fun _ h9 => h9) rfl dX10_forecast_71 ?_
        refine lv_aload_n hx hb dX10_forecast_74 rfl (lv_at hl 2 rfl) ?_
        refine kg_get (v := .ref (ad 1)) (C := RX10) (T := TX10) (N := 9) hx hb hts hinX10 hown hK hw h_35 rfl 0 (by decide) (hts (.fieldLink RX10 12 "BetMaker" "maker" "LBetMaker$Maker;") (by decide +kernel)) (fun _ h9 => h9) rfl dX10_forecast_75 ?_
        refine kc_v (As := []) (rest := [.ref (ad 13), .ref (ad (100 + nf)), .ref (ad (100 + nf)), .ref (ad 9)]) S0 (c_X3_cases l D tc (s.heap.size + 1) ad ct_28 (N := N) h_29) (cwV 0 hts gX10_forecast_X3_cases rfl rfl rfl (by decide +kernel) ⟨Nat.le_of_ble_eq_true rfl, Nat.le_of_ble_eq_true rfl⟩) hK hw h_29 rfl rfl hl.1 rfl (Nat.le_of_ble_eq_true rfl) dX10_forecast_78 ⟨Nat.le_of_ble_eq_true rfl, (Nat.le_of_ble_eq_true rfl)⟩ ?_
        refine kc_su (As := [.ref (ad 13), .int (nI N)]) (rest := [.ref (ad (100 + nf)), .ref (ad (100 + nf)), .ref (ad 9)]) S0 (c_J7_copyOf_59c91 l D tc (s.heap.size + 1) ad ct_28 (fx := nf) (N := N) h_36 hN8 h_38 hkba) (va_cwS 2 hts gX10_forecast_J7_copyOf_59c91 rfl rfl rfl (by decide +kernel) ⟨Nat.le_of_ble_eq_true rfl, Nat.le_of_ble_eq_true rfl⟩) hK hw hA rfl hl.1 rfl (Nat.le_of_ble_eq_true rfl) dX10_forecast_81 ⟨Nat.le_of_ble_eq_true rfl, (Nat.le_of_ble_eq_true rfl)⟩ (fun H locs hw => ?_)
        obtain ⟨ct_40, ect_40⟩ : ∃ z, z = kw_up ct_28 (140 + nf) (eI tc N (kCp (fun _ => 0) (kCp tk (fun z => sc (i + z)) N) N)) := ⟨_, rfl⟩
        rw [← ect_40] at hw
        have h_41 : ct_40 1 = some (.inr (3, [.ref (ad 2), .int (nI N), .int b, .long ss, .long g, .int cm])) := by rw [ect_40, kw_up_n (by omega)]; exact h_29
        have h_42 : ct_40 11 = some (eQ tc 5 4 qs) := by rw [ect_40, kw_up_n (by omega)]; exact h_30
        have h_43 : ct_40 (20 + k) = some (.inr (6, [.ref (ad (24 + k)), .int (kb (th = true)), .int ln, .int (nI n)])) := by rw [ect_40, kw_up_n (by omega)]; exact h_31
        have h_44 : ct_40 (24 + k) = some (eI tc 24 sc) := by rw [ect_40, kw_up_n (by omega)]; exact h_32
        have h_45 : ct_40 9 = some (.inr (2, [.ref (ad 10), .int (nI nf)])) := by rw [ect_40, kw_up_n (by omega)]; exact h_33
        have h_46 : ct_40 10 = some (eQ tc 2 40 qf) := by rw [ect_40, kw_up_n (by omega)]; exact h_34
        have h_47 : ct_40 0 = some (.inr (10, [.ref (ad 1), .ref (ad 3), .int (nI nt), .ref (ad 4), .ref (ad 9), .ref (ad 11), .ref (ad 12), .ref (ad 13), .int 0])) := by rw [ect_40, kw_up_n (by omega)]; exact h_35
        have h_48 : ct_40 13 = some (eI tc 8 (kCp tk (fun z => sc (i + z)) N)) := by rw [ect_40, kw_up_n (by omega)]; exact h_36
        have h_49 : ct_40 (100 + nf) = some (.inr (1, [.null, .int 0, .long 0, .long 0])) := by rw [ect_40, kw_up_n (by omega)]; exact h_37
        have h_50 : ct_40 (140 + nf) = some (eI tc N (kCp (fun _ => 0) (kCp tk (fun z => sc (i + z)) N) N)) := by rw [ect_40]; exact kw_up_s
        have hfr_51 : ∀ j, j ≠ 0 → j ≠ 13 → j ≠ 9 → j ≠ 10 → j ≠ (100 + nf) → j ≠ (140 + nf) → ct_40 j = ct j := fun j a0 a1 a2 a3 a4 a5 => by rw [ect_40]; exact (kw_up_n a5).trans (hfr_39 j a0 a1 a2 a3 a4 a5)
        refine lv_iload hx hb dX10_forecast_84 (lv_at hl 6 rfl) ?_
        refine kc_iu (As := [.ref (ad (140 + nf)), .int (nI c)]) (rest := [.ref (ad (100 + nf)), .ref (ad 9)]) S0 (c_X1_init l D tc (s.heap.size + 2) ad ct_40 (cf := c) h_49 h_50 (by omega)) (cwI 2 hts gX10_forecast_X1_init rfl rfl rfl (hts (.initialized RX1) (by decide +kernel)) (hts (.methodLink RX10 237 yX1_init) (by decide +kernel)) (hts (.instanceMethod yX1_init) (by decide +kernel)) rfl (by decide +kernel) ⟨Nat.le_of_ble_eq_true rfl, Nat.le_of_ble_eq_true rfl⟩) hK hw hA rfl hl.1 rfl (Nat.le_of_ble_eq_true rfl) dX10_forecast_86 ⟨Nat.le_of_ble_eq_true rfl, (Nat.le_of_ble_eq_true rfl)⟩ (fun H locs hw => ?_)
        obtain ⟨ct_52, ect_52⟩ : ∃ z, z = kw_up ct_40 (100 + nf) (.inr (1, [.ref (ad (140 + nf)), .int (nI c), .long (su (fun c => ((kCp (fun _ => 0) (kCp tk (fun z => sc (i + z)) N) N) c).toInt64) N), .long (su (fun c => ((kCp (fun _ => 0) (kCp tk (fun z => sc (i + z)) N) N) c * (kCp (fun _ => 0) (kCp tk (fun z => sc (i + z)) N) N) c).toInt64) N)])) := ⟨_, rfl⟩
        rw [← ect_52] at hw
        have h_53 : ct_52 1 = some (.inr (3, [.ref (ad 2), .int (nI N), .int b, .long ss, .long g, .int cm])) := by rw [ect_52, kw_up_n (by omega)]; exact h_41
        have h_54 : ct_52 11 = some (eQ tc 5 4 qs) := by rw [ect_52, kw_up_n (by omega)]; exact h_42
        have h_55 : ct_52 (20 + k) = some (.inr (6, [.ref (ad (24 + k)), .int (kb (th = true)), .int ln, .int (nI n)])) := by rw [ect_52, kw_up_n (by omega)]; exact h_43
        have h_56 : ct_52 (24 + k) = some (eI tc 24 sc) := by rw [ect_52, kw_up_n (by omega)]; exact h_44
        have h_57 : ct_52 9 = some (.inr (2, [.ref (ad 10), .int (nI nf)])) := by rw [ect_52, kw_up_n (by omega)]; exact h_45
        have h_58 : ct_52 10 = some (eQ tc 2 40 qf) := by rw [ect_52, kw_up_n (by omega)]; exact h_46
        have h_59 : ct_52 0 = some (.inr (10, [.ref (ad 1), .ref (ad 3), .int (nI nt), .ref (ad 4), .ref (ad 9), .ref (ad 11), .ref (ad 12), .ref (ad 13), .int 0])) := by rw [ect_52, kw_up_n (by omega)]; exact h_47
        have h_60 : ct_52 13 = some (eI tc 8 (kCp tk (fun z => sc (i + z)) N)) := by rw [ect_52, kw_up_n (by omega)]; exact h_48
        have h_61 : ct_52 (140 + nf) = some (eI tc N (kCp (fun _ => 0) (kCp tk (fun z => sc (i + z)) N) N)) := by rw [ect_52, kw_up_n (by omega)]; exact h_50
        have h_62 : ct_52 (100 + nf) = some (.inr (1, [.ref (ad (140 + nf)), .int (nI c), .long (su (fun c => ((kCp (fun _ => 0) (kCp tk (fun z => sc (i + z)) N) N) c).toInt64) N), .long (su (fun c => ((kCp (fun _ => 0) (kCp tk (fun z => sc (i + z)) N) N) c * (kCp (fun _ => 0) (kCp tk (fun z => sc (i + z)) N) N) c).toInt64) N)])) := by rw [ect_52]; exact kw_up_s
        have hfr_63 : ∀ j, j ≠ 0 → j ≠ 13 → j ≠ 9 → j ≠ 10 → j ≠ (100 + nf) → j ≠ (140 + nf) → ct_52 j = ct j := fun j a0 a1 a2 a3 a4 a5 => by rw [ect_52]; exact (kw_up_n a4).trans (hfr_51 j a0 a1 a2 a3 a4 a5)
        refine kc_vu (As := [.ref (ad (100 + nf))]) (rest := []) S0 (c_X2_add l D tc (s.heap.size + 2) ad ct_52 (fx := nf) (nf := nf) (cf := c) h_57 h_58 h_62 (by omega)) (cwV 1 hts gX10_forecast_X2_add rfl rfl rfl (by decide +kernel) ⟨Nat.le_of_ble_eq_true rfl, Nat.le_of_ble_eq_true rfl⟩) hK hw hA h_57 rfl rfl hl.1 rfl (Nat.le_of_ble_eq_true rfl) dX10_forecast_89 ⟨Nat.le_of_ble_eq_true rfl, (Nat.le_of_ble_eq_true rfl)⟩ (fun H locs hw => ?_)
        obtain ⟨ct_64, ect_64⟩ : ∃ z, z = kw_up (kw_up ct_52 9 (.inr (2, [.ref (ad 10), .int (nI (nf + 1))]))) 10 (eQ tc 2 40 (va_up qf nf (some (ad (100 + nf))))) := ⟨_, rfl⟩
        rw [← ect_64] at hw
        have h_65 : ct_64 1 = some (.inr (3, [.ref (ad 2), .int (nI N), .int b, .long ss, .long g, .int cm])) := by rw [ect_64, kw_up_n (by omega), kw_up_n (by omega)]; exact h_53
        have h_66 : ct_64 11 = some (eQ tc 5 4 qs) := by rw [ect_64, kw_up_n (by omega), kw_up_n (by omega)]; exact h_54
        have h_67 : ct_64 (20 + k) = some (.inr (6, [.ref (ad (24 + k)), .int (kb (th = true)), .int ln, .int (nI n)])) := by rw [ect_64, kw_up_n (by omega), kw_up_n (by omega)]; exact h_55
        have h_68 : ct_64 (24 + k) = some (eI tc 24 sc) := by rw [ect_64, kw_up_n (by omega), kw_up_n (by omega)]; exact h_56
        have h_69 : ct_64 0 = some (.inr (10, [.ref (ad 1), .ref (ad 3), .int (nI nt), .ref (ad 4), .ref (ad 9), .ref (ad 11), .ref (ad 12), .ref (ad 13), .int 0])) := by rw [ect_64, kw_up_n (by omega), kw_up_n (by omega)]; exact h_59
        have h_70 : ct_64 13 = some (eI tc 8 (kCp tk (fun z => sc (i + z)) N)) := by rw [ect_64, kw_up_n (by omega), kw_up_n (by omega)]; exact h_60
        have h_71 : ct_64 (140 + nf) = some (eI tc N (kCp (fun _ => 0) (kCp tk (fun z => sc (i + z)) N) N)) := by rw [ect_64, kw_up_n (by omega), kw_up_n (by omega)]; exact h_61
        have h_72 : ct_64 (100 + nf) = some (.inr (1, [.ref (ad (140 + nf)), .int (nI c), .long (su (fun c => ((kCp (fun _ => 0) (kCp tk (fun z => sc (i + z)) N) N) c).toInt64) N), .long (su (fun c => ((kCp (fun _ => 0) (kCp tk (fun z => sc (i + z)) N) N) c * (kCp (fun _ => 0) (kCp tk (fun z => sc (i + z)) N) N) c).toInt64) N)])) := by rw [ect_64, kw_up_n (by omega), kw_up_n (by omega)]; exact h_62
        have h_73 : ct_64 9 = some (.inr (2, [.ref (ad 10), .int (nI (nf + 1))])) := by rw [ect_64, kw_up_n (by omega)]; exact kw_up_s
        have h_74 : ct_64 10 = some (eQ tc 2 40 (va_up qf nf (some (ad (100 + nf))))) := by rw [ect_64]; exact kw_up_s
        have hfr_75 : ∀ j, j ≠ 0 → j ≠ 13 → j ≠ 9 → j ≠ 10 → j ≠ (100 + nf) → j ≠ (140 + nf) → ct_64 j = ct j := fun j a0 a1 a2 a3 a4 a5 => by rw [ect_64]; exact (kw_up_n a3).trans ((kw_up_n a2).trans (hfr_63 j a0 a1 a2 a3 a4 a5))
        have hq_76 := h_69
        have hq_77 := h_70
        have hq_78 := h_73
        have hq_79 := h_74
        have hq_80 := h_72
        have hq_81 := h_71
        have hend := kw_eq6 hq_76 hq_77 hq_78 hq_79 hq_80 hq_81 hfr_75
        rw [hend] at hw
        refine W.widen (k := 2) (n := 12) (Nat.le_of_ble_eq_true rfl) (Nat.le_of_ble_eq_true rfl) ?_
        exact W.iret hx hb hr (fun t ht _ => ⟨rfl, by rw [ht]; exact hw.1, hw.2.2.1, hw.2.1.F ht, by rw [ht]; exact hw.2.2.2⟩) hw.2.1.2.2 dX10_forecast_92
      · exfalso; omega
    · exact absurd hle c_26
  · exact absurd hc1 c_13
set_option maxHeartbeats 4000000 in
set_option maxRecDepth 100000 in
theorem c_X10_forecast_8 (l : Launch) (D : va_G) (tc : Nat → ClassId) (sz : Nat) (ad : Nat → Nat) (ct : Nat → Option va_E) {N nt nf n k i c : Nat} {b cm lf ln : Int32} {ss g : Int64}  {qf qs : Nat → Option Nat} {tk sc : Nat → Int32} {th : Bool} {lane : Int32} (h0 : ct 0 = some (.inr (10, [.ref (ad 1), .ref (ad 3), .int (nI nt), .ref (ad 4), .ref (ad 9), .ref (ad 11), .ref (ad 12), .ref (ad 13), .int lf]))) (h1 : ct 1 = some (.inr (3, [.ref (ad 2), .int (nI N), .int b, .long ss, .long g, .int cm]))) (h11 : ct 11 = some (eQ tc 5 4 qs)) (h13 : ct 13 = some (eI tc 8 tk)) (h20 : ct (20 + k) = some (.inr (6, [.ref (ad (24 + k)), .int (kb (th = true)), .int ln, .int (nI n)]))) (h24 : ct (24 + k) = some (eI tc 24 sc)) (h9 : ct 9 = some (.inr (2, [.ref (ad 10), .int (nI nf)]))) (h10 : ct 10 = some (eQ tc 2 40 qf)) (hk4 : k < 4) (hqs : qs k = some (ad (20 + k))) (hL : 0 ≤ lane ∧ lane ≤ 2) (hdf : kDF th ln lane (nI i) n (nI N) = 0) (hiN : i + N ≤ n) (hn24 : n ≤ 24) (hN : N ≤ 8) (hcc : c < N) (hok : kall (kWc (fun z => sc (i + z))) N = true) (hnz : ¬ sw (fun z => sc (i + z)) N = 0) (hle : 0 < sw (fun z => sc (i + z)) N) (hnf : nf < 40) (hN8 : N = 8) (hka : ct (100 + nf) = none) (hkaa : ad (100 + nf) = sz) (hkb : ct (140 + nf) = none) (hkba : ad (140 + nf) = sz + 1) : Met l yX10_forecast wsX10_forecast ({ frames := 3, cells := 2, slots := 12, locals := 84 }) (va_Pc [.ref (ad 0), .int (nI k), .int lane, .int (nI i), .int (nI c)] (kw_B D tc sz ad ct)) (kw_Q D ad (kw_A ad ct sz) (some (.int (nI nf))) (kw_up (kw_up (kw_up (kw_up (kw_up (kw_up ct 0 (.inr (10, [.ref (ad 1), .ref (ad 3), .int (nI nt), .ref (ad 4), .ref (ad 9), .ref (ad 11), .ref (ad 12), .ref (ad 13), .int 0]))) 13 (eI tc 8 (kCp tk (fun z => sc (i + z)) N))) 9 (.inr (2, [.ref (ad 10), .int (nI (nf + 1))]))) 10 (eQ tc 2 40 (va_up qf nf (some (ad (100 + nf)))))) (100 + nf) (.inr (1, [.ref (ad (140 + nf)), .int (nI c), .long (su (fun c => ((kCp tk (fun z => sc (i + z)) N) c).toInt64) 8), .long (su (fun c => ((kCp tk (fun z => sc (i + z)) N) c * (kCp tk (fun z => sc (i + z)) N) c).toInt64) 8)]))) (140 + nf) (eI tc 8 (kCp tk (fun z => sc (i + z)) N))) 2) 2 12 (kw_A ad ct sz) := by
  refine Met.ofW (cc := cX10_forecast) (maxL := 7) (ret := (some .int)) (by decide) rfl ?_
  intro pg en s m args below meth cod s₁ B hml hv
  obtain ⟨rfl, hsz, hP0, hK⟩ := hv
  have hx := B.exec
  have hb := B.bytes
  have hr := B.returns
  have hts := atoms_spec (ws := wsX10_forecast) B.pre
  have hown : s.vm.findClass RX10 = some m.cls := findClass_of_methodNamed B.named
  have hlocks := B.notSynchronized
  subst hsz
  have hw := kw_H.start hP0
  generalize hAe : kw_A ad ct s.heap.size = A at hw ⊢
  have hA : ∀ q, s.heap.size ≤ q → A q := fun q h => by rw [← hAe]; exact Or.inr h
  have hinX1 : ∀ w ∈ wsX10, w ∈ wsX10_forecast := by decide +kernel
  have hinX10 : ∀ w ∈ wsX100, w ∈ wsX10_forecast := by decide +kernel
  have hl := lv_entry ([.ref (ad 0), .int (nI k), .int lane, .int (nI i), .int (nI c)]) (n := 7) (Nat.le_of_ble_eq_true rfl)
  rw [lg_entry_eq]
  generalize (lg_sl ([.ref (ad 0), .int (nI k), .int lane, .int (nI i), .int (nI c)]) ++ List.replicate (7 - (lg_sl ([.ref (ad 0), .int (nI k), .int lane, .int (nI i), .int (nI c)])).length) Slot.unset).toArray = ls at hl ⊢
  have hl : lv_has ls 7 [(0, .ref (ad 0)), (1, .int (nI k)), (2, .int lane), (3, .int (nI i)), (4, .int (nI c))] := hl
  have S0 : CallFix pg m cod cX10_forecast 7 s _ wsX10_forecast RX10 := ⟨hx, hb, hml, hown, hts⟩
  have hfr : ∀ j, j ≠ 0 → j ≠ 13 → j ≠ 9 → j ≠ 10 → j ≠ (100 + nf) → j ≠ (140 + nf) → ct j = ct j := fun _ _ _ _ _ _ _ => rfl
  have hc1 : 0 ≤ nI c ∧ nI c < nI N := ⟨nI_pos' (by omega), nI_lt hcc (by omega)⟩
  refine lv_aload_n hx hb dX10_forecast_0 rfl (lv_at hl 0 rfl) ?_
  refine lv_iconst (v := 0) hx hb dX10_forecast_1 (by decide) ?_
  refine kg_put (v := .int 0) (ty := .int) (C := RX10) (T := TX10) (N := 9) (fs' := [.ref (ad 1), .ref (ad 3), .int (nI nt), .ref (ad 4), .ref (ad 9), .ref (ad 11), .ref (ad 12), .ref (ad 13), .int 0]) hx hb hts hinX10 tyX10 tyX10_ok nmX10 hown hK hw h0 rfl 8 (by decide) (hts (.fieldLink RX10 179 "BetMaker" "latestFault" "I") (by decide +kernel)) (fun _ h9 => h9) rfl (by decide +kernel) rfl rfl (Nat.le_of_ble_eq_true rfl) rfl dX10_forecast_2 (fun H locs hw => ?_)
  obtain ⟨ct_1, ect_1⟩ : ∃ z, z = kw_up ct 0 (.inr (10, [.ref (ad 1), .ref (ad 3), .int (nI nt), .ref (ad 4), .ref (ad 9), .ref (ad 11), .ref (ad 12), .ref (ad 13), .int 0])) := ⟨_, rfl⟩
  rw [← ect_1] at hw
  have h_2 : ct_1 1 = some (.inr (3, [.ref (ad 2), .int (nI N), .int b, .long ss, .long g, .int cm])) := by rw [ect_1, kw_up_n (by omega)]; exact h1
  have h_3 : ct_1 11 = some (eQ tc 5 4 qs) := by rw [ect_1, kw_up_n (by omega)]; exact h11
  have h_4 : ct_1 13 = some (eI tc 8 tk) := by rw [ect_1, kw_up_n (by omega)]; exact h13
  have h_5 : ct_1 (20 + k) = some (.inr (6, [.ref (ad (24 + k)), .int (kb (th = true)), .int ln, .int (nI n)])) := by rw [ect_1, kw_up_n (by omega)]; exact h20
  have h_6 : ct_1 (24 + k) = some (eI tc 24 sc) := by rw [ect_1, kw_up_n (by omega)]; exact h24
  have h_7 : ct_1 9 = some (.inr (2, [.ref (ad 10), .int (nI nf)])) := by rw [ect_1, kw_up_n (by omega)]; exact h9
  have h_8 : ct_1 10 = some (eQ tc 2 40 qf) := by rw [ect_1, kw_up_n (by omega)]; exact h10
  have h_9 : ct_1 0 = some (.inr (10, [.ref (ad 1), .ref (ad 3), .int (nI nt), .ref (ad 4), .ref (ad 9), .ref (ad 11), .ref (ad 12), .ref (ad 13), .int 0])) := by rw [ect_1]; exact kw_up_s
  have h_10 : ct_1 (100 + nf) = none := by rw [ect_1, kw_up_n (by omega)]; exact hka
  have h_11 : ct_1 (140 + nf) = none := by rw [ect_1, kw_up_n (by omega)]; exact hkb
  have hfr_12 : ∀ j, j ≠ 0 → j ≠ 13 → j ≠ 9 → j ≠ 10 → j ≠ (100 + nf) → j ≠ (140 + nf) → ct_1 j = ct j := fun j a0 a1 a2 a3 a4 a5 => by rw [ect_1]; exact (kw_up_n a0).trans (hfr j a0 a1 a2 a3 a4 a5)
  refine lv_aload_n hx hb dX10_forecast_5 rfl (lv_at hl 0 rfl) ?_
  refine lv_iload_n hx hb dX10_forecast_6 rfl (lv_at hl 1 rfl) ?_
  refine kc_v (As := [.int (nI k)]) (rest := []) S0 (c_X10_findSheet l D tc s.heap.size ad ct_1 (k := k) (nt := nt) h_9 h_3 hk4 hqs) (cwV 1 hts gX10_forecast_X10_findSheet rfl rfl rfl (by decide +kernel) ⟨Nat.le_of_ble_eq_true rfl, Nat.le_of_ble_eq_true rfl⟩) hK hw h_9 rfl rfl hl.1 rfl (Nat.le_of_ble_eq_true rfl) dX10_forecast_7 ⟨Nat.le_of_ble_eq_true rfl, (Nat.le_of_ble_eq_true rfl)⟩ ?_
  refine lv_astore (lv' := [(5, .ref (ad (20 + k))), (0, .ref (ad 0)), (1, .int (nI k)), (2, .int lane), (3, .int (nI i)), (4, .int (nI c))]) hx hb dX10_forecast_10 hl (by decide) rfl (fun ls hl => ?_)
  refine lv_aload hx hb dX10_forecast_12 (lv_at hl 0 rfl) ?_
  refine lv_ifnull hx hb dX10_forecast_14 ?_
  refine lv_aload_n hx hb dX10_forecast_17 rfl (lv_at hl 1 rfl) ?_
  refine kg_get (v := .ref (ad 1)) (C := RX10) (T := TX10) (N := 9) hx hb hts hinX10 hown hK hw h_9 rfl 0 (by decide) (hts (.fieldLink RX10 12 "BetMaker" "maker" "LBetMaker$Maker;") (by decide +kernel)) (fun _ h9 => h9) rfl dX10_forecast_18 ?_
  refine lv_iload hx hb dX10_forecast_21 (lv_at hl 5 rfl) ?_
  refine kc_v (As := [.int (nI c)]) (rest := []) S0 (c_X3_isCase l D tc s.heap.size ad ct_1 (N := N) h_2) (cwV 1 hts gX10_forecast_X3_isCase rfl rfl rfl (by decide +kernel) ⟨Nat.le_of_ble_eq_true rfl, Nat.le_of_ble_eq_true rfl⟩) hK hw h_2 rfl rfl hl.1 rfl (Nat.le_of_ble_eq_true rfl) dX10_forecast_23 ⟨Nat.le_of_ble_eq_true rfl, (Nat.le_of_ble_eq_true rfl)⟩ ?_
  refine kb_ifne (tgt := 31) hx hb dX10_forecast_26 (by decide) (fun c_13 => ?_) (fun c_13 => ?_)
  · refine lv_aload_n hx hb dX10_forecast_31 rfl (lv_at hl 1 rfl) ?_
    refine lv_aload hx hb dX10_forecast_32 (lv_at hl 0 rfl) ?_
    refine lv_iload_n hx hb dX10_forecast_34 rfl (lv_at hl 3 rfl) ?_
    refine lv_iload_n hx hb dX10_forecast_35 rfl (lv_at hl 4 rfl) ?_
    refine kc_vu (As := [.ref (ad (20 + k)), .int lane, .int (nI i)]) (rest := []) S0 (c_X10_takeWeights l D tc s.heap.size ad ct_1 (k := k) (i := i) (nt := nt) (N := N) (n := n) h_9 h_2 h_4 h_5 h_6 hL hdf hiN hn24 (by omega) hok hnz) (cwV 3 hts gX10_forecast_X10_takeWeights rfl rfl rfl (by decide +kernel) ⟨Nat.le_of_ble_eq_true rfl, Nat.le_of_ble_eq_true rfl⟩) hK hw hA h_9 rfl rfl hl.1 rfl (Nat.le_of_ble_eq_true rfl) dX10_forecast_36 ⟨Nat.le_of_ble_eq_true rfl, (Nat.le_of_ble_eq_true rfl)⟩ (fun H locs hw => ?_)
    obtain ⟨ct_14, ect_14⟩ : ∃ z, z = kw_up ct_1 13 (eI tc 8 (kCp tk (fun z => sc (i + z)) N)) := ⟨_, rfl⟩
    rw [← ect_14] at hw
    have h_15 : ct_14 1 = some (.inr (3, [.ref (ad 2), .int (nI N), .int b, .long ss, .long g, .int cm])) := by rw [ect_14, kw_up_n (by omega)]; exact h_2
    have h_16 : ct_14 11 = some (eQ tc 5 4 qs) := by rw [ect_14, kw_up_n (by omega)]; exact h_3
    have h_17 : ct_14 (20 + k) = some (.inr (6, [.ref (ad (24 + k)), .int (kb (th = true)), .int ln, .int (nI n)])) := by rw [ect_14, kw_up_n (by omega)]; exact h_5
    have h_18 : ct_14 (24 + k) = some (eI tc 24 sc) := by rw [ect_14, kw_up_n (by omega)]; exact h_6
    have h_19 : ct_14 9 = some (.inr (2, [.ref (ad 10), .int (nI nf)])) := by rw [ect_14, kw_up_n (by omega)]; exact h_7
    have h_20 : ct_14 10 = some (eQ tc 2 40 qf) := by rw [ect_14, kw_up_n (by omega)]; exact h_8
    have h_21 : ct_14 0 = some (.inr (10, [.ref (ad 1), .ref (ad 3), .int (nI nt), .ref (ad 4), .ref (ad 9), .ref (ad 11), .ref (ad 12), .ref (ad 13), .int 0])) := by rw [ect_14, kw_up_n (by omega)]; exact h_9
    have h_22 : ct_14 13 = some (eI tc 8 (kCp tk (fun z => sc (i + z)) N)) := by rw [ect_14]; exact kw_up_s
    have h_23 : ct_14 (100 + nf) = none := by rw [ect_14, kw_up_n (by omega)]; exact h_10
    have h_24 : ct_14 (140 + nf) = none := by rw [ect_14, kw_up_n (by omega)]; exact h_11
    have hfr_25 : ∀ j, j ≠ 0 → j ≠ 13 → j ≠ 9 → j ≠ 10 → j ≠ (100 + nf) → j ≠ (140 + nf) → ct_14 j = ct j := fun j a0 a1 a2 a3 a4 a5 => by rw [ect_14]; exact (kw_up_n a1).trans (hfr_12 j a0 a1 a2 a3 a4 a5)
    refine lv_istore (lv' := [(6, .int (sw (fun z => sc (i + z)) N)), (5, .ref (ad (20 + k))), (0, .ref (ad 0)), (1, .int (nI k)), (2, .int lane), (3, .int (nI i)), (4, .int (nI c))]) hx hb dX10_forecast_39 hl (by decide) rfl (fun ls hl => ?_)
    refine lv_iload hx hb dX10_forecast_41 (lv_at hl 0 rfl) ?_
    refine lv_if_gt (tgt := 49) hx hb dX10_forecast_43 (by decide) (fun c_26 => ?_) (fun c_26 => ?_)
    · refine lv_aload_n hx hb dX10_forecast_49 rfl (lv_at hl 2 rfl) ?_
      refine kg_get (v := .ref (ad 9)) (C := RX10) (T := TX10) (N := 9) hx hb hts hinX10 hown hK hw h_21 rfl 4 (by decide) (hts (.fieldLink RX10 34 "BetMaker" "forecasts" "LBetMaker$Log;") (by decide +kernel)) (fun _ h9 => h9) rfl dX10_forecast_50 ?_
      refine kc_v (As := []) (rest := []) S0 (c_X2_isFull l D tc s.heap.size ad ct_14 (nf := nf) h_19 (by omega)) (cwV 0 hts gX10_forecast_X2_isFull rfl rfl rfl (by decide +kernel) ⟨Nat.le_of_ble_eq_true rfl, Nat.le_of_ble_eq_true rfl⟩) hK hw h_19 rfl rfl hl.1 rfl (Nat.le_of_ble_eq_true rfl) dX10_forecast_53 ⟨Nat.le_of_ble_eq_true rfl, (Nat.le_of_ble_eq_true rfl)⟩ ?_
      refine kb_ifeq (tgt := 62) hx hb dX10_forecast_56 (by decide) (fun c_27 => ?_) (fun c_27 => ?_)
      · refine lv_aload_n hx hb dX10_forecast_62 rfl (lv_at hl 2 rfl) ?_
        refine kg_get (v := .ref (ad 9)) (C := RX10) (T := TX10) (N := 9) hx hb hts hinX10 hown hK hw h_21 rfl 4 (by decide) (hts (.fieldLink RX10 34 "BetMaker" "forecasts" "LBetMaker$Log;") (by decide +kernel)) (fun _ h9 => h9) rfl dX10_forecast_63 ?_
        refine kg_new (ci := 1) (C := RX1) (T := TX1) (N := 4) (fs := [.null, .int 0, .long 0, .long 0]) hx hb hts hinX1 tyX1 tyX1_ok hown (hts (.classLink RX10 229 RX1) (by decide +kernel)) (hts (.instantiable RX1 4) (by decide +kernel)) (hts (.initialized RX1) (by decide +kernel)) hK hw hA (100 + nf) h_23 hkaa rfl (fun j hj => by rcases (show j = 0 ∨ j = 1 ∨ j = 2 ∨ j = 3 by omega) with rfl | rfl | rfl | rfl <;> rfl) (Nat.le_of_ble_eq_true rfl) (Nat.le_of_ble_eq_true rfl) dX10_forecast_66 (fun H hw => ?_)
        obtain ⟨ct_28, ect_28⟩ : ∃ z, z = kw_up ct_14 (100 + nf) (.inr (1, [.null, .int 0, .long 0, .long 0])) := ⟨_, rfl⟩
        rw [← ect_28] at hw
        have h_29 : ct_28 1 = some (.inr (3, [.ref (ad 2), .int (nI N), .int b, .long ss, .long g, .int cm])) := by rw [ect_28, kw_up_n (by omega)]; exact h_15
        have h_30 : ct_28 11 = some (eQ tc 5 4 qs) := by rw [ect_28, kw_up_n (by omega)]; exact h_16
        have h_31 : ct_28 (20 + k) = some (.inr (6, [.ref (ad (24 + k)), .int (kb (th = true)), .int ln, .int (nI n)])) := by rw [ect_28, kw_up_n (by omega)]; exact h_17
        have h_32 : ct_28 (24 + k) = some (eI tc 24 sc) := by rw [ect_28, kw_up_n (by omega)]; exact h_18
        have h_33 : ct_28 9 = some (.inr (2, [.ref (ad 10), .int (nI nf)])) := by rw [ect_28, kw_up_n (by omega)]; exact h_19
        have h_34 : ct_28 10 = some (eQ tc 2 40 qf) := by rw [ect_28, kw_up_n (by omega)]; exact h_20
        have h_35 : ct_28 0 = some (.inr (10, [.ref (ad 1), .ref (ad 3), .int (nI nt), .ref (ad 4), .ref (ad 9), .ref (ad 11), .ref (ad 12), .ref (ad 13), .int 0])) := by rw [ect_28, kw_up_n (by omega)]; exact h_21
        have h_36 : ct_28 13 = some (eI tc 8 (kCp tk (fun z => sc (i + z)) N)) := by rw [ect_28, kw_up_n (by omega)]; exact h_22
        have h_37 : ct_28 (100 + nf) = some (.inr (1, [.null, .int 0, .long 0, .long 0])) := by rw [ect_28]; exact kw_up_s
        have h_38 : ct_28 (140 + nf) = none := by rw [ect_28, kw_up_n (by omega)]; exact h_24
        have hfr_39 : ∀ j, j ≠ 0 → j ≠ 13 → j ≠ 9 → j ≠ 10 → j ≠ (100 + nf) → j ≠ (140 + nf) → ct_28 j = ct j := fun j a0 a1 a2 a3 a4 a5 => by rw [ect_28]; exact (kw_up_n a4).trans (hfr_25 j a0 a1 a2 a3 a4 a5)
        refine lv_dup hx hb dX10_forecast_69 rfl ?_
        refine lv_aload_n hx hb dX10_forecast_70 rfl (lv_at hl 2 rfl) ?_
        refine kg_get (v := .ref (ad 13)) (C := RX10) (T := TX10) (N := 9) hx hb hts hinX10 hown hK hw h_35 rfl 7 (by decide) (hts (.fieldLink RX10 51 "BetMaker" "taken" "[I") (by decide +kernel)) (fun _ h9 => h9) rfl dX10_forecast_71 ?_
        refine lv_aload_n hx hb dX10_forecast_74 rfl (lv_at hl 2 rfl) ?_
        refine kg_get (v := .ref (ad 1)) (C := RX10) (T := TX10) (N := 9) hx hb hts hinX10 hown hK hw h_35 rfl 0 (by decide) (hts (.fieldLink RX10 12 "BetMaker" "maker" "LBetMaker$Maker;") (by decide +kernel)) (fun _ h9 => h9) rfl dX10_forecast_75 ?_
        refine kc_v (As := []) (rest := [.ref (ad 13), .ref (ad (100 + nf)), .ref (ad (100 + nf)), .ref (ad 9)]) S0 (c_X3_cases l D tc (s.heap.size + 1) ad ct_28 (N := N) h_29) (cwV 0 hts gX10_forecast_X3_cases rfl rfl rfl (by decide +kernel) ⟨Nat.le_of_ble_eq_true rfl, Nat.le_of_ble_eq_true rfl⟩) hK hw h_29 rfl rfl hl.1 rfl (Nat.le_of_ble_eq_true rfl) dX10_forecast_78 ⟨Nat.le_of_ble_eq_true rfl, (Nat.le_of_ble_eq_true rfl)⟩ ?_
        refine kc_su (As := [.ref (ad 13), .int (nI N)]) (rest := [.ref (ad (100 + nf)), .ref (ad (100 + nf)), .ref (ad 9)]) S0 (c_J7_copyOf_59c91_8 l D tc (s.heap.size + 1) ad ct_28 (fx := nf) (N := N) h_36 hN8 h_38 hkba) (va_cwS 2 hts gX10_forecast_J7_copyOf_59c91 rfl rfl rfl (by decide +kernel) ⟨Nat.le_of_ble_eq_true rfl, Nat.le_of_ble_eq_true rfl⟩) hK hw hA rfl hl.1 rfl (Nat.le_of_ble_eq_true rfl) dX10_forecast_81 ⟨Nat.le_of_ble_eq_true rfl, (Nat.le_of_ble_eq_true rfl)⟩ (fun H locs hw => ?_)
        obtain ⟨ct_40, ect_40⟩ : ∃ z, z = kw_up ct_28 (140 + nf) (eI tc 8 (kCp tk (fun z => sc (i + z)) N)) := ⟨_, rfl⟩
        rw [← ect_40] at hw
        have h_41 : ct_40 1 = some (.inr (3, [.ref (ad 2), .int (nI N), .int b, .long ss, .long g, .int cm])) := by rw [ect_40, kw_up_n (by omega)]; exact h_29
        have h_42 : ct_40 11 = some (eQ tc 5 4 qs) := by rw [ect_40, kw_up_n (by omega)]; exact h_30
        have h_43 : ct_40 (20 + k) = some (.inr (6, [.ref (ad (24 + k)), .int (kb (th = true)), .int ln, .int (nI n)])) := by rw [ect_40, kw_up_n (by omega)]; exact h_31
        have h_44 : ct_40 (24 + k) = some (eI tc 24 sc) := by rw [ect_40, kw_up_n (by omega)]; exact h_32
        have h_45 : ct_40 9 = some (.inr (2, [.ref (ad 10), .int (nI nf)])) := by rw [ect_40, kw_up_n (by omega)]; exact h_33
        have h_46 : ct_40 10 = some (eQ tc 2 40 qf) := by rw [ect_40, kw_up_n (by omega)]; exact h_34
        have h_47 : ct_40 0 = some (.inr (10, [.ref (ad 1), .ref (ad 3), .int (nI nt), .ref (ad 4), .ref (ad 9), .ref (ad 11), .ref (ad 12), .ref (ad 13), .int 0])) := by rw [ect_40, kw_up_n (by omega)]; exact h_35
        have h_48 : ct_40 13 = some (eI tc 8 (kCp tk (fun z => sc (i + z)) N)) := by rw [ect_40, kw_up_n (by omega)]; exact h_36
        have h_49 : ct_40 (100 + nf) = some (.inr (1, [.null, .int 0, .long 0, .long 0])) := by rw [ect_40, kw_up_n (by omega)]; exact h_37
        have h_50 : ct_40 (140 + nf) = some (eI tc 8 (kCp tk (fun z => sc (i + z)) N)) := by rw [ect_40]; exact kw_up_s
        have hfr_51 : ∀ j, j ≠ 0 → j ≠ 13 → j ≠ 9 → j ≠ 10 → j ≠ (100 + nf) → j ≠ (140 + nf) → ct_40 j = ct j := fun j a0 a1 a2 a3 a4 a5 => by rw [ect_40]; exact (kw_up_n a5).trans (hfr_39 j a0 a1 a2 a3 a4 a5)
        refine lv_iload hx hb dX10_forecast_84 (lv_at hl 6 rfl) ?_
        refine kc_iu (As := [.ref (ad (140 + nf)), .int (nI c)]) (rest := [.ref (ad (100 + nf)), .ref (ad 9)]) S0 (c_X1_init l D tc (s.heap.size + 2) ad ct_40 (cf := c) h_49 h_50 (by omega)) (cwI 2 hts gX10_forecast_X1_init rfl rfl rfl (hts (.initialized RX1) (by decide +kernel)) (hts (.methodLink RX10 237 yX1_init) (by decide +kernel)) (hts (.instanceMethod yX1_init) (by decide +kernel)) rfl (by decide +kernel) ⟨Nat.le_of_ble_eq_true rfl, Nat.le_of_ble_eq_true rfl⟩) hK hw hA rfl hl.1 rfl (Nat.le_of_ble_eq_true rfl) dX10_forecast_86 ⟨Nat.le_of_ble_eq_true rfl, (Nat.le_of_ble_eq_true rfl)⟩ (fun H locs hw => ?_)
        obtain ⟨ct_52, ect_52⟩ : ∃ z, z = kw_up ct_40 (100 + nf) (.inr (1, [.ref (ad (140 + nf)), .int (nI c), .long (su (fun c => ((kCp tk (fun z => sc (i + z)) N) c).toInt64) 8), .long (su (fun c => ((kCp tk (fun z => sc (i + z)) N) c * (kCp tk (fun z => sc (i + z)) N) c).toInt64) 8)])) := ⟨_, rfl⟩
        rw [← ect_52] at hw
        have h_53 : ct_52 1 = some (.inr (3, [.ref (ad 2), .int (nI N), .int b, .long ss, .long g, .int cm])) := by rw [ect_52, kw_up_n (by omega)]; exact h_41
        have h_54 : ct_52 11 = some (eQ tc 5 4 qs) := by rw [ect_52, kw_up_n (by omega)]; exact h_42
        have h_55 : ct_52 (20 + k) = some (.inr (6, [.ref (ad (24 + k)), .int (kb (th = true)), .int ln, .int (nI n)])) := by rw [ect_52, kw_up_n (by omega)]; exact h_43
        have h_56 : ct_52 (24 + k) = some (eI tc 24 sc) := by rw [ect_52, kw_up_n (by omega)]; exact h_44
        have h_57 : ct_52 9 = some (.inr (2, [.ref (ad 10), .int (nI nf)])) := by rw [ect_52, kw_up_n (by omega)]; exact h_45
        have h_58 : ct_52 10 = some (eQ tc 2 40 qf) := by rw [ect_52, kw_up_n (by omega)]; exact h_46
        have h_59 : ct_52 0 = some (.inr (10, [.ref (ad 1), .ref (ad 3), .int (nI nt), .ref (ad 4), .ref (ad 9), .ref (ad 11), .ref (ad 12), .ref (ad 13), .int 0])) := by rw [ect_52, kw_up_n (by omega)]; exact h_47
        have h_60 : ct_52 13 = some (eI tc 8 (kCp tk (fun z => sc (i + z)) N)) := by rw [ect_52, kw_up_n (by omega)]; exact h_48
        have h_61 : ct_52 (140 + nf) = some (eI tc 8 (kCp tk (fun z => sc (i + z)) N)) := by rw [ect_52, kw_up_n (by omega)]; exact h_50
        have h_62 : ct_52 (100 + nf) = some (.inr (1, [.ref (ad (140 + nf)), .int (nI c), .long (su (fun c => ((kCp tk (fun z => sc (i + z)) N) c).toInt64) 8), .long (su (fun c => ((kCp tk (fun z => sc (i + z)) N) c * (kCp tk (fun z => sc (i + z)) N) c).toInt64) 8)])) := by rw [ect_52]; exact kw_up_s
        have hfr_63 : ∀ j, j ≠ 0 → j ≠ 13 → j ≠ 9 → j ≠ 10 → j ≠ (100 + nf) → j ≠ (140 + nf) → ct_52 j = ct j := fun j a0 a1 a2 a3 a4 a5 => by rw [ect_52]; exact (kw_up_n a4).trans (hfr_51 j a0 a1 a2 a3 a4 a5)
        refine kc_vu (As := [.ref (ad (100 + nf))]) (rest := []) S0 (c_X2_add l D tc (s.heap.size + 2) ad ct_52 (fx := nf) (nf := nf) (cf := c) h_57 h_58 h_62 (by omega)) (cwV 1 hts gX10_forecast_X2_add rfl rfl rfl (by decide +kernel) ⟨Nat.le_of_ble_eq_true rfl, Nat.le_of_ble_eq_true rfl⟩) hK hw hA h_57 rfl rfl hl.1 rfl (Nat.le_of_ble_eq_true rfl) dX10_forecast_89 ⟨Nat.le_of_ble_eq_true rfl, (Nat.le_of_ble_eq_true rfl)⟩ (fun H locs hw => ?_)
        obtain ⟨ct_64, ect_64⟩ : ∃ z, z = kw_up (kw_up ct_52 9 (.inr (2, [.ref (ad 10), .int (nI (nf + 1))]))) 10 (eQ tc 2 40 (va_up qf nf (some (ad (100 + nf))))) := ⟨_, rfl⟩
        rw [← ect_64] at hw
        have h_65 : ct_64 1 = some (.inr (3, [.ref (ad 2), .int (nI N), .int b, .long ss, .long g, .int cm])) := by rw [ect_64, kw_up_n (by omega), kw_up_n (by omega)]; exact h_53
        have h_66 : ct_64 11 = some (eQ tc 5 4 qs) := by rw [ect_64, kw_up_n (by omega), kw_up_n (by omega)]; exact h_54
        have h_67 : ct_64 (20 + k) = some (.inr (6, [.ref (ad (24 + k)), .int (kb (th = true)), .int ln, .int (nI n)])) := by rw [ect_64, kw_up_n (by omega), kw_up_n (by omega)]; exact h_55
        have h_68 : ct_64 (24 + k) = some (eI tc 24 sc) := by rw [ect_64, kw_up_n (by omega), kw_up_n (by omega)]; exact h_56
        have h_69 : ct_64 0 = some (.inr (10, [.ref (ad 1), .ref (ad 3), .int (nI nt), .ref (ad 4), .ref (ad 9), .ref (ad 11), .ref (ad 12), .ref (ad 13), .int 0])) := by rw [ect_64, kw_up_n (by omega), kw_up_n (by omega)]; exact h_59
        have h_70 : ct_64 13 = some (eI tc 8 (kCp tk (fun z => sc (i + z)) N)) := by rw [ect_64, kw_up_n (by omega), kw_up_n (by omega)]; exact h_60
        have h_71 : ct_64 (140 + nf) = some (eI tc 8 (kCp tk (fun z => sc (i + z)) N)) := by rw [ect_64, kw_up_n (by omega), kw_up_n (by omega)]; exact h_61
        have h_72 : ct_64 (100 + nf) = some (.inr (1, [.ref (ad (140 + nf)), .int (nI c), .long (su (fun c => ((kCp tk (fun z => sc (i + z)) N) c).toInt64) 8), .long (su (fun c => ((kCp tk (fun z => sc (i + z)) N) c * (kCp tk (fun z => sc (i + z)) N) c).toInt64) 8)])) := by rw [ect_64, kw_up_n (by omega), kw_up_n (by omega)]; exact h_62
        have h_73 : ct_64 9 = some (.inr (2, [.ref (ad 10), .int (nI (nf + 1))])) := by rw [ect_64, kw_up_n (by omega)]; exact kw_up_s
        have h_74 : ct_64 10 = some (eQ tc 2 40 (va_up qf nf (some (ad (100 + nf))))) := by rw [ect_64]; exact kw_up_s
        have hfr_75 : ∀ j, j ≠ 0 → j ≠ 13 → j ≠ 9 → j ≠ 10 → j ≠ (100 + nf) → j ≠ (140 + nf) → ct_64 j = ct j := fun j a0 a1 a2 a3 a4 a5 => by rw [ect_64]; exact (kw_up_n a3).trans ((kw_up_n a2).trans (hfr_63 j a0 a1 a2 a3 a4 a5))
        have hq_76 := h_69
        have hq_77 := h_70
        have hq_78 := h_73
        have hq_79 := h_74
        have hq_80 := h_72
        have hq_81 := h_71
        have hend := kw_eq6 hq_76 hq_77 hq_78 hq_79 hq_80 hq_81 hfr_75
        rw [hend] at hw
        refine W.widen (k := 2) (n := 12) (Nat.le_of_ble_eq_true rfl) (Nat.le_of_ble_eq_true rfl) ?_
        exact W.iret hx hb hr (fun t ht _ => ⟨rfl, by rw [ht]; exact hw.1, hw.2.2.1, hw.2.1.F ht, by rw [ht]; exact hw.2.2.2⟩) hw.2.1.2.2 dX10_forecast_92
      · exfalso; omega
    · exact absurd hle c_26
  · exact absurd hc1 c_13
