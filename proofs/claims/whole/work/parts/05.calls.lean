section KWC
variable {p : Program} {l : Launch} {e : Env} {R : Room} {s : State} {m : MethodId} {args : Array Value} {below : List Frame} {meth : Method} {c : Code} {H : Heap} {locs : List Loc} {cells slots : Nat} {Q : State → Prop}
variable {cc : ByteArray} {pc : Nat} {ls : Array Slot} {rest st0 : List Value} {D : va_G} {tc : Nat → ClassId} {ad : Nat → Nat} {A : Nat → Prop} {H0 : Heap} {ct ct' : Nat → Option va_E} {z dn : Nat}
variable {y : MethodName} {bytes : ByteArray} {maxL nL mc ms n index : Nat} {ret : Option FieldType} {ws Ts : List Cond} {rm : Room} {own C : String} {As : List Value} {a : Array Value}
theorem kc_blind : FrameBlind (va_Pc As (kw_B D tc n ad ct)) := fun _ _ _ _ q => ⟨q.1, q.2.1, q.2.2.1, q.2.2.2.same⟩
theorem kc_pS (hK : kw_K D tc s) (hw : kw_H D ad A H0 ct H locs z) : PreS s H (va_Pc As (kw_B D tc z ad ct)) As := ⟨kc_blind, fun U hU hW => ⟨rfl, by rw [hU]; exact hw.2.2.2, by rw [hU]; exact hw.1, hK.moved hW⟩⟩
theorem kc_recv (hK : kw_K D tc s) (hw : kw_H D ad A H0 ct H locs z) {q0 ci : Nat} {fs : List Value} {q : vw_C} (he : ct q0 = some (.inr (ci, fs))) (hc : vwCl[ci]? = some q) : ∃ cell : Cell, H[ad q0]? = some cell ∧ cell.vm.isStatics = false ∧ s.vm.findClass q.1 = some cell.cls := va_recv hK.1 (hw.1.at he) hc (q0 := 0) rfl
theorem kc_pV (hK : kw_K D tc s) (hw : kw_H D ad A H0 ct H locs z) {q0 ci : Nat} {fs : List Value} {q : vw_C} (he : ct q0 = some (.inr (ci, fs))) (hc : vwCl[ci]? = some q) : PreV s H q.1 (ad q0) (va_Pc (.ref (ad q0) :: As) (kw_B D tc z ad ct)) As := ⟨kc_blind, kc_recv hK hw he hc, fun U hU hW => ⟨rfl, by rw [hU]; exact hw.2.2.2, by rw [hU]; exact hw.1, hK.moved hW⟩⟩
/-- behind a call that changes cells and makes none -/
theorem kc_use {v : Option Value} (hr : va_Run p l e R s m args below meth c H locs cells slots mc ms (F0 m pc ls st0) rest (kw_Q D ad (kw_A ad ct z) v ct' dn a) (kw_A ad ct z)) (hw : kw_H D ad A H0 ct H locs z) (hA : ∀ q, H0.size ≤ q → A q)
    (kk : ∀ (H1 : Heap) (locs1 : List Loc), kw_H D ad A H0 ct' H1 locs1 (z + dn) → W p l e R s m args below meth c H1 locs1 (cells + mc) (slots + ms) Q (F0 m (pc + 3) ls (v.toList ++ rest))) : W p l e R s m args below meth c H locs cells slots Q (F0 m pc ls st0) := by
  have hAA : ∀ q, kw_A ad ct z q → A q := fun q h => h.elim (fun ⟨k, h1, h2⟩ => h2 ▸ hw.2.2.1 k h1) (fun h => hA q (Nat.le_trans hw.2.1.1 (by rw [hw.2.2.2]; exact h)))
  intro T hT X
  obtain ⟨v', st₀, t, T', L, h0, X', hL, e1, e2, ⟨hv, hP, hI, ⟨hz, hk⟩, hn⟩, st⟩ := hr T hT X
  cases hv
  rw [h0] at hz hk hn
  obtain ⟨t2, a1, b1⟩ := kk T'.heap (locs ++ L) ⟨by rw [e1]; exact hP, ⟨Nat.le_trans hw.2.1.1 (by rw [e1]; exact hz), fun q h1 h2 => by rw [e1, hk q (Nat.lt_of_lt_of_le h1 hw.2.1.1) (fun z => h2 (hAA q z))]; exact hw.2.1.2.1 q h1 h2, fun q hq => (List.mem_append.mp hq).elim (hw.2.1.2.2 q) (fun h => hAA _ (hL q h))⟩, fun k hk => hAA _ (hI k hk), by rw [e1, hn, hw.2.2.2]⟩ T' rfl X'
  exact ⟨t2, st t2 a1, b1⟩
/-- pure calls: virtual, static, static of a nest mate -/
theorem kc_v {r : Value} (S : CallFix p m c cc nL s args Ts own) {q0 ci : Nat} {fs : List Value} {T : u_T} {N : Nat} (hM : Met l y ws rm (va_Pc (.ref (ad q0) :: As) (kw_B D tc z ad ct)) (k2_QcV r) 0 0 (fun _ => False)) (cw : CallW R s args own C index y bytes maxL ret ws rm 0 0 n) (hK : kw_K D tc s) (hw : kw_H D ad A H0 ct H locs z) (he : ct q0 = some (.inr (ci, fs))) (hc : vwCl[ci]? = some (C, T, N))
    (hn : As.length = n) (hsz : ls.size = nL) (hst : st0 = As.reverse ++ .ref (ad q0) :: rest) (hrs : (rest.map fun v => v.category).sum ≤ 8) (hdg : decode cc pc = .ok (.invokevirtual index, 3)) (hf : cells ≤ R.cells ∧ slots ≤ R.slots)
    (kk : W p l e R s m args below meth c H locs cells slots Q (F0 m (pc + 3) ls (r :: rest))) : W p l e R s m args below meth c H locs cells slots Q (F0 m pc ls st0) :=
  W.callV (va_runV S hM cw (kc_pV hK hw he hc) rfl hn hsz hst (lv_room hrs) hdg hf).run kk
theorem kc_s {r : Value} (S : CallFix p m c cc nL s args Ts own) (hM : Met l y ws rm (va_Pc As (kw_B D tc z ad ct)) (k2_QcV r) 0 0 (fun _ => False)) (cw : CallB R s args own index y bytes maxL ret ws rm 0 0 n ∧ (Cond.static y).before args s = true) (hK : kw_K D tc s) (hw : kw_H D ad A H0 ct H locs z)
    (hn : As.length = n) (hsz : ls.size = nL) (hst : st0 = As.reverse ++ rest) (hrs : (rest.map fun v => v.category).sum ≤ 8) (hdg : decode cc pc = .ok (.invokestatic index, 3)) (hf : cells ≤ R.cells ∧ slots ≤ R.slots)
    (kk : W p l e R s m args below meth c H locs cells slots Q (F0 m (pc + 3) ls (r :: rest))) : W p l e R s m args below meth c H locs cells slots Q (F0 m pc ls st0) :=
  W.callV (va_runS S hM cw (kc_pS hK hw) rfl hn hsz hst (lv_room hrs) hdg hf).run kk
theorem kc_sn {r : Value} {host : String} (S : CallFix p m c cc nL s args Ts own) (hM : Met l y ws rm (va_Pc As (kw_B D tc z ad ct)) (k2_QcV r) 0 0 (fun _ => False)) (cw : va_CN R s args own index y host bytes maxL ret ws rm 0 0 n ∧ (Cond.static y).before args s = true ∧ True) (hK : kw_K D tc s) (hw : kw_H D ad A H0 ct H locs z)
    (hn : As.length = n) (hsz : ls.size = nL) (hst : st0 = As.reverse ++ rest) (hrs : (rest.map fun v => v.category).sum ≤ 8) (hdg : decode cc pc = .ok (.invokestatic index, 3)) (hf : cells ≤ R.cells ∧ slots ≤ R.slots)
    (kk : W p l e R s m args below meth c H locs cells slots Q (F0 m (pc + 3) ls (r :: rest))) : W p l e R s m args below meth c H locs cells slots Q (F0 m pc ls st0) :=
  W.callV (va_runSN S hM cw (kc_pS hK hw) rfl hn hsz hst (lv_room hrs) hdg hf).run kk
/-- calls that change cells: virtual, static, a constructor -/
theorem kc_vu {v : Option Value} (S : CallFix p m c cc nL s args Ts own) {q0 ci : Nat} {fs : List Value} {T : u_T} {N : Nat} (hM : Met l y ws rm (va_Pc (.ref (ad q0) :: As) (kw_B D tc z ad ct)) (kw_Q D ad (kw_A ad ct z) v ct' dn) mc ms (kw_A ad ct z)) (cw : CallW R s args own C index y bytes maxL ret ws rm mc ms n) (hK : kw_K D tc s) (hw : kw_H D ad A H0 ct H locs z) (hA : ∀ q, H0.size ≤ q → A q) (he : ct q0 = some (.inr (ci, fs))) (hc : vwCl[ci]? = some (C, T, N))
    (hn : As.length = n) (hsz : ls.size = nL) (hst : st0 = As.reverse ++ .ref (ad q0) :: rest) (hrs : (rest.map fun v => v.category).sum ≤ 8) (hdg : decode cc pc = .ok (.invokevirtual index, 3)) (hf : cells + mc ≤ R.cells ∧ slots + ms ≤ R.slots)
    (kk : ∀ (H1 : Heap) (locs1 : List Loc), kw_H D ad A H0 ct' H1 locs1 (z + dn) → W p l e R s m args below meth c H1 locs1 (cells + mc) (slots + ms) Q (F0 m (pc + 3) ls (v.toList ++ rest))) : W p l e R s m args below meth c H locs cells slots Q (F0 m pc ls st0) :=
  kc_use (va_runV S hM cw (kc_pV hK hw he hc) rfl hn hsz hst (lv_room hrs) hdg hf) hw hA kk
theorem kc_su {v : Option Value} (S : CallFix p m c cc nL s args Ts own) (hM : Met l y ws rm (va_Pc As (kw_B D tc z ad ct)) (kw_Q D ad (kw_A ad ct z) v ct' dn) mc ms (kw_A ad ct z)) (cw : CallB R s args own index y bytes maxL ret ws rm mc ms n ∧ (Cond.static y).before args s = true) (hK : kw_K D tc s) (hw : kw_H D ad A H0 ct H locs z) (hA : ∀ q, H0.size ≤ q → A q)
    (hn : As.length = n) (hsz : ls.size = nL) (hst : st0 = As.reverse ++ rest) (hrs : (rest.map fun v => v.category).sum ≤ 8) (hdg : decode cc pc = .ok (.invokestatic index, 3)) (hf : cells + mc ≤ R.cells ∧ slots + ms ≤ R.slots)
    (kk : ∀ (H1 : Heap) (locs1 : List Loc), kw_H D ad A H0 ct' H1 locs1 (z + dn) → W p l e R s m args below meth c H1 locs1 (cells + mc) (slots + ms) Q (F0 m (pc + 3) ls (v.toList ++ rest))) : W p l e R s m args below meth c H locs cells slots Q (F0 m pc ls st0) :=
  kc_use (va_runS S hM cw (kc_pS hK hw) rfl hn hsz hst (lv_room hrs) hdg hf) hw hA kk
theorem kc_iu {v : Option Value} (S : CallFix p m c cc nL s args Ts own) {q0 : Nat} (hM : Met l y ws rm (va_Pc (.ref (ad q0) :: As) (kw_B D tc z ad ct)) (kw_Q D ad (kw_A ad ct z) v ct' dn) mc ms (kw_A ad ct z)) (cw : CallB R s args own index y bytes maxL none ws rm mc ms n ∧ y.name = "<init>" ∧ (Cond.instanceMethod y).before args s = true) (hK : kw_K D tc s) (hw : kw_H D ad A H0 ct H locs z) (hA : ∀ q, H0.size ≤ q → A q)
    (hn : As.length = n) (hsz : ls.size = nL) (hst : st0 = As.reverse ++ .ref (ad q0) :: rest) (hrs : (rest.map fun v => v.category).sum ≤ 8) (hdg : decode cc pc = .ok (.invokespecial index, 3)) (hf : cells + mc ≤ R.cells ∧ slots + ms ≤ R.slots)
    (kk : ∀ (H1 : Heap) (locs1 : List Loc), kw_H D ad A H0 ct' H1 locs1 (z + dn) → W p l e R s m args below meth c H1 locs1 (cells + mc) (slots + ms) Q (F0 m (pc + 3) ls (v.toList ++ rest))) : W p l e R s m args below meth c H locs cells slots Q (F0 m pc ls st0) :=
  kc_use (va_runI S hM cw (kc_pS hK hw) rfl hn hsz hst (lv_room hrs) hdg hf) hw hA kk
/-- a cell is made -/
theorem kg_new {c0 : Code} (hexec : p.tables.exec = Jvm.exec) (hb : c0.code = cc) {T : u_T} {N ci : Nat} (hts : ∀ w ∈ Ts, w.before args s = true) (hin : ∀ w ∈ u_ws C T N, w ∈ Ts) (ty : Nat → FieldType) (hty : ∀ k, k < N → parseFieldDescriptor (T k).2.2.1 = some (ty k)) (hown : s.vm.findClass own = some m.cls) (hcl : (Cond.classLink own index C).before args s = true) (hinst : (Cond.instantiable C N).before args s = true) (hini : (Cond.initialized C).before args s = true)
    (hK : kw_K D tc s) (hw : kw_H D ad A H0 ct H locs z) (hA : ∀ q, H0.size ≤ q → A q) (q0 : Nat) (hq : ct q0 = none) (hz : ad q0 = z) (hc : vwCl[ci]? = some (C, T, N)) {fs : List Value} (hfs : ∀ j, j < N → defaultValue (ty j) = vp_V fs j) (hcells : cells + 1 ≤ R.cells) (hslots : slots + N ≤ R.slots) (hdg : decode cc pc = .ok (.new index, 3))
    (kk : ∀ (H1 : Heap), kw_H D ad A H0 (kw_up ct q0 (.inr (ci, fs))) H1 locs (z + 1) →
      W p l e R s m args below meth c0 H1 locs (cells + 1) (slots + N) Q (F0 m (pc + 3) ls (.ref (ad q0) :: rest))) : W p l e R s m args below meth c0 H locs cells slots Q (F0 m pc ls rest) := by
  have hKn := hK.1.1 ci _ hc
  refine W.newcK hexec hb hown hcl hinst hini rfl hdg hcells hslots hKn.2.1 rfl fun H1 kC hkC e1 z1 o1 => ?_
  have h := kk H1 (hw.new hA hq hz ⟨_, hc, (u_born ty hts hin hKn hkC e1 hty).to hfs⟩ z1 o1)
  rw [hz, ← hw.2.2.2] at h
  exact h
theorem kg_newi (hexec : p.tables.exec = Jvm.exec) (hb : c.code = cc) (harr : (Cond.arrayClass .int).before args s = true) (hK : kw_K D tc s) (hw : kw_H D ad A H0 ct H locs z) (hA : ∀ q, H0.size ≤ q → A q) (q0 : Nat) (hq : ct q0 = none) (hz : ad q0 = z) {i : Int32} (N : Nat) (hi : i = nI N) (hN : N < 2 ^ 24) (hcells : cells + 1 ≤ R.cells) (hslots : slots + N ≤ R.slots) (hdg : decode cc pc = .ok (.newarray .int, 2))
    (kk : ∀ (H1 : Heap), kw_H D ad A H0 (kw_up ct q0 (eI tc N (fun _ => 0))) H1 locs (z + 1) → W p l e R s m args below meth c H1 locs (cells + 1) (slots + N) Q (F0 m (pc + 2) ls (.ref (ad q0) :: rest))) : W p l e R s m args below meth c H locs cells slots Q (F0 m pc ls (.int i :: rest)) := by
  subst hi
  refine va_newaK (atype := .int) hexec hb harr rfl hdg rfl (nI_pos (by omega)) (nI_clamp (by omega)) (by show N * 4 ≤ _; omega) hcells hslots rfl fun H1 cA e1 z1 o1 hAr hNm => ?_
  have hcA : cA = tc 0 := Option.some.inj (hNm.symm.trans (hK.1.2 0 _ rfl).2)
  subst hcA
  have h := kk H1 (hw.new hA hq hz (by show H1[H.size]? = some (vp_cell _ _); rw [vp_cell_i]; exact e1) z1 o1)
  rw [hz, ← hw.2.2.2] at h
  exact h
theorem kg_newl (hexec : p.tables.exec = Jvm.exec) (hb : c.code = cc) (harr : (Cond.arrayClass .long).before args s = true) (hK : kw_K D tc s) (hw : kw_H D ad A H0 ct H locs z) (hA : ∀ q, H0.size ≤ q → A q) (q0 : Nat) (hq : ct q0 = none) (hz : ad q0 = z) {i : Int32} (N : Nat) (hi : i = nI N) (hN : N < 2 ^ 24) (hcells : cells + 1 ≤ R.cells) (hslots : slots + N ≤ R.slots) (hdg : decode cc pc = .ok (.newarray .long, 2))
    (kk : ∀ (H1 : Heap), kw_H D ad A H0 (kw_up ct q0 (eJ tc N (fun _ => 0))) H1 locs (z + 1) → W p l e R s m args below meth c H1 locs (cells + 1) (slots + N) Q (F0 m (pc + 2) ls (.ref (ad q0) :: rest))) : W p l e R s m args below meth c H locs cells slots Q (F0 m pc ls (.int i :: rest)) := by
  subst hi
  refine va_newaK (atype := .long) hexec hb harr rfl hdg rfl (nI_pos (by omega)) (nI_clamp (by omega)) (by show N * 8 ≤ _; omega) hcells hslots rfl fun H1 cA e1 z1 o1 hAr hNm => ?_
  have hcA : cA = tc 1 := Option.some.inj (hNm.symm.trans (hK.1.2 1 _ rfl).2)
  subst hcA
  have h := kk H1 (hw.new hA hq hz (by show H1[H.size]? = some (vp_cell _ _); rw [vp_cell_l]; exact e1) z1 o1)
  rw [hz, ← hw.2.2.2] at h
  exact h
theorem kg_newq (hexec : p.tables.exec = Jvm.exec) (hb : c.code = cc) (hown : s.vm.findClass own = some m.cls) (hclink : (Cond.classLink own index C).before args s = true) (hover : (Cond.arrayOver (.object C)).before args s = true) (hK : kw_K D tc s) (hw : kw_H D ad A H0 ct H locs z) (hA : ∀ q, H0.size ≤ q → A q) (t0 : Nat) (ht : (kw_t tc)[t0]? = some (tc t0, .object C)) (q0 : Nat) (hq : ct q0 = none) (hz : ad q0 = z) {i : Int32} (N : Nat) (hi : i = nI N) (hN : N < 2 ^ 24) (hcells : cells + 1 ≤ R.cells) (hslots : slots + N ≤ R.slots) (hdg : decode cc pc = .ok (.anewarray index, 3))
    (kk : ∀ (H1 : Heap), kw_H D ad A H0 (kw_up ct q0 (eQ tc t0 N (fun _ => none))) H1 locs (z + 1) → W p l e R s m args below meth c H1 locs (cells + 1) (slots + N) Q (F0 m (pc + 3) ls (.ref (ad q0) :: rest))) : W p l e R s m args below meth c H locs cells slots Q (F0 m pc ls (.int i :: rest)) := by
  subst hi
  have hcl := nI_clamp (n := N) (by omega)
  refine W.anew hexec hb hown hclink hover rfl hdg rfl (nI_pos (by omega)) (by rw [hcl]; omega) hcells (by rw [hcl]; exact hslots) fun cA kA comp f1 f2 f3 f4 => ?_
  generalize hH1 : H.push ({ cls := cA, slots := Array.replicate (nI N).toNatClampNeg .null, vm := .none } : Cell) = H1
  have z1 : H1.size = H.size + 1 := by rw [← hH1, Array.size_push]
  have e1 : H1[H.size]? = some (arrV cA N (fun _ => .null)) := by rw [← hH1, Array.getElem?_push_size, hcl, ← arrV_new]
  have o1 : ∀ q : Nat, q < H.size → H1[q]? = H[q]? := fun q hq => by rw [← hH1, Array.getElem?_push, if_neg (Nat.ne_of_lt hq)]
  have hcA : cA = tc t0 := by
    obtain ⟨_, _, _, _, _, g4⟩ := (hK.1.2 t0 _ ht).2
    exact Option.some.inj (f1.symm.trans g4)
  subst hcA
  have h := kk H1 (hw.new hA hq hz (by show H1[H.size]? = some (vp_cell _ _); rw [vp_cell_q]; exact e1) z1 o1)
  rw [hz, ← hw.2.2.2] at h
  rw [hcl]
  exact h
/-- a reference is put into an array: of its own class, or of a superclass that it may be cast to -/
theorem kg_aast (hexec : p.tables.exec = Jvm.exec) (hb : c.code = cc) (hK : kw_K D tc s) (hw : kw_H D ad A H0 ct H locs z) {q0 n q1 ci : Nat} {f : Nat → Option Nat} {vs : List Value} {r : vw_C} {C1 : String} (t0 : Nat) (ha : ct q0 = some (eQ tc t0 n f)) (ht : (kw_t tc)[t0]? = some (tc t0, .object C1)) (hv : ct q1 = some (.inr (ci, vs))) (hc : vwCl[ci]? = some r) (hcast : r.1 = C1 ∨ (Cond.castable r.1 C1).before args s = true) {i : Int32} (j : Nat) (hi : i = nI j) (hj : j < n) (hn : n < 2 ^ 31) (hdg : decode cc pc = .ok (.aastore, 1))
    (kk : ∀ (H1 : Heap) (locs1 : List Loc), kw_H D ad A H0 (kw_up ct q0 (eQ tc t0 n (va_up f j (some (ad q1))))) H1 locs1 z → W p l e R s m args below meth c H1 locs1 cells slots Q (F0 m (pc + 1) ls rest)) : W p l e R s m args below meth c H locs cells slots Q (F0 m pc ls (.ref (ad q1) :: .int i :: .ref (ad q0) :: rest)) := by
  subst hi
  have hcl := nI_clamp (Nat.lt_trans hj hn)
  have hin := vp_in_nI hj hn
  obtain ⟨r', hr', cellV, g1, g2, g3, -⟩ := hw.1.1 q1 _ hv
  have hcls := (hK.1.1 ci r hc).2
  obtain ⟨kA, comp, k1, k2, k3, -⟩ := (hK.1.2 t0 _ ht).2
  obtain ⟨kC, hkC, hkind⟩ := hcls.2
  obtain ⟨kD, hkD, hasg⟩ : ∃ kD : Class, s.vm.classes[comp]? = some kD ∧ s.vm.assignable (D.1 ci) comp = true := by
    rcases hcast with h | h
    · have : comp = D.1 ci := Option.some.inj (k3.symm.trans (by rw [← h]; exact hcls.1))
      subst this
      exact ⟨kC, hkC, va_assign hcls⟩
    · obtain ⟨c0, t1, f1, f2, f3⟩ := Cond.castable_spec h
      cases hcls.1.symm.trans f1
      cases k3.symm.trans f2
      obtain ⟨kE, hkE, -⟩ := Vm.findClass_spec k3
      exact ⟨kE, hkE, f3⟩
  refine W.aast hexec hb (hw.1.1 q0 _ ha) (fun q h => by cases h) (fun h => by cases h) k1 k2 rfl hkD ⟨nI_pos (Nat.lt_trans hj hn), by show _ < (arrV _ _ _).slots.size; rw [arrV_size, hcl]; exact hj⟩ g1 (fun q h => by rw [g3] at h; cases h) (by rw [g2]; exact hkC) (by rw [g2]; exact hasg) rfl rfl hdg fun H1 e hz oq => ?_
  refine kk H1 _ (hw.set ha ?_ hz oq)
  show H1[ad q0]? = some (vp_cell _ _)
  rw [e]
  rw [vp_cell_q, vp_cell_q, arrV_store, hcl]
  congr 2
  funext q
  by_cases hq : q = j
  · subst hq
    simp [updV, va_up, va_rf]
  · simp [updV, va_up, hq]
end KWC
