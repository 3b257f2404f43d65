/-! THE WORLD BY KEYS: a key has an address (ad) and, where it is used, a content (ct). -/
def kw_P (D : va_G) (ad : Nat → Nat) (ct : Nat → Option va_E) (H : Heap) : Prop :=
  (∀ (k : Nat) (e : va_E), ct k = some e → va_at D vwCl (ad k, e) H) ∧ ∀ (k j : Nat), ct k ≠ none → ct j ≠ none → ad k = ad j → k = j
def kw_up (ct : Nat → Option va_E) (k : Nat) (e : va_E) : Nat → Option va_E := fun j => if j = k then some e else ct j
theorem kw_up_s {ct : Nat → Option va_E} {k : Nat} {e : va_E} : kw_up ct k e k = some e := by simp [kw_up]
theorem kw_up_n {ct : Nat → Option va_E} {k j : Nat} {e : va_E} (h : j ≠ k) : kw_up ct k e j = ct j := by simp [kw_up, h]
theorem kw_up_same {ct : Nat → Option va_E} {k : Nat} {e : va_E} (h : ct k = some e) : kw_up ct k e = ct := by
  funext j
  by_cases hj : j = k
  · subst hj; rw [kw_up_s, h]
  · rw [kw_up_n hj]
theorem kw_up_up {ct : Nat → Option va_E} {k : Nat} {e e' : va_E} : kw_up (kw_up ct k e) k e' = kw_up ct k e' := by
  funext j
  by_cases hj : j = k
  · subst hj; rw [kw_up_s, kw_up_s]
  · rw [kw_up_n hj, kw_up_n hj, kw_up_n hj]
theorem kw_up_comm {ct : Nat → Option va_E} {k j : Nat} {e e' : va_E} (h : k ≠ j) : kw_up (kw_up ct k e) j e' = kw_up (kw_up ct j e') k e := by
  funext i
  by_cases h1 : i = k
  · subst h1; rw [kw_up_s, kw_up_n h, kw_up_s]
  · by_cases h2 : i = j
    · subst h2; rw [kw_up_s, kw_up_n h1, kw_up_s]
    · rw [kw_up_n h2, kw_up_n h1, kw_up_n h1, kw_up_n h2]
theorem kw_up_ne {ct : Nat → Option va_E} {k j : Nat} {e : va_E} (h : ct j ≠ none) : kw_up ct k e j ≠ none := by
  by_cases hj : j = k
  · subst hj; rw [kw_up_s]; exact fun h => by cases h
  · rw [kw_up_n hj]; exact h
theorem kw_dom {ct : Nat → Option va_E} {k j : Nat} {e0 e : va_E} (he : ct k = some e0) (h : kw_up ct k e j ≠ none) : ct j ≠ none := by
  by_cases hj : j = k
  · subst hj; rw [he]; exact fun h => by cases h
  · rw [kw_up_n hj] at h; exact h
theorem kw_neK {ct : Nat → Option va_E} {k j : Nat} {e e' : va_E} (h1 : ct k = some e) (h2 : ct j = some e') (h : e ≠ e') : k ≠ j := fun q => by
  subst q; rw [h1] at h2; exact h (Option.some.inj h2)
theorem kw_some {ct : Nat → Option va_E} {k : Nat} {e : va_E} (h : ct k = some e) : ct k ≠ none := by rw [h]; exact fun q => by cases q
def kw_A (ad : Nat → Nat) (ct : Nat → Option va_E) (sz : Nat) : Nat → Prop := fun q => (∃ k, ct k ≠ none ∧ ad k = q) ∨ sz ≤ q
/-- the walk's world: it is held, what lies outside A is as it was, all of it lies in A -/
def kw_H (D : va_G) (ad : Nat → Nat) (A : Nat → Prop) (H0 : Heap) (ct : Nat → Option va_E) (H : Heap) (locs : List Loc) (z : Nat) : Prop := kw_P D ad ct H ∧ va_S A H0 H locs ∧ (∀ k, ct k ≠ none → A (ad k)) ∧ H.size = z
abbrev kw_t (tc : Nat → ClassId) : List (ClassId × FieldType) := [(tc 0, .int), (tc 1, .long), (tc 2, .object RX1), (tc 3, .object RX4), (tc 4, .object RX5), (tc 5, .object RX6)]
abbrev eI (tc : Nat → ClassId) (n : Nat) (f : Nat → Int32) : va_E := .inl (tc 0, n, .inl f)
abbrev eJ (tc : Nat → ClassId) (n : Nat) (f : Nat → Int64) : va_E := .inl (tc 1, n, .inr (.inl f))
abbrev eQ (tc : Nat → ClassId) (i n : Nat) (f : Nat → Option Nat) : va_E := .inl (tc i, n, .inr (.inr (.inr (.inr f))))
/-- arrays of references, casts that hold, casts that fail, the cast of a clone -/
def kw_E (U : State) : Prop := (va_AO RX1 U ∧ va_AO RX4 U ∧ va_AO RX5 U ∧ va_AO RX6 U) ∧ (va_Nw (.castable RX9 RX5) U ∧ va_Nw (.castable RX7 RX5) U ∧ va_Nw (.castable RX7 RX9) U) ∧ (va_Nc RX5 RX9 U ∧ va_Nc RX5 RX7 U ∧ va_Nc RX9 RX7 U) ∧ va_Nw (.castable "[I" "java/lang/Cloneable") U
theorem kw_E.moved {u U : State} (hW : u.WarmedH U.vm) (h : kw_E u) : kw_E U := ⟨⟨h.1.1.moved hW.alike, h.1.2.1.moved hW.alike, h.1.2.2.1.moved hW.alike, h.1.2.2.2.moved hW.alike⟩, ⟨va_Nw.warmC hW h.2.1.1, va_Nw.warmC hW h.2.1.2.1, va_Nw.warmC hW h.2.1.2.2⟩, ⟨h.2.2.1.1.moved hW.alike, h.2.2.1.2.1.moved hW.alike, h.2.2.1.2.2.moved hW.alike⟩, va_Nw.warmC hW h.2.2.2⟩
theorem kw_E.same {U : State} {g : JFrame} {mk : MethodId} {a : Array Value} (h : kw_E U) : kw_E (U.calling g mk a) := ⟨⟨va_AO.moved (u := U) (U := U.calling g mk a) (Vm.Alike.refl U.vm) h.1.1, va_AO.moved (u := U) (U := U.calling g mk a) (Vm.Alike.refl U.vm) h.1.2.1, va_AO.moved (u := U) (U := U.calling g mk a) (Vm.Alike.refl U.vm) h.1.2.2.1, va_AO.moved (u := U) (U := U.calling g mk a) (Vm.Alike.refl U.vm) h.1.2.2.2⟩, ⟨va_Nw.same rfl rfl h.2.1.1, va_Nw.same rfl rfl h.2.1.2.1, va_Nw.same rfl rfl h.2.1.2.2⟩, ⟨va_Nc.moved (u := U) (U := U.calling g mk a) (Vm.Alike.refl U.vm) h.2.2.1.1, va_Nc.moved (u := U) (U := U.calling g mk a) (Vm.Alike.refl U.vm) h.2.2.1.2.1, va_Nc.moved (u := U) (U := U.calling g mk a) (Vm.Alike.refl U.vm) h.2.2.1.2.2⟩, va_Nw.same rfl rfl h.2.2.2⟩
/-- the tables, the nest's three links, and those -/
def kw_K (D : va_G) (tc : Nat → ClassId) (U : State) : Prop := va_K D vwCl (kw_t tc) U ∧ va_Nw (.methodLinkNest RX0 91 yX10_isIn RX10) U ∧ va_Nw (.methodLinkNest RX3 50 yX10_isIn RX10) U ∧ va_Nw (.methodLinkNest RX5 36 yX10_isIn RX10) U ∧ kw_E U
theorem kw_K.moved {D : va_G} {tc : Nat → ClassId} {u U : State} (hW : u.WarmedH U.vm) (h : kw_K D tc u) : kw_K D tc U := ⟨va_K.moved hW.alike h.1, va_Nw.warmM hW h.2.1, va_Nw.warmM hW h.2.2.1, va_Nw.warmM hW h.2.2.2.1, h.2.2.2.2.moved hW⟩
theorem kw_K.same {D : va_G} {tc : Nat → ClassId} {U : State} {g : JFrame} {mk : MethodId} {a : Array Value} (h : kw_K D tc U) : kw_K D tc (U.calling g mk a) := ⟨va_K.moved (u := U) (U := U.calling g mk a) (Vm.Alike.refl U.vm) h.1, va_Nw.same rfl rfl h.2.1, va_Nw.same rfl rfl h.2.2.1, va_Nw.same rfl rfl h.2.2.2.1, h.2.2.2.2.same⟩
/-- what a method finds -/
def kw_B (D : va_G) (tc : Nat → ClassId) (sz : Nat) (ad : Nat → Nat) (ct : Nat → Option va_E) (U : State) : Prop := U.heap.size = sz ∧ kw_P D ad ct U.heap ∧ kw_K D tc U
/-- what a method leaves: its answer, the world, n cells more -/
def kw_Q (D : va_G) (ad : Nat → Nat) (A : Nat → Prop) (v : Option Value) (ct : Nat → Option va_E) (n : Nat) : Array Value → State → Outcome → State → Prop := fun _ st o t => o = .returned v ∧ kw_P D ad ct t.heap ∧ (∀ k, ct k ≠ none → A (ad k)) ∧ va_F A st t ∧ t.heap.size = st.heap.size + n
theorem kw_P.at {D : va_G} {ad : Nat → Nat} {ct : Nat → Option va_E} {H : Heap} (h : kw_P D ad ct H) {k : Nat} {e : va_E} (he : ct k = some e) : va_P D vwCl [(ad k, e)] H := by
  intro i q hq
  have hz : i < 1 := (List.getElem?_eq_some_iff.mp hq).1
  rw [show i = 0 by omega] at hq
  cases hq
  exact h.1 k e he
/-- a cell is written: the world with that cell anew -/
theorem kw_H.set {D : va_G} {ad : Nat → Nat} {A : Nat → Prop} {H0 H H1 : Heap} {ct : Nat → Option va_E} {locs : List Loc} {k j z : Nat} {e0 e : va_E} (h : kw_H D ad A H0 ct H locs z) (he : ct k = some e0) (ha : va_at D vwCl (ad k, e) H1) (hz : H1.size = H.size) (oq : ∀ q : Nat, q ≠ ad k → H1[q]? = H[q]?) : kw_H D ad A H0 (kw_up ct k e) H1 (locs ++ [⟨ad k, j⟩]) z := by
  refine ⟨⟨fun i x hx => ?_, fun i i' h1 h2 => h.1.2 i i' (kw_dom he h1) (kw_dom he h2)⟩, h.2.1.put hz oq (h.2.2.1 k (kw_some he)), fun i hi => h.2.2.1 i (kw_dom he hi), hz.trans h.2.2.2⟩
  by_cases hi : i = k
  · subst hi
    rw [kw_up_s] at hx
    cases hx
    exact ha
  · rw [kw_up_n hi] at hx
    exact (h.1.1 i x hx).kept (oq _ (fun q => hi (h.1.2 i k (kw_some hx) (kw_some he) q)))
/-- a cell is made, at a key that is free and whose address is the next one -/
theorem kw_H.new {D : va_G} {ad : Nat → Nat} {A : Nat → Prop} {H0 H H1 : Heap} {ct : Nat → Option va_E} {locs : List Loc} {k z : Nat} {e : va_E} (h : kw_H D ad A H0 ct H locs z) (hA : ∀ q, H0.size ≤ q → A q) (hk : ct k = none) (hak : ad k = z) (ha : va_at D vwCl (H.size, e) H1) (hz : H1.size = H.size + 1) (oq : ∀ q : Nat, q < H.size → H1[q]? = H[q]?) : kw_H D ad A H0 (kw_up ct k e) H1 locs (z + 1) := by
  have hzz := h.2.2.2
  have hlt : ∀ i, ct i ≠ none → ad i < H.size := fun i hi => by
    cases hc : ct i with
    | none => exact absurd hc hi
    | some x => exact (h.1.1 i x hc).lt
  have hcase : ∀ i, kw_up ct k e i ≠ none → i = k ∨ (ct i ≠ none ∧ i ≠ k) := fun i hi => by
    by_cases hik : i = k
    · exact Or.inl hik
    · rw [kw_up_n hik] at hi; exact Or.inr ⟨hi, hik⟩
  refine ⟨⟨fun i x hx => ?_, fun i i' h1 h2 h3 => ?_⟩, ⟨Nat.le_trans h.2.1.1 (by omega), fun x h1 h2 => (oq x (Nat.lt_of_lt_of_le h1 h.2.1.1)).trans (h.2.1.2.1 x h1 h2), h.2.1.2.2⟩, fun i hi => ?_, by omega⟩
  · rcases hcase i (kw_some hx) with q1 | ⟨q1, q2⟩
    · subst q1
      rw [kw_up_s] at hx
      cases hx
      rw [hak, ← hzz]; exact ha
    · rw [kw_up_n q2] at hx
      exact (h.1.1 i x hx).kept (oq _ (hlt i q1))
  · rcases hcase i h1 with q1 | ⟨q1, q2⟩ <;> rcases hcase i' h2 with r1 | ⟨r1, r2⟩
    · rw [q1, r1]
    · rw [q1, hak] at h3; have := hlt i' r1; omega
    · rw [r1, hak] at h3; have := hlt i q1; omega
    · exact h.1.2 i i' q1 r1 h3
  · rcases hcase i hi with q1 | ⟨q1, q2⟩
    · rw [q1, hak]; exact hA _ (by have := h.2.1.1; omega)
    · exact h.2.2.1 i q1
/-- at a method's entry -/
theorem kw_H.start {D : va_G} {ad : Nat → Nat} {ct : Nat → Option va_E} {H : Heap} (h : kw_P D ad ct H) : kw_H D ad (kw_A ad ct H.size) H ct H [] H.size := ⟨h, va_S.rf, fun k hk => Or.inl ⟨k, hk, rfl⟩, rfl⟩
section KWR
variable {p : Program} {l : Launch} {e : Env} {R : Room} {s : State} {m : MethodId} {args : Array Value} {below : List Frame} {meth : Method} {c : Code} {H : Heap} {locs : List Loc} {cells slots : Nat} {Q : State → Prop}
variable {cc : ByteArray} {pc : Nat} {ls : Array Slot} {rest : List Value} {D : va_G} {tc : Nat → ClassId} {ad : Nat → Nat} {A : Nat → Prop} {H0 : Heap} {ct : Nat → Option va_E} {z : Nat}
theorem kg_get (hexec : p.tables.exec = Jvm.exec) (hb : c.code = cc) {own ref C : String} {T : u_T} {N ci index : Nat} {Ts : List Cond} (hts : ∀ w ∈ Ts, w.before args s = true) (hin : ∀ w ∈ u_ws C T N, w ∈ Ts) (hown : s.vm.findClass own = some m.cls) (hK : kw_K D tc s) (hw : kw_H D ad A H0 ct H locs z) {q0 : Nat} {fs : List Value} (he : ct q0 = some (.inr (ci, fs))) (hc : vwCl[ci]? = some (C, T, N)) (k : Nat) (hk : k < N) (hlink : (Cond.fieldLink own index ref (T k).2.1 (T k).2.2.1).before args s = true) (hsame : ∀ x, s.fieldFound? (T k).1 (T k).2.1 (T k).2.2.1 = some x → s.fieldFound? ref (T k).2.1 (T k).2.2.1 = some x) {v : Value} (hv : fs[k]? = some v) (hdg : decode cc pc = .ok (.getfield index, 3))
    (kk : W p l e R s m args below meth c H locs cells slots Q (F0 m (pc + 3) ls (v :: rest))) : W p l e R s m args below meth c H locs cells slots Q (F0 m pc ls (.ref (ad q0) :: rest)) :=
  va_get hexec hb hts hin hown hK.1 (hw.1.at he) 0 rfl hc k hk hlink hsame hv hdg kk
theorem kg_put (hexec : p.tables.exec = Jvm.exec) (hb : c.code = cc) {own ref C : String} {T : u_T} {N ci index : Nat} {Ts : List Cond} (hts : ∀ w ∈ Ts, w.before args s = true) (hin : ∀ w ∈ u_ws C T N, w ∈ Ts) (ty0 : Nat → FieldType) (hty : ∀ k, k < N → parseFieldDescriptor (T k).2.2.1 = some (ty0 k)) (hnm : ∀ a, a < N → ∀ b, b < N → a ≠ b → (T a).2.1 ≠ (T b).2.1) (hown : s.vm.findClass own = some m.cls) (hK : kw_K D tc s) (hw : kw_H D ad A H0 ct H locs z) {q0 : Nat} {fs fs' : List Value} (he : ct q0 = some (.inr (ci, fs))) (hc : vwCl[ci]? = some (C, T, N)) (k : Nat) (hk : k < N) (hlink : (Cond.fieldLink own index ref (T k).2.1 (T k).2.2.1).before args s = true) (hsame : ∀ x, s.fieldFound? (T k).1 (T k).2.1 (T k).2.2.1 = some x → s.fieldFound? ref (T k).2.1 (T k).2.2.1 = some x) (hfin : (T k).2.2.2 = false) {ty : FieldType} {v : Value} (hd : parseFieldDescriptor (T k).2.2.1 = some ty) (hn : narrow ty v = v) (hfit : fits ty v = true) (hl : k < fs.length) (hfs : fs.set k v = fs')
    (hdg : decode cc pc = .ok (.putfield index, 3)) (kk : ∀ (H1 : Heap) (locs1 : List Loc), kw_H D ad A H0 (kw_up ct q0 (.inr (ci, fs'))) H1 locs1 z → W p l e R s m args below meth c H1 locs1 cells slots Q (F0 m (pc + 3) ls rest)) : W p l e R s m args below meth c H locs cells slots Q (F0 m pc ls (v :: .ref (ad q0) :: rest)) := by
  subst hfs
  have hap := va_apart (own := own) hts hin ty0 hty hnm hK.1 hc
  obtain ⟨r, h1, cell, q1, q2, q3, q4⟩ := hw.1.1 q0 _ he
  have hr : r = (C, T, N) := Option.some.inj (h1.symm.trans hc)
  subst hr
  obtain ⟨hS, hfc, kC, hkC, hkind⟩ := hK.1.1 ci _ hc
  obtain ⟨cf, kf, fi, f, hi, hsl⟩ := hS k hk
  have hlay := hts _ (hin _ (u_in_lay hk))
  unfold u_lay at hlay
  rw [if_neg (by rw [hfin]; decide)] at hlay
  have hst := (u_facts hfc hkC (u_lays hts hin hk) hi).1
  have h6 := u_store hfc hkC hkind hlay hi hd hn hfit
  refine W.putK hexec hb (f := f) ⟨hown, hlink, ⟨_, _, _, hsame _ hi⟩, hst⟩ (by rw [q2]; exact h6) q1 q3 (by rw [hsl]; exact k2_hasslot (q4 k hk)) rfl rfl hdg fun H' e1 e2 e3 => ?_
  rw [hsl] at e1 ⊢
  exact kk H' _ (hw.set he ⟨_, hc, t_OB.to (V := updV (vp_V fs) k v) ⟨_, e1, q2, q3, t_set q4 hap hk v⟩ (fun j _ => vp_updV_set hl v j)⟩ e2 e3)
theorem kg_putF (hexec : p.tables.exec = Jvm.exec) (hb : c.code = cc) {own ref C : String} {T : u_T} {N ci index : Nat} {Ts : List Cond} (hts : ∀ w ∈ Ts, w.before args s = true) (hin : ∀ w ∈ u_ws C T N, w ∈ Ts) (ty0 : Nat → FieldType) (hty : ∀ k, k < N → parseFieldDescriptor (T k).2.2.1 = some (ty0 k)) (hnm : ∀ a, a < N → ∀ b, b < N → a ≠ b → (T a).2.1 ≠ (T b).2.1) (hown : s.vm.findClass own = some m.cls) (hK : kw_K D tc s) (hw : kw_H D ad A H0 ct H locs z) {q0 : Nat} {fs fs' : List Value} (he : ct q0 = some (.inr (ci, fs))) (hc : vwCl[ci]? = some (C, T, N)) (k : Nat) (hk : k < N) (hlink : (Cond.fieldLink own index ref (T k).2.1 (T k).2.2.1).before args s = true) (hsame : ∀ x, s.fieldFound? (T k).1 (T k).2.1 (T k).2.2.1 = some x → s.fieldFound? ref (T k).2.1 (T k).2.2.1 = some x) (hfin : (T k).2.2.2 = true) (hin2 : meth.name = "<init>") (hdecl : (T k).1 = own) {ty : FieldType} {v : Value} (hd : parseFieldDescriptor (T k).2.2.1 = some ty) (hn : narrow ty v = v) (hfit : fits ty v = true) (hl : k < fs.length) (hfs : fs.set k v = fs')
    (hdg : decode cc pc = .ok (.putfield index, 3)) (kk : ∀ (H1 : Heap) (locs1 : List Loc), kw_H D ad A H0 (kw_up ct q0 (.inr (ci, fs'))) H1 locs1 z → W p l e R s m args below meth c H1 locs1 cells slots Q (F0 m (pc + 3) ls rest)) : W p l e R s m args below meth c H locs cells slots Q (F0 m pc ls (v :: .ref (ad q0) :: rest)) := by
  subst hfs
  have hap := va_apart (own := own) hts hin ty0 hty hnm hK.1 hc
  obtain ⟨r, h1, cell, q1, q2, q3, q4⟩ := hw.1.1 q0 _ he
  have hr : r = (C, T, N) := Option.some.inj (h1.symm.trans hc)
  subst hr
  obtain ⟨hS, hfc, kC, hkC, hkind⟩ := hK.1.1 ci _ hc
  obtain ⟨cf, kf, fi, f, hi, hsl⟩ := hS k hk
  have hlay := hts _ (hin _ (u_in_lay hk))
  unfold u_lay at hlay
  rw [if_pos hfin] at hlay
  have hst := (u_facts hfc hkC (u_lays hts hin hk) hi).1
  have hcf : m.cls = cf := by
    obtain ⟨_, _, c', _, _, _, -, -, hf', -, -, -, hown2, -⟩ := Cond.laysFinal_spec hlay
    have e1 : c' = cf := by have := hi.symm.trans hf'; simp at this; exact this.1.symm
    rw [hdecl] at hown2
    rw [← e1]; exact Option.some.inj (hown.symm.trans hown2)
  have h6 := u_fits hfc hkC hkind (Or.inr hlay) hi hd hn hfit
  refine W.putFinK hexec hb hown hlink (hsame _ hi) hst hcf hin2 (by rw [q2]; exact h6) q1 q3 (by rw [hsl]; exact k2_hasslot (q4 k hk)) rfl rfl hdg fun H' e1 e2 e3 => ?_
  rw [hsl] at e1 ⊢
  exact kk H' _ (hw.set he ⟨_, hc, t_OB.to (V := updV (vp_V fs) k v) ⟨_, e1, q2, q3, t_set q4 hap hk v⟩ (fun j _ => vp_updV_set hl v j)⟩ e2 e3)
theorem kg_iald (hexec : p.tables.exec = Jvm.exec) (hb : c.code = cc) (hK : kw_K D tc s) (hw : kw_H D ad A H0 ct H locs z) {q0 n : Nat} {f : Nat → Int32} (ha : ct q0 = some (eI tc n f)) {i : Int32} (j : Nat) (hi : i = nI j) (hj : j < n) (hn : n < 2 ^ 31) (hdg : decode cc pc = .ok (.iaload, 1))
    (kk : W p l e R s m args below meth c H locs cells slots Q (F0 m (pc + 1) ls (.int (f j) :: rest))) : W p l e R s m args below meth c H locs cells slots Q (F0 m pc ls (.int i :: .ref (ad q0) :: rest)) := by
  subst hi
  refine va_iald hexec hb hK.1 (hw.1.at ha) 0 0 rfl rfl (vp_in_nI hj hn) hdg ?_
  rw [nI_clamp (Nat.lt_trans hj hn)]
  exact kk
theorem kg_lald (hexec : p.tables.exec = Jvm.exec) (hb : c.code = cc) (hK : kw_K D tc s) (hw : kw_H D ad A H0 ct H locs z) {q0 n : Nat} {f : Nat → Int64} (ha : ct q0 = some (eJ tc n f)) {i : Int32} (j : Nat) (hi : i = nI j) (hj : j < n) (hn : n < 2 ^ 31) (hdg : decode cc pc = .ok (.laload, 1))
    (kk : W p l e R s m args below meth c H locs cells slots Q (F0 m (pc + 1) ls (.long (f j) :: rest))) : W p l e R s m args below meth c H locs cells slots Q (F0 m pc ls (.int i :: .ref (ad q0) :: rest)) := by
  subst hi
  refine va_lald hexec hb hK.1 (hw.1.at ha) 0 1 rfl rfl (vp_in_nI hj hn) hdg ?_
  rw [nI_clamp (Nat.lt_trans hj hn)]
  exact kk
theorem kg_aald (hexec : p.tables.exec = Jvm.exec) (hb : c.code = cc) (hK : kw_K D tc s) (hw : kw_H D ad A H0 ct H locs z) {q0 n : Nat} {f : Nat → Option Nat} (t0 : Nat) (ha : ct q0 = some (eQ tc t0 n f)) {C : String} (ht : (kw_t tc)[t0]? = some (tc t0, .object C)) {i : Int32} (j : Nat) (hi : i = nI j) (hj : j < n) (hn : n < 2 ^ 31) (hdg : decode cc pc = .ok (.aaload, 1))
    (kk : W p l e R s m args below meth c H locs cells slots Q (F0 m (pc + 1) ls (va_rf (f j) :: rest))) : W p l e R s m args below meth c H locs cells slots Q (F0 m pc ls (.int i :: .ref (ad q0) :: rest)) := by
  subst hi
  refine va_aldq (C := C) hexec hb hK.1 (hw.1.at ha) 0 t0 rfl ht (vp_in_nI hj hn) hdg ?_
  rw [nI_clamp (Nat.lt_trans hj hn)]
  exact kk
theorem kg_ilen (hexec : p.tables.exec = Jvm.exec) (hb : c.code = cc) (hK : kw_K D tc s) (hw : kw_H D ad A H0 ct H locs z) {q0 n : Nat} {f : Nat → Int32} (ha : ct q0 = some (eI tc n f)) (hdg : decode cc pc = .ok (.arraylength, 1))
    (kk : W p l e R s m args below meth c H locs cells slots Q (F0 m (pc + 1) ls (.int (nI n) :: rest))) : W p l e R s m args below meth c H locs cells slots Q (F0 m pc ls (.ref (ad q0) :: rest)) :=
  va_alen hexec hb hK.1 (hw.1.at ha) 0 0 rfl rfl rfl hdg kk
theorem kg_llen (hexec : p.tables.exec = Jvm.exec) (hb : c.code = cc) (hK : kw_K D tc s) (hw : kw_H D ad A H0 ct H locs z) {q0 n : Nat} {f : Nat → Int64} (ha : ct q0 = some (eJ tc n f)) (hdg : decode cc pc = .ok (.arraylength, 1))
    (kk : W p l e R s m args below meth c H locs cells slots Q (F0 m (pc + 1) ls (.int (nI n) :: rest))) : W p l e R s m args below meth c H locs cells slots Q (F0 m pc ls (.ref (ad q0) :: rest)) :=
  va_alen hexec hb hK.1 (hw.1.at ha) 0 1 rfl rfl rfl hdg kk
theorem kg_iast (hexec : p.tables.exec = Jvm.exec) (hb : c.code = cc) (hK : kw_K D tc s) (hw : kw_H D ad A H0 ct H locs z) {q0 n : Nat} {f : Nat → Int32} (ha : ct q0 = some (eI tc n f)) {i x : Int32} (j : Nat) (hi : i = nI j) (hj : j < n) (hn : n < 2 ^ 31) (hdg : decode cc pc = .ok (.iastore, 1))
    (kk : ∀ (H1 : Heap) (locs1 : List Loc), kw_H D ad A H0 (kw_up ct q0 (eI tc n (va_up f j x))) H1 locs1 z → W p l e R s m args below meth c H1 locs1 cells slots Q (F0 m (pc + 1) ls rest)) : W p l e R s m args below meth c H locs cells slots Q (F0 m pc ls (.int x :: .int i :: .ref (ad q0) :: rest)) := by
  subst hi
  have hc := nI_clamp (Nat.lt_trans hj hn)
  refine W.iast hexec hb (hw.1.1 q0 _ ha) ((hK.1.2 0 _ rfl).1 n (fun j => .int (f j))) (fun q => by cases q) (by show ¬ (nI j < 0 ∨ (arrV _ _ _).slots.size ≤ _); rw [arrV_size]; exact vp_in_nI hj hn) rfl rfl hdg fun H1 e hz oq => ?_
  refine kk H1 _ (hw.set ha ?_ hz oq)
  show H1[ad q0]? = some (vp_cell _ _)
  rw [e]
  rw [vp_cell_i, vp_cell_i, arrV_store, hc]
  congr 2
  funext q
  by_cases hq : q = j
  · subst hq
    simp [updV, va_up]
  · simp [updV, va_up, hq]
theorem kg_last (hexec : p.tables.exec = Jvm.exec) (hb : c.code = cc) (hK : kw_K D tc s) (hw : kw_H D ad A H0 ct H locs z) {q0 n : Nat} {f : Nat → Int64} (ha : ct q0 = some (eJ tc n f)) {i : Int32} {x : Int64} (j : Nat) (hi : i = nI j) (hj : j < n) (hn : n < 2 ^ 31) (hdg : decode cc pc = .ok (.lastore, 1))
    (kk : ∀ (H1 : Heap) (locs1 : List Loc), kw_H D ad A H0 (kw_up ct q0 (eJ tc n (va_up f j x))) H1 locs1 z → W p l e R s m args below meth c H1 locs1 cells slots Q (F0 m (pc + 1) ls rest)) : W p l e R s m args below meth c H locs cells slots Q (F0 m pc ls (.long x :: .int i :: .ref (ad q0) :: rest)) := by
  subst hi
  have hc := nI_clamp (Nat.lt_trans hj hn)
  refine W.last hexec hb (hw.1.1 q0 _ ha) ((hK.1.2 1 _ rfl).1 n (fun j => .long (f j))) (fun q => by cases q) (by show ¬ (nI j < 0 ∨ (arrV _ _ _).slots.size ≤ _); rw [arrV_size]; exact vp_in_nI hj hn) rfl rfl hdg fun H1 e hz oq => ?_
  refine kk H1 _ (hw.set ha ?_ hz oq)
  show H1[ad q0]? = some (vp_cell _ _)
  rw [e]
  rw [vp_cell_l, vp_cell_l, arrV_store, hc]
  congr 2
  funext q
  by_cases hq : q = j
  · subst hq
    simp [updV, va_up]
  · simp [updV, va_up, hq]
end KWR
