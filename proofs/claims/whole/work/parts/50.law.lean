/-! THE LAW: its calls one by one -/
theorem kg_sld {p : Program} {l : Launch} {e : Env} {R : Room} {s : State} {m : MethodId} {args : Array Value} {below : List Frame} {meth : Method} {c : Code} {H : Heap} {locs : List Loc} {cells slots : Nat} {Q : State → Prop} {pc : Nat} {ls : Array Slot} {rest : List Value} {A : Nat → Prop} {b L : Nat} {xs : Nat → Int32} (hx : p.tables.exec = Jvm.exec) (hb : c.code = code) (hX : va_X b L xs s s.heap) (hbl : b < s.heap.size) (hbA : ¬ A b) (hS : va_S A s.heap H locs) {x : Int32} (j : Nat) (he : x = nI j) (hj : j < L) (hL : L ≤ 2560) (hdg : decode code pc = .ok (.iaload, 1)) (kk : W p l e R s m args below meth c H locs cells slots Q (F0 m (pc + 1) ls (.int (xs j) :: rest))) : W p l e R s m args below meth c H locs cells slots Q (F0 m pc ls (.int x :: .ref b :: rest)) := by
  subst he
  refine va_sld hx hb hX hbl hbA hS (vp_in_nI hj (by omega)) hdg ?_
  rw [nI_clamp (by omega)]
  exact kk
def kLwC (p : Program) (s : State) (m : MethodId) (c : Code) (b L : Nat) (xs : Nat → Int32) (D : va_G) (tc : Nat → ClassId) : Prop := p.tables.exec = Jvm.exec ∧ c.code = code ∧ c.maxLocals = 4 ∧ s.vm.findClass RL = some m.cls ∧ (∀ w ∈ wsL_law, w.before #[Value.ref b] s = true) ∧ va_X b L xs s s.heap ∧ b < s.heap.size ∧ kw_K D tc s ∧ L ≤ 2560
/-- the case that begins at pc: it ends at the loop's step, with one call more -/
def kCase (p : Program) (l : Launch) (e : Env) (s : State) (m : MethodId) (below : List Frame) (meth : Method) (c : Code) (b L : Nat) (xs : Nat → Int32) (D : va_G) (tc : Nat → ClassId) (pc : Nat) : Prop :=
  ∀ {ad : Nat → Nat} {ct : Nat → Option va_E} {z k cells slots : Nat} {H : Heap} {locs : List Loc} {ls : Array Slot} {Q : State → Prop}, k < 512 → 5 * k + 5 ≤ L → kI k tc ad ct → (∀ j, ct j = none → ad j = kAz z j) → kw_H D ad (fun q : Nat => s.heap.size ≤ q) s.heap ct H locs z → lv_has ls 4 [(0, .ref b), (1, .ref (ad 0)), (2, .ref (ad 200)), (3, .int (nI (5 * k)))] → cells + 6 ≤ 600000 → slots + 42 ≤ 7302250 →
    (∀ (ct3 : Nat → Option va_E) (z3 : Nat) (H1 : Heap) (locs1 : List Loc), kw_H D ad (fun q : Nat => s.heap.size ≤ q) s.heap ct3 H1 locs1 z3 → kI (k + 1) tc ad ct3 → W p l e room_1 s m #[Value.ref b] below meth c H1 locs1 (cells + 3 + 3) (slots + 21 + 21) Q (F0 m 1283 ls [])) → W p l e room_1 s m #[Value.ref b] below meth c H locs cells slots Q (F0 m pc ls [])
theorem k31 (x : Int32) : ∃ j, j < 32 ∧ x &&& 31 = nI j := by
  have h : (x &&& 31).toBitVec.toNat ≤ 31 := by
    rw [Int32.toBitVec_and, BitVec.toNat_and]
    exact Nat.and_le_right
  refine ⟨(x &&& 31).toBitVec.toNat, by omega, ?_⟩
  apply Int32.toBitVec_inj.mp
  show _ = BitVec.ofNat 32 _
  rw [BitVec.ofNat_toNat, BitVec.setWidth_eq]
