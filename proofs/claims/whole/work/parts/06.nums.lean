/-! comparisons of places, of booleans, of longs -/
def kb (P : Prop) [Decidable P] : Int32 := if P then 1 else 0
theorem kb_t {P : Prop} [Decidable P] (h : P) : kb P = 1 := by simp [kb, h]
theorem kb_f {P : Prop} [Decidable P] (h : ¬ P) : kb P = 0 := by simp [kb, h]
theorem kb_0 {P : Prop} [Decidable P] : kb P = 0 ↔ ¬ P := by
  by_cases h : P
  · rw [kb_t h]; exact ⟨fun q => absurd q (by decide), fun q => absurd h q⟩
  · rw [kb_f h]; exact ⟨fun _ => h, fun _ => rfl⟩
theorem kb_c {P P' : Prop} [Decidable P] [Decidable P'] (h : P ↔ P') : kb P = kb P' := by
  by_cases q : P
  · rw [kb_t q, kb_t (h.mp q)]
  · rw [kb_f q, kb_f (fun z => q (h.mpr z))]
theorem kn_lit (n : Nat) : (OfNat.ofNat n : Int32) = nI n := rfl
/-- the bit c of a set -/
def kbit (set : Int32) (c : Nat) : Int32 := set >>> (nI c &&& 31) &&& 1
/-- a sum of longs, of ints -/
def su (f : Nat → Int64) : Nat → Int64
  | 0 => 0
  | n + 1 => su f n + f n
def sw (f : Nat → Int32) : Nat → Int32
  | 0 => 0
  | n + 1 => sw f n + f n
section KN
variable {p : Program} {l : Launch} {e : Env} {R : Room} {s : State} {m : MethodId} {args : Array Value} {below : List Frame} {meth : Method} {c : Code} {H : Heap} {locs : List Loc} {cells slots : Nat} {Q : State → Prop}
variable {cc : ByteArray} {pc : Nat} {ls : Array Slot} {rest : List Value} {off : Int} {tgt : Nat}
theorem kn_ge (a b : Nat) {x y : Int32} (hx : x = nI a) (hy : y = nI b) (ha : a < 2 ^ 31) (hb' : b < 2 ^ 31) (hexec : p.tables.exec = Jvm.exec) (hb : c.code = cc) (hdg : decode cc pc = .ok (.if_icmp .ge off, 3)) (ht : (pc : Int) + off = (tgt : Int)) (kt : b ≤ a → W p l e R s m args below meth c H locs cells slots Q (F0 m tgt ls rest)) (kf : a < b → W p l e R s m args below meth c H locs cells slots Q (F0 m (pc + 3) ls rest)) : W p l e R s m args below meth c H locs cells slots Q (F0 m pc ls (.int y :: .int x :: rest)) := by
  subst hx hy
  exact lv_icmp_ge hexec hb hdg ht (fun q => kt ((nI_leI hb' ha).mp q)) (fun q => kf (Nat.lt_of_not_le fun z => q ((nI_leI hb' ha).mpr z)))
theorem kn_le (a b : Nat) {x y : Int32} (hx : x = nI a) (hy : y = nI b) (ha : a < 2 ^ 31) (hb' : b < 2 ^ 31) (hexec : p.tables.exec = Jvm.exec) (hb : c.code = cc) (hdg : decode cc pc = .ok (.if_icmp .le off, 3)) (ht : (pc : Int) + off = (tgt : Int)) (kt : a ≤ b → W p l e R s m args below meth c H locs cells slots Q (F0 m tgt ls rest)) (kf : b < a → W p l e R s m args below meth c H locs cells slots Q (F0 m (pc + 3) ls rest)) : W p l e R s m args below meth c H locs cells slots Q (F0 m pc ls (.int y :: .int x :: rest)) := by
  subst hx hy
  exact lv_icmp_le hexec hb hdg ht (fun q => kt ((nI_leI ha hb').mp q)) (fun q => kf (Nat.lt_of_not_le fun z => q ((nI_leI ha hb').mpr z)))
theorem kn_lt (a b : Nat) {x y : Int32} (hx : x = nI a) (hy : y = nI b) (ha : a < 2 ^ 31) (hb' : b < 2 ^ 31) (hexec : p.tables.exec = Jvm.exec) (hb : c.code = cc) (hdg : decode cc pc = .ok (.if_icmp .lt off, 3)) (ht : (pc : Int) + off = (tgt : Int)) (kt : a < b → W p l e R s m args below meth c H locs cells slots Q (F0 m tgt ls rest)) (kf : b ≤ a → W p l e R s m args below meth c H locs cells slots Q (F0 m (pc + 3) ls rest)) : W p l e R s m args below meth c H locs cells slots Q (F0 m pc ls (.int y :: .int x :: rest)) := by
  subst hx hy
  exact lv_icmp_lt hexec hb hdg ht (fun q => kt ((nI_ltI ha hb').mp q)) (fun q => kf (Nat.le_of_not_lt fun z => q ((nI_ltI ha hb').mpr z)))
theorem kn_gt (a b : Nat) {x y : Int32} (hx : x = nI a) (hy : y = nI b) (ha : a < 2 ^ 31) (hb' : b < 2 ^ 31) (hexec : p.tables.exec = Jvm.exec) (hb : c.code = cc) (hdg : decode cc pc = .ok (.if_icmp .gt off, 3)) (ht : (pc : Int) + off = (tgt : Int)) (kt : b < a → W p l e R s m args below meth c H locs cells slots Q (F0 m tgt ls rest)) (kf : a ≤ b → W p l e R s m args below meth c H locs cells slots Q (F0 m (pc + 3) ls rest)) : W p l e R s m args below meth c H locs cells slots Q (F0 m pc ls (.int y :: .int x :: rest)) := by
  subst hx hy
  exact lv_icmp_gt hexec hb hdg ht (fun q => kt ((nI_ltI hb' ha).mp q)) (fun q => kf (Nat.le_of_not_lt fun z => q ((nI_ltI hb' ha).mpr z)))
theorem kn_eq (a b : Nat) {x y : Int32} (hx : x = nI a) (hy : y = nI b) (ha : a < 2 ^ 31) (hb' : b < 2 ^ 31) (hexec : p.tables.exec = Jvm.exec) (hb : c.code = cc) (hdg : decode cc pc = .ok (.if_icmp .eq off, 3)) (ht : (pc : Int) + off = (tgt : Int)) (kt : a = b → W p l e R s m args below meth c H locs cells slots Q (F0 m tgt ls rest)) (kf : a ≠ b → W p l e R s m args below meth c H locs cells slots Q (F0 m (pc + 3) ls rest)) : W p l e R s m args below meth c H locs cells slots Q (F0 m pc ls (.int y :: .int x :: rest)) := by
  subst hx hy
  exact lv_icmp_eq hexec hb hdg ht (fun q => kt ((nI_eq ha hb').mp q)) (fun q => kf fun z => q ((nI_eq ha hb').mpr z))
theorem kn_ne (a b : Nat) {x y : Int32} (hx : x = nI a) (hy : y = nI b) (ha : a < 2 ^ 31) (hb' : b < 2 ^ 31) (hexec : p.tables.exec = Jvm.exec) (hb : c.code = cc) (hdg : decode cc pc = .ok (.if_icmp .ne off, 3)) (ht : (pc : Int) + off = (tgt : Int)) (kt : a ≠ b → W p l e R s m args below meth c H locs cells slots Q (F0 m tgt ls rest)) (kf : a = b → W p l e R s m args below meth c H locs cells slots Q (F0 m (pc + 3) ls rest)) : W p l e R s m args below meth c H locs cells slots Q (F0 m pc ls (.int y :: .int x :: rest)) := by
  subst hx hy
  exact lv_icmp_ne hexec hb hdg ht (fun q => kt fun z => q ((nI_eq ha hb').mpr z)) (fun q => kf ((nI_eq ha hb').mp q))
theorem kb_ifeq {P : Prop} [Decidable P] (hexec : p.tables.exec = Jvm.exec) (hb : c.code = cc) (hdg : decode cc pc = .ok (.ifCond .eq off, 3)) (ht : (pc : Int) + off = (tgt : Int)) (kt : ¬ P → W p l e R s m args below meth c H locs cells slots Q (F0 m tgt ls rest)) (kf : P → W p l e R s m args below meth c H locs cells slots Q (F0 m (pc + 3) ls rest)) : W p l e R s m args below meth c H locs cells slots Q (F0 m pc ls (.int (kb P) :: rest)) :=
  lv_if_eq hexec hb hdg ht (fun q => kt (kb_0.mp q)) (fun q => kf (Decidable.not_not.mp fun z => q (kb_0.mpr z)))
theorem kb_ifne {P : Prop} [Decidable P] (hexec : p.tables.exec = Jvm.exec) (hb : c.code = cc) (hdg : decode cc pc = .ok (.ifCond .ne off, 3)) (ht : (pc : Int) + off = (tgt : Int)) (kt : P → W p l e R s m args below meth c H locs cells slots Q (F0 m tgt ls rest)) (kf : ¬ P → W p l e R s m args below meth c H locs cells slots Q (F0 m (pc + 3) ls rest)) : W p l e R s m args below meth c H locs cells slots Q (F0 m pc ls (.int (kb P) :: rest)) :=
  lv_if_ne hexec hb hdg ht (fun q => kt (Decidable.not_not.mp fun z => q (kb_0.mpr z))) (fun q => kf (kb_0.mp q))
theorem kl_lt {x y : Int64} (hexec : p.tables.exec = Jvm.exec) (hb : c.code = cc) (hdg : decode cc pc = .ok (.ifCond .lt off, 3)) (ht : (pc : Int) + off = (tgt : Int)) (kt : x < y → W p l e R s m args below meth c H locs cells slots Q (F0 m tgt ls rest)) (kf : ¬ x < y → W p l e R s m args below meth c H locs cells slots Q (F0 m (pc + 3) ls rest)) : W p l e R s m args below meth c H locs cells slots Q (F0 m pc ls (.int (lg_cmp x y) :: rest)) :=
  lv_if_lt hexec hb hdg ht (fun q => kt ((lg_cmp_lt x y).mp q)) (fun q => kf fun z => q ((lg_cmp_lt x y).mpr z))
theorem kl_ge {x y : Int64} (hexec : p.tables.exec = Jvm.exec) (hb : c.code = cc) (hdg : decode cc pc = .ok (.ifCond .ge off, 3)) (ht : (pc : Int) + off = (tgt : Int)) (kt : y ≤ x → W p l e R s m args below meth c H locs cells slots Q (F0 m tgt ls rest)) (kf : ¬ y ≤ x → W p l e R s m args below meth c H locs cells slots Q (F0 m (pc + 3) ls rest)) : W p l e R s m args below meth c H locs cells slots Q (F0 m pc ls (.int (lg_cmp x y) :: rest)) :=
  lv_if_ge hexec hb hdg ht (fun q => kt ((lg_cmp_ge x y).mp q)) (fun q => kf fun z => q ((lg_cmp_ge x y).mpr z))
theorem kl_gt {x y : Int64} (hexec : p.tables.exec = Jvm.exec) (hb : c.code = cc) (hdg : decode cc pc = .ok (.ifCond .gt off, 3)) (ht : (pc : Int) + off = (tgt : Int)) (kt : y < x → W p l e R s m args below meth c H locs cells slots Q (F0 m tgt ls rest)) (kf : ¬ y < x → W p l e R s m args below meth c H locs cells slots Q (F0 m (pc + 3) ls rest)) : W p l e R s m args below meth c H locs cells slots Q (F0 m pc ls (.int (lg_cmp x y) :: rest)) :=
  lv_if_gt hexec hb hdg ht (fun q => kt ((lg_cmp_gt x y).mp q)) (fun q => kf fun z => q ((lg_cmp_gt x y).mpr z))
theorem kl_le {x y : Int64} (hexec : p.tables.exec = Jvm.exec) (hb : c.code = cc) (hdg : decode cc pc = .ok (.ifCond .le off, 3)) (ht : (pc : Int) + off = (tgt : Int)) (kt : x ≤ y → W p l e R s m args below meth c H locs cells slots Q (F0 m tgt ls rest)) (kf : ¬ x ≤ y → W p l e R s m args below meth c H locs cells slots Q (F0 m (pc + 3) ls rest)) : W p l e R s m args below meth c H locs cells slots Q (F0 m pc ls (.int (lg_cmp x y) :: rest)) :=
  lv_if_le hexec hb hdg ht (fun q => kt ((lg_cmp_le x y).mp q)) (fun q => kf fun z => q ((lg_cmp_le x y).mpr z))
theorem kl_eq {x y : Int64} (hexec : p.tables.exec = Jvm.exec) (hb : c.code = cc) (hdg : decode cc pc = .ok (.ifCond .eq off, 3)) (ht : (pc : Int) + off = (tgt : Int)) (kt : x = y → W p l e R s m args below meth c H locs cells slots Q (F0 m tgt ls rest)) (kf : ¬ x = y → W p l e R s m args below meth c H locs cells slots Q (F0 m (pc + 3) ls rest)) : W p l e R s m args below meth c H locs cells slots Q (F0 m pc ls (.int (lg_cmp x y) :: rest)) :=
  lv_if_eq hexec hb hdg ht (fun q => kt ((lg_cmp_eq x y).mp q)) (fun q => kf fun z => q ((lg_cmp_eq x y).mpr z))
theorem kl_ne {x y : Int64} (hexec : p.tables.exec = Jvm.exec) (hb : c.code = cc) (hdg : decode cc pc = .ok (.ifCond .ne off, 3)) (ht : (pc : Int) + off = (tgt : Int)) (kt : ¬ x = y → W p l e R s m args below meth c H locs cells slots Q (F0 m tgt ls rest)) (kf : x = y → W p l e R s m args below meth c H locs cells slots Q (F0 m (pc + 3) ls rest)) : W p l e R s m args below meth c H locs cells slots Q (F0 m pc ls (.int (lg_cmp x y) :: rest)) :=
  lv_if_ne hexec hb hdg ht (fun q => kt fun z => q ((lg_cmp_eq x y).mpr z)) (fun q => kf ((lg_cmp_eq x y).mp q))
end KN
theorem kx_T7 : ∀ k, k < 5 → TX7 k = TX5 k := by decide +kernel
theorem kx_T9 : ∀ k, k < 5 → TX9 k = TX5 k := by decide +kernel
theorem kw_eq1 {ct ct' : Nat → Option va_E} {k0 : Nat} {e0 : va_E} (h0 : ct' k0 = some e0) (hf : ∀ j, j ≠ k0 → ct' j = ct j) : ct' = kw_up ct k0 e0 := by
  funext j
  by_cases q0 : j = k0
  · subst q0; rw [kw_up_s, h0]
  · rw [kw_up_n q0, hf j q0]
theorem kw_eq2 {ct ct' : Nat → Option va_E} {k0 k1 : Nat} {e0 e1 : va_E} (h0 : ct' k0 = some e0) (h1 : ct' k1 = some e1) (hf : ∀ j, j ≠ k0 → j ≠ k1 → ct' j = ct j) : ct' = kw_up (kw_up ct k0 e0) k1 e1 := by
  funext j
  by_cases q1 : j = k1
  · subst q1; rw [kw_up_s, h1]
  · rw [kw_up_n q1]
    by_cases q0 : j = k0
    · subst q0; rw [kw_up_s, h0]
    · rw [kw_up_n q0, hf j q0 q1]
