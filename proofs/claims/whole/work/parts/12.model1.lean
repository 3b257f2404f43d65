/-! the reference -/
theorem kc_sW {p : Program} {l : Launch} {e : Env} {R : Room} {s : State} {m : MethodId} {args : Array Value} {below : List Frame} {meth : Method} {c : Code} {H : Heap} {locs : List Loc} {cells slots : Nat} {Q : State → Prop} {cc : ByteArray} {pc : Nat} {ls : Array Slot} {rest st0 : List Value} {D : va_G} {tc : Nat → ClassId} {ad : Nat → Nat} {A : Nat → Prop} {H0 : Heap} {ct : Nat → Option va_E} {z : Nat} {y : MethodName} {bytes : ByteArray} {maxL nL n index : Nat} {ret : Option FieldType} {ws Ts : List Cond} {rm : Room} {own : String} {As : List Value} {r : Value} (Wd : Nat)
    (S : CallFix p m c cc nL s args Ts own) (hM : Met l y ws rm (va_Pc As (kw_B D tc z ad ct)) (k2_QcV r) 0 0 (fun _ => False)) (cw : CallB R s args own index y bytes maxL ret ws rm 0 0 n ∧ (Cond.static y).before args s = true) (hlo : Wd + (maxL + 11) + rm.locals ≤ R.locals) (hK : kw_K D tc s) (hw : kw_H D ad A H0 ct H locs z)
    (hn : As.length = n) (hsz : ls.size = nL) (hst : st0 = As.reverse ++ rest) (hrs : (rest.map fun v => v.category).sum ≤ Wd) (hdg : decode cc pc = .ok (.invokestatic index, 3)) (hf : cells ≤ R.cells ∧ slots ≤ R.slots)
    (kk : W p l e R s m args below meth c H locs cells slots Q (F0 m (pc + 3) ls (r :: rest))) : W p l e R s m args below meth c H locs cells slots Q (F0 m pc ls st0) := by
  obtain ⟨⟨hrc, hrs', hfr, -, hws, hcw, hcode, hini, hy, hlen, hl⟩, hstt⟩ := cw
  obtain ⟨hx, hb, hml, ho, -⟩ := S
  have hp := kc_pS (As := As) hK hw
  intro T hT X
  obtain ⟨v, vm₁, g', mk, t, T', X', e1, e2, ⟨hv, hh⟩, st⟩ := callSM X hx (bytes := bytes) (maxL := maxL) (ret := ret) (W := Wd) hM hp.1 hrc hrs' hfr hlo hws hcw ho hl hstt hcode hini hy (g := F0 m pc ls st0) rfl (hsz.trans hml.symm) (argsL := As) (rest := rest) (fun sig h => hn.trans (hlen sig h)) hst (by show 2 * 0 + _ ≤ _; omega) (by rw [hb]; exact hdg) hf.1 hf.2 (fun vm₁ hW₁ => hp.2 (T.setVm vm₁) hT hW₁) (fun _ h => h.elim)
  cases hv
  obtain ⟨t2, a1, b1⟩ := kk T' (by rw [e1, hh]; exact hT) X'
  exact ⟨t2, st t2 a1, b1⟩
def kS1 (f : Nat → Int64) (set : Int32) (x : Int64) (n : Nat) : Int64 := su (fun c => f c + x * (kbit set c).toInt64) n
def kS2 (f : Nat → Int64) (set : Int32) (x : Int64) (n : Nat) : Int64 := su (fun c => (f c + x * (kbit set c).toInt64) * (f c + x * (kbit set c).toInt64)) n
def kLv (b : Int32) (N : Nat) (f : Nat → Int64) (set : Int32) (x : Int64) : Int64 := 4 * b.toInt64 * kS1 f set x N + (nI N).toInt64 * kS2 f set x N - kS1 f set x N * kS1 f set x N
def kPd (b : Int32) (N : Nat) (f : Nat → Int64) (set : Int32) (x : Int64) : Int64 := kLv b N f set x - kLv b N f 0 0
def kLw (h : Nat → Int64) (set : Int32) (x : Int64) : Nat → Int64
  | 0 => h 0 + x * (kbit set 0).toInt64
  | n + 1 => if kLw h set x n ≤ h (n + 1) + x * (kbit set (n + 1)).toInt64 then kLw h set x n else h (n + 1) + x * (kbit set (n + 1)).toInt64
theorem kLw_t {h : Nat → Int64} {set : Int32} {x : Int64} {i : Nat} (hi : 1 ≤ i) (q : kLw h set x (i - 1) ≤ h i + x * (kbit set i).toInt64) : kLw h set x (i - 1) = kLw h set x (i + 1 - 1) := by
  obtain ⟨j, rfl⟩ : ∃ j, i = j + 1 := ⟨i - 1, by omega⟩
  exact (if_pos q).symm
theorem kLw_f {h : Nat → Int64} {set : Int32} {x : Int64} {i : Nat} (hi : 1 ≤ i) (q : ¬ kLw h set x (i - 1) ≤ h i + x * (kbit set i).toInt64) : h i + x * (kbit set i).toInt64 = kLw h set x (i + 1 - 1) := by
  obtain ⟨j, rfl⟩ : ∃ j, i = j + 1 := ⟨i - 1, by omega⟩
  exact (if_neg q).symm
def kAm (b : Int32) (N : Nat) (f : Nat → Int64) (S : Int64) (set : Int32) (x : Int64) (c : Nat) : Bool :=
  decide (0 ≤ 4 * b.toInt64 + 2 * ((nI N).toInt64 * (f c + x * (kbit set c).toInt64) - S) ∧ 4 * b.toInt64 + 2 * ((nI N).toInt64 * (f c + x * (kbit set c).toInt64) - S) ≤ kU b N)
def kWy (b : Int32) (N : Nat) (f : Nat → Int64) (set : Int32) (x : Int64) (p : Int64) (h : Nat → Int64) : Int32 :=
  if kall (kAm b N f (su f N + su (fun c => x * (kbit set c).toInt64) N) set x) N = true then (if 0 ≤ p - kPd b N f set x + kU b N * kLw h set x (N - 1) then 0 else 2) else 1
def kWo (b : Int32) (N : Nat) (f : Nat → Int64) (w : Nat → Int32) (set : Int32) (x : Int64) : Int64 :=
  su (fun c => (kbit set c * w c).toInt64) N * x * kU b N - (sw w N).toInt64 * kPd b N f set x
def kOk (N : Nat) (set : Int32) : Prop := 1 ≤ set.toInt64 ∧ set.toInt64 ≤ 1 <<< ((nI N).toInt64 &&& 63) - 2
theorem kwl (n h : Nat) (q : n ≤ h) (hh : h < 2 ^ 31) : 0 ≤ (nI n).toInt64 ∧ (nI n).toInt64 ≤ lN h := by
  rw [nI_l (by omega)]
  exact ⟨(lN_le (a := 0) (b := n) (by omega) (by omega)).mpr (by omega), (lN_le (by omega) hh).mpr q⟩
theorem kr_1 {a b : Int64} (h : ¬ a < b) : b ≤ a := by grind
theorem kr_2 {a b : Int64} (h : ¬ a ≤ b) : b < a := by grind
theorem kr_3 {a b : Int64} (h : a < b) : ¬ b ≤ a := by grind
theorem kr_4 {a b : Int64} (h : a ≤ b) : ¬ b < a := by grind
set_option maxHeartbeats 4000000 in
set_option maxRecDepth 100000 in
theorem c_X11_fails (l : Launch) (D : va_G) (tc : Nat → ClassId) (sz : Nat) (ad : Nat → Nat) (ct : Nat → Option va_E) {N nt no nf : Nat} {ft tr b cm da bs : Int32} {g : Int64}                 {w : Int32} (h0 : ct 200 = some (.inr (11, [.int ft, .int tr, .int (nI N), .int b, .ref (ad 201), .long g, .int cm, .int da, .int (nI nt), .ref (ad 202), .ref (ad 203), .ref (ad 204), .ref (ad 205), .ref (ad 206), .ref (ad 207), .ref (ad 208), .ref (ad 209), .int (nI no), .ref (ad 210), .ref (ad 211), .ref (ad 212), .ref (ad 213), .ref (ad 214), .int bs, .int (nI nf), .ref (ad 215), .ref (ad 216)]))) : Met l yX11_fails wsX11_fails ({ frames := 0, cells := 0, slots := 0, locals := 0 }) (va_Pc [.ref (ad 200), .int w] (kw_B D tc sz ad ct)) (kw_Q D ad (kw_A ad ct sz) (some (.int ((-10) - w))) (kw_up ct 200 (.inr (11, [.int w, .int tr, .int (nI N), .int b, .ref (ad 201), .long g, .int cm, .int da, .int (nI nt), .ref (ad 202), .ref (ad 203), .ref (ad 204), .ref (ad 205), .ref (ad 206), .ref (ad 207), .ref (ad 208), .ref (ad 209), .int (nI no), .ref (ad 210), .ref (ad 211), .ref (ad 212), .ref (ad 213), .ref (ad 214), .int bs, .int (nI nf), .ref (ad 215), .ref (ad 216)]))) 0) 0 0 (kw_A ad ct sz) := by
  refine Met.ofW (cc := cX11_fails) (maxL := 2) (ret := (some .int)) (by decide) rfl ?_
  intro pg en s m args below meth cod s₁ B hml hv
  obtain ⟨rfl, hsz, hP0, hK⟩ := hv
  have hx := B.exec
  have hb := B.bytes
  have hr := B.returns
  have hts := atoms_spec (ws := wsX11_fails) B.pre
  have hown : s.vm.findClass RX11 = some m.cls := findClass_of_methodNamed B.named
  have hlocks := B.notSynchronized
  subst hsz
  have hw := kw_H.start hP0
  generalize hAe : kw_A ad ct s.heap.size = A at hw ⊢
  have hA : ∀ q, s.heap.size ≤ q → A q := fun q h => by rw [← hAe]; exact Or.inr h
  have hinX11 : ∀ w ∈ wsX110, w ∈ wsX11_fails := by decide +kernel
  have hl := lv_entry ([.ref (ad 200), .int w]) (n := 2) (Nat.le_of_ble_eq_true rfl)
  rw [lg_entry_eq]
  generalize (lg_sl ([.ref (ad 200), .int w]) ++ List.replicate (2 - (lg_sl ([.ref (ad 200), .int w])).length) Slot.unset).toArray = ls at hl ⊢
  have hl : lv_has ls 2 [(0, .ref (ad 200)), (1, .int w)] := hl
  have S0 : CallFix pg m cod cX11_fails 2 s _ wsX11_fails RX11 := ⟨hx, hb, hml, hown, hts⟩
  have hfr : ∀ j, j ≠ 200 → ct j = ct j := fun _ _ => rfl
  refine lv_aload_n hx hb dX11_fails_0 rfl (lv_at hl 0 rfl) ?_
  refine lv_iload_n hx hb dX11_fails_1 rfl (lv_at hl 1 rfl) ?_
  refine kg_put (v := .int w) (ty := .int) (C := RX11) (T := TX11) (N := 27) (fs' := [.int w, .int tr, .int (nI N), .int b, .ref (ad 201), .long g, .int cm, .int da, .int (nI nt), .ref (ad 202), .ref (ad 203), .ref (ad 204), .ref (ad 205), .ref (ad 206), .ref (ad 207), .ref (ad 208), .ref (ad 209), .int (nI no), .ref (ad 210), .ref (ad 211), .ref (ad 212), .ref (ad 213), .ref (ad 214), .int bs, .int (nI nf), .ref (ad 215), .ref (ad 216)]) hx hb hts hinX11 tyX11 tyX11_ok nmX11 hown hK hw h0 rfl 0 (by decide) (hts (.fieldLink RX11 69 "BetMakerModel" "fault" "I") (by decide +kernel)) (fun _ h9 => h9) rfl (by decide +kernel) rfl rfl (Nat.le_of_ble_eq_true rfl) rfl dX11_fails_2 (fun H locs hw => ?_)
  obtain ⟨ct_1, ect_1⟩ : ∃ z, z = kw_up ct 200 (.inr (11, [.int w, .int tr, .int (nI N), .int b, .ref (ad 201), .long g, .int cm, .int da, .int (nI nt), .ref (ad 202), .ref (ad 203), .ref (ad 204), .ref (ad 205), .ref (ad 206), .ref (ad 207), .ref (ad 208), .ref (ad 209), .int (nI no), .ref (ad 210), .ref (ad 211), .ref (ad 212), .ref (ad 213), .ref (ad 214), .int bs, .int (nI nf), .ref (ad 215), .ref (ad 216)])) := ⟨_, rfl⟩
  rw [← ect_1] at hw
  have h_2 : ct_1 200 = some (.inr (11, [.int w, .int tr, .int (nI N), .int b, .ref (ad 201), .long g, .int cm, .int da, .int (nI nt), .ref (ad 202), .ref (ad 203), .ref (ad 204), .ref (ad 205), .ref (ad 206), .ref (ad 207), .ref (ad 208), .ref (ad 209), .int (nI no), .ref (ad 210), .ref (ad 211), .ref (ad 212), .ref (ad 213), .ref (ad 214), .int bs, .int (nI nf), .ref (ad 215), .ref (ad 216)])) := by rw [ect_1]; exact kw_up_s
  have hfr_3 : ∀ j, j ≠ 200 → ct_1 j = ct j := fun j a0 => by rw [ect_1]; exact (kw_up_n a0).trans (hfr j a0)
  refine lv_bipush (v := (-10)) hx hb dX11_fails_5 (by decide) ?_
  refine lv_iload_n hx hb dX11_fails_7 rfl (lv_at hl 1 rfl) ?_
  refine lv_isub hx hb dX11_fails_8 ?_
  have hq_4 := h_2
  have hend := kw_eq1 hq_4 hfr_3
  rw [hend] at hw
  exact W.iret hx hb hr (fun t ht _ => ⟨rfl, by rw [ht]; exact hw.1, hw.2.2.1, hw.2.1.F ht, by rw [ht]; exact hw.2.2.2⟩) hw.2.1.2.2 dX11_fails_9
set_option maxHeartbeats 4000000 in
set_option maxRecDepth 100000 in
theorem c_X11_lost (l : Launch) (D : va_G) (tc : Nat → ClassId) (sz : Nat) (ad : Nat → Nat) (ct : Nat → Option va_E) {N nt no nf : Nat} {ft tr b cm da bs : Int32} {g : Int64}                 {w : Int32} (h0 : ct 200 = some (.inr (11, [.int ft, .int tr, .int (nI N), .int b, .ref (ad 201), .long g, .int cm, .int da, .int (nI nt), .ref (ad 202), .ref (ad 203), .ref (ad 204), .ref (ad 205), .ref (ad 206), .ref (ad 207), .ref (ad 208), .ref (ad 209), .int (nI no), .ref (ad 210), .ref (ad 211), .ref (ad 212), .ref (ad 213), .ref (ad 214), .int bs, .int (nI nf), .ref (ad 215), .ref (ad 216)]))) : Met l yX11_lost wsX11_lost ({ frames := 0, cells := 0, slots := 0, locals := 0 }) (va_Pc [.ref (ad 200), .int w] (kw_B D tc sz ad ct)) (kw_Q D ad (kw_A ad ct sz) (some (.long (-9223372036854775808))) (kw_up ct 200 (.inr (11, [.int w, .int tr, .int (nI N), .int b, .ref (ad 201), .long g, .int cm, .int da, .int (nI nt), .ref (ad 202), .ref (ad 203), .ref (ad 204), .ref (ad 205), .ref (ad 206), .ref (ad 207), .ref (ad 208), .ref (ad 209), .int (nI no), .ref (ad 210), .ref (ad 211), .ref (ad 212), .ref (ad 213), .ref (ad 214), .int bs, .int (nI nf), .ref (ad 215), .ref (ad 216)]))) 0) 0 0 (kw_A ad ct sz) := by
  refine Met.ofW (cc := cX11_lost) (maxL := 2) (ret := (some .long)) (by decide) rfl ?_
  intro pg en s m args below meth cod s₁ B hml hv
  obtain ⟨rfl, hsz, hP0, hK⟩ := hv
  have hx := B.exec
  have hb := B.bytes
  have hr := B.returns
  have hts := atoms_spec (ws := wsX11_lost) B.pre
  have hown : s.vm.findClass RX11 = some m.cls := findClass_of_methodNamed B.named
  have hlocks := B.notSynchronized
  subst hsz
  have hw := kw_H.start hP0
  generalize hAe : kw_A ad ct s.heap.size = A at hw ⊢
  have hA : ∀ q, s.heap.size ≤ q → A q := fun q h => by rw [← hAe]; exact Or.inr h
  have hinX11 : ∀ w ∈ wsX110, w ∈ wsX11_lost := by decide +kernel
  have hl := lv_entry ([.ref (ad 200), .int w]) (n := 2) (Nat.le_of_ble_eq_true rfl)
  rw [lg_entry_eq]
  generalize (lg_sl ([.ref (ad 200), .int w]) ++ List.replicate (2 - (lg_sl ([.ref (ad 200), .int w])).length) Slot.unset).toArray = ls at hl ⊢
  have hl : lv_has ls 2 [(0, .ref (ad 200)), (1, .int w)] := hl
  have S0 : CallFix pg m cod cX11_lost 2 s _ wsX11_lost RX11 := ⟨hx, hb, hml, hown, hts⟩
  have hfr : ∀ j, j ≠ 200 → ct j = ct j := fun _ _ => rfl
  refine lv_aload_n hx hb dX11_lost_0 rfl (lv_at hl 0 rfl) ?_
  refine lv_iload_n hx hb dX11_lost_1 rfl (lv_at hl 1 rfl) ?_
  refine kg_put (v := .int w) (ty := .int) (C := RX11) (T := TX11) (N := 27) (fs' := [.int w, .int tr, .int (nI N), .int b, .ref (ad 201), .long g, .int cm, .int da, .int (nI nt), .ref (ad 202), .ref (ad 203), .ref (ad 204), .ref (ad 205), .ref (ad 206), .ref (ad 207), .ref (ad 208), .ref (ad 209), .int (nI no), .ref (ad 210), .ref (ad 211), .ref (ad 212), .ref (ad 213), .ref (ad 214), .int bs, .int (nI nf), .ref (ad 215), .ref (ad 216)]) hx hb hts hinX11 tyX11 tyX11_ok nmX11 hown hK hw h0 rfl 0 (by decide) (hts (.fieldLink RX11 69 "BetMakerModel" "fault" "I") (by decide +kernel)) (fun _ h9 => h9) rfl (by decide +kernel) rfl rfl (Nat.le_of_ble_eq_true rfl) rfl dX11_lost_2 (fun H locs hw => ?_)
  obtain ⟨ct_1, ect_1⟩ : ∃ z, z = kw_up ct 200 (.inr (11, [.int w, .int tr, .int (nI N), .int b, .ref (ad 201), .long g, .int cm, .int da, .int (nI nt), .ref (ad 202), .ref (ad 203), .ref (ad 204), .ref (ad 205), .ref (ad 206), .ref (ad 207), .ref (ad 208), .ref (ad 209), .int (nI no), .ref (ad 210), .ref (ad 211), .ref (ad 212), .ref (ad 213), .ref (ad 214), .int bs, .int (nI nf), .ref (ad 215), .ref (ad 216)])) := ⟨_, rfl⟩
  rw [← ect_1] at hw
  have h_2 : ct_1 200 = some (.inr (11, [.int w, .int tr, .int (nI N), .int b, .ref (ad 201), .long g, .int cm, .int da, .int (nI nt), .ref (ad 202), .ref (ad 203), .ref (ad 204), .ref (ad 205), .ref (ad 206), .ref (ad 207), .ref (ad 208), .ref (ad 209), .int (nI no), .ref (ad 210), .ref (ad 211), .ref (ad 212), .ref (ad 213), .ref (ad 214), .int bs, .int (nI nf), .ref (ad 215), .ref (ad 216)])) := by rw [ect_1]; exact kw_up_s
  have hfr_3 : ∀ j, j ≠ 200 → ct_1 j = ct j := fun j a0 => by rw [ect_1]; exact (kw_up_n a0).trans (hfr j a0)
  refine lv_ldc2 (v := (-9223372036854775808)) hx hb hown (hts (.constantLong RX11 72 (-9223372036854775808)) (by decide +kernel)) dX11_lost_5 ?_
  have hq_4 := h_2
  have hend := kw_eq1 hq_4 hfr_3
  rw [hend] at hw
  exact W.lret hx hb hr (fun t ht _ => ⟨rfl, by rw [ht]; exact hw.1, hw.2.2.1, hw.2.1.F ht, by rw [ht]; exact hw.2.2.2⟩) hw.2.1.2.2 dX11_lost_8
set_option maxHeartbeats 4000000 in
set_option maxRecDepth 100000 in
theorem c_X11_within (l : Launch) (D : va_G) (tc : Nat → ClassId) (sz : Nat) (ad : Nat → Nat) (ct : Nat → Option va_E)                    {v lo hi : Int64} : Met l yX11_within wsX11_within ({ frames := 0, cells := 0, slots := 0, locals := 0 }) (va_Pc [.long v, .long lo, .long hi] (kw_B D tc sz ad ct)) (k2_QcV (.int (kb (lo ≤ v ∧ v ≤ hi)))) 0 0 (fun _ => False) := by
  refine Met.ofW (cc := cX11_within) (maxL := 6) (ret := (some .boolean)) (by decide) rfl ?_
  intro pg en s m args below meth cod s₁ B hml hv
  obtain ⟨rfl, hsz, hP0, hK⟩ := hv
  have hx := B.exec
  have hb := B.bytes
  have hr := B.returns
  have hts := atoms_spec (ws := wsX11_within) B.pre
  have hown : s.vm.findClass RX11 = some m.cls := findClass_of_methodNamed B.named
  have hlocks := B.notSynchronized
  subst hsz
  have hw := kw_H.start hP0
  generalize kw_A ad ct s.heap.size = A at hw
  have hl := lv_entry ([.long v, .long lo, .long hi]) (n := 6) (Nat.le_of_ble_eq_true rfl)
  rw [lg_entry_eq]
  generalize (lg_sl ([.long v, .long lo, .long hi]) ++ List.replicate (6 - (lg_sl ([.long v, .long lo, .long hi])).length) Slot.unset).toArray = ls at hl ⊢
  have hl : lv_has ls 6 [(0, .long v), (2, .long lo), (4, .long hi)] := hl
  have S0 : CallFix pg m cod cX11_within 6 s _ wsX11_within RX11 := ⟨hx, hb, hml, hown, hts⟩
  refine lv_lload_n hx hb dX11_within_0 rfl (lv_at hl 0 rfl) ?_
  refine lv_lload_n hx hb dX11_within_1 rfl (lv_at hl 1 rfl) ?_
  refine W.lcmp hx hb dX11_within_2 ?_
  refine kl_lt (tgt := 17) hx hb dX11_within_3 (by decide) (fun c_1 => ?_) (fun c_1 => ?_)
  · refine lv_iconst (v := 0) hx hb dX11_within_17 (by decide) ?_
    refine W.eq (congrArg (fun z => F0 m 18 ls [.int z]) (show 0 = (kb (lo ≤ v ∧ v ≤ hi)) from by exact (kb_f (fun q => kr_3 c_1 q.1)).symm)) ?_
    exact W.zret hx hb hr kb_nar (fun t ht _ => ⟨rfl, ht⟩) (fun _ h => absurd h List.not_mem_nil) dX11_within_18
  · refine lv_lload_n hx hb dX11_within_6 rfl (lv_at hl 0 rfl) ?_
    refine lv_lload hx hb dX11_within_7 (lv_at hl 2 rfl) ?_
    refine W.lcmp hx hb dX11_within_9 ?_
    refine kl_gt (tgt := 17) hx hb dX11_within_10 (by decide) (fun c_2 => ?_) (fun c_2 => ?_)
    · refine lv_iconst (v := 0) hx hb dX11_within_17 (by decide) ?_
      refine W.eq (congrArg (fun z => F0 m 18 ls [.int z]) (show 0 = (kb (lo ≤ v ∧ v ≤ hi)) from by exact (kb_f (fun q => kr_3 c_2 q.2)).symm)) ?_
      exact W.zret hx hb hr kb_nar (fun t ht _ => ⟨rfl, ht⟩) (fun _ h => absurd h List.not_mem_nil) dX11_within_18
    · refine lv_iconst (v := 1) hx hb dX11_within_13 (by decide) ?_
      refine lv_goto (tgt := 18) hx hb dX11_within_14 (by decide) ?_
      refine W.eq (congrArg (fun z => F0 m 18 ls [.int z]) (show 1 = (kb (lo ≤ v ∧ v ≤ hi)) from by exact (kb_t ⟨kr_1 c_1, kr_1 c_2⟩).symm)) ?_
      exact W.zret hx hb hr kb_nar (fun t ht _ => ⟨rfl, ht⟩) (fun _ h => absurd h List.not_mem_nil) dX11_within_18
set_option maxHeartbeats 4000000 in
set_option maxRecDepth 100000 in
theorem c_X11_grains (l : Launch) (D : va_G) (tc : Nat → ClassId) (sz : Nat) (ad : Nat → Nat) (ct : Nat → Option va_E) {N nt no nf : Nat} {ft tr b cm da bs : Int32} {g : Int64}                  (h0 : ct 200 = some (.inr (11, [.int ft, .int tr, .int (nI N), .int b, .ref (ad 201), .long g, .int cm, .int da, .int (nI nt), .ref (ad 202), .ref (ad 203), .ref (ad 204), .ref (ad 205), .ref (ad 206), .ref (ad 207), .ref (ad 208), .ref (ad 209), .int (nI no), .ref (ad 210), .ref (ad 211), .ref (ad 212), .ref (ad 213), .ref (ad 214), .int bs, .int (nI nf), .ref (ad 215), .ref (ad 216)]))) : Met l yX11_grains wsX11_grains ({ frames := 0, cells := 0, slots := 0, locals := 0 }) (va_Pc [.ref (ad 200)] (kw_B D tc sz ad ct)) (k2_QcV (.long (kU b N))) 0 0 (fun _ => False) := by
  refine Met.ofW (cc := cX11_grains) (maxL := 1) (ret := (some .long)) (by decide) rfl ?_
  intro pg en s m args below meth cod s₁ B hml hv
  obtain ⟨rfl, hsz, hP0, hK⟩ := hv
  have hx := B.exec
  have hb := B.bytes
  have hr := B.returns
  have hts := atoms_spec (ws := wsX11_grains) B.pre
  have hown : s.vm.findClass RX11 = some m.cls := findClass_of_methodNamed B.named
  have hlocks := B.notSynchronized
  subst hsz
  have hw := kw_H.start hP0
  generalize kw_A ad ct s.heap.size = A at hw
  have hinX11 : ∀ w ∈ wsX110, w ∈ wsX11_grains := by decide +kernel
  have hl := lv_entry ([.ref (ad 200)]) (n := 1) (Nat.le_of_ble_eq_true rfl)
  rw [lg_entry_eq]
  generalize (lg_sl ([.ref (ad 200)]) ++ List.replicate (1 - (lg_sl ([.ref (ad 200)])).length) Slot.unset).toArray = ls at hl ⊢
  have hl : lv_has ls 1 [(0, .ref (ad 200))] := hl
  have S0 : CallFix pg m cod cX11_grains 1 s _ wsX11_grains RX11 := ⟨hx, hb, hml, hown, hts⟩
  refine lv_ldc2 (v := 4) hx hb hown (hts (.constantLong RX11 74 (4)) (by decide +kernel)) dX11_grains_0 ?_
  refine lv_aload_n hx hb dX11_grains_3 rfl (lv_at hl 0 rfl) ?_
  refine kg_get (v := .int b) (C := RX11) (T := TX11) (N := 27) hx hb hts hinX11 hown hK hw h0 rfl 3 (by decide) (hts (.fieldLink RX11 13 "BetMakerModel" "broad" "I") (by decide +kernel)) (fun _ h9 => h9) rfl dX11_grains_4 ?_
  refine lv_i2l (v := b.toInt64) hx hb dX11_grains_7 rfl ?_
  refine lv_lmul hx hb dX11_grains_8 ?_
  refine lv_aload_n hx hb dX11_grains_9 rfl (lv_at hl 0 rfl) ?_
  refine kg_get (v := .int (nI N)) (C := RX11) (T := TX11) (N := 27) hx hb hts hinX11 hown hK hw h0 rfl 2 (by decide) (hts (.fieldLink RX11 7 "BetMakerModel" "cases" "I") (by decide +kernel)) (fun _ h9 => h9) rfl dX11_grains_10 ?_
  refine lv_i2l (v := (nI N).toInt64) hx hb dX11_grains_13 rfl ?_
  refine lv_lmul hx hb dX11_grains_14 ?_
  refine W.eq (congrArg (fun z => F0 m 15 ls [.long z]) (show ((4 * b.toInt64) * ((nI N).toInt64)) = (kU b N) from by rfl)) ?_
  exact W.lret hx hb hr (fun t ht _ => ⟨rfl, ht⟩) (fun _ h => absurd h List.not_mem_nil) dX11_grains_15
set_option maxHeartbeats 4000000 in
set_option maxRecDepth 100000 in
theorem c_X11_isCase (l : Launch) (D : va_G) (tc : Nat → ClassId) (sz : Nat) (ad : Nat → Nat) (ct : Nat → Option va_E) {N nt no nf : Nat} {ft tr b cm da bs : Int32} {g : Int64}                 {c : Int32} (h0 : ct 200 = some (.inr (11, [.int ft, .int tr, .int (nI N), .int b, .ref (ad 201), .long g, .int cm, .int da, .int (nI nt), .ref (ad 202), .ref (ad 203), .ref (ad 204), .ref (ad 205), .ref (ad 206), .ref (ad 207), .ref (ad 208), .ref (ad 209), .int (nI no), .ref (ad 210), .ref (ad 211), .ref (ad 212), .ref (ad 213), .ref (ad 214), .int bs, .int (nI nf), .ref (ad 215), .ref (ad 216)]))) : Met l yX11_isCase wsX11_isCase ({ frames := 0, cells := 0, slots := 0, locals := 0 }) (va_Pc [.ref (ad 200), .int c] (kw_B D tc sz ad ct)) (k2_QcV (.int (kb (0 ≤ c ∧ c < nI N)))) 0 0 (fun _ => False) := by
  refine Met.ofW (cc := cX11_isCase) (maxL := 2) (ret := (some .boolean)) (by decide) rfl ?_
  intro pg en s m args below meth cod s₁ B hml hv
  obtain ⟨rfl, hsz, hP0, hK⟩ := hv
  have hx := B.exec
  have hb := B.bytes
  have hr := B.returns
  have hts := atoms_spec (ws := wsX11_isCase) B.pre
  have hown : s.vm.findClass RX11 = some m.cls := findClass_of_methodNamed B.named
  have hlocks := B.notSynchronized
  subst hsz
  have hw := kw_H.start hP0
  generalize kw_A ad ct s.heap.size = A at hw
  have hinX11 : ∀ w ∈ wsX110, w ∈ wsX11_isCase := by decide +kernel
  have hl := lv_entry ([.ref (ad 200), .int c]) (n := 2) (Nat.le_of_ble_eq_true rfl)
  rw [lg_entry_eq]
  generalize (lg_sl ([.ref (ad 200), .int c]) ++ List.replicate (2 - (lg_sl ([.ref (ad 200), .int c])).length) Slot.unset).toArray = ls at hl ⊢
  have hl : lv_has ls 2 [(0, .ref (ad 200)), (1, .int c)] := hl
  have S0 : CallFix pg m cod cX11_isCase 2 s _ wsX11_isCase RX11 := ⟨hx, hb, hml, hown, hts⟩
  refine lv_iload_n hx hb dX11_isCase_0 rfl (lv_at hl 1 rfl) ?_
  refine lv_if_lt (tgt := 16) hx hb dX11_isCase_1 (by decide) (fun c_1 => ?_) (fun c_1 => ?_)
  · refine lv_iconst (v := 0) hx hb dX11_isCase_16 (by decide) ?_
    refine W.eq (congrArg (fun z => F0 m 17 ls [.int z]) (show 0 = (kb (0 ≤ c ∧ c < nI N)) from by exact (kb_f (fun q => kq_3 c_1 q.1)).symm)) ?_
    exact W.zret hx hb hr kb_nar (fun t ht _ => ⟨rfl, ht⟩) (fun _ h => absurd h List.not_mem_nil) dX11_isCase_17
  · refine lv_iload_n hx hb dX11_isCase_4 rfl (lv_at hl 1 rfl) ?_
    refine lv_aload_n hx hb dX11_isCase_5 rfl (lv_at hl 0 rfl) ?_
    refine kg_get (v := .int (nI N)) (C := RX11) (T := TX11) (N := 27) hx hb hts hinX11 hown hK hw h0 rfl 2 (by decide) (hts (.fieldLink RX11 7 "BetMakerModel" "cases" "I") (by decide +kernel)) (fun _ h9 => h9) rfl dX11_isCase_6 ?_
    refine lv_icmp_ge (tgt := 16) hx hb dX11_isCase_9 (by decide) (fun c_2 => ?_) (fun c_2 => ?_)
    · refine lv_iconst (v := 0) hx hb dX11_isCase_16 (by decide) ?_
      refine W.eq (congrArg (fun z => F0 m 17 ls [.int z]) (show 0 = (kb (0 ≤ c ∧ c < nI N)) from by exact (kb_f (fun q => kq_4 c_2 q.2)).symm)) ?_
      exact W.zret hx hb hr kb_nar (fun t ht _ => ⟨rfl, ht⟩) (fun _ h => absurd h List.not_mem_nil) dX11_isCase_17
    · refine lv_iconst (v := 1) hx hb dX11_isCase_12 (by decide) ?_
      refine lv_goto (tgt := 17) hx hb dX11_isCase_13 (by decide) ?_
      refine W.eq (congrArg (fun z => F0 m 17 ls [.int z]) (show 1 = (kb (0 ≤ c ∧ c < nI N)) from by exact (kb_t ⟨kq_1 c_1, kq_2 c_2⟩).symm)) ?_
      exact W.zret hx hb hr kb_nar (fun t ht _ => ⟨rfl, ht⟩) (fun _ h => absurd h List.not_mem_nil) dX11_isCase_17
set_option maxHeartbeats 4000000 in
set_option maxRecDepth 100000 in
theorem c_X11_isTrader (l : Launch) (D : va_G) (tc : Nat → ClassId) (sz : Nat) (ad : Nat → Nat) (ct : Nat → Option va_E) {N nt no nf : Nat} {ft tr b cm da bs : Int32} {g : Int64}                 {c : Int32} (h0 : ct 200 = some (.inr (11, [.int ft, .int tr, .int (nI N), .int b, .ref (ad 201), .long g, .int cm, .int da, .int (nI nt), .ref (ad 202), .ref (ad 203), .ref (ad 204), .ref (ad 205), .ref (ad 206), .ref (ad 207), .ref (ad 208), .ref (ad 209), .int (nI no), .ref (ad 210), .ref (ad 211), .ref (ad 212), .ref (ad 213), .ref (ad 214), .int bs, .int (nI nf), .ref (ad 215), .ref (ad 216)]))) : Met l yX11_isTrader wsX11_isTrader ({ frames := 0, cells := 0, slots := 0, locals := 0 }) (va_Pc [.ref (ad 200), .int c] (kw_B D tc sz ad ct)) (k2_QcV (.int (kb (0 ≤ c ∧ c < nI nt)))) 0 0 (fun _ => False) := by
  refine Met.ofW (cc := cX11_isTrader) (maxL := 2) (ret := (some .boolean)) (by decide) rfl ?_
  intro pg en s m args below meth cod s₁ B hml hv
  obtain ⟨rfl, hsz, hP0, hK⟩ := hv
  have hx := B.exec
  have hb := B.bytes
  have hr := B.returns
  have hts := atoms_spec (ws := wsX11_isTrader) B.pre
  have hown : s.vm.findClass RX11 = some m.cls := findClass_of_methodNamed B.named
  have hlocks := B.notSynchronized
  subst hsz
  have hw := kw_H.start hP0
  generalize kw_A ad ct s.heap.size = A at hw
  have hinX11 : ∀ w ∈ wsX110, w ∈ wsX11_isTrader := by decide +kernel
  have hl := lv_entry ([.ref (ad 200), .int c]) (n := 2) (Nat.le_of_ble_eq_true rfl)
  rw [lg_entry_eq]
  generalize (lg_sl ([.ref (ad 200), .int c]) ++ List.replicate (2 - (lg_sl ([.ref (ad 200), .int c])).length) Slot.unset).toArray = ls at hl ⊢
  have hl : lv_has ls 2 [(0, .ref (ad 200)), (1, .int c)] := hl
  have S0 : CallFix pg m cod cX11_isTrader 2 s _ wsX11_isTrader RX11 := ⟨hx, hb, hml, hown, hts⟩
  refine lv_iload_n hx hb dX11_isTrader_0 rfl (lv_at hl 1 rfl) ?_
  refine lv_if_lt (tgt := 16) hx hb dX11_isTrader_1 (by decide) (fun c_1 => ?_) (fun c_1 => ?_)
  · refine lv_iconst (v := 0) hx hb dX11_isTrader_16 (by decide) ?_
    refine W.eq (congrArg (fun z => F0 m 17 ls [.int z]) (show 0 = (kb (0 ≤ c ∧ c < nI nt)) from by exact (kb_f (fun q => kq_3 c_1 q.1)).symm)) ?_
    exact W.zret hx hb hr kb_nar (fun t ht _ => ⟨rfl, ht⟩) (fun _ h => absurd h List.not_mem_nil) dX11_isTrader_17
  · refine lv_iload_n hx hb dX11_isTrader_4 rfl (lv_at hl 1 rfl) ?_
    refine lv_aload_n hx hb dX11_isTrader_5 rfl (lv_at hl 0 rfl) ?_
    refine kg_get (v := .int (nI nt)) (C := RX11) (T := TX11) (N := 27) hx hb hts hinX11 hown hK hw h0 rfl 8 (by decide) (hts (.fieldLink RX11 93 "BetMakerModel" "traders" "I") (by decide +kernel)) (fun _ h9 => h9) rfl dX11_isTrader_6 ?_
    refine lv_icmp_ge (tgt := 16) hx hb dX11_isTrader_9 (by decide) (fun c_2 => ?_) (fun c_2 => ?_)
    · refine lv_iconst (v := 0) hx hb dX11_isTrader_16 (by decide) ?_
      refine W.eq (congrArg (fun z => F0 m 17 ls [.int z]) (show 0 = (kb (0 ≤ c ∧ c < nI nt)) from by exact (kb_f (fun q => kq_4 c_2 q.2)).symm)) ?_
      exact W.zret hx hb hr kb_nar (fun t ht _ => ⟨rfl, ht⟩) (fun _ h => absurd h List.not_mem_nil) dX11_isTrader_17
    · refine lv_iconst (v := 1) hx hb dX11_isTrader_12 (by decide) ?_
      refine lv_goto (tgt := 17) hx hb dX11_isTrader_13 (by decide) ?_
      refine W.eq (congrArg (fun z => F0 m 17 ls [.int z]) (show 1 = (kb (0 ≤ c ∧ c < nI nt)) from by exact (kb_t ⟨kq_1 c_1, kq_2 c_2⟩).symm)) ?_
      exact W.zret hx hb hr kb_nar (fun t ht _ => ⟨rfl, ht⟩) (fun _ h => absurd h List.not_mem_nil) dX11_isTrader_17
set_option maxHeartbeats 4000000 in
set_option maxRecDepth 100000 in
theorem c_X11_isOffer (l : Launch) (D : va_G) (tc : Nat → ClassId) (sz : Nat) (ad : Nat → Nat) (ct : Nat → Option va_E) {N nt no nf : Nat} {ft tr b cm da bs : Int32} {g : Int64}                 {c : Int32} (h0 : ct 200 = some (.inr (11, [.int ft, .int tr, .int (nI N), .int b, .ref (ad 201), .long g, .int cm, .int da, .int (nI nt), .ref (ad 202), .ref (ad 203), .ref (ad 204), .ref (ad 205), .ref (ad 206), .ref (ad 207), .ref (ad 208), .ref (ad 209), .int (nI no), .ref (ad 210), .ref (ad 211), .ref (ad 212), .ref (ad 213), .ref (ad 214), .int bs, .int (nI nf), .ref (ad 215), .ref (ad 216)]))) : Met l yX11_isOffer wsX11_isOffer ({ frames := 0, cells := 0, slots := 0, locals := 0 }) (va_Pc [.ref (ad 200), .int c] (kw_B D tc sz ad ct)) (k2_QcV (.int (kb (0 ≤ c ∧ c < nI no)))) 0 0 (fun _ => False) := by
  refine Met.ofW (cc := cX11_isOffer) (maxL := 2) (ret := (some .boolean)) (by decide) rfl ?_
  intro pg en s m args below meth cod s₁ B hml hv
  obtain ⟨rfl, hsz, hP0, hK⟩ := hv
  have hx := B.exec
  have hb := B.bytes
  have hr := B.returns
  have hts := atoms_spec (ws := wsX11_isOffer) B.pre
  have hown : s.vm.findClass RX11 = some m.cls := findClass_of_methodNamed B.named
  have hlocks := B.notSynchronized
  subst hsz
  have hw := kw_H.start hP0
  generalize kw_A ad ct s.heap.size = A at hw
  have hinX11 : ∀ w ∈ wsX110, w ∈ wsX11_isOffer := by decide +kernel
  have hl := lv_entry ([.ref (ad 200), .int c]) (n := 2) (Nat.le_of_ble_eq_true rfl)
  rw [lg_entry_eq]
  generalize (lg_sl ([.ref (ad 200), .int c]) ++ List.replicate (2 - (lg_sl ([.ref (ad 200), .int c])).length) Slot.unset).toArray = ls at hl ⊢
  have hl : lv_has ls 2 [(0, .ref (ad 200)), (1, .int c)] := hl
  have S0 : CallFix pg m cod cX11_isOffer 2 s _ wsX11_isOffer RX11 := ⟨hx, hb, hml, hown, hts⟩
  refine lv_iload_n hx hb dX11_isOffer_0 rfl (lv_at hl 1 rfl) ?_
  refine lv_if_lt (tgt := 16) hx hb dX11_isOffer_1 (by decide) (fun c_1 => ?_) (fun c_1 => ?_)
  · refine lv_iconst (v := 0) hx hb dX11_isOffer_16 (by decide) ?_
    refine W.eq (congrArg (fun z => F0 m 17 ls [.int z]) (show 0 = (kb (0 ≤ c ∧ c < nI no)) from by exact (kb_f (fun q => kq_3 c_1 q.1)).symm)) ?_
    exact W.zret hx hb hr kb_nar (fun t ht _ => ⟨rfl, ht⟩) (fun _ h => absurd h List.not_mem_nil) dX11_isOffer_17
  · refine lv_iload_n hx hb dX11_isOffer_4 rfl (lv_at hl 1 rfl) ?_
    refine lv_aload_n hx hb dX11_isOffer_5 rfl (lv_at hl 0 rfl) ?_
    refine kg_get (v := .int (nI no)) (C := RX11) (T := TX11) (N := 27) hx hb hts hinX11 hown hK hw h0 rfl 17 (by decide) (hts (.fieldLink RX11 96 "BetMakerModel" "offers" "I") (by decide +kernel)) (fun _ h9 => h9) rfl dX11_isOffer_6 ?_
    refine lv_icmp_ge (tgt := 16) hx hb dX11_isOffer_9 (by decide) (fun c_2 => ?_) (fun c_2 => ?_)
    · refine lv_iconst (v := 0) hx hb dX11_isOffer_16 (by decide) ?_
      refine W.eq (congrArg (fun z => F0 m 17 ls [.int z]) (show 0 = (kb (0 ≤ c ∧ c < nI no)) from by exact (kb_f (fun q => kq_4 c_2 q.2)).symm)) ?_
      exact W.zret hx hb hr kb_nar (fun t ht _ => ⟨rfl, ht⟩) (fun _ h => absurd h List.not_mem_nil) dX11_isOffer_17
    · refine lv_iconst (v := 1) hx hb dX11_isOffer_12 (by decide) ?_
      refine lv_goto (tgt := 17) hx hb dX11_isOffer_13 (by decide) ?_
      refine W.eq (congrArg (fun z => F0 m 17 ls [.int z]) (show 1 = (kb (0 ≤ c ∧ c < nI no)) from by exact (kb_t ⟨kq_1 c_1, kq_2 c_2⟩).symm)) ?_
      exact W.zret hx hb hr kb_nar (fun t ht _ => ⟨rfl, ht⟩) (fun _ h => absurd h List.not_mem_nil) dX11_isOffer_17
set_option maxHeartbeats 4000000 in
set_option maxRecDepth 100000 in
theorem c_X11_isSet (l : Launch) (D : va_G) (tc : Nat → ClassId) (sz : Nat) (ad : Nat → Nat) (ct : Nat → Option va_E) {N nt no nf : Nat} {ft tr b cm da bs : Int32} {g : Int64}                 {set : Int32} (h0 : ct 200 = some (.inr (11, [.int ft, .int tr, .int (nI N), .int b, .ref (ad 201), .long g, .int cm, .int da, .int (nI nt), .ref (ad 202), .ref (ad 203), .ref (ad 204), .ref (ad 205), .ref (ad 206), .ref (ad 207), .ref (ad 208), .ref (ad 209), .int (nI no), .ref (ad 210), .ref (ad 211), .ref (ad 212), .ref (ad 213), .ref (ad 214), .int bs, .int (nI nf), .ref (ad 215), .ref (ad 216)]))) : Met l yX11_isSet wsX11_isSet ({ frames := 1, cells := 0, slots := 0, locals := 29 }) (va_Pc [.ref (ad 200), .int set] (kw_B D tc sz ad ct)) (k2_QcV (.int (kb (1 ≤ set.toInt64 ∧ set.toInt64 ≤ 1 <<< ((nI N).toInt64 &&& 63) - 2)))) 0 0 (fun _ => False) := by
  refine Met.ofW (cc := cX11_isSet) (maxL := 2) (ret := (some .boolean)) (by decide) rfl ?_
  intro pg en s m args below meth cod s₁ B hml hv
  obtain ⟨rfl, hsz, hP0, hK⟩ := hv
  have hx := B.exec
  have hb := B.bytes
  have hr := B.returns
  have hts := atoms_spec (ws := wsX11_isSet) B.pre
  have hown : s.vm.findClass RX11 = some m.cls := findClass_of_methodNamed B.named
  have hlocks := B.notSynchronized
  subst hsz
  have hw := kw_H.start hP0
  generalize kw_A ad ct s.heap.size = A at hw
  have hinX11 : ∀ w ∈ wsX110, w ∈ wsX11_isSet := by decide +kernel
  have hl := lv_entry ([.ref (ad 200), .int set]) (n := 2) (Nat.le_of_ble_eq_true rfl)
  rw [lg_entry_eq]
  generalize (lg_sl ([.ref (ad 200), .int set]) ++ List.replicate (2 - (lg_sl ([.ref (ad 200), .int set])).length) Slot.unset).toArray = ls at hl ⊢
  have hl : lv_has ls 2 [(0, .ref (ad 200)), (1, .int set)] := hl
  have S0 : CallFix pg m cod cX11_isSet 2 s _ wsX11_isSet RX11 := ⟨hx, hb, hml, hown, hts⟩
  refine lv_iload_n hx hb dX11_isSet_0 rfl (lv_at hl 1 rfl) ?_
  refine lv_i2l (v := set.toInt64) hx hb dX11_isSet_1 rfl ?_
  refine lv_lconst (v := 1) hx hb dX11_isSet_2 (by decide) ?_
  refine lv_lconst (v := 1) hx hb dX11_isSet_3 (by decide) ?_
  refine lv_aload_n hx hb dX11_isSet_4 rfl (lv_at hl 0 rfl) ?_
  refine kg_get (v := .int (nI N)) (C := RX11) (T := TX11) (N := 27) hx hb hts hinX11 hown hK hw h0 rfl 2 (by decide) (hts (.fieldLink RX11 7 "BetMakerModel" "cases" "I") (by decide +kernel)) (fun _ h9 => h9) rfl dX11_isSet_5 ?_
  refine lv_lshl (v := 1 <<< ((nI N).toInt64 &&& 63)) hx hb dX11_isSet_8 rfl ?_
  refine lv_ldc2 (v := 2) hx hb hown (hts (.constantLong RX11 76 (2)) (by decide +kernel)) dX11_isSet_9 ?_
  refine lv_lsub hx hb dX11_isSet_12 ?_
  refine kc_s (As := [.long set.toInt64, .long 1, .long ((1 <<< ((nI N).toInt64 &&& 63)) - 2)]) (rest := []) S0 (c_X11_within l D tc s.heap.size ad ct ) (va_cwS 3 hts gX11_isSet_X11_within rfl rfl rfl (by decide +kernel) ⟨Nat.le_of_ble_eq_true rfl, Nat.le_of_ble_eq_true rfl⟩) hK hw rfl hl.1 rfl (Nat.le_of_ble_eq_true rfl) dX11_isSet_13 ⟨Nat.le_of_ble_eq_true rfl, (Nat.le_of_ble_eq_true rfl)⟩ ?_
  refine W.eq (congrArg (fun z => F0 m 16 ls [.int z]) (show (kb (1 ≤ set.toInt64 ∧ set.toInt64 ≤ ((1 <<< ((nI N).toInt64 &&& 63)) - 2))) = (kb (1 ≤ set.toInt64 ∧ set.toInt64 ≤ 1 <<< ((nI N).toInt64 &&& 63) - 2)) from by rfl)) ?_
  exact W.zret hx hb hr kb_nar (fun t ht _ => ⟨rfl, ht⟩) (fun _ h => absurd h List.not_mem_nil) dX11_isSet_16
set_option maxHeartbeats 4000000 in
set_option maxRecDepth 100000 in
theorem c_X11_isShares (l : Launch) (D : va_G) (tc : Nat → ClassId) (sz : Nat) (ad : Nat → Nat) (ct : Nat → Option va_E)                    {x : Int32} : Met l yX11_isShares wsX11_isShares ({ frames := 1, cells := 0, slots := 0, locals := 29 }) (va_Pc [.int x] (kw_B D tc sz ad ct)) (k2_QcV (.int (kb (¬ x = 0 ∧ ((-1000) ≤ x.toInt64 ∧ x.toInt64 ≤ 1000))))) 0 0 (fun _ => False) := by
  refine Met.ofW (cc := cX11_isShares) (maxL := 1) (ret := (some .boolean)) (by decide) rfl ?_
  intro pg en s m args below meth cod s₁ B hml hv
  obtain ⟨rfl, hsz, hP0, hK⟩ := hv
  have hx := B.exec
  have hb := B.bytes
  have hr := B.returns
  have hts := atoms_spec (ws := wsX11_isShares) B.pre
  have hown : s.vm.findClass RX11 = some m.cls := findClass_of_methodNamed B.named
  have hlocks := B.notSynchronized
  subst hsz
  have hw := kw_H.start hP0
  generalize kw_A ad ct s.heap.size = A at hw
  have hl := lv_entry ([.int x]) (n := 1) (Nat.le_of_ble_eq_true rfl)
  rw [lg_entry_eq]
  generalize (lg_sl ([.int x]) ++ List.replicate (1 - (lg_sl ([.int x])).length) Slot.unset).toArray = ls at hl ⊢
  have hl : lv_has ls 1 [(0, .int x)] := hl
  have S0 : CallFix pg m cod cX11_isShares 1 s _ wsX11_isShares RX11 := ⟨hx, hb, hml, hown, hts⟩
  refine lv_iload_n hx hb dX11_isShares_0 rfl (lv_at hl 0 rfl) ?_
  refine lv_if_eq (tgt := 22) hx hb dX11_isShares_1 (by decide) (fun c_1 => ?_) (fun c_1 => ?_)
  · refine lv_iconst (v := 0) hx hb dX11_isShares_22 (by decide) ?_
    refine W.eq (congrArg (fun z => F0 m 23 ls [.int z]) (show 0 = (kb (¬ x = 0 ∧ ((-1000) ≤ x.toInt64 ∧ x.toInt64 ≤ 1000))) from by exact (kb_f (fun q => q.1 c_1)).symm)) ?_
    exact W.zret hx hb hr kb_nar (fun t ht _ => ⟨rfl, ht⟩) (fun _ h => absurd h List.not_mem_nil) dX11_isShares_23
  · refine lv_iload_n hx hb dX11_isShares_4 rfl (lv_at hl 0 rfl) ?_
    refine lv_i2l (v := x.toInt64) hx hb dX11_isShares_5 rfl ?_
    refine lv_ldc2 (v := (-1000)) hx hb hown (hts (.constantLong RX11 102 (-1000)) (by decide +kernel)) dX11_isShares_6 ?_
    refine lv_ldc2 (v := 1000) hx hb hown (hts (.constantLong RX11 84 (1000)) (by decide +kernel)) dX11_isShares_9 ?_
    refine kc_s (As := [.long x.toInt64, .long (-1000), .long 1000]) (rest := []) S0 (c_X11_within l D tc s.heap.size ad ct ) (va_cwS 3 hts gX11_isShares_X11_within rfl rfl rfl (by decide +kernel) ⟨Nat.le_of_ble_eq_true rfl, Nat.le_of_ble_eq_true rfl⟩) hK hw rfl hl.1 rfl (Nat.le_of_ble_eq_true rfl) dX11_isShares_12 ⟨Nat.le_of_ble_eq_true rfl, (Nat.le_of_ble_eq_true rfl)⟩ ?_
    refine kb_ifeq (tgt := 22) hx hb dX11_isShares_15 (by decide) (fun c_2 => ?_) (fun c_2 => ?_)
    · refine lv_iconst (v := 0) hx hb dX11_isShares_22 (by decide) ?_
      refine W.eq (congrArg (fun z => F0 m 23 ls [.int z]) (show 0 = (kb (¬ x = 0 ∧ ((-1000) ≤ x.toInt64 ∧ x.toInt64 ≤ 1000))) from by exact (kb_f (fun q => c_2 q.2)).symm)) ?_
      exact W.zret hx hb hr kb_nar (fun t ht _ => ⟨rfl, ht⟩) (fun _ h => absurd h List.not_mem_nil) dX11_isShares_23
    · refine lv_iconst (v := 1) hx hb dX11_isShares_18 (by decide) ?_
      refine lv_goto (tgt := 23) hx hb dX11_isShares_19 (by decide) ?_
      refine W.eq (congrArg (fun z => F0 m 23 ls [.int z]) (show 1 = (kb (¬ x = 0 ∧ ((-1000) ≤ x.toInt64 ∧ x.toInt64 ≤ 1000))) from by exact (kb_t ⟨c_1, c_2⟩).symm)) ?_
      exact W.zret hx hb hr kb_nar (fun t ht _ => ⟨rfl, ht⟩) (fun _ h => absurd h List.not_mem_nil) dX11_isShares_23
set_option maxHeartbeats 4000000 in
set_option maxRecDepth 100000 in
theorem c_X11_in (l : Launch) (D : va_G) (tc : Nat → ClassId) (sz : Nat) (ad : Nat → Nat) (ct : Nat → Option va_E)                    {set : Int32} {c : Nat} : Met l yX11_in wsX11_in ({ frames := 0, cells := 0, slots := 0, locals := 0 }) (va_Pc [.int set, .int (nI c)] (kw_B D tc sz ad ct)) (k2_QcV (.int (kbit set c))) 0 0 (fun _ => False) := by
  refine Met.ofW (cc := cX11_in) (maxL := 2) (ret := (some .int)) (by decide) rfl ?_
  intro pg en s m args below meth cod s₁ B hml hv
  obtain ⟨rfl, hsz, hP0, hK⟩ := hv
  have hx := B.exec
  have hb := B.bytes
  have hr := B.returns
  have hts := atoms_spec (ws := wsX11_in) B.pre
  have hown : s.vm.findClass RX11 = some m.cls := findClass_of_methodNamed B.named
  have hlocks := B.notSynchronized
  subst hsz
  have hw := kw_H.start hP0
  generalize kw_A ad ct s.heap.size = A at hw
  have hl := lv_entry ([.int set, .int (nI c)]) (n := 2) (Nat.le_of_ble_eq_true rfl)
  rw [lg_entry_eq]
  generalize (lg_sl ([.int set, .int (nI c)]) ++ List.replicate (2 - (lg_sl ([.int set, .int (nI c)])).length) Slot.unset).toArray = ls at hl ⊢
  have hl : lv_has ls 2 [(0, .int set), (1, .int (nI c))] := hl
  have S0 : CallFix pg m cod cX11_in 2 s _ wsX11_in RX11 := ⟨hx, hb, hml, hown, hts⟩
  refine lv_iload_n hx hb dX11_in_0 rfl (lv_at hl 0 rfl) ?_
  refine lv_iload_n hx hb dX11_in_1 rfl (lv_at hl 1 rfl) ?_
  refine lv_ishr hx hb dX11_in_2 ?_
  refine lv_iconst (v := 1) hx hb dX11_in_3 (by decide) ?_
  refine lv_iand hx hb dX11_in_4 ?_
  refine W.eq (congrArg (fun z => F0 m 5 ls [.int z]) (show ((set >>> ((nI c) &&& 31)) &&& 1) = (kbit set c) from by rfl)) ?_
  exact W.iret hx hb hr (fun t ht _ => ⟨rfl, ht⟩) (fun _ h => absurd h List.not_mem_nil) dX11_in_5
set_option maxHeartbeats 4000000 in
set_option maxRecDepth 100000 in
theorem c_X11_sumSold (l : Launch) (D : va_G) (tc : Nat → ClassId) (sz : Nat) (ad : Nat → Nat) (ct : Nat → Option va_E) {N nt no nf : Nat} {ft tr b cm da bs : Int32} {g : Int64} {f : Nat → Int64}                 (h0 : ct 200 = some (.inr (11, [.int ft, .int tr, .int (nI N), .int b, .ref (ad 201), .long g, .int cm, .int da, .int (nI nt), .ref (ad 202), .ref (ad 203), .ref (ad 204), .ref (ad 205), .ref (ad 206), .ref (ad 207), .ref (ad 208), .ref (ad 209), .int (nI no), .ref (ad 210), .ref (ad 211), .ref (ad 212), .ref (ad 213), .ref (ad 214), .int bs, .int (nI nf), .ref (ad 215), .ref (ad 216)]))) (h201 : ct 201 = some (eJ tc 8 f)) (hN : N ≤ 8) : Met l yX11_sumSold wsX11_sumSold ({ frames := 0, cells := 0, slots := 0, locals := 0 }) (va_Pc [.ref (ad 200)] (kw_B D tc sz ad ct)) (k2_QcV (.long (su f N))) 0 0 (fun _ => False) := by
  refine Met.ofW (cc := cX11_sumSold) (maxL := 4) (ret := (some .long)) (by decide) rfl ?_
  intro pg en s m args below meth cod s₁ B hml hv
  obtain ⟨rfl, hsz, hP0, hK⟩ := hv
  have hx := B.exec
  have hb := B.bytes
  have hr := B.returns
  have hts := atoms_spec (ws := wsX11_sumSold) B.pre
  have hown : s.vm.findClass RX11 = some m.cls := findClass_of_methodNamed B.named
  have hlocks := B.notSynchronized
  subst hsz
  have hw := kw_H.start hP0
  generalize kw_A ad ct s.heap.size = A at hw
  have hinX11 : ∀ w ∈ wsX110, w ∈ wsX11_sumSold := by decide +kernel
  have hl := lv_entry ([.ref (ad 200)]) (n := 4) (Nat.le_of_ble_eq_true rfl)
  rw [lg_entry_eq]
  generalize (lg_sl ([.ref (ad 200)]) ++ List.replicate (4 - (lg_sl ([.ref (ad 200)])).length) Slot.unset).toArray = ls at hl ⊢
  have hl : lv_has ls 4 [(0, .ref (ad 200))] := hl
  have S0 : CallFix pg m cod cX11_sumSold 4 s _ wsX11_sumSold RX11 := ⟨hx, hb, hml, hown, hts⟩
  refine lv_lconst (v := 0) hx hb dX11_sumSold_0 (by decide) ?_
  refine lv_lstore_n (lv' := [(1, .long 0), (0, .ref (ad 200))]) hx hb dX11_sumSold_1 rfl hl (by decide) rfl (fun ls hl => ?_)
  refine lv_iconst (v := 0) hx hb dX11_sumSold_2 (by decide) ?_
  refine lv_istore_n (lv' := [(3, .int 0), (1, .long 0), (0, .ref (ad 200))]) hx hb dX11_sumSold_3 rfl hl (by decide) rfl (fun ls hl => ?_)
  suffices lp4 : ∀ (nfu : Nat) (i : Nat) (acc : Int64) (ls : Array Slot), N - i < nfu → i ≤ N → acc = su f i → lv_has ls 4 [(0, .ref (ad 200)), (1, .long acc), (3, .int (nI i))] → W pg l en (headSpec wsX11_sumSold ({ frames := 0, cells := 0, slots := 0, locals := 0 })).room s m (([.ref (ad 200)] : List Value).toArray) below meth cod s.heap [] 0 0 (MQ below (k2_QcV (.long (su f N))) (([.ref (ad 200)] : List Value).toArray) s 0 0 (fun _ => False)) (F0 m 4 ls []) by
    exact lp4 (N - 0 + 1) 0 0 ls (by omega) (by omega) (by rfl) (by have hl9 := lv_sub hl (l' := [(0, .ref (ad 200)), (1, .long 0), (3, .int 0)]) [2, 1, 0] rfl; exact hl9)
  intro n4
  induction n4 with
  | zero => intro i acc ls hfu; exact absurd hfu (Nat.not_lt_zero _)
  | succ n4 ih4 =>
    intro i acc ls hfu4 hi ha hl
    refine lv_iload_n hx hb dX11_sumSold_4 rfl (lv_at hl 2 rfl) ?_
    refine lv_aload_n hx hb dX11_sumSold_5 rfl (lv_at hl 0 rfl) ?_
    refine kg_get (v := .int (nI N)) (C := RX11) (T := TX11) (N := 27) hx hb hts hinX11 hown hK hw h0 rfl 2 (by decide) (hts (.fieldLink RX11 7 "BetMakerModel" "cases" "I") (by decide +kernel)) (fun _ h9 => h9) rfl dX11_sumSold_6 ?_
    refine kn_ge i N rfl rfl (by omega) (by omega) (tgt := 27) hx hb dX11_sumSold_9 (by decide) (fun c_1 => ?_) (fun c_1 => ?_)
    · refine lv_lload_n hx hb dX11_sumSold_27 rfl (lv_at hl 1 rfl) ?_
      refine W.eq (congrArg (fun z => F0 m 28 ls [.long z]) (show acc = (su f N) from by rw [ha, show i = N by omega])) ?_
      exact W.lret hx hb hr (fun t ht _ => ⟨rfl, ht⟩) (fun _ h => absurd h List.not_mem_nil) dX11_sumSold_28
    · refine lv_lload_n hx hb dX11_sumSold_12 rfl (lv_at hl 1 rfl) ?_
      refine lv_aload_n hx hb dX11_sumSold_13 rfl (lv_at hl 0 rfl) ?_
      refine kg_get (v := .ref (ad 201)) (C := RX11) (T := TX11) (N := 27) hx hb hts hinX11 hown hK hw h0 rfl 4 (by decide) (hts (.fieldLink RX11 16 "BetMakerModel" "sold" "[J") (by decide +kernel)) (fun _ h9 => h9) rfl dX11_sumSold_14 ?_
      refine lv_iload_n hx hb dX11_sumSold_17 rfl (lv_at hl 2 rfl) ?_
      refine kg_lald hx hb hK hw h201 i rfl (by omega) (by omega) dX11_sumSold_18 ?_
      refine lv_ladd hx hb dX11_sumSold_19 ?_
      refine lv_lstore_n (lv' := [(1, .long (acc + (f i))), (0, .ref (ad 200)), (3, .int (nI i))]) hx hb dX11_sumSold_20 rfl hl (by decide) rfl (fun ls hl => ?_)
      refine lv_iinc (v := (nI (i + 1))) (lv' := [(3, .int (nI (i + 1))), (1, .long (acc + (f i))), (0, .ref (ad 200))]) hx hb dX11_sumSold_21 hl (k := 2) rfl (nI_1 i) (by decide) rfl (fun ls hl => ?_)
      refine lv_goto (tgt := 4) hx hb dX11_sumSold_24 (by decide) ?_
      exact ih4 (i + 1) (acc + (f i)) ls (by omega) (by omega) (by rw [ha]; rfl) (lv_sub hl [2, 1, 0] rfl)
set_option maxHeartbeats 4000000 in
set_option maxRecDepth 100000 in
theorem c_X11_priceOf (l : Launch) (D : va_G) (tc : Nat → ClassId) (sz : Nat) (ad : Nat → Nat) (ct : Nat → Option va_E) {N nt no nf : Nat} {ft tr b cm da bs : Int32} {g : Int64} {f : Nat → Int64}                {c : Nat} (h0 : ct 200 = some (.inr (11, [.int ft, .int tr, .int (nI N), .int b, .ref (ad 201), .long g, .int cm, .int da, .int (nI nt), .ref (ad 202), .ref (ad 203), .ref (ad 204), .ref (ad 205), .ref (ad 206), .ref (ad 207), .ref (ad 208), .ref (ad 209), .int (nI no), .ref (ad 210), .ref (ad 211), .ref (ad 212), .ref (ad 213), .ref (ad 214), .int bs, .int (nI nf), .ref (ad 215), .ref (ad 216)]))) (h201 : ct 201 = some (eJ tc 8 f)) (hc : c < N) (hN : N ≤ 8) : Met l yX11_priceOf wsX11_priceOf ({ frames := 1, cells := 0, slots := 0, locals := 27 }) (va_Pc [.ref (ad 200), .int (nI c)] (kw_B D tc sz ad ct)) (k2_QcV (.long (kPr b N f (su f N) c))) 0 0 (fun _ => False) := by
  refine Met.ofW (cc := cX11_priceOf) (maxL := 2) (ret := (some .long)) (by decide) rfl ?_
  intro pg en s m args below meth cod s₁ B hml hv
  obtain ⟨rfl, hsz, hP0, hK⟩ := hv
  have hx := B.exec
  have hb := B.bytes
  have hr := B.returns
  have hts := atoms_spec (ws := wsX11_priceOf) B.pre
  have hown : s.vm.findClass RX11 = some m.cls := findClass_of_methodNamed B.named
  have hlocks := B.notSynchronized
  subst hsz
  have hw := kw_H.start hP0
  generalize kw_A ad ct s.heap.size = A at hw
  have hinX11 : ∀ w ∈ wsX110, w ∈ wsX11_priceOf := by decide +kernel
  have hl := lv_entry ([.ref (ad 200), .int (nI c)]) (n := 2) (Nat.le_of_ble_eq_true rfl)
  rw [lg_entry_eq]
  generalize (lg_sl ([.ref (ad 200), .int (nI c)]) ++ List.replicate (2 - (lg_sl ([.ref (ad 200), .int (nI c)])).length) Slot.unset).toArray = ls at hl ⊢
  have hl : lv_has ls 2 [(0, .ref (ad 200)), (1, .int (nI c))] := hl
  have S0 : CallFix pg m cod cX11_priceOf 2 s _ wsX11_priceOf RX11 := ⟨hx, hb, hml, hown, hts⟩
  refine lv_ldc2 (v := 4) hx hb hown (hts (.constantLong RX11 74 (4)) (by decide +kernel)) dX11_priceOf_0 ?_
  refine lv_aload_n hx hb dX11_priceOf_3 rfl (lv_at hl 0 rfl) ?_
  refine kg_get (v := .int b) (C := RX11) (T := TX11) (N := 27) hx hb hts hinX11 hown hK hw h0 rfl 3 (by decide) (hts (.fieldLink RX11 13 "BetMakerModel" "broad" "I") (by decide +kernel)) (fun _ h9 => h9) rfl dX11_priceOf_4 ?_
  refine lv_i2l (v := b.toInt64) hx hb dX11_priceOf_7 rfl ?_
  refine lv_lmul hx hb dX11_priceOf_8 ?_
  refine lv_ldc2 (v := 2) hx hb hown (hts (.constantLong RX11 76 (2)) (by decide +kernel)) dX11_priceOf_9 ?_
  refine lv_aload_n hx hb dX11_priceOf_12 rfl (lv_at hl 0 rfl) ?_
  refine kg_get (v := .int (nI N)) (C := RX11) (T := TX11) (N := 27) hx hb hts hinX11 hown hK hw h0 rfl 2 (by decide) (hts (.fieldLink RX11 7 "BetMakerModel" "cases" "I") (by decide +kernel)) (fun _ h9 => h9) rfl dX11_priceOf_13 ?_
  refine lv_i2l (v := (nI N).toInt64) hx hb dX11_priceOf_16 rfl ?_
  refine lv_aload_n hx hb dX11_priceOf_17 rfl (lv_at hl 0 rfl) ?_
  refine kg_get (v := .ref (ad 201)) (C := RX11) (T := TX11) (N := 27) hx hb hts hinX11 hown hK hw h0 rfl 4 (by decide) (hts (.fieldLink RX11 16 "BetMakerModel" "sold" "[J") (by decide +kernel)) (fun _ h9 => h9) rfl dX11_priceOf_18 ?_
  refine lv_iload_n hx hb dX11_priceOf_21 rfl (lv_at hl 1 rfl) ?_
  refine kg_lald hx hb hK hw h201 c rfl (by omega) (by omega) dX11_priceOf_22 ?_
  refine lv_lmul hx hb dX11_priceOf_23 ?_
  refine lv_aload_n hx hb dX11_priceOf_24 rfl (lv_at hl 0 rfl) ?_
  refine kc_v (As := []) (rest := [.long (((nI N).toInt64) * (f c)), .long 2, .long (4 * b.toInt64)]) S0 (c_X11_sumSold l D tc s.heap.size ad ct (N := N) (nt := nt) (no := no) (nf := nf) h0 h201 (by omega)) (cwV 0 hts gX11_priceOf_X11_sumSold rfl rfl rfl (by decide +kernel) ⟨Nat.le_of_ble_eq_true rfl, Nat.le_of_ble_eq_true rfl⟩) hK hw h0 rfl rfl hl.1 rfl (Nat.le_of_ble_eq_true rfl) dX11_priceOf_25 ⟨Nat.le_of_ble_eq_true rfl, (Nat.le_of_ble_eq_true rfl)⟩ ?_
  refine lv_lsub hx hb dX11_priceOf_28 ?_
  refine lv_lmul hx hb dX11_priceOf_29 ?_
  refine lv_ladd hx hb dX11_priceOf_30 ?_
  refine W.eq (congrArg (fun z => F0 m 31 ls [.long z]) (show ((4 * b.toInt64) + (2 * ((((nI N).toInt64) * (f c)) - (su f N)))) = (kPr b N f (su f N) c) from by rfl)) ?_
  exact W.lret hx hb hr (fun t ht _ => ⟨rfl, ht⟩) (fun _ h => absurd h List.not_mem_nil) dX11_priceOf_31
set_option maxHeartbeats 4000000 in
set_option maxRecDepth 100000 in
theorem c_X11_levelWith (l : Launch) (D : va_G) (tc : Nat → ClassId) (sz : Nat) (ad : Nat → Nat) (ct : Nat → Option va_E) {N nt no nf : Nat} {ft tr b cm da bs : Int32} {g : Int64} {f : Nat → Int64}                {set : Int32} {x : Int64} (h0 : ct 200 = some (.inr (11, [.int ft, .int tr, .int (nI N), .int b, .ref (ad 201), .long g, .int cm, .int da, .int (nI nt), .ref (ad 202), .ref (ad 203), .ref (ad 204), .ref (ad 205), .ref (ad 206), .ref (ad 207), .ref (ad 208), .ref (ad 209), .int (nI no), .ref (ad 210), .ref (ad 211), .ref (ad 212), .ref (ad 213), .ref (ad 214), .int bs, .int (nI nf), .ref (ad 215), .ref (ad 216)]))) (h201 : ct 201 = some (eJ tc 8 f)) (hN : N ≤ 8) : Met l yX11_levelWith wsX11_levelWith ({ frames := 1, cells := 0, slots := 0, locals := 25 }) (va_Pc [.ref (ad 200), .int set, .long x] (kw_B D tc sz ad ct)) (k2_QcV (.long (kLv b N f set x))) 0 0 (fun _ => False) := by
  refine Met.ofW (cc := cX11_levelWith) (maxL := 11) (ret := (some .long)) (by decide) rfl ?_
  intro pg en s m args below meth cod s₁ B hml hv
  obtain ⟨rfl, hsz, hP0, hK⟩ := hv
  have hx := B.exec
  have hb := B.bytes
  have hr := B.returns
  have hts := atoms_spec (ws := wsX11_levelWith) B.pre
  have hown : s.vm.findClass RX11 = some m.cls := findClass_of_methodNamed B.named
  have hlocks := B.notSynchronized
  subst hsz
  have hw := kw_H.start hP0
  generalize kw_A ad ct s.heap.size = A at hw
  have hinX11 : ∀ w ∈ wsX110, w ∈ wsX11_levelWith := by decide +kernel
  have hl := lv_entry ([.ref (ad 200), .int set, .long x]) (n := 11) (Nat.le_of_ble_eq_true rfl)
  rw [lg_entry_eq]
  generalize (lg_sl ([.ref (ad 200), .int set, .long x]) ++ List.replicate (11 - (lg_sl ([.ref (ad 200), .int set, .long x])).length) Slot.unset).toArray = ls at hl ⊢
  have hl : lv_has ls 11 [(0, .ref (ad 200)), (1, .int set), (2, .long x)] := hl
  have S0 : CallFix pg m cod cX11_levelWith 11 s _ wsX11_levelWith RX11 := ⟨hx, hb, hml, hown, hts⟩
  refine lv_lconst (v := 0) hx hb dX11_levelWith_0 (by decide) ?_
  refine lv_lstore (lv' := [(4, .long 0), (0, .ref (ad 200)), (1, .int set), (2, .long x)]) hx hb dX11_levelWith_1 hl (by decide) rfl (fun ls hl => ?_)
  refine lv_lconst (v := 0) hx hb dX11_levelWith_3 (by decide) ?_
  refine lv_lstore (lv' := [(6, .long 0), (4, .long 0), (0, .ref (ad 200)), (1, .int set), (2, .long x)]) hx hb dX11_levelWith_4 hl (by decide) rfl (fun ls hl => ?_)
  refine lv_iconst (v := 0) hx hb dX11_levelWith_6 (by decide) ?_
  refine lv_istore (lv' := [(8, .int 0), (6, .long 0), (4, .long 0), (0, .ref (ad 200)), (1, .int set), (2, .long x)]) hx hb dX11_levelWith_7 hl (by decide) rfl (fun ls hl => ?_)
  suffices lp9 : ∀ (nfu : Nat) (i : Nat) (a1 a2 : Int64) (ls : Array Slot), N - i < nfu → i ≤ N → a1 = kS1 f set x i → a2 = kS2 f set x i → lv_has ls 11 [(0, .ref (ad 200)), (1, .int set), (2, .long x), (4, .long a1), (6, .long a2), (8, .int (nI i))] → W pg l en (headSpec wsX11_levelWith ({ frames := 1, cells := 0, slots := 0, locals := 25 })).room s m (([.ref (ad 200), .int set, .long x] : List Value).toArray) below meth cod s.heap [] 0 0 (MQ below (k2_QcV (.long (kLv b N f set x))) (([.ref (ad 200), .int set, .long x] : List Value).toArray) s 0 0 (fun _ => False)) (F0 m 9 ls []) by
    exact lp9 (N - 0 + 1) 0 0 0 ls (by omega) (by omega) (by rfl) (by rfl) (by have hl9 := lv_sub hl (l' := [(0, .ref (ad 200)), (1, .int set), (2, .long x), (4, .long 0), (6, .long 0), (8, .int 0)]) [3, 4, 5, 2, 1, 0] rfl; exact hl9)
  intro n9
  induction n9 with
  | zero => intro i a1 a2 ls hfu; exact absurd hfu (Nat.not_lt_zero _)
  | succ n9 ih9 =>
    intro i a1 a2 ls hfu9 hi ha hq hl
    refine lv_iload hx hb dX11_levelWith_9 (lv_at hl 5 rfl) ?_
    refine lv_aload_n hx hb dX11_levelWith_11 rfl (lv_at hl 0 rfl) ?_
    refine kg_get (v := .int (nI N)) (C := RX11) (T := TX11) (N := 27) hx hb hts hinX11 hown hK hw h0 rfl 2 (by decide) (hts (.fieldLink RX11 7 "BetMakerModel" "cases" "I") (by decide +kernel)) (fun _ h9 => h9) rfl dX11_levelWith_12 ?_
    refine kn_ge i N rfl rfl (by omega) (by omega) (tgt := 60) hx hb dX11_levelWith_15 (by decide) (fun c_1 => ?_) (fun c_1 => ?_)
    · refine lv_ldc2 (v := 4) hx hb hown (hts (.constantLong RX11 74 (4)) (by decide +kernel)) dX11_levelWith_60 ?_
      refine lv_aload_n hx hb dX11_levelWith_63 rfl (lv_at hl 0 rfl) ?_
      refine kg_get (v := .int b) (C := RX11) (T := TX11) (N := 27) hx hb hts hinX11 hown hK hw h0 rfl 3 (by decide) (hts (.fieldLink RX11 13 "BetMakerModel" "broad" "I") (by decide +kernel)) (fun _ h9 => h9) rfl dX11_levelWith_64 ?_
      refine lv_i2l (v := b.toInt64) hx hb dX11_levelWith_67 rfl ?_
      refine lv_lmul hx hb dX11_levelWith_68 ?_
      refine lv_lload hx hb dX11_levelWith_69 (lv_at hl 3 rfl) ?_
      refine lv_lmul hx hb dX11_levelWith_71 ?_
      refine lv_aload_n hx hb dX11_levelWith_72 rfl (lv_at hl 0 rfl) ?_
      refine kg_get (v := .int (nI N)) (C := RX11) (T := TX11) (N := 27) hx hb hts hinX11 hown hK hw h0 rfl 2 (by decide) (hts (.fieldLink RX11 7 "BetMakerModel" "cases" "I") (by decide +kernel)) (fun _ h9 => h9) rfl dX11_levelWith_73 ?_
      refine lv_i2l (v := (nI N).toInt64) hx hb dX11_levelWith_76 rfl ?_
      refine lv_lload hx hb dX11_levelWith_77 (lv_at hl 4 rfl) ?_
      refine lv_lmul hx hb dX11_levelWith_79 ?_
      refine lv_ladd hx hb dX11_levelWith_80 ?_
      refine lv_lload hx hb dX11_levelWith_81 (lv_at hl 3 rfl) ?_
      refine lv_lload hx hb dX11_levelWith_83 (lv_at hl 3 rfl) ?_
      refine lv_lmul hx hb dX11_levelWith_85 ?_
      refine lv_lsub hx hb dX11_levelWith_86 ?_
      refine W.eq (congrArg (fun z => F0 m 87 ls [.long z]) (show ((((4 * b.toInt64) * a1) + (((nI N).toInt64) * a2)) - (a1 * a1)) = (kLv b N f set x) from by rw [ha, hq, show i = N by omega]; rfl)) ?_
      exact W.lret hx hb hr (fun t ht _ => ⟨rfl, ht⟩) (fun _ h => absurd h List.not_mem_nil) dX11_levelWith_87
    · refine lv_aload_n hx hb dX11_levelWith_18 rfl (lv_at hl 0 rfl) ?_
      refine kg_get (v := .ref (ad 201)) (C := RX11) (T := TX11) (N := 27) hx hb hts hinX11 hown hK hw h0 rfl 4 (by decide) (hts (.fieldLink RX11 16 "BetMakerModel" "sold" "[J") (by decide +kernel)) (fun _ h9 => h9) rfl dX11_levelWith_19 ?_
      refine lv_iload hx hb dX11_levelWith_22 (lv_at hl 5 rfl) ?_
      refine kg_lald hx hb hK hw h201 i rfl (by omega) (by omega) dX11_levelWith_24 ?_
      refine lv_lload_n hx hb dX11_levelWith_25 rfl (lv_at hl 2 rfl) ?_
      refine lv_iload_n hx hb dX11_levelWith_26 rfl (lv_at hl 1 rfl) ?_
      refine lv_iload hx hb dX11_levelWith_27 (lv_at hl 5 rfl) ?_
      refine kc_s (As := [.int set, .int (nI i)]) (rest := [.long x, .long (f i)]) S0 (c_X11_in l D tc s.heap.size ad ct (c := i) ) (va_cwS 2 hts gX11_levelWith_X11_in rfl rfl rfl (by decide +kernel) ⟨Nat.le_of_ble_eq_true rfl, Nat.le_of_ble_eq_true rfl⟩) hK hw rfl hl.1 rfl (Nat.le_of_ble_eq_true rfl) dX11_levelWith_29 ⟨Nat.le_of_ble_eq_true rfl, (Nat.le_of_ble_eq_true rfl)⟩ ?_
      refine lv_i2l (v := (kbit set i).toInt64) hx hb dX11_levelWith_32 rfl ?_
      refine lv_lmul hx hb dX11_levelWith_33 ?_
      refine lv_ladd hx hb dX11_levelWith_34 ?_
      refine lv_lstore (lv' := [(9, .long ((f i) + (x * ((kbit set i).toInt64)))), (0, .ref (ad 200)), (1, .int set), (2, .long x), (4, .long a1), (6, .long a2), (8, .int (nI i))]) hx hb dX11_levelWith_35 hl (by decide) rfl (fun ls hl => ?_)
      refine lv_lload hx hb dX11_levelWith_37 (lv_at hl 4 rfl) ?_
      refine lv_lload hx hb dX11_levelWith_39 (lv_at hl 0 rfl) ?_
      refine lv_ladd hx hb dX11_levelWith_41 ?_
      refine lv_lstore (lv' := [(4, .long (a1 + ((f i) + (x * ((kbit set i).toInt64))))), (9, .long ((f i) + (x * ((kbit set i).toInt64)))), (0, .ref (ad 200)), (1, .int set), (2, .long x), (6, .long a2), (8, .int (nI i))]) hx hb dX11_levelWith_42 hl (by decide) rfl (fun ls hl => ?_)
      refine lv_lload hx hb dX11_levelWith_44 (lv_at hl 5 rfl) ?_
      refine lv_lload hx hb dX11_levelWith_46 (lv_at hl 1 rfl) ?_
      refine lv_lload hx hb dX11_levelWith_48 (lv_at hl 1 rfl) ?_
      refine lv_lmul hx hb dX11_levelWith_50 ?_
      refine lv_ladd hx hb dX11_levelWith_51 ?_
      refine lv_lstore (lv' := [(6, .long (a2 + (((f i) + (x * ((kbit set i).toInt64))) * ((f i) + (x * ((kbit set i).toInt64)))))), (4, .long (a1 + ((f i) + (x * ((kbit set i).toInt64))))), (9, .long ((f i) + (x * ((kbit set i).toInt64)))), (0, .ref (ad 200)), (1, .int set), (2, .long x), (8, .int (nI i))]) hx hb dX11_levelWith_52 hl (by decide) rfl (fun ls hl => ?_)
      refine lv_iinc (v := (nI (i + 1))) (lv' := [(8, .int (nI (i + 1))), (6, .long (a2 + (((f i) + (x * ((kbit set i).toInt64))) * ((f i) + (x * ((kbit set i).toInt64)))))), (4, .long (a1 + ((f i) + (x * ((kbit set i).toInt64))))), (9, .long ((f i) + (x * ((kbit set i).toInt64)))), (0, .ref (ad 200)), (1, .int set), (2, .long x)]) hx hb dX11_levelWith_54 hl (k := 6) rfl (nI_1 i) (by decide) rfl (fun ls hl => ?_)
      refine lv_goto (tgt := 9) hx hb dX11_levelWith_57 (by decide) ?_
      exact ih9 (i + 1) (a1 + ((f i) + (x * ((kbit set i).toInt64)))) (a2 + (((f i) + (x * ((kbit set i).toInt64))) * ((f i) + (x * ((kbit set i).toInt64))))) ls (by omega) (by omega) (by rw [ha]; rfl) (by rw [hq]; rfl) (lv_sub hl [4, 5, 6, 2, 1, 0] rfl)
set_option maxHeartbeats 4000000 in
set_option maxRecDepth 100000 in
theorem c_X11_paid (l : Launch) (D : va_G) (tc : Nat → ClassId) (sz : Nat) (ad : Nat → Nat) (ct : Nat → Option va_E) {N nt no nf : Nat} {ft tr b cm da bs : Int32} {g : Int64} {f : Nat → Int64}                {set : Int32} {x : Int64} (h0 : ct 200 = some (.inr (11, [.int ft, .int tr, .int (nI N), .int b, .ref (ad 201), .long g, .int cm, .int da, .int (nI nt), .ref (ad 202), .ref (ad 203), .ref (ad 204), .ref (ad 205), .ref (ad 206), .ref (ad 207), .ref (ad 208), .ref (ad 209), .int (nI no), .ref (ad 210), .ref (ad 211), .ref (ad 212), .ref (ad 213), .ref (ad 214), .int bs, .int (nI nf), .ref (ad 215), .ref (ad 216)]))) (h201 : ct 201 = some (eJ tc 8 f)) (hN : N ≤ 8) : Met l yX11_paid wsX11_paid ({ frames := 2, cells := 0, slots := 0, locals := 59 }) (va_Pc [.ref (ad 200), .int set, .long x] (kw_B D tc sz ad ct)) (k2_QcV (.long (kPd b N f set x))) 0 0 (fun _ => False) := by
  refine Met.ofW (cc := cX11_paid) (maxL := 4) (ret := (some .long)) (by decide) rfl ?_
  intro pg en s m args below meth cod s₁ B hml hv
  obtain ⟨rfl, hsz, hP0, hK⟩ := hv
  have hx := B.exec
  have hb := B.bytes
  have hr := B.returns
  have hts := atoms_spec (ws := wsX11_paid) B.pre
  have hown : s.vm.findClass RX11 = some m.cls := findClass_of_methodNamed B.named
  have hlocks := B.notSynchronized
  subst hsz
  have hw := kw_H.start hP0
  generalize kw_A ad ct s.heap.size = A at hw
  have hl := lv_entry ([.ref (ad 200), .int set, .long x]) (n := 4) (Nat.le_of_ble_eq_true rfl)
  rw [lg_entry_eq]
  generalize (lg_sl ([.ref (ad 200), .int set, .long x]) ++ List.replicate (4 - (lg_sl ([.ref (ad 200), .int set, .long x])).length) Slot.unset).toArray = ls at hl ⊢
  have hl : lv_has ls 4 [(0, .ref (ad 200)), (1, .int set), (2, .long x)] := hl
  have S0 : CallFix pg m cod cX11_paid 4 s _ wsX11_paid RX11 := ⟨hx, hb, hml, hown, hts⟩
  refine lv_aload_n hx hb dX11_paid_0 rfl (lv_at hl 0 rfl) ?_
  refine lv_iload_n hx hb dX11_paid_1 rfl (lv_at hl 1 rfl) ?_
  refine lv_lload_n hx hb dX11_paid_2 rfl (lv_at hl 2 rfl) ?_
  refine kc_v (As := [.int set, .long x]) (rest := []) S0 (c_X11_levelWith l D tc s.heap.size ad ct (N := N) (nt := nt) (no := no) (nf := nf) h0 h201 (by omega)) (cwV 2 hts gX11_paid_X11_levelWith rfl rfl rfl (by decide +kernel) ⟨Nat.le_of_ble_eq_true rfl, Nat.le_of_ble_eq_true rfl⟩) hK hw h0 rfl rfl hl.1 rfl (Nat.le_of_ble_eq_true rfl) dX11_paid_3 ⟨Nat.le_of_ble_eq_true rfl, (Nat.le_of_ble_eq_true rfl)⟩ ?_
  refine lv_aload_n hx hb dX11_paid_6 rfl (lv_at hl 0 rfl) ?_
  refine lv_iconst (v := 0) hx hb dX11_paid_7 (by decide) ?_
  refine lv_lconst (v := 0) hx hb dX11_paid_8 (by decide) ?_
  refine kc_v (As := [.int 0, .long 0]) (rest := [.long (kLv b N f set x)]) S0 (c_X11_levelWith l D tc s.heap.size ad ct (N := N) (nt := nt) (no := no) (nf := nf) h0 h201 (by omega)) (cwV 2 hts gX11_paid_X11_levelWith rfl rfl rfl (by decide +kernel) ⟨Nat.le_of_ble_eq_true rfl, Nat.le_of_ble_eq_true rfl⟩) hK hw h0 rfl rfl hl.1 rfl (Nat.le_of_ble_eq_true rfl) dX11_paid_9 ⟨Nat.le_of_ble_eq_true rfl, (Nat.le_of_ble_eq_true rfl)⟩ ?_
  refine lv_lsub hx hb dX11_paid_12 ?_
  refine W.eq (congrArg (fun z => F0 m 13 ls [.long z]) (show ((kLv b N f set x) - (kLv b N f 0 0)) = (kPd b N f set x) from by rfl)) ?_
  exact W.lret hx hb hr (fun t ht _ => ⟨rfl, ht⟩) (fun _ h => absurd h List.not_mem_nil) dX11_paid_13
set_option maxHeartbeats 4000000 in
set_option maxRecDepth 100000 in
theorem c_X11_price (l : Launch) (D : va_G) (tc : Nat → ClassId) (sz : Nat) (ad : Nat → Nat) (ct : Nat → Option va_E) {N nt no nf : Nat} {ft tr b cm da bs : Int32} {g : Int64} {f : Nat → Int64}                {set : Int32} (h0 : ct 200 = some (.inr (11, [.int ft, .int tr, .int (nI N), .int b, .ref (ad 201), .long g, .int cm, .int da, .int (nI nt), .ref (ad 202), .ref (ad 203), .ref (ad 204), .ref (ad 205), .ref (ad 206), .ref (ad 207), .ref (ad 208), .ref (ad 209), .int (nI no), .ref (ad 210), .ref (ad 211), .ref (ad 212), .ref (ad 213), .ref (ad 214), .int bs, .int (nI nf), .ref (ad 215), .ref (ad 216)]))) (h201 : ct 201 = some (eJ tc 8 f)) (hN : N ≤ 8) (hs : 1 ≤ set.toInt64 ∧ set.toInt64 ≤ 1 <<< ((nI N).toInt64 &&& 63) - 2) : Met l yX11_price wsX11_price ({ frames := 2, cells := 0, slots := 0, locals := 54 }) (va_Pc [.ref (ad 200), .int set] (kw_B D tc sz ad ct)) (k2_QcV (.long (su (fun c => (kbit set c).toInt64 * kPr b N f (su f N) c) N))) 0 0 (fun _ => False) := by
  refine Met.ofW (cc := cX11_price) (maxL := 5) (ret := (some .long)) (by decide) rfl ?_
  intro pg en s m args below meth cod s₁ B hml hv
  obtain ⟨rfl, hsz, hP0, hK⟩ := hv
  have hx := B.exec
  have hb := B.bytes
  have hr := B.returns
  have hts := atoms_spec (ws := wsX11_price) B.pre
  have hown : s.vm.findClass RX11 = some m.cls := findClass_of_methodNamed B.named
  have hlocks := B.notSynchronized
  subst hsz
  have hw := kw_H.start hP0
  generalize kw_A ad ct s.heap.size = A at hw
  have hinX11 : ∀ w ∈ wsX110, w ∈ wsX11_price := by decide +kernel
  have hl := lv_entry ([.ref (ad 200), .int set]) (n := 5) (Nat.le_of_ble_eq_true rfl)
  rw [lg_entry_eq]
  generalize (lg_sl ([.ref (ad 200), .int set]) ++ List.replicate (5 - (lg_sl ([.ref (ad 200), .int set])).length) Slot.unset).toArray = ls at hl ⊢
  have hl : lv_has ls 5 [(0, .ref (ad 200)), (1, .int set)] := hl
  have S0 : CallFix pg m cod cX11_price 5 s _ wsX11_price RX11 := ⟨hx, hb, hml, hown, hts⟩
  refine lv_aload_n hx hb dX11_price_0 rfl (lv_at hl 0 rfl) ?_
  refine lv_iload_n hx hb dX11_price_1 rfl (lv_at hl 1 rfl) ?_
  refine kc_v (As := [.int set]) (rest := []) S0 (c_X11_isSet l D tc s.heap.size ad ct (N := N) (nt := nt) (no := no) (nf := nf) h0) (cwV 1 hts gX11_price_X11_isSet rfl rfl rfl (by decide +kernel) ⟨Nat.le_of_ble_eq_true rfl, Nat.le_of_ble_eq_true rfl⟩) hK hw h0 rfl rfl hl.1 rfl (Nat.le_of_ble_eq_true rfl) dX11_price_2 ⟨Nat.le_of_ble_eq_true rfl, (Nat.le_of_ble_eq_true rfl)⟩ ?_
  refine kb_ifne (tgt := 12) hx hb dX11_price_5 (by decide) (fun c_1 => ?_) (fun c_1 => ?_)
  · refine lv_lconst (v := 0) hx hb dX11_price_12 (by decide) ?_
    refine lv_lstore_n (lv' := [(2, .long 0), (0, .ref (ad 200)), (1, .int set)]) hx hb dX11_price_13 rfl hl (by decide) rfl (fun ls hl => ?_)
    refine lv_iconst (v := 0) hx hb dX11_price_14 (by decide) ?_
    refine lv_istore (lv' := [(4, .int 0), (2, .long 0), (0, .ref (ad 200)), (1, .int set)]) hx hb dX11_price_15 hl (by decide) rfl (fun ls hl => ?_)
    suffices lp17 : ∀ (nfu : Nat) (i : Nat) (acc : Int64) (ls : Array Slot), N - i < nfu → i ≤ N → acc = su (fun c => (kbit set c).toInt64 * kPr b N f (su f N) c) i → lv_has ls 5 [(0, .ref (ad 200)), (1, .int set), (2, .long acc), (4, .int (nI i))] → W pg l en (headSpec wsX11_price ({ frames := 2, cells := 0, slots := 0, locals := 54 })).room s m (([.ref (ad 200), .int set] : List Value).toArray) below meth cod s.heap [] 0 0 (MQ below (k2_QcV (.long (su (fun c => (kbit set c).toInt64 * kPr b N f (su f N) c) N))) (([.ref (ad 200), .int set] : List Value).toArray) s 0 0 (fun _ => False)) (F0 m 17 ls []) by
      exact lp17 (N - 0 + 1) 0 0 ls (by omega) (by omega) (by rfl) (by have hl9 := lv_sub hl (l' := [(0, .ref (ad 200)), (1, .int set), (2, .long 0), (4, .int 0)]) [2, 3, 1, 0] rfl; exact hl9)
    intro n17
    induction n17 with
    | zero => intro i acc ls hfu; exact absurd hfu (Nat.not_lt_zero _)
    | succ n17 ih17 =>
      intro i acc ls hfu17 hi ha hl
      refine lv_iload hx hb dX11_price_17 (lv_at hl 3 rfl) ?_
      refine lv_aload_n hx hb dX11_price_19 rfl (lv_at hl 0 rfl) ?_
      refine kg_get (v := .int (nI N)) (C := RX11) (T := TX11) (N := 27) hx hb hts hinX11 hown hK hw h0 rfl 2 (by decide) (hts (.fieldLink RX11 7 "BetMakerModel" "cases" "I") (by decide +kernel)) (fun _ h9 => h9) rfl dX11_price_20 ?_
      refine kn_ge i N rfl rfl (by omega) (by omega) (tgt := 49) hx hb dX11_price_23 (by decide) (fun c_2 => ?_) (fun c_2 => ?_)
      · refine lv_lload_n hx hb dX11_price_49 rfl (lv_at hl 2 rfl) ?_
        refine W.eq (congrArg (fun z => F0 m 50 ls [.long z]) (show acc = (su (fun c => (kbit set c).toInt64 * kPr b N f (su f N) c) N) from by rw [ha, show i = N by omega])) ?_
        exact W.lret hx hb hr (fun t ht _ => ⟨rfl, ht⟩) (fun _ h => absurd h List.not_mem_nil) dX11_price_50
      · refine lv_lload_n hx hb dX11_price_26 rfl (lv_at hl 2 rfl) ?_
        refine lv_iload_n hx hb dX11_price_27 rfl (lv_at hl 1 rfl) ?_
        refine lv_iload hx hb dX11_price_28 (lv_at hl 3 rfl) ?_
        refine kc_s (As := [.int set, .int (nI i)]) (rest := [.long acc]) S0 (c_X11_in l D tc s.heap.size ad ct (c := i) ) (va_cwS 2 hts gX11_price_X11_in rfl rfl rfl (by decide +kernel) ⟨Nat.le_of_ble_eq_true rfl, Nat.le_of_ble_eq_true rfl⟩) hK hw rfl hl.1 rfl (Nat.le_of_ble_eq_true rfl) dX11_price_30 ⟨Nat.le_of_ble_eq_true rfl, (Nat.le_of_ble_eq_true rfl)⟩ ?_
        refine lv_i2l (v := (kbit set i).toInt64) hx hb dX11_price_33 rfl ?_
        refine lv_aload_n hx hb dX11_price_34 rfl (lv_at hl 0 rfl) ?_
        refine lv_iload hx hb dX11_price_35 (lv_at hl 3 rfl) ?_
        refine kc_v (As := [.int (nI i)]) (rest := [.long ((kbit set i).toInt64), .long acc]) S0 (c_X11_priceOf l D tc s.heap.size ad ct (c := i) (N := N) (nt := nt) (no := no) (nf := nf) h0 h201 (by omega) (by omega)) (cwV 1 hts gX11_price_X11_priceOf rfl rfl rfl (by decide +kernel) ⟨Nat.le_of_ble_eq_true rfl, Nat.le_of_ble_eq_true rfl⟩) hK hw h0 rfl rfl hl.1 rfl (Nat.le_of_ble_eq_true rfl) dX11_price_37 ⟨Nat.le_of_ble_eq_true rfl, (Nat.le_of_ble_eq_true rfl)⟩ ?_
        refine lv_lmul hx hb dX11_price_40 ?_
        refine lv_ladd hx hb dX11_price_41 ?_
        refine lv_lstore_n (lv' := [(2, .long (acc + (((kbit set i).toInt64) * (kPr b N f (su f N) i)))), (0, .ref (ad 200)), (1, .int set), (4, .int (nI i))]) hx hb dX11_price_42 rfl hl (by decide) rfl (fun ls hl => ?_)
        refine lv_iinc (v := (nI (i + 1))) (lv' := [(4, .int (nI (i + 1))), (2, .long (acc + (((kbit set i).toInt64) * (kPr b N f (su f N) i)))), (0, .ref (ad 200)), (1, .int set)]) hx hb dX11_price_43 hl (k := 3) rfl (nI_1 i) (by decide) rfl (fun ls hl => ?_)
        refine lv_goto (tgt := 17) hx hb dX11_price_46 (by decide) ?_
        exact ih17 (i + 1) (acc + (((kbit set i).toInt64) * (kPr b N f (su f N) i))) ls (by omega) (by omega) (by rw [ha]; rfl) (lv_sub hl [2, 3, 1, 0] rfl)
  · exact absurd hs c_1
set_option maxHeartbeats 4000000 in
set_option maxRecDepth 100000 in
theorem c_X11_price_n (l : Launch) (D : va_G) (tc : Nat → ClassId) (sz : Nat) (ad : Nat → Nat) (ct : Nat → Option va_E) {N nt no nf : Nat} {ft tr b cm da bs : Int32} {g : Int64}                 {set : Int32} (h0 : ct 200 = some (.inr (11, [.int ft, .int tr, .int (nI N), .int b, .ref (ad 201), .long g, .int cm, .int da, .int (nI nt), .ref (ad 202), .ref (ad 203), .ref (ad 204), .ref (ad 205), .ref (ad 206), .ref (ad 207), .ref (ad 208), .ref (ad 209), .int (nI no), .ref (ad 210), .ref (ad 211), .ref (ad 212), .ref (ad 213), .ref (ad 214), .int bs, .int (nI nf), .ref (ad 215), .ref (ad 216)]))) (hs : ¬ (1 ≤ set.toInt64 ∧ set.toInt64 ≤ 1 <<< ((nI N).toInt64 &&& 63) - 2)) : Met l yX11_price wsX11_price ({ frames := 2, cells := 0, slots := 0, locals := 54 }) (va_Pc [.ref (ad 200), .int set] (kw_B D tc sz ad ct)) (k2_QcV (.long (-9223372036854775808))) 0 0 (fun _ => False) := by
  refine Met.ofW (cc := cX11_price) (maxL := 5) (ret := (some .long)) (by decide) rfl ?_
  intro pg en s m args below meth cod s₁ B hml hv
  obtain ⟨rfl, hsz, hP0, hK⟩ := hv
  have hx := B.exec
  have hb := B.bytes
  have hr := B.returns
  have hts := atoms_spec (ws := wsX11_price) B.pre
  have hown : s.vm.findClass RX11 = some m.cls := findClass_of_methodNamed B.named
  have hlocks := B.notSynchronized
  subst hsz
  have hw := kw_H.start hP0
  generalize kw_A ad ct s.heap.size = A at hw
  have hinX11 : ∀ w ∈ wsX110, w ∈ wsX11_price := by decide +kernel
  have hl := lv_entry ([.ref (ad 200), .int set]) (n := 5) (Nat.le_of_ble_eq_true rfl)
  rw [lg_entry_eq]
  generalize (lg_sl ([.ref (ad 200), .int set]) ++ List.replicate (5 - (lg_sl ([.ref (ad 200), .int set])).length) Slot.unset).toArray = ls at hl ⊢
  have hl : lv_has ls 5 [(0, .ref (ad 200)), (1, .int set)] := hl
  have S0 : CallFix pg m cod cX11_price 5 s _ wsX11_price RX11 := ⟨hx, hb, hml, hown, hts⟩
  refine lv_aload_n hx hb dX11_price_0 rfl (lv_at hl 0 rfl) ?_
  refine lv_iload_n hx hb dX11_price_1 rfl (lv_at hl 1 rfl) ?_
  refine kc_v (As := [.int set]) (rest := []) S0 (c_X11_isSet l D tc s.heap.size ad ct (N := N) (nt := nt) (no := no) (nf := nf) h0) (cwV 1 hts gX11_price_X11_isSet rfl rfl rfl (by decide +kernel) ⟨Nat.le_of_ble_eq_true rfl, Nat.le_of_ble_eq_true rfl⟩) hK hw h0 rfl rfl hl.1 rfl (Nat.le_of_ble_eq_true rfl) dX11_price_2 ⟨Nat.le_of_ble_eq_true rfl, (Nat.le_of_ble_eq_true rfl)⟩ ?_
  refine kb_ifne (tgt := 12) hx hb dX11_price_5 (by decide) (fun c_1 => ?_) (fun c_1 => ?_)
  · exact absurd c_1 hs
  · refine lv_ldc2 (v := (-9223372036854775808)) hx hb hown (hts (.constantLong RX11 72 (-9223372036854775808)) (by decide +kernel)) dX11_price_8 ?_
    exact W.lret hx hb hr (fun t ht _ => ⟨rfl, ht⟩) (fun _ h => absurd h List.not_mem_nil) dX11_price_11
set_option maxHeartbeats 4000000 in
set_option maxRecDepth 100000 in
theorem c_X11_leastWith (l : Launch) (D : va_G) (tc : Nat → ClassId) (sz : Nat) (ad : Nat → Nat) (ct : Nat → Option va_E) {N nt no nf : Nat} {ft tr b cm da bs : Int32} {g : Int64}     {ho : Nat → Int64}            {t : Nat} {set : Int32} {x : Int64} (h0 : ct 200 = some (.inr (11, [.int ft, .int tr, .int (nI N), .int b, .ref (ad 201), .long g, .int cm, .int da, .int (nI nt), .ref (ad 202), .ref (ad 203), .ref (ad 204), .ref (ad 205), .ref (ad 206), .ref (ad 207), .ref (ad 208), .ref (ad 209), .int (nI no), .ref (ad 210), .ref (ad 211), .ref (ad 212), .ref (ad 213), .ref (ad 214), .int bs, .int (nI nf), .ref (ad 215), .ref (ad 216)]))) (h205 : ct 205 = some (eJ tc 48 ho)) (ht6 : t < 6) (hN : N ≤ 8) (hN2 : 2 ≤ N) : Met l yX11_leastWith wsX11_leastWith ({ frames := 1, cells := 0, slots := 0, locals := 25 }) (va_Pc [.ref (ad 200), .int (nI t), .int set, .long x] (kw_B D tc sz ad ct)) (k2_QcV (.long (kLw (fun c => ho (8 * t + c)) set x (N - 1)))) 0 0 (fun _ => False) := by
  refine Met.ofW (cc := cX11_leastWith) (maxL := 10) (ret := (some .long)) (by decide) rfl ?_
  intro pg en s m args below meth cod s₁ B hml hv
  obtain ⟨rfl, hsz, hP0, hK⟩ := hv
  have hx := B.exec
  have hb := B.bytes
  have hr := B.returns
  have hts := atoms_spec (ws := wsX11_leastWith) B.pre
  have hown : s.vm.findClass RX11 = some m.cls := findClass_of_methodNamed B.named
  have hlocks := B.notSynchronized
  subst hsz
  have hw := kw_H.start hP0
  generalize kw_A ad ct s.heap.size = A at hw
  have hinX11 : ∀ w ∈ wsX110, w ∈ wsX11_leastWith := by decide +kernel
  have hl := lv_entry ([.ref (ad 200), .int (nI t), .int set, .long x]) (n := 10) (Nat.le_of_ble_eq_true rfl)
  rw [lg_entry_eq]
  generalize (lg_sl ([.ref (ad 200), .int (nI t), .int set, .long x]) ++ List.replicate (10 - (lg_sl ([.ref (ad 200), .int (nI t), .int set, .long x])).length) Slot.unset).toArray = ls at hl ⊢
  have hl : lv_has ls 10 [(0, .ref (ad 200)), (1, .int (nI t)), (2, .int set), (3, .long x)] := hl
  have S0 : CallFix pg m cod cX11_leastWith 10 s _ wsX11_leastWith RX11 := ⟨hx, hb, hml, hown, hts⟩
  refine lv_aload_n hx hb dX11_leastWith_0 rfl (lv_at hl 0 rfl) ?_
  refine kg_get (v := .ref (ad 205)) (C := RX11) (T := TX11) (N := 27) hx hb hts hinX11 hown hK hw h0 rfl 12 (by decide) (hts (.fieldLink RX11 33 "BetMakerModel" "holds" "[J") (by decide +kernel)) (fun _ h9 => h9) rfl dX11_leastWith_1 ?_
  refine lv_bipush (v := 8) hx hb dX11_leastWith_4 (by decide) ?_
  refine lv_iload_n hx hb dX11_leastWith_6 rfl (lv_at hl 1 rfl) ?_
  refine lv_imul hx hb dX11_leastWith_7 ?_
  refine kg_lald hx hb hK hw h205 (8 * t) (by simp only [kn_lit, nI_add, pk_mul, nI_1]) (by omega) (by omega) dX11_leastWith_8 ?_
  refine lv_lload_n hx hb dX11_leastWith_9 rfl (lv_at hl 3 rfl) ?_
  refine lv_iload_n hx hb dX11_leastWith_10 rfl (lv_at hl 2 rfl) ?_
  refine lv_iconst (v := 0) hx hb dX11_leastWith_11 (by decide) ?_
  refine kc_s (As := [.int set, .int 0]) (rest := [.long x, .long (ho (8 * t))]) S0 (c_X11_in l D tc s.heap.size ad ct (c := 0) ) (va_cwS 2 hts gX11_leastWith_X11_in rfl rfl rfl (by decide +kernel) ⟨Nat.le_of_ble_eq_true rfl, Nat.le_of_ble_eq_true rfl⟩) hK hw rfl hl.1 rfl (Nat.le_of_ble_eq_true rfl) dX11_leastWith_12 ⟨Nat.le_of_ble_eq_true rfl, (Nat.le_of_ble_eq_true rfl)⟩ ?_
  refine lv_i2l (v := (kbit set 0).toInt64) hx hb dX11_leastWith_15 rfl ?_
  refine lv_lmul hx hb dX11_leastWith_16 ?_
  refine lv_ladd hx hb dX11_leastWith_17 ?_
  refine lv_lstore (lv' := [(5, .long ((ho (8 * t)) + (x * ((kbit set 0).toInt64)))), (0, .ref (ad 200)), (1, .int (nI t)), (2, .int set), (3, .long x)]) hx hb dX11_leastWith_18 hl (by decide) rfl (fun ls hl => ?_)
  refine lv_iconst (v := 1) hx hb dX11_leastWith_20 (by decide) ?_
  refine lv_istore (lv' := [(7, .int 1), (5, .long ((ho (8 * t)) + (x * ((kbit set 0).toInt64)))), (0, .ref (ad 200)), (1, .int (nI t)), (2, .int set), (3, .long x)]) hx hb dX11_leastWith_21 hl (by decide) rfl (fun ls hl => ?_)
  suffices lp23 : ∀ (nfu : Nat) (i : Nat) (acc : Int64) (ls : Array Slot), N - i < nfu → 1 ≤ i → i ≤ N → acc = kLw (fun c => ho (8 * t + c)) set x (i - 1) → lv_has ls 10 [(0, .ref (ad 200)), (1, .int (nI t)), (2, .int set), (3, .long x), (5, .long acc), (7, .int (nI i))] → W pg l en (headSpec wsX11_leastWith ({ frames := 1, cells := 0, slots := 0, locals := 25 })).room s m (([.ref (ad 200), .int (nI t), .int set, .long x] : List Value).toArray) below meth cod s.heap [] 0 0 (MQ below (k2_QcV (.long (kLw (fun c => ho (8 * t + c)) set x (N - 1)))) (([.ref (ad 200), .int (nI t), .int set, .long x] : List Value).toArray) s 0 0 (fun _ => False)) (F0 m 23 ls []) by
    exact lp23 (N - 1 + 1) 1 (ho (8 * t) + x * (kbit set 0).toInt64) ls (by omega) (by omega) (by omega) (by rfl) (by have hl9 := lv_sub hl (l' := [(0, .ref (ad 200)), (1, .int (nI t)), (2, .int set), (3, .long x), (5, .long ((ho (8 * t)) + (x * ((kbit set 0).toInt64)))), (7, .int 1)]) [2, 3, 4, 5, 1, 0] rfl; exact hl9)
  intro n23
  induction n23 with
  | zero => intro i acc ls hfu; exact absurd hfu (Nat.not_lt_zero _)
  | succ n23 ih23 =>
    intro i acc ls hfu23 hi1 hi ha hl
    refine lv_iload hx hb dX11_leastWith_23 (lv_at hl 5 rfl) ?_
    refine lv_aload_n hx hb dX11_leastWith_25 rfl (lv_at hl 0 rfl) ?_
    refine kg_get (v := .int (nI N)) (C := RX11) (T := TX11) (N := 27) hx hb hts hinX11 hown hK hw h0 rfl 2 (by decide) (hts (.fieldLink RX11 7 "BetMakerModel" "cases" "I") (by decide +kernel)) (fun _ h9 => h9) rfl dX11_leastWith_26 ?_
    refine kn_ge i N rfl rfl (by omega) (by omega) (tgt := 79) hx hb dX11_leastWith_29 (by decide) (fun c_1 => ?_) (fun c_1 => ?_)
    · refine lv_lload hx hb dX11_leastWith_79 (lv_at hl 4 rfl) ?_
      refine W.eq (congrArg (fun z => F0 m 81 ls [.long z]) (show acc = (kLw (fun c => ho (8 * t + c)) set x (N - 1)) from by rw [ha, show i = N by omega])) ?_
      exact W.lret hx hb hr (fun t ht _ => ⟨rfl, ht⟩) (fun _ h => absurd h List.not_mem_nil) dX11_leastWith_81
    · refine lv_aload_n hx hb dX11_leastWith_32 rfl (lv_at hl 0 rfl) ?_
      refine kg_get (v := .ref (ad 205)) (C := RX11) (T := TX11) (N := 27) hx hb hts hinX11 hown hK hw h0 rfl 12 (by decide) (hts (.fieldLink RX11 33 "BetMakerModel" "holds" "[J") (by decide +kernel)) (fun _ h9 => h9) rfl dX11_leastWith_33 ?_
      refine lv_bipush (v := 8) hx hb dX11_leastWith_36 (by decide) ?_
      refine lv_iload_n hx hb dX11_leastWith_38 rfl (lv_at hl 1 rfl) ?_
      refine lv_imul hx hb dX11_leastWith_39 ?_
      refine lv_iload hx hb dX11_leastWith_40 (lv_at hl 5 rfl) ?_
      refine lv_iadd hx hb dX11_leastWith_42 ?_
      refine kg_lald hx hb hK hw h205 ((8 * t) + i) (by simp only [kn_lit, nI_add, pk_mul, nI_1]) (by omega) (by omega) dX11_leastWith_43 ?_
      refine lv_lload_n hx hb dX11_leastWith_44 rfl (lv_at hl 3 rfl) ?_
      refine lv_iload_n hx hb dX11_leastWith_45 rfl (lv_at hl 2 rfl) ?_
      refine lv_iload hx hb dX11_leastWith_46 (lv_at hl 5 rfl) ?_
      refine kc_s (As := [.int set, .int (nI i)]) (rest := [.long x, .long (ho ((8 * t) + i))]) S0 (c_X11_in l D tc s.heap.size ad ct (c := i) ) (va_cwS 2 hts gX11_leastWith_X11_in rfl rfl rfl (by decide +kernel) ⟨Nat.le_of_ble_eq_true rfl, Nat.le_of_ble_eq_true rfl⟩) hK hw rfl hl.1 rfl (Nat.le_of_ble_eq_true rfl) dX11_leastWith_48 ⟨Nat.le_of_ble_eq_true rfl, (Nat.le_of_ble_eq_true rfl)⟩ ?_
      refine lv_i2l (v := (kbit set i).toInt64) hx hb dX11_leastWith_51 rfl ?_
      refine lv_lmul hx hb dX11_leastWith_52 ?_
      refine lv_ladd hx hb dX11_leastWith_53 ?_
      refine lv_lstore (lv' := [(8, .long ((ho ((8 * t) + i)) + (x * ((kbit set i).toInt64)))), (0, .ref (ad 200)), (1, .int (nI t)), (2, .int set), (3, .long x), (5, .long acc), (7, .int (nI i))]) hx hb dX11_leastWith_54 hl (by decide) rfl (fun ls hl => ?_)
      refine lv_lload hx hb dX11_leastWith_56 (lv_at hl 0 rfl) ?_
      refine lv_lload hx hb dX11_leastWith_58 (lv_at hl 5 rfl) ?_
      refine W.lcmp hx hb dX11_leastWith_60 ?_
      refine kl_ge (tgt := 69) hx hb dX11_leastWith_61 (by decide) (fun c_2 => ?_) (fun c_2 => ?_)
      · refine lv_lload hx hb dX11_leastWith_69 (lv_at hl 5 rfl) ?_
        refine lv_lstore (lv' := [(5, .long acc), (8, .long ((ho ((8 * t) + i)) + (x * ((kbit set i).toInt64)))), (0, .ref (ad 200)), (1, .int (nI t)), (2, .int set), (3, .long x), (7, .int (nI i))]) hx hb dX11_leastWith_71 hl (by decide) rfl (fun ls hl => ?_)
        refine lv_iinc (v := (nI (i + 1))) (lv' := [(7, .int (nI (i + 1))), (5, .long acc), (8, .long ((ho ((8 * t) + i)) + (x * ((kbit set i).toInt64)))), (0, .ref (ad 200)), (1, .int (nI t)), (2, .int set), (3, .long x)]) hx hb dX11_leastWith_73 hl (k := 6) rfl (nI_1 i) (by decide) rfl (fun ls hl => ?_)
        refine lv_goto (tgt := 23) hx hb dX11_leastWith_76 (by decide) ?_
        exact ih23 (i + 1) acc ls (by omega) (by omega) (by omega) (by rw [ha] at c_2 ⊢; exact kLw_t (h := fun c => ho (8 * t + c)) hi1 c_2) (lv_sub hl [3, 4, 5, 6, 1, 0] rfl)
      · refine lv_lload hx hb dX11_leastWith_64 (lv_at hl 0 rfl) ?_
        refine lv_goto (tgt := 71) hx hb dX11_leastWith_66 (by decide) ?_
        refine lv_lstore (lv' := [(5, .long ((ho ((8 * t) + i)) + (x * ((kbit set i).toInt64)))), (8, .long ((ho ((8 * t) + i)) + (x * ((kbit set i).toInt64)))), (0, .ref (ad 200)), (1, .int (nI t)), (2, .int set), (3, .long x), (7, .int (nI i))]) hx hb dX11_leastWith_71 hl (by decide) rfl (fun ls hl => ?_)
        refine lv_iinc (v := (nI (i + 1))) (lv' := [(7, .int (nI (i + 1))), (5, .long ((ho ((8 * t) + i)) + (x * ((kbit set i).toInt64)))), (8, .long ((ho ((8 * t) + i)) + (x * ((kbit set i).toInt64)))), (0, .ref (ad 200)), (1, .int (nI t)), (2, .int set), (3, .long x)]) hx hb dX11_leastWith_73 hl (k := 6) rfl (nI_1 i) (by decide) rfl (fun ls hl => ?_)
        refine lv_goto (tgt := 23) hx hb dX11_leastWith_76 (by decide) ?_
        exact ih23 (i + 1) ((ho ((8 * t) + i)) + (x * ((kbit set i).toInt64))) ls (by omega) (by omega) (by omega) (by rw [ha] at c_2; exact kLw_f (h := fun c => ho (8 * t + c)) hi1 c_2) (lv_sub hl [3, 4, 5, 6, 1, 0] rfl)
set_option maxHeartbeats 4000000 in
set_option maxRecDepth 100000 in
theorem c_X11_why (l : Launch) (D : va_G) (tc : Nat → ClassId) (sz : Nat) (ad : Nat → Nat) (ct : Nat → Option va_E) {N nt no nf : Nat} {ft tr b cm da bs : Int32} {g : Int64} {f : Nat → Int64}  {pu : Nat → Int64}  {ho : Nat → Int64}            {t : Nat} {set : Int32} {x : Int64} (h0 : ct 200 = some (.inr (11, [.int ft, .int tr, .int (nI N), .int b, .ref (ad 201), .long g, .int cm, .int da, .int (nI nt), .ref (ad 202), .ref (ad 203), .ref (ad 204), .ref (ad 205), .ref (ad 206), .ref (ad 207), .ref (ad 208), .ref (ad 209), .int (nI no), .ref (ad 210), .ref (ad 211), .ref (ad 212), .ref (ad 213), .ref (ad 214), .int bs, .int (nI nf), .ref (ad 215), .ref (ad 216)]))) (h201 : ct 201 = some (eJ tc 8 f)) (h203 : ct 203 = some (eJ tc 6 pu)) (h205 : ct 205 = some (eJ tc 48 ho)) (ht6 : t < 6) (hN : N ≤ 8) (hN2 : 2 ≤ N) : Met l yX11_why wsX11_why ({ frames := 3, cells := 0, slots := 0, locals := 86 }) (va_Pc [.ref (ad 200), .int (nI t), .int set, .long x] (kw_B D tc sz ad ct)) (k2_QcV (.int (kWy b N f set x (pu t) (fun c => ho (8 * t + c))))) 0 0 (fun _ => False) := by
  refine Met.ofW (cc := cX11_why) (maxL := 10) (ret := (some .int)) (by decide) rfl ?_
  intro pg en s m args below meth cod s₁ B hml hv
  obtain ⟨rfl, hsz, hP0, hK⟩ := hv
  have hx := B.exec
  have hb := B.bytes
  have hr := B.returns
  have hts := atoms_spec (ws := wsX11_why) B.pre
  have hown : s.vm.findClass RX11 = some m.cls := findClass_of_methodNamed B.named
  have hlocks := B.notSynchronized
  subst hsz
  have hw := kw_H.start hP0
  generalize kw_A ad ct s.heap.size = A at hw
  have hinX11 : ∀ w ∈ wsX110, w ∈ wsX11_why := by decide +kernel
  have hl := lv_entry ([.ref (ad 200), .int (nI t), .int set, .long x]) (n := 10) (Nat.le_of_ble_eq_true rfl)
  rw [lg_entry_eq]
  generalize (lg_sl ([.ref (ad 200), .int (nI t), .int set, .long x]) ++ List.replicate (10 - (lg_sl ([.ref (ad 200), .int (nI t), .int set, .long x])).length) Slot.unset).toArray = ls at hl ⊢
  have hl : lv_has ls 10 [(0, .ref (ad 200)), (1, .int (nI t)), (2, .int set), (3, .long x)] := hl
  have S0 : CallFix pg m cod cX11_why 10 s _ wsX11_why RX11 := ⟨hx, hb, hml, hown, hts⟩
  refine lv_aload_n hx hb dX11_why_0 rfl (lv_at hl 0 rfl) ?_
  refine kc_v (As := []) (rest := []) S0 (c_X11_sumSold l D tc s.heap.size ad ct (N := N) (nt := nt) (no := no) (nf := nf) h0 h201 (by omega)) (cwV 0 hts gX11_why_X11_sumSold rfl rfl rfl (by decide +kernel) ⟨Nat.le_of_ble_eq_true rfl, Nat.le_of_ble_eq_true rfl⟩) hK hw h0 rfl rfl hl.1 rfl (Nat.le_of_ble_eq_true rfl) dX11_why_1 ⟨Nat.le_of_ble_eq_true rfl, (Nat.le_of_ble_eq_true rfl)⟩ ?_
  refine lv_lstore (lv' := [(5, .long (su f N)), (0, .ref (ad 200)), (1, .int (nI t)), (2, .int set), (3, .long x)]) hx hb dX11_why_4 hl (by decide) rfl (fun ls hl => ?_)
  refine lv_iconst (v := 0) hx hb dX11_why_6 (by decide) ?_
  refine lv_istore (lv' := [(7, .int 0), (5, .long (su f N)), (0, .ref (ad 200)), (1, .int (nI t)), (2, .int set), (3, .long x)]) hx hb dX11_why_7 hl (by decide) rfl (fun ls hl => ?_)
  suffices lp9 : ∀ (nfu : Nat) (i : Nat) (acc : Int64) (ls : Array Slot), N - i < nfu → i ≤ N → acc = su f N + su (fun c => x * (kbit set c).toInt64) i → lv_has ls 10 [(0, .ref (ad 200)), (1, .int (nI t)), (2, .int set), (3, .long x), (5, .long acc), (7, .int (nI i))] → W pg l en (headSpec wsX11_why ({ frames := 3, cells := 0, slots := 0, locals := 86 })).room s m (([.ref (ad 200), .int (nI t), .int set, .long x] : List Value).toArray) below meth cod s.heap [] 0 0 (MQ below (k2_QcV (.int (kWy b N f set x (pu t) (fun c => ho (8 * t + c))))) (([.ref (ad 200), .int (nI t), .int set, .long x] : List Value).toArray) s 0 0 (fun _ => False)) (F0 m 9 ls []) by
    exact lp9 (N - 0 + 1) 0 (su f N) ls (by omega) (by omega) (by exact (Int64.add_zero _).symm) (by have hl9 := lv_sub hl (l' := [(0, .ref (ad 200)), (1, .int (nI t)), (2, .int set), (3, .long x), (5, .long (su f N)), (7, .int 0)]) [2, 3, 4, 5, 1, 0] rfl; exact hl9)
  intro n9
  induction n9 with
  | zero => intro i acc ls hfu; exact absurd hfu (Nat.not_lt_zero _)
  | succ n9 ih9 =>
    intro i acc ls hfu9 hi ha hl
    refine lv_iload hx hb dX11_why_9 (lv_at hl 5 rfl) ?_
    refine lv_aload_n hx hb dX11_why_11 rfl (lv_at hl 0 rfl) ?_
    refine kg_get (v := .int (nI N)) (C := RX11) (T := TX11) (N := 27) hx hb hts hinX11 hown hK hw h0 rfl 2 (by decide) (hts (.fieldLink RX11 7 "BetMakerModel" "cases" "I") (by decide +kernel)) (fun _ h9 => h9) rfl dX11_why_12 ?_
    refine kn_ge i N rfl rfl (by omega) (by omega) (tgt := 38) hx hb dX11_why_15 (by decide) (fun c_1 => ?_) (fun c_1 => ?_)
    · have hS : acc = su f N + su (fun c => x * (kbit set c).toInt64) N := by rw [ha, show i = N by omega]
      refine lv_iconst (v := 0) hx hb dX11_why_38 (by decide) ?_
      refine lv_istore (lv' := [(7, .int 0), (0, .ref (ad 200)), (1, .int (nI t)), (2, .int set), (3, .long x), (5, .long acc)]) hx hb dX11_why_39 hl (by decide) rfl (fun ls hl => ?_)
      suffices lp41 : ∀ (nfu : Nat) (j : Nat) (ls : Array Slot), N - j < nfu → j ≤ N → kall (kAm b N f acc set x) j = true → lv_has ls 10 [(0, .ref (ad 200)), (1, .int (nI t)), (2, .int set), (3, .long x), (5, .long acc), (7, .int (nI j))] → W pg l en (headSpec wsX11_why ({ frames := 3, cells := 0, slots := 0, locals := 86 })).room s m (([.ref (ad 200), .int (nI t), .int set, .long x] : List Value).toArray) below meth cod s.heap [] 0 0 (MQ below (k2_QcV (.int (kWy b N f set x (pu t) (fun c => ho (8 * t + c))))) (([.ref (ad 200), .int (nI t), .int set, .long x] : List Value).toArray) s 0 0 (fun _ => False)) (F0 m 41 ls []) by
        exact lp41 (N - 0 + 1) 0 ls (by omega) (by omega) (by rfl) (by have hl9 := lv_sub hl (l' := [(0, .ref (ad 200)), (1, .int (nI t)), (2, .int set), (3, .long x), (5, .long acc), (7, .int 0)]) [1, 2, 3, 4, 5, 0] rfl; exact hl9)
      intro n41
      induction n41 with
      | zero => intro j ls hfu; exact absurd hfu (Nat.not_lt_zero _)
      | succ n41 ih41 =>
        intro j ls hfu41 hj hj2 hl
        refine lv_iload hx hb dX11_why_41 (lv_at hl 5 rfl) ?_
        refine lv_aload_n hx hb dX11_why_43 rfl (lv_at hl 0 rfl) ?_
        refine kg_get (v := .int (nI N)) (C := RX11) (T := TX11) (N := 27) hx hb hts hinX11 hown hK hw h0 rfl 2 (by decide) (hts (.fieldLink RX11 7 "BetMakerModel" "cases" "I") (by decide +kernel)) (fun _ h9 => h9) rfl dX11_why_44 ?_
        refine kn_ge j N rfl rfl (by omega) (by omega) (tgt := 113) hx hb dX11_why_47 (by decide) (fun c_2 => ?_) (fun c_2 => ?_)
        · refine lv_aload_n hx hb dX11_why_113 rfl (lv_at hl 0 rfl) ?_
          refine kg_get (v := .ref (ad 203)) (C := RX11) (T := TX11) (N := 27) hx hb hts hinX11 hown hK hw h0 rfl 10 (by decide) (hts (.fieldLink RX11 27 "BetMakerModel" "purse" "[J") (by decide +kernel)) (fun _ h9 => h9) rfl dX11_why_114 ?_
          refine lv_iload_n hx hb dX11_why_117 rfl (lv_at hl 1 rfl) ?_
          refine kg_lald hx hb hK hw h203 t rfl (by omega) (by omega) dX11_why_118 ?_
          refine lv_aload_n hx hb dX11_why_119 rfl (lv_at hl 0 rfl) ?_
          refine lv_iload_n hx hb dX11_why_120 rfl (lv_at hl 2 rfl) ?_
          refine lv_lload_n hx hb dX11_why_121 rfl (lv_at hl 3 rfl) ?_
          refine kc_v (As := [.int set, .long x]) (rest := [.long (pu t)]) S0 (c_X11_paid l D tc s.heap.size ad ct (N := N) (nt := nt) (no := no) (nf := nf) h0 h201 (by omega)) (cwV 2 hts gX11_why_X11_paid rfl rfl rfl (by decide +kernel) ⟨Nat.le_of_ble_eq_true rfl, Nat.le_of_ble_eq_true rfl⟩) hK hw h0 rfl rfl hl.1 rfl (Nat.le_of_ble_eq_true rfl) dX11_why_122 ⟨Nat.le_of_ble_eq_true rfl, (Nat.le_of_ble_eq_true rfl)⟩ ?_
          refine lv_lsub hx hb dX11_why_125 ?_
          refine lv_aload_n hx hb dX11_why_126 rfl (lv_at hl 0 rfl) ?_
          refine kc_v (As := []) (rest := [.long ((pu t) - (kPd b N f set x))]) S0 (c_X11_grains l D tc s.heap.size ad ct (N := N) (nt := nt) (no := no) (nf := nf) h0) (cwV 0 hts gX11_why_X11_grains rfl rfl rfl (by decide +kernel) ⟨Nat.le_of_ble_eq_true rfl, Nat.le_of_ble_eq_true rfl⟩) hK hw h0 rfl rfl hl.1 rfl (Nat.le_of_ble_eq_true rfl) dX11_why_127 ⟨Nat.le_of_ble_eq_true rfl, (Nat.le_of_ble_eq_true rfl)⟩ ?_
          refine lv_aload_n hx hb dX11_why_130 rfl (lv_at hl 0 rfl) ?_
          refine lv_iload_n hx hb dX11_why_131 rfl (lv_at hl 1 rfl) ?_
          refine lv_iload_n hx hb dX11_why_132 rfl (lv_at hl 2 rfl) ?_
          refine lv_lload_n hx hb dX11_why_133 rfl (lv_at hl 3 rfl) ?_
          refine kc_v (As := [.int (nI t), .int set, .long x]) (rest := [.long (kU b N), .long ((pu t) - (kPd b N f set x))]) S0 (c_X11_leastWith l D tc s.heap.size ad ct (t := t) (N := N) (nt := nt) (no := no) (nf := nf) h0 h205 (by omega) (by omega) (by omega)) (cwV 3 hts gX11_why_X11_leastWith rfl rfl rfl (by decide +kernel) ⟨Nat.le_of_ble_eq_true rfl, Nat.le_of_ble_eq_true rfl⟩) hK hw h0 rfl rfl hl.1 rfl (Nat.le_of_ble_eq_true rfl) dX11_why_134 ⟨Nat.le_of_ble_eq_true rfl, (Nat.le_of_ble_eq_true rfl)⟩ ?_
          refine lv_lmul hx hb dX11_why_137 ?_
          refine lv_ladd hx hb dX11_why_138 ?_
          refine lv_lconst (v := 0) hx hb dX11_why_139 (by decide) ?_
          refine W.lcmp hx hb dX11_why_140 ?_
          refine kl_ge (tgt := 148) hx hb dX11_why_141 (by decide) (fun c_3 => ?_) (fun c_3 => ?_)
          · refine lv_iconst (v := 0) hx hb dX11_why_148 (by decide) ?_
            refine W.eq (congrArg (fun z => F0 m 149 ls [.int z]) (show 0 = (kWy b N f set x (pu t) (fun c => ho (8 * t + c))) from by rw [kWy, ← hS, if_pos (by rw [← hj2, show j = N by omega]), if_pos c_3])) ?_
            exact W.iret hx hb hr (fun t ht _ => ⟨rfl, ht⟩) (fun _ h => absurd h List.not_mem_nil) dX11_why_149
          · refine lv_iconst (v := 2) hx hb dX11_why_144 (by decide) ?_
            refine lv_goto (tgt := 149) hx hb dX11_why_145 (by decide) ?_
            refine W.eq (congrArg (fun z => F0 m 149 ls [.int z]) (show 2 = (kWy b N f set x (pu t) (fun c => ho (8 * t + c))) from by rw [kWy, ← hS, if_pos (by rw [← hj2, show j = N by omega]), if_neg c_3])) ?_
            exact W.iret hx hb hr (fun t ht _ => ⟨rfl, ht⟩) (fun _ h => absurd h List.not_mem_nil) dX11_why_149
        · refine lv_ldc2 (v := 4) hx hb hown (hts (.constantLong RX11 74 (4)) (by decide +kernel)) dX11_why_50 ?_
          refine lv_aload_n hx hb dX11_why_53 rfl (lv_at hl 0 rfl) ?_
          refine kg_get (v := .int b) (C := RX11) (T := TX11) (N := 27) hx hb hts hinX11 hown hK hw h0 rfl 3 (by decide) (hts (.fieldLink RX11 13 "BetMakerModel" "broad" "I") (by decide +kernel)) (fun _ h9 => h9) rfl dX11_why_54 ?_
          refine lv_i2l (v := b.toInt64) hx hb dX11_why_57 rfl ?_
          refine lv_lmul hx hb dX11_why_58 ?_
          refine lv_ldc2 (v := 2) hx hb hown (hts (.constantLong RX11 76 (2)) (by decide +kernel)) dX11_why_59 ?_
          refine lv_aload_n hx hb dX11_why_62 rfl (lv_at hl 0 rfl) ?_
          refine kg_get (v := .int (nI N)) (C := RX11) (T := TX11) (N := 27) hx hb hts hinX11 hown hK hw h0 rfl 2 (by decide) (hts (.fieldLink RX11 7 "BetMakerModel" "cases" "I") (by decide +kernel)) (fun _ h9 => h9) rfl dX11_why_63 ?_
          refine lv_i2l (v := (nI N).toInt64) hx hb dX11_why_66 rfl ?_
          refine lv_aload_n hx hb dX11_why_67 rfl (lv_at hl 0 rfl) ?_
          refine kg_get (v := .ref (ad 201)) (C := RX11) (T := TX11) (N := 27) hx hb hts hinX11 hown hK hw h0 rfl 4 (by decide) (hts (.fieldLink RX11 16 "BetMakerModel" "sold" "[J") (by decide +kernel)) (fun _ h9 => h9) rfl dX11_why_68 ?_
          refine lv_iload hx hb dX11_why_71 (lv_at hl 5 rfl) ?_
          refine kg_lald hx hb hK hw h201 j rfl (by omega) (by omega) dX11_why_73 ?_
          refine lv_lload_n hx hb dX11_why_74 rfl (lv_at hl 3 rfl) ?_
          refine lv_iload_n hx hb dX11_why_75 rfl (lv_at hl 2 rfl) ?_
          refine lv_iload hx hb dX11_why_76 (lv_at hl 5 rfl) ?_
          refine kc_sW 10 (As := [.int set, .int (nI j)]) (rest := [.long x, .long (f j), .long ((nI N).toInt64), .long 2, .long (4 * b.toInt64)]) S0 (c_X11_in l D tc s.heap.size ad ct (c := j) ) (va_cwS 2 hts gX11_why_X11_in rfl rfl rfl (by decide +kernel) ⟨Nat.le_of_ble_eq_true rfl, Nat.le_of_ble_eq_true rfl⟩) (Nat.le_of_ble_eq_true rfl) hK hw rfl hl.1 rfl (Nat.le_of_ble_eq_true rfl) dX11_why_78 ⟨Nat.le_of_ble_eq_true rfl, (Nat.le_of_ble_eq_true rfl)⟩ ?_
          refine lv_i2l (v := (kbit set j).toInt64) hx hb dX11_why_81 rfl ?_
          refine lv_lmul hx hb dX11_why_82 ?_
          refine lv_ladd hx hb dX11_why_83 ?_
          refine lv_lmul hx hb dX11_why_84 ?_
          refine lv_lload hx hb dX11_why_85 (lv_at hl 4 rfl) ?_
          refine lv_lsub hx hb dX11_why_87 ?_
          refine lv_lmul hx hb dX11_why_88 ?_
          refine lv_ladd hx hb dX11_why_89 ?_
          refine lv_lstore (lv' := [(8, .long ((4 * b.toInt64) + (2 * ((((nI N).toInt64) * ((f j) + (x * ((kbit set j).toInt64)))) - acc)))), (0, .ref (ad 200)), (1, .int (nI t)), (2, .int set), (3, .long x), (5, .long acc), (7, .int (nI j))]) hx hb dX11_why_90 hl (by decide) rfl (fun ls hl => ?_)
          refine lv_lload hx hb dX11_why_92 (lv_at hl 0 rfl) ?_
          refine lv_lconst (v := 0) hx hb dX11_why_94 (by decide) ?_
          refine lv_aload_n hx hb dX11_why_95 rfl (lv_at hl 1 rfl) ?_
          refine kc_v (As := []) (rest := [.long 0, .long ((4 * b.toInt64) + (2 * ((((nI N).toInt64) * ((f j) + (x * ((kbit set j).toInt64)))) - acc)))]) S0 (c_X11_grains l D tc s.heap.size ad ct (N := N) (nt := nt) (no := no) (nf := nf) h0) (cwV 0 hts gX11_why_X11_grains rfl rfl rfl (by decide +kernel) ⟨Nat.le_of_ble_eq_true rfl, Nat.le_of_ble_eq_true rfl⟩) hK hw h0 rfl rfl hl.1 rfl (Nat.le_of_ble_eq_true rfl) dX11_why_96 ⟨Nat.le_of_ble_eq_true rfl, (Nat.le_of_ble_eq_true rfl)⟩ ?_
          refine kc_s (As := [.long ((4 * b.toInt64) + (2 * ((((nI N).toInt64) * ((f j) + (x * ((kbit set j).toInt64)))) - acc))), .long 0, .long (kU b N)]) (rest := []) S0 (c_X11_within l D tc s.heap.size ad ct ) (va_cwS 3 hts gX11_why_X11_within rfl rfl rfl (by decide +kernel) ⟨Nat.le_of_ble_eq_true rfl, Nat.le_of_ble_eq_true rfl⟩) hK hw rfl hl.1 rfl (Nat.le_of_ble_eq_true rfl) dX11_why_99 ⟨Nat.le_of_ble_eq_true rfl, (Nat.le_of_ble_eq_true rfl)⟩ ?_
          refine kb_ifne (tgt := 107) hx hb dX11_why_102 (by decide) (fun c_4 => ?_) (fun c_4 => ?_)
          · refine lv_iinc (v := (nI (j + 1))) (lv' := [(7, .int (nI (j + 1))), (8, .long ((4 * b.toInt64) + (2 * ((((nI N).toInt64) * ((f j) + (x * ((kbit set j).toInt64)))) - acc)))), (0, .ref (ad 200)), (1, .int (nI t)), (2, .int set), (3, .long x), (5, .long acc)]) hx hb dX11_why_107 hl (k := 6) rfl (nI_1 j) (by decide) rfl (fun ls hl => ?_)
            refine lv_goto (tgt := 41) hx hb dX11_why_110 (by decide) ?_
            exact ih41 (j + 1) ls (by omega) (by omega) (by exact kall_s hj2 (decide_eq_true c_4)) (lv_sub hl [2, 3, 4, 5, 6, 0] rfl)
          · refine lv_iconst (v := 1) hx hb dX11_why_105 (by decide) ?_
            refine W.eq (congrArg (fun z => F0 m 106 ls [.int z]) (show 1 = (kWy b N f set x (pu t) (fun c => ho (8 * t + c))) from by rw [kWy, ← hS, if_neg (fun q => c_4 (of_decide_eq_true ((kall_iff.mp q) j (by omega))))])) ?_
            exact W.iret hx hb hr (fun t ht _ => ⟨rfl, ht⟩) (fun _ h => absurd h List.not_mem_nil) dX11_why_106
    · refine lv_lload hx hb dX11_why_18 (lv_at hl 4 rfl) ?_
      refine lv_lload_n hx hb dX11_why_20 rfl (lv_at hl 3 rfl) ?_
      refine lv_iload_n hx hb dX11_why_21 rfl (lv_at hl 2 rfl) ?_
      refine lv_iload hx hb dX11_why_22 (lv_at hl 5 rfl) ?_
      refine kc_s (As := [.int set, .int (nI i)]) (rest := [.long x, .long acc]) S0 (c_X11_in l D tc s.heap.size ad ct (c := i) ) (va_cwS 2 hts gX11_why_X11_in rfl rfl rfl (by decide +kernel) ⟨Nat.le_of_ble_eq_true rfl, Nat.le_of_ble_eq_true rfl⟩) hK hw rfl hl.1 rfl (Nat.le_of_ble_eq_true rfl) dX11_why_24 ⟨Nat.le_of_ble_eq_true rfl, (Nat.le_of_ble_eq_true rfl)⟩ ?_
      refine lv_i2l (v := (kbit set i).toInt64) hx hb dX11_why_27 rfl ?_
      refine lv_lmul hx hb dX11_why_28 ?_
      refine lv_ladd hx hb dX11_why_29 ?_
      refine lv_lstore (lv' := [(5, .long (acc + (x * ((kbit set i).toInt64)))), (0, .ref (ad 200)), (1, .int (nI t)), (2, .int set), (3, .long x), (7, .int (nI i))]) hx hb dX11_why_30 hl (by decide) rfl (fun ls hl => ?_)
      refine lv_iinc (v := (nI (i + 1))) (lv' := [(7, .int (nI (i + 1))), (5, .long (acc + (x * ((kbit set i).toInt64)))), (0, .ref (ad 200)), (1, .int (nI t)), (2, .int set), (3, .long x)]) hx hb dX11_why_32 hl (k := 5) rfl (nI_1 i) (by decide) rfl (fun ls hl => ?_)
      refine lv_goto (tgt := 9) hx hb dX11_why_35 (by decide) ?_
      exact ih9 (i + 1) (acc + (x * ((kbit set i).toInt64))) ls (by omega) (by omega) (by rw [ha, Int64.add_assoc]; rfl) (lv_sub hl [2, 3, 4, 5, 1, 0] rfl)
set_option maxHeartbeats 4000000 in
set_option maxRecDepth 100000 in
theorem c_X11_quote (l : Launch) (D : va_G) (tc : Nat → ClassId) (sz : Nat) (ad : Nat → Nat) (ct : Nat → Option va_E) {N nt no nf : Nat} {ft tr b cm da bs : Int32} {g : Int64} {f : Nat → Int64}                {t set x : Int32} (h0 : ct 200 = some (.inr (11, [.int ft, .int tr, .int (nI N), .int b, .ref (ad 201), .long g, .int cm, .int da, .int (nI nt), .ref (ad 202), .ref (ad 203), .ref (ad 204), .ref (ad 205), .ref (ad 206), .ref (ad 207), .ref (ad 208), .ref (ad 209), .int (nI no), .ref (ad 210), .ref (ad 211), .ref (ad 212), .ref (ad 213), .ref (ad 214), .int bs, .int (nI nf), .ref (ad 215), .ref (ad 216)]))) (h201 : ct 201 = some (eJ tc 8 f)) (hN : N ≤ 8) (ht : 0 ≤ t ∧ t < nI nt) (hs : 1 ≤ set.toInt64 ∧ set.toInt64 ≤ 1 <<< ((nI N).toInt64 &&& 63) - 2) (hx1 : ¬ x = 0 ∧ ((-1000) ≤ x.toInt64 ∧ x.toInt64 ≤ 1000)) : Met l yX11_quote wsX11_quote ({ frames := 3, cells := 0, slots := 0, locals := 86 }) (va_Pc [.ref (ad 200), .int t, .int set, .int x] (kw_B D tc sz ad ct)) (k2_QcV (.long (kPd b N f set x.toInt64))) 0 0 (fun _ => False) := by
  refine Met.ofW (cc := cX11_quote) (maxL := 4) (ret := (some .long)) (by decide) rfl ?_
  intro pg en s m args below meth cod s₁ B hml hv
  obtain ⟨rfl, hsz, hP0, hK⟩ := hv
  have hx := B.exec
  have hb := B.bytes
  have hr := B.returns
  have hts := atoms_spec (ws := wsX11_quote) B.pre
  have hown : s.vm.findClass RX11 = some m.cls := findClass_of_methodNamed B.named
  have hlocks := B.notSynchronized
  subst hsz
  have hw := kw_H.start hP0
  generalize kw_A ad ct s.heap.size = A at hw
  have hl := lv_entry ([.ref (ad 200), .int t, .int set, .int x]) (n := 4) (Nat.le_of_ble_eq_true rfl)
  rw [lg_entry_eq]
  generalize (lg_sl ([.ref (ad 200), .int t, .int set, .int x]) ++ List.replicate (4 - (lg_sl ([.ref (ad 200), .int t, .int set, .int x])).length) Slot.unset).toArray = ls at hl ⊢
  have hl : lv_has ls 4 [(0, .ref (ad 200)), (1, .int t), (2, .int set), (3, .int x)] := hl
  have S0 : CallFix pg m cod cX11_quote 4 s _ wsX11_quote RX11 := ⟨hx, hb, hml, hown, hts⟩
  refine lv_aload_n hx hb dX11_quote_0 rfl (lv_at hl 0 rfl) ?_
  refine lv_iload_n hx hb dX11_quote_1 rfl (lv_at hl 1 rfl) ?_
  refine kc_v (As := [.int t]) (rest := []) S0 (c_X11_isTrader l D tc s.heap.size ad ct (N := N) (nt := nt) (no := no) (nf := nf) h0) (cwV 1 hts gX11_quote_X11_isTrader rfl rfl rfl (by decide +kernel) ⟨Nat.le_of_ble_eq_true rfl, Nat.le_of_ble_eq_true rfl⟩) hK hw h0 rfl rfl hl.1 rfl (Nat.le_of_ble_eq_true rfl) dX11_quote_2 ⟨Nat.le_of_ble_eq_true rfl, (Nat.le_of_ble_eq_true rfl)⟩ ?_
  refine kb_ifeq (tgt := 33) hx hb dX11_quote_5 (by decide) (fun c_1 => ?_) (fun c_1 => ?_)
  · exact absurd ht c_1
  · refine lv_aload_n hx hb dX11_quote_8 rfl (lv_at hl 0 rfl) ?_
    refine lv_iload_n hx hb dX11_quote_9 rfl (lv_at hl 2 rfl) ?_
    refine kc_v (As := [.int set]) (rest := []) S0 (c_X11_isSet l D tc s.heap.size ad ct (N := N) (nt := nt) (no := no) (nf := nf) h0) (cwV 1 hts gX11_quote_X11_isSet rfl rfl rfl (by decide +kernel) ⟨Nat.le_of_ble_eq_true rfl, Nat.le_of_ble_eq_true rfl⟩) hK hw h0 rfl rfl hl.1 rfl (Nat.le_of_ble_eq_true rfl) dX11_quote_10 ⟨Nat.le_of_ble_eq_true rfl, (Nat.le_of_ble_eq_true rfl)⟩ ?_
    refine kb_ifeq (tgt := 33) hx hb dX11_quote_13 (by decide) (fun c_2 => ?_) (fun c_2 => ?_)
    · exact absurd hs c_2
    · refine lv_iload_n hx hb dX11_quote_16 rfl (lv_at hl 3 rfl) ?_
      refine kc_s (As := [.int x]) (rest := []) S0 (c_X11_isShares l D tc s.heap.size ad ct ) (va_cwS 1 hts gX11_quote_X11_isShares rfl rfl rfl (by decide +kernel) ⟨Nat.le_of_ble_eq_true rfl, Nat.le_of_ble_eq_true rfl⟩) hK hw rfl hl.1 rfl (Nat.le_of_ble_eq_true rfl) dX11_quote_17 ⟨Nat.le_of_ble_eq_true rfl, (Nat.le_of_ble_eq_true rfl)⟩ ?_
      refine kb_ifeq (tgt := 33) hx hb dX11_quote_20 (by decide) (fun c_3 => ?_) (fun c_3 => ?_)
      · exact absurd hx1 c_3
      · refine lv_aload_n hx hb dX11_quote_23 rfl (lv_at hl 0 rfl) ?_
        refine lv_iload_n hx hb dX11_quote_24 rfl (lv_at hl 2 rfl) ?_
        refine lv_iload_n hx hb dX11_quote_25 rfl (lv_at hl 3 rfl) ?_
        refine lv_i2l (v := x.toInt64) hx hb dX11_quote_26 rfl ?_
        refine kc_v (As := [.int set, .long x.toInt64]) (rest := []) S0 (c_X11_paid l D tc s.heap.size ad ct (N := N) (nt := nt) (no := no) (nf := nf) h0 h201 (by omega)) (cwV 2 hts gX11_quote_X11_paid rfl rfl rfl (by decide +kernel) ⟨Nat.le_of_ble_eq_true rfl, Nat.le_of_ble_eq_true rfl⟩) hK hw h0 rfl rfl hl.1 rfl (Nat.le_of_ble_eq_true rfl) dX11_quote_27 ⟨Nat.le_of_ble_eq_true rfl, (Nat.le_of_ble_eq_true rfl)⟩ ?_
        refine lv_goto (tgt := 36) hx hb dX11_quote_30 (by decide) ?_
        exact W.lret hx hb hr (fun t ht _ => ⟨rfl, ht⟩) (fun _ h => absurd h List.not_mem_nil) dX11_quote_36
set_option maxHeartbeats 4000000 in
set_option maxRecDepth 100000 in
theorem c_X11_quote_n (l : Launch) (D : va_G) (tc : Nat → ClassId) (sz : Nat) (ad : Nat → Nat) (ct : Nat → Option va_E) {N nt no nf : Nat} {ft tr b cm da bs : Int32} {g : Int64}                 {t set x : Int32} (h0 : ct 200 = some (.inr (11, [.int ft, .int tr, .int (nI N), .int b, .ref (ad 201), .long g, .int cm, .int da, .int (nI nt), .ref (ad 202), .ref (ad 203), .ref (ad 204), .ref (ad 205), .ref (ad 206), .ref (ad 207), .ref (ad 208), .ref (ad 209), .int (nI no), .ref (ad 210), .ref (ad 211), .ref (ad 212), .ref (ad 213), .ref (ad 214), .int bs, .int (nI nf), .ref (ad 215), .ref (ad 216)]))) (hbad : ¬ ((0 ≤ t ∧ t < nI nt) ∧ (1 ≤ set.toInt64 ∧ set.toInt64 ≤ 1 <<< ((nI N).toInt64 &&& 63) - 2) ∧ ¬ x = 0 ∧ ((-1000) ≤ x.toInt64 ∧ x.toInt64 ≤ 1000))) : Met l yX11_quote wsX11_quote ({ frames := 3, cells := 0, slots := 0, locals := 86 }) (va_Pc [.ref (ad 200), .int t, .int set, .int x] (kw_B D tc sz ad ct)) (k2_QcV (.long (-9223372036854775808))) 0 0 (fun _ => False) := by
  refine Met.ofW (cc := cX11_quote) (maxL := 4) (ret := (some .long)) (by decide) rfl ?_
  intro pg en s m args below meth cod s₁ B hml hv
  obtain ⟨rfl, hsz, hP0, hK⟩ := hv
  have hx := B.exec
  have hb := B.bytes
  have hr := B.returns
  have hts := atoms_spec (ws := wsX11_quote) B.pre
  have hown : s.vm.findClass RX11 = some m.cls := findClass_of_methodNamed B.named
  have hlocks := B.notSynchronized
  subst hsz
  have hw := kw_H.start hP0
  generalize kw_A ad ct s.heap.size = A at hw
  have hl := lv_entry ([.ref (ad 200), .int t, .int set, .int x]) (n := 4) (Nat.le_of_ble_eq_true rfl)
  rw [lg_entry_eq]
  generalize (lg_sl ([.ref (ad 200), .int t, .int set, .int x]) ++ List.replicate (4 - (lg_sl ([.ref (ad 200), .int t, .int set, .int x])).length) Slot.unset).toArray = ls at hl ⊢
  have hl : lv_has ls 4 [(0, .ref (ad 200)), (1, .int t), (2, .int set), (3, .int x)] := hl
  have S0 : CallFix pg m cod cX11_quote 4 s _ wsX11_quote RX11 := ⟨hx, hb, hml, hown, hts⟩
  refine lv_aload_n hx hb dX11_quote_0 rfl (lv_at hl 0 rfl) ?_
  refine lv_iload_n hx hb dX11_quote_1 rfl (lv_at hl 1 rfl) ?_
  refine kc_v (As := [.int t]) (rest := []) S0 (c_X11_isTrader l D tc s.heap.size ad ct (N := N) (nt := nt) (no := no) (nf := nf) h0) (cwV 1 hts gX11_quote_X11_isTrader rfl rfl rfl (by decide +kernel) ⟨Nat.le_of_ble_eq_true rfl, Nat.le_of_ble_eq_true rfl⟩) hK hw h0 rfl rfl hl.1 rfl (Nat.le_of_ble_eq_true rfl) dX11_quote_2 ⟨Nat.le_of_ble_eq_true rfl, (Nat.le_of_ble_eq_true rfl)⟩ ?_
  refine kb_ifeq (tgt := 33) hx hb dX11_quote_5 (by decide) (fun c_1 => ?_) (fun c_1 => ?_)
  · refine lv_ldc2 (v := (-9223372036854775808)) hx hb hown (hts (.constantLong RX11 72 (-9223372036854775808)) (by decide +kernel)) dX11_quote_33 ?_
    exact W.lret hx hb hr (fun t ht _ => ⟨rfl, ht⟩) (fun _ h => absurd h List.not_mem_nil) dX11_quote_36
  · refine lv_aload_n hx hb dX11_quote_8 rfl (lv_at hl 0 rfl) ?_
    refine lv_iload_n hx hb dX11_quote_9 rfl (lv_at hl 2 rfl) ?_
    refine kc_v (As := [.int set]) (rest := []) S0 (c_X11_isSet l D tc s.heap.size ad ct (N := N) (nt := nt) (no := no) (nf := nf) h0) (cwV 1 hts gX11_quote_X11_isSet rfl rfl rfl (by decide +kernel) ⟨Nat.le_of_ble_eq_true rfl, Nat.le_of_ble_eq_true rfl⟩) hK hw h0 rfl rfl hl.1 rfl (Nat.le_of_ble_eq_true rfl) dX11_quote_10 ⟨Nat.le_of_ble_eq_true rfl, (Nat.le_of_ble_eq_true rfl)⟩ ?_
    refine kb_ifeq (tgt := 33) hx hb dX11_quote_13 (by decide) (fun c_2 => ?_) (fun c_2 => ?_)
    · refine lv_ldc2 (v := (-9223372036854775808)) hx hb hown (hts (.constantLong RX11 72 (-9223372036854775808)) (by decide +kernel)) dX11_quote_33 ?_
      exact W.lret hx hb hr (fun t ht _ => ⟨rfl, ht⟩) (fun _ h => absurd h List.not_mem_nil) dX11_quote_36
    · refine lv_iload_n hx hb dX11_quote_16 rfl (lv_at hl 3 rfl) ?_
      refine kc_s (As := [.int x]) (rest := []) S0 (c_X11_isShares l D tc s.heap.size ad ct ) (va_cwS 1 hts gX11_quote_X11_isShares rfl rfl rfl (by decide +kernel) ⟨Nat.le_of_ble_eq_true rfl, Nat.le_of_ble_eq_true rfl⟩) hK hw rfl hl.1 rfl (Nat.le_of_ble_eq_true rfl) dX11_quote_17 ⟨Nat.le_of_ble_eq_true rfl, (Nat.le_of_ble_eq_true rfl)⟩ ?_
      refine kb_ifeq (tgt := 33) hx hb dX11_quote_20 (by decide) (fun c_3 => ?_) (fun c_3 => ?_)
      · refine lv_ldc2 (v := (-9223372036854775808)) hx hb hown (hts (.constantLong RX11 72 (-9223372036854775808)) (by decide +kernel)) dX11_quote_33 ?_
        exact W.lret hx hb hr (fun t ht _ => ⟨rfl, ht⟩) (fun _ h => absurd h List.not_mem_nil) dX11_quote_36
      · exact absurd ⟨c_1, c_2, c_3⟩ hbad
set_option maxHeartbeats 4000000 in
set_option maxRecDepth 100000 in
theorem c_X11_barred (l : Launch) (D : va_G) (tc : Nat → ClassId) (sz : Nat) (ad : Nat → Nat) (ct : Nat → Option va_E) {N nt no nf : Nat} {ft tr b cm da bs : Int32} {g : Int64} {f : Nat → Int64}  {pu : Nat → Int64}  {ho : Nat → Int64}            {t : Nat} {set x : Int32} (h0 : ct 200 = some (.inr (11, [.int ft, .int tr, .int (nI N), .int b, .ref (ad 201), .long g, .int cm, .int da, .int (nI nt), .ref (ad 202), .ref (ad 203), .ref (ad 204), .ref (ad 205), .ref (ad 206), .ref (ad 207), .ref (ad 208), .ref (ad 209), .int (nI no), .ref (ad 210), .ref (ad 211), .ref (ad 212), .ref (ad 213), .ref (ad 214), .int bs, .int (nI nf), .ref (ad 215), .ref (ad 216)]))) (h201 : ct 201 = some (eJ tc 8 f)) (h203 : ct 203 = some (eJ tc 6 pu)) (h205 : ct 205 = some (eJ tc 48 ho)) (ht : t < nt) (hnt : nt ≤ 6) (hN : N ≤ 8) (hN2 : 2 ≤ N) (hs : 1 ≤ set.toInt64 ∧ set.toInt64 ≤ 1 <<< ((nI N).toInt64 &&& 63) - 2) (hx1 : ¬ x = 0 ∧ ((-1000) ≤ x.toInt64 ∧ x.toInt64 ≤ 1000)) (hm : cm = (-9)) : Met l yX11_barred wsX11_barred ({ frames := 4, cells := 0, slots := 0, locals := 119 }) (va_Pc [.ref (ad 200), .int (nI t), .int set, .int x] (kw_B D tc sz ad ct)) (k2_QcV (.int (kWy b N f set x.toInt64 (pu t) (fun c => ho (8 * t + c))))) 0 0 (fun _ => False) := by
  refine Met.ofW (cc := cX11_barred) (maxL := 4) (ret := (some .int)) (by decide) rfl ?_
  intro pg en s m args below meth cod s₁ B hml hv
  obtain ⟨rfl, hsz, hP0, hK⟩ := hv
  have hx := B.exec
  have hb := B.bytes
  have hr := B.returns
  have hts := atoms_spec (ws := wsX11_barred) B.pre
  have hown : s.vm.findClass RX11 = some m.cls := findClass_of_methodNamed B.named
  have hlocks := B.notSynchronized
  subst hsz
  have hw := kw_H.start hP0
  generalize kw_A ad ct s.heap.size = A at hw
  have hinX11 : ∀ w ∈ wsX110, w ∈ wsX11_barred := by decide +kernel
  have hl := lv_entry ([.ref (ad 200), .int (nI t), .int set, .int x]) (n := 4) (Nat.le_of_ble_eq_true rfl)
  rw [lg_entry_eq]
  generalize (lg_sl ([.ref (ad 200), .int (nI t), .int set, .int x]) ++ List.replicate (4 - (lg_sl ([.ref (ad 200), .int (nI t), .int set, .int x])).length) Slot.unset).toArray = ls at hl ⊢
  have hl : lv_has ls 4 [(0, .ref (ad 200)), (1, .int (nI t)), (2, .int set), (3, .int x)] := hl
  have S0 : CallFix pg m cod cX11_barred 4 s _ wsX11_barred RX11 := ⟨hx, hb, hml, hown, hts⟩
  have kT : 0 ≤ nI t ∧ nI t < nI nt := ⟨nI_pos' (by omega), nI_lt ht (by omega)⟩
  refine lv_aload_n hx hb dX11_barred_0 rfl (lv_at hl 0 rfl) ?_
  refine lv_iload_n hx hb dX11_barred_1 rfl (lv_at hl 1 rfl) ?_
  refine kc_v (As := [.int (nI t)]) (rest := []) S0 (c_X11_isTrader l D tc s.heap.size ad ct (N := N) (nt := nt) (no := no) (nf := nf) h0) (cwV 1 hts gX11_barred_X11_isTrader rfl rfl rfl (by decide +kernel) ⟨Nat.le_of_ble_eq_true rfl, Nat.le_of_ble_eq_true rfl⟩) hK hw h0 rfl rfl hl.1 rfl (Nat.le_of_ble_eq_true rfl) dX11_barred_2 ⟨Nat.le_of_ble_eq_true rfl, (Nat.le_of_ble_eq_true rfl)⟩ ?_
  refine kb_ifne (tgt := 10) hx hb dX11_barred_5 (by decide) (fun c_1 => ?_) (fun c_1 => ?_)
  · refine lv_aload_n hx hb dX11_barred_10 rfl (lv_at hl 0 rfl) ?_
    refine lv_iload_n hx hb dX11_barred_11 rfl (lv_at hl 2 rfl) ?_
    refine kc_v (As := [.int set]) (rest := []) S0 (c_X11_isSet l D tc s.heap.size ad ct (N := N) (nt := nt) (no := no) (nf := nf) h0) (cwV 1 hts gX11_barred_X11_isSet rfl rfl rfl (by decide +kernel) ⟨Nat.le_of_ble_eq_true rfl, Nat.le_of_ble_eq_true rfl⟩) hK hw h0 rfl rfl hl.1 rfl (Nat.le_of_ble_eq_true rfl) dX11_barred_12 ⟨Nat.le_of_ble_eq_true rfl, (Nat.le_of_ble_eq_true rfl)⟩ ?_
    refine kb_ifeq (tgt := 25) hx hb dX11_barred_15 (by decide) (fun c_2 => ?_) (fun c_2 => ?_)
    · exact absurd hs c_2
    · refine lv_iload_n hx hb dX11_barred_18 rfl (lv_at hl 3 rfl) ?_
      refine kc_s (As := [.int x]) (rest := []) S0 (c_X11_isShares l D tc s.heap.size ad ct ) (va_cwS 1 hts gX11_barred_X11_isShares rfl rfl rfl (by decide +kernel) ⟨Nat.le_of_ble_eq_true rfl, Nat.le_of_ble_eq_true rfl⟩) hK hw rfl hl.1 rfl (Nat.le_of_ble_eq_true rfl) dX11_barred_19 ⟨Nat.le_of_ble_eq_true rfl, (Nat.le_of_ble_eq_true rfl)⟩ ?_
      refine kb_ifne (tgt := 28) hx hb dX11_barred_22 (by decide) (fun c_3 => ?_) (fun c_3 => ?_)
      · refine lv_aload_n hx hb dX11_barred_28 rfl (lv_at hl 0 rfl) ?_
        refine kg_get (v := .int cm) (C := RX11) (T := TX11) (N := 27) hx hb hts hinX11 hown hK hw h0 rfl 6 (by decide) (hts (.fieldLink RX11 20 "BetMakerModel" "came" "I") (by decide +kernel)) (fun _ h9 => h9) rfl dX11_barred_29 ?_
        refine lv_bipush (v := (-9)) hx hb dX11_barred_32 (by decide) ?_
        refine lv_icmp_eq (tgt := 42) hx hb dX11_barred_34 (by decide) (fun c_4 => ?_) (fun c_4 => ?_)
        · refine lv_aload_n hx hb dX11_barred_42 rfl (lv_at hl 0 rfl) ?_
          refine lv_iload_n hx hb dX11_barred_43 rfl (lv_at hl 1 rfl) ?_
          refine lv_iload_n hx hb dX11_barred_44 rfl (lv_at hl 2 rfl) ?_
          refine lv_iload_n hx hb dX11_barred_45 rfl (lv_at hl 3 rfl) ?_
          refine lv_i2l (v := x.toInt64) hx hb dX11_barred_46 rfl ?_
          refine kc_v (As := [.int (nI t), .int set, .long x.toInt64]) (rest := []) S0 (c_X11_why l D tc s.heap.size ad ct (t := t) (N := N) (nt := nt) (no := no) (nf := nf) h0 h201 h203 h205 (by omega) (by omega) (by omega)) (cwV 3 hts gX11_barred_X11_why rfl rfl rfl (by decide +kernel) ⟨Nat.le_of_ble_eq_true rfl, Nat.le_of_ble_eq_true rfl⟩) hK hw h0 rfl rfl hl.1 rfl (Nat.le_of_ble_eq_true rfl) dX11_barred_47 ⟨Nat.le_of_ble_eq_true rfl, (Nat.le_of_ble_eq_true rfl)⟩ ?_
          exact W.iret hx hb hr (fun t ht _ => ⟨rfl, ht⟩) (fun _ h => absurd h List.not_mem_nil) dX11_barred_50
        · exact absurd hm c_4
      · exact absurd hx1 c_3
  · exact absurd kT c_1
set_option maxHeartbeats 4000000 in
set_option maxRecDepth 100000 in
theorem c_X11_barred_u (l : Launch) (D : va_G) (tc : Nat → ClassId) (sz : Nat) (ad : Nat → Nat) (ct : Nat → Option va_E) {N nt no nf : Nat} {ft tr b cm da bs : Int32} {g : Int64}                 {t set x : Int32} (h0 : ct 200 = some (.inr (11, [.int ft, .int tr, .int (nI N), .int b, .ref (ad 201), .long g, .int cm, .int da, .int (nI nt), .ref (ad 202), .ref (ad 203), .ref (ad 204), .ref (ad 205), .ref (ad 206), .ref (ad 207), .ref (ad 208), .ref (ad 209), .int (nI no), .ref (ad 210), .ref (ad 211), .ref (ad 212), .ref (ad 213), .ref (ad 214), .int bs, .int (nI nf), .ref (ad 215), .ref (ad 216)]))) (ht : ¬ (0 ≤ t ∧ t < nI nt)) : Met l yX11_barred wsX11_barred ({ frames := 4, cells := 0, slots := 0, locals := 119 }) (va_Pc [.ref (ad 200), .int t, .int set, .int x] (kw_B D tc sz ad ct)) (k2_QcV (.int (-1))) 0 0 (fun _ => False) := by
  refine Met.ofW (cc := cX11_barred) (maxL := 4) (ret := (some .int)) (by decide) rfl ?_
  intro pg en s m args below meth cod s₁ B hml hv
  obtain ⟨rfl, hsz, hP0, hK⟩ := hv
  have hx := B.exec
  have hb := B.bytes
  have hr := B.returns
  have hts := atoms_spec (ws := wsX11_barred) B.pre
  have hown : s.vm.findClass RX11 = some m.cls := findClass_of_methodNamed B.named
  have hlocks := B.notSynchronized
  subst hsz
  have hw := kw_H.start hP0
  generalize kw_A ad ct s.heap.size = A at hw
  have hinX11 : ∀ w ∈ wsX110, w ∈ wsX11_barred := by decide +kernel
  have hl := lv_entry ([.ref (ad 200), .int t, .int set, .int x]) (n := 4) (Nat.le_of_ble_eq_true rfl)
  rw [lg_entry_eq]
  generalize (lg_sl ([.ref (ad 200), .int t, .int set, .int x]) ++ List.replicate (4 - (lg_sl ([.ref (ad 200), .int t, .int set, .int x])).length) Slot.unset).toArray = ls at hl ⊢
  have hl : lv_has ls 4 [(0, .ref (ad 200)), (1, .int t), (2, .int set), (3, .int x)] := hl
  have S0 : CallFix pg m cod cX11_barred 4 s _ wsX11_barred RX11 := ⟨hx, hb, hml, hown, hts⟩
  refine lv_aload_n hx hb dX11_barred_0 rfl (lv_at hl 0 rfl) ?_
  refine lv_iload_n hx hb dX11_barred_1 rfl (lv_at hl 1 rfl) ?_
  refine kc_v (As := [.int t]) (rest := []) S0 (c_X11_isTrader l D tc s.heap.size ad ct (N := N) (nt := nt) (no := no) (nf := nf) h0) (cwV 1 hts gX11_barred_X11_isTrader rfl rfl rfl (by decide +kernel) ⟨Nat.le_of_ble_eq_true rfl, Nat.le_of_ble_eq_true rfl⟩) hK hw h0 rfl rfl hl.1 rfl (Nat.le_of_ble_eq_true rfl) dX11_barred_2 ⟨Nat.le_of_ble_eq_true rfl, (Nat.le_of_ble_eq_true rfl)⟩ ?_
  refine kb_ifne (tgt := 10) hx hb dX11_barred_5 (by decide) (fun c_1 => ?_) (fun c_1 => ?_)
  · exact absurd c_1 ht
  · refine lv_iconst (v := (-1)) hx hb dX11_barred_8 (by decide) ?_
    exact W.iret hx hb hr (fun t ht _ => ⟨rfl, ht⟩) (fun _ h => absurd h List.not_mem_nil) dX11_barred_9
set_option maxHeartbeats 4000000 in
set_option maxRecDepth 100000 in
theorem c_X11_barred_o (l : Launch) (D : va_G) (tc : Nat → ClassId) (sz : Nat) (ad : Nat → Nat) (ct : Nat → Option va_E) {N nt no nf : Nat} {ft tr b cm da bs : Int32} {g : Int64}                 {t set x : Int32} (h0 : ct 200 = some (.inr (11, [.int ft, .int tr, .int (nI N), .int b, .ref (ad 201), .long g, .int cm, .int da, .int (nI nt), .ref (ad 202), .ref (ad 203), .ref (ad 204), .ref (ad 205), .ref (ad 206), .ref (ad 207), .ref (ad 208), .ref (ad 209), .int (nI no), .ref (ad 210), .ref (ad 211), .ref (ad 212), .ref (ad 213), .ref (ad 214), .int bs, .int (nI nf), .ref (ad 215), .ref (ad 216)]))) (ht : 0 ≤ t ∧ t < nI nt) (hbad : ¬ ((1 ≤ set.toInt64 ∧ set.toInt64 ≤ 1 <<< ((nI N).toInt64 &&& 63) - 2) ∧ ¬ x = 0 ∧ ((-1000) ≤ x.toInt64 ∧ x.toInt64 ≤ 1000))) : Met l yX11_barred wsX11_barred ({ frames := 4, cells := 0, slots := 0, locals := 119 }) (va_Pc [.ref (ad 200), .int t, .int set, .int x] (kw_B D tc sz ad ct)) (k2_QcV (.int (-2))) 0 0 (fun _ => False) := by
  refine Met.ofW (cc := cX11_barred) (maxL := 4) (ret := (some .int)) (by decide) rfl ?_
  intro pg en s m args below meth cod s₁ B hml hv
  obtain ⟨rfl, hsz, hP0, hK⟩ := hv
  have hx := B.exec
  have hb := B.bytes
  have hr := B.returns
  have hts := atoms_spec (ws := wsX11_barred) B.pre
  have hown : s.vm.findClass RX11 = some m.cls := findClass_of_methodNamed B.named
  have hlocks := B.notSynchronized
  subst hsz
  have hw := kw_H.start hP0
  generalize kw_A ad ct s.heap.size = A at hw
  have hinX11 : ∀ w ∈ wsX110, w ∈ wsX11_barred := by decide +kernel
  have hl := lv_entry ([.ref (ad 200), .int t, .int set, .int x]) (n := 4) (Nat.le_of_ble_eq_true rfl)
  rw [lg_entry_eq]
  generalize (lg_sl ([.ref (ad 200), .int t, .int set, .int x]) ++ List.replicate (4 - (lg_sl ([.ref (ad 200), .int t, .int set, .int x])).length) Slot.unset).toArray = ls at hl ⊢
  have hl : lv_has ls 4 [(0, .ref (ad 200)), (1, .int t), (2, .int set), (3, .int x)] := hl
  have S0 : CallFix pg m cod cX11_barred 4 s _ wsX11_barred RX11 := ⟨hx, hb, hml, hown, hts⟩
  refine lv_aload_n hx hb dX11_barred_0 rfl (lv_at hl 0 rfl) ?_
  refine lv_iload_n hx hb dX11_barred_1 rfl (lv_at hl 1 rfl) ?_
  refine kc_v (As := [.int t]) (rest := []) S0 (c_X11_isTrader l D tc s.heap.size ad ct (N := N) (nt := nt) (no := no) (nf := nf) h0) (cwV 1 hts gX11_barred_X11_isTrader rfl rfl rfl (by decide +kernel) ⟨Nat.le_of_ble_eq_true rfl, Nat.le_of_ble_eq_true rfl⟩) hK hw h0 rfl rfl hl.1 rfl (Nat.le_of_ble_eq_true rfl) dX11_barred_2 ⟨Nat.le_of_ble_eq_true rfl, (Nat.le_of_ble_eq_true rfl)⟩ ?_
  refine kb_ifne (tgt := 10) hx hb dX11_barred_5 (by decide) (fun c_1 => ?_) (fun c_1 => ?_)
  · refine lv_aload_n hx hb dX11_barred_10 rfl (lv_at hl 0 rfl) ?_
    refine lv_iload_n hx hb dX11_barred_11 rfl (lv_at hl 2 rfl) ?_
    refine kc_v (As := [.int set]) (rest := []) S0 (c_X11_isSet l D tc s.heap.size ad ct (N := N) (nt := nt) (no := no) (nf := nf) h0) (cwV 1 hts gX11_barred_X11_isSet rfl rfl rfl (by decide +kernel) ⟨Nat.le_of_ble_eq_true rfl, Nat.le_of_ble_eq_true rfl⟩) hK hw h0 rfl rfl hl.1 rfl (Nat.le_of_ble_eq_true rfl) dX11_barred_12 ⟨Nat.le_of_ble_eq_true rfl, (Nat.le_of_ble_eq_true rfl)⟩ ?_
    refine kb_ifeq (tgt := 25) hx hb dX11_barred_15 (by decide) (fun c_2 => ?_) (fun c_2 => ?_)
    · refine lv_bipush (v := (-2)) hx hb dX11_barred_25 (by decide) ?_
      exact W.iret hx hb hr (fun t ht _ => ⟨rfl, ht⟩) (fun _ h => absurd h List.not_mem_nil) dX11_barred_27
    · refine lv_iload_n hx hb dX11_barred_18 rfl (lv_at hl 3 rfl) ?_
      refine kc_s (As := [.int x]) (rest := []) S0 (c_X11_isShares l D tc s.heap.size ad ct ) (va_cwS 1 hts gX11_barred_X11_isShares rfl rfl rfl (by decide +kernel) ⟨Nat.le_of_ble_eq_true rfl, Nat.le_of_ble_eq_true rfl⟩) hK hw rfl hl.1 rfl (Nat.le_of_ble_eq_true rfl) dX11_barred_19 ⟨Nat.le_of_ble_eq_true rfl, (Nat.le_of_ble_eq_true rfl)⟩ ?_
      refine kb_ifne (tgt := 28) hx hb dX11_barred_22 (by decide) (fun c_3 => ?_) (fun c_3 => ?_)
      · exact absurd ⟨c_2, c_3⟩ hbad
      · refine lv_bipush (v := (-2)) hx hb dX11_barred_25 (by decide) ?_
        exact W.iret hx hb hr (fun t ht _ => ⟨rfl, ht⟩) (fun _ h => absurd h List.not_mem_nil) dX11_barred_27
  · exact absurd ht c_1
set_option maxHeartbeats 4000000 in
set_option maxRecDepth 100000 in
theorem c_X11_barred_s (l : Launch) (D : va_G) (tc : Nat → ClassId) (sz : Nat) (ad : Nat → Nat) (ct : Nat → Option va_E) {N nt no nf : Nat} {ft tr b cm da bs : Int32} {g : Int64}                 {t set x : Int32} (h0 : ct 200 = some (.inr (11, [.int ft, .int tr, .int (nI N), .int b, .ref (ad 201), .long g, .int cm, .int da, .int (nI nt), .ref (ad 202), .ref (ad 203), .ref (ad 204), .ref (ad 205), .ref (ad 206), .ref (ad 207), .ref (ad 208), .ref (ad 209), .int (nI no), .ref (ad 210), .ref (ad 211), .ref (ad 212), .ref (ad 213), .ref (ad 214), .int bs, .int (nI nf), .ref (ad 215), .ref (ad 216)]))) (ht : 0 ≤ t ∧ t < nI nt) (hs : 1 ≤ set.toInt64 ∧ set.toInt64 ≤ 1 <<< ((nI N).toInt64 &&& 63) - 2) (hx1 : ¬ x = 0 ∧ ((-1000) ≤ x.toInt64 ∧ x.toInt64 ≤ 1000)) (hm : ¬ cm = (-9)) : Met l yX11_barred wsX11_barred ({ frames := 4, cells := 0, slots := 0, locals := 119 }) (va_Pc [.ref (ad 200), .int t, .int set, .int x] (kw_B D tc sz ad ct)) (k2_QcV (.int (-3))) 0 0 (fun _ => False) := by
  refine Met.ofW (cc := cX11_barred) (maxL := 4) (ret := (some .int)) (by decide) rfl ?_
  intro pg en s m args below meth cod s₁ B hml hv
  obtain ⟨rfl, hsz, hP0, hK⟩ := hv
  have hx := B.exec
  have hb := B.bytes
  have hr := B.returns
  have hts := atoms_spec (ws := wsX11_barred) B.pre
  have hown : s.vm.findClass RX11 = some m.cls := findClass_of_methodNamed B.named
  have hlocks := B.notSynchronized
  subst hsz
  have hw := kw_H.start hP0
  generalize kw_A ad ct s.heap.size = A at hw
  have hinX11 : ∀ w ∈ wsX110, w ∈ wsX11_barred := by decide +kernel
  have hl := lv_entry ([.ref (ad 200), .int t, .int set, .int x]) (n := 4) (Nat.le_of_ble_eq_true rfl)
  rw [lg_entry_eq]
  generalize (lg_sl ([.ref (ad 200), .int t, .int set, .int x]) ++ List.replicate (4 - (lg_sl ([.ref (ad 200), .int t, .int set, .int x])).length) Slot.unset).toArray = ls at hl ⊢
  have hl : lv_has ls 4 [(0, .ref (ad 200)), (1, .int t), (2, .int set), (3, .int x)] := hl
  have S0 : CallFix pg m cod cX11_barred 4 s _ wsX11_barred RX11 := ⟨hx, hb, hml, hown, hts⟩
  refine lv_aload_n hx hb dX11_barred_0 rfl (lv_at hl 0 rfl) ?_
  refine lv_iload_n hx hb dX11_barred_1 rfl (lv_at hl 1 rfl) ?_
  refine kc_v (As := [.int t]) (rest := []) S0 (c_X11_isTrader l D tc s.heap.size ad ct (N := N) (nt := nt) (no := no) (nf := nf) h0) (cwV 1 hts gX11_barred_X11_isTrader rfl rfl rfl (by decide +kernel) ⟨Nat.le_of_ble_eq_true rfl, Nat.le_of_ble_eq_true rfl⟩) hK hw h0 rfl rfl hl.1 rfl (Nat.le_of_ble_eq_true rfl) dX11_barred_2 ⟨Nat.le_of_ble_eq_true rfl, (Nat.le_of_ble_eq_true rfl)⟩ ?_
  refine kb_ifne (tgt := 10) hx hb dX11_barred_5 (by decide) (fun c_1 => ?_) (fun c_1 => ?_)
  · refine lv_aload_n hx hb dX11_barred_10 rfl (lv_at hl 0 rfl) ?_
    refine lv_iload_n hx hb dX11_barred_11 rfl (lv_at hl 2 rfl) ?_
    refine kc_v (As := [.int set]) (rest := []) S0 (c_X11_isSet l D tc s.heap.size ad ct (N := N) (nt := nt) (no := no) (nf := nf) h0) (cwV 1 hts gX11_barred_X11_isSet rfl rfl rfl (by decide +kernel) ⟨Nat.le_of_ble_eq_true rfl, Nat.le_of_ble_eq_true rfl⟩) hK hw h0 rfl rfl hl.1 rfl (Nat.le_of_ble_eq_true rfl) dX11_barred_12 ⟨Nat.le_of_ble_eq_true rfl, (Nat.le_of_ble_eq_true rfl)⟩ ?_
    refine kb_ifeq (tgt := 25) hx hb dX11_barred_15 (by decide) (fun c_2 => ?_) (fun c_2 => ?_)
    · exact absurd hs c_2
    · refine lv_iload_n hx hb dX11_barred_18 rfl (lv_at hl 3 rfl) ?_
      refine kc_s (As := [.int x]) (rest := []) S0 (c_X11_isShares l D tc s.heap.size ad ct ) (va_cwS 1 hts gX11_barred_X11_isShares rfl rfl rfl (by decide +kernel) ⟨Nat.le_of_ble_eq_true rfl, Nat.le_of_ble_eq_true rfl⟩) hK hw rfl hl.1 rfl (Nat.le_of_ble_eq_true rfl) dX11_barred_19 ⟨Nat.le_of_ble_eq_true rfl, (Nat.le_of_ble_eq_true rfl)⟩ ?_
      refine kb_ifne (tgt := 28) hx hb dX11_barred_22 (by decide) (fun c_3 => ?_) (fun c_3 => ?_)
      · refine lv_aload_n hx hb dX11_barred_28 rfl (lv_at hl 0 rfl) ?_
        refine kg_get (v := .int cm) (C := RX11) (T := TX11) (N := 27) hx hb hts hinX11 hown hK hw h0 rfl 6 (by decide) (hts (.fieldLink RX11 20 "BetMakerModel" "came" "I") (by decide +kernel)) (fun _ h9 => h9) rfl dX11_barred_29 ?_
        refine lv_bipush (v := (-9)) hx hb dX11_barred_32 (by decide) ?_
        refine lv_icmp_eq (tgt := 42) hx hb dX11_barred_34 (by decide) (fun c_4 => ?_) (fun c_4 => ?_)
        · exact absurd c_4 hm
        · refine lv_bipush (v := (-3)) hx hb dX11_barred_37 (by decide) ?_
          refine lv_goto (tgt := 50) hx hb dX11_barred_39 (by decide) ?_
          exact W.iret hx hb hr (fun t ht _ => ⟨rfl, ht⟩) (fun _ h => absurd h List.not_mem_nil) dX11_barred_50
      · exact absurd hx1 c_3
  · exact absurd ht c_1
set_option maxHeartbeats 4000000 in
set_option maxRecDepth 100000 in
theorem c_X11_believed (l : Launch) (D : va_G) (tc : Nat → ClassId) (sz : Nat) (ad : Nat → Nat) (ct : Nat → Option va_E) {N nt no nf : Nat} {ft tr b cm da bs : Int32} {g : Int64}      {we : Nat → Int32}           {t : Nat} (h0 : ct 200 = some (.inr (11, [.int ft, .int tr, .int (nI N), .int b, .ref (ad 201), .long g, .int cm, .int da, .int (nI nt), .ref (ad 202), .ref (ad 203), .ref (ad 204), .ref (ad 205), .ref (ad 206), .ref (ad 207), .ref (ad 208), .ref (ad 209), .int (nI no), .ref (ad 210), .ref (ad 211), .ref (ad 212), .ref (ad 213), .ref (ad 214), .int bs, .int (nI nf), .ref (ad 215), .ref (ad 216)]))) (h206 : ct 206 = some (eI tc 48 we)) (ht6 : t < 6) (hN : N ≤ 8) : Met l yX11_believed wsX11_believed ({ frames := 0, cells := 0, slots := 0, locals := 0 }) (va_Pc [.ref (ad 200), .int (nI t)] (kw_B D tc sz ad ct)) (k2_QcV (.int (sw (fun c => we (8 * t + c)) N))) 0 0 (fun _ => False) := by
  refine Met.ofW (cc := cX11_believed) (maxL := 4) (ret := (some .int)) (by decide) rfl ?_
  intro pg en s m args below meth cod s₁ B hml hv
  obtain ⟨rfl, hsz, hP0, hK⟩ := hv
  have hx := B.exec
  have hb := B.bytes
  have hr := B.returns
  have hts := atoms_spec (ws := wsX11_believed) B.pre
  have hown : s.vm.findClass RX11 = some m.cls := findClass_of_methodNamed B.named
  have hlocks := B.notSynchronized
  subst hsz
  have hw := kw_H.start hP0
  generalize kw_A ad ct s.heap.size = A at hw
  have hinX11 : ∀ w ∈ wsX110, w ∈ wsX11_believed := by decide +kernel
  have hl := lv_entry ([.ref (ad 200), .int (nI t)]) (n := 4) (Nat.le_of_ble_eq_true rfl)
  rw [lg_entry_eq]
  generalize (lg_sl ([.ref (ad 200), .int (nI t)]) ++ List.replicate (4 - (lg_sl ([.ref (ad 200), .int (nI t)])).length) Slot.unset).toArray = ls at hl ⊢
  have hl : lv_has ls 4 [(0, .ref (ad 200)), (1, .int (nI t))] := hl
  have S0 : CallFix pg m cod cX11_believed 4 s _ wsX11_believed RX11 := ⟨hx, hb, hml, hown, hts⟩
  refine lv_iconst (v := 0) hx hb dX11_believed_0 (by decide) ?_
  refine lv_istore_n (lv' := [(2, .int 0), (0, .ref (ad 200)), (1, .int (nI t))]) hx hb dX11_believed_1 rfl hl (by decide) rfl (fun ls hl => ?_)
  refine lv_iconst (v := 0) hx hb dX11_believed_2 (by decide) ?_
  refine lv_istore_n (lv' := [(3, .int 0), (2, .int 0), (0, .ref (ad 200)), (1, .int (nI t))]) hx hb dX11_believed_3 rfl hl (by decide) rfl (fun ls hl => ?_)
  suffices lp4 : ∀ (nfu : Nat) (i : Nat) (acc : Int32) (ls : Array Slot), N - i < nfu → i ≤ N → acc = sw (fun c => we (8 * t + c)) i → lv_has ls 4 [(0, .ref (ad 200)), (1, .int (nI t)), (2, .int acc), (3, .int (nI i))] → W pg l en (headSpec wsX11_believed ({ frames := 0, cells := 0, slots := 0, locals := 0 })).room s m (([.ref (ad 200), .int (nI t)] : List Value).toArray) below meth cod s.heap [] 0 0 (MQ below (k2_QcV (.int (sw (fun c => we (8 * t + c)) N))) (([.ref (ad 200), .int (nI t)] : List Value).toArray) s 0 0 (fun _ => False)) (F0 m 4 ls []) by
    exact lp4 (N - 0 + 1) 0 0 ls (by omega) (by omega) (by rfl) (by have hl9 := lv_sub hl (l' := [(0, .ref (ad 200)), (1, .int (nI t)), (2, .int 0), (3, .int 0)]) [2, 3, 1, 0] rfl; exact hl9)
  intro n4
  induction n4 with
  | zero => intro i acc ls hfu; exact absurd hfu (Nat.not_lt_zero _)
  | succ n4 ih4 =>
    intro i acc ls hfu4 hi ha hl
    refine lv_iload_n hx hb dX11_believed_4 rfl (lv_at hl 3 rfl) ?_
    refine lv_aload_n hx hb dX11_believed_5 rfl (lv_at hl 0 rfl) ?_
    refine kg_get (v := .int (nI N)) (C := RX11) (T := TX11) (N := 27) hx hb hts hinX11 hown hK hw h0 rfl 2 (by decide) (hts (.fieldLink RX11 7 "BetMakerModel" "cases" "I") (by decide +kernel)) (fun _ h9 => h9) rfl dX11_believed_6 ?_
    refine kn_ge i N rfl rfl (by omega) (by omega) (tgt := 32) hx hb dX11_believed_9 (by decide) (fun c_1 => ?_) (fun c_1 => ?_)
    · refine lv_iload_n hx hb dX11_believed_32 rfl (lv_at hl 2 rfl) ?_
      refine W.eq (congrArg (fun z => F0 m 33 ls [.int z]) (show acc = (sw (fun c => we (8 * t + c)) N) from by rw [ha, show i = N by omega])) ?_
      exact W.iret hx hb hr (fun t ht _ => ⟨rfl, ht⟩) (fun _ h => absurd h List.not_mem_nil) dX11_believed_33
    · refine lv_iload_n hx hb dX11_believed_12 rfl (lv_at hl 2 rfl) ?_
      refine lv_aload_n hx hb dX11_believed_13 rfl (lv_at hl 0 rfl) ?_
      refine kg_get (v := .ref (ad 206)) (C := RX11) (T := TX11) (N := 27) hx hb hts hinX11 hown hK hw h0 rfl 13 (by decide) (hts (.fieldLink RX11 36 "BetMakerModel" "weight" "[I") (by decide +kernel)) (fun _ h9 => h9) rfl dX11_believed_14 ?_
      refine lv_bipush (v := 8) hx hb dX11_believed_17 (by decide) ?_
      refine lv_iload_n hx hb dX11_believed_19 rfl (lv_at hl 1 rfl) ?_
      refine lv_imul hx hb dX11_believed_20 ?_
      refine lv_iload_n hx hb dX11_believed_21 rfl (lv_at hl 3 rfl) ?_
      refine lv_iadd hx hb dX11_believed_22 ?_
      refine kg_iald hx hb hK hw h206 ((8 * t) + i) (by simp only [kn_lit, nI_add, pk_mul, nI_1]) (by omega) (by omega) dX11_believed_23 ?_
      refine lv_iadd hx hb dX11_believed_24 ?_
      refine lv_istore_n (lv' := [(2, .int (acc + (we ((8 * t) + i)))), (0, .ref (ad 200)), (1, .int (nI t)), (3, .int (nI i))]) hx hb dX11_believed_25 rfl hl (by decide) rfl (fun ls hl => ?_)
      refine lv_iinc (v := (nI (i + 1))) (lv' := [(3, .int (nI (i + 1))), (2, .int (acc + (we ((8 * t) + i)))), (0, .ref (ad 200)), (1, .int (nI t))]) hx hb dX11_believed_26 hl (k := 3) rfl (nI_1 i) (by decide) rfl (fun ls hl => ?_)
      refine lv_goto (tgt := 4) hx hb dX11_believed_29 (by decide) ?_
      exact ih4 (i + 1) (acc + (we ((8 * t) + i))) ls (by omega) (by omega) (by rw [ha]; rfl) (lv_sub hl [2, 3, 1, 0] rfl)
set_option maxHeartbeats 4000000 in
set_option maxRecDepth 100000 in
theorem c_X11_worthOf (l : Launch) (D : va_G) (tc : Nat → ClassId) (sz : Nat) (ad : Nat → Nat) (ct : Nat → Option va_E) {N nt no nf : Nat} {ft tr b cm da bs : Int32} {g : Int64} {f : Nat → Int64}     {we : Nat → Int32}           {t : Nat} {set : Int32} {x : Int64} (h0 : ct 200 = some (.inr (11, [.int ft, .int tr, .int (nI N), .int b, .ref (ad 201), .long g, .int cm, .int da, .int (nI nt), .ref (ad 202), .ref (ad 203), .ref (ad 204), .ref (ad 205), .ref (ad 206), .ref (ad 207), .ref (ad 208), .ref (ad 209), .int (nI no), .ref (ad 210), .ref (ad 211), .ref (ad 212), .ref (ad 213), .ref (ad 214), .int bs, .int (nI nf), .ref (ad 215), .ref (ad 216)]))) (h201 : ct 201 = some (eJ tc 8 f)) (h206 : ct 206 = some (eI tc 48 we)) (ht6 : t < 6) (hN : N ≤ 8) : Met l yX11_worthOf wsX11_worthOf ({ frames := 3, cells := 0, slots := 0, locals := 86 }) (va_Pc [.ref (ad 200), .int (nI t), .int set, .long x] (kw_B D tc sz ad ct)) (k2_QcV (.long (kWo b N f (fun c => we (8 * t + c)) set x))) 0 0 (fun _ => False) := by
  refine Met.ofW (cc := cX11_worthOf) (maxL := 8) (ret := (some .long)) (by decide) rfl ?_
  intro pg en s m args below meth cod s₁ B hml hv
  obtain ⟨rfl, hsz, hP0, hK⟩ := hv
  have hx := B.exec
  have hb := B.bytes
  have hr := B.returns
  have hts := atoms_spec (ws := wsX11_worthOf) B.pre
  have hown : s.vm.findClass RX11 = some m.cls := findClass_of_methodNamed B.named
  have hlocks := B.notSynchronized
  subst hsz
  have hw := kw_H.start hP0
  generalize kw_A ad ct s.heap.size = A at hw
  have hinX11 : ∀ w ∈ wsX110, w ∈ wsX11_worthOf := by decide +kernel
  have hl := lv_entry ([.ref (ad 200), .int (nI t), .int set, .long x]) (n := 8) (Nat.le_of_ble_eq_true rfl)
  rw [lg_entry_eq]
  generalize (lg_sl ([.ref (ad 200), .int (nI t), .int set, .long x]) ++ List.replicate (8 - (lg_sl ([.ref (ad 200), .int (nI t), .int set, .long x])).length) Slot.unset).toArray = ls at hl ⊢
  have hl : lv_has ls 8 [(0, .ref (ad 200)), (1, .int (nI t)), (2, .int set), (3, .long x)] := hl
  have S0 : CallFix pg m cod cX11_worthOf 8 s _ wsX11_worthOf RX11 := ⟨hx, hb, hml, hown, hts⟩
  refine lv_lconst (v := 0) hx hb dX11_worthOf_0 (by decide) ?_
  refine lv_lstore (lv' := [(5, .long 0), (0, .ref (ad 200)), (1, .int (nI t)), (2, .int set), (3, .long x)]) hx hb dX11_worthOf_1 hl (by decide) rfl (fun ls hl => ?_)
  refine lv_iconst (v := 0) hx hb dX11_worthOf_3 (by decide) ?_
  refine lv_istore (lv' := [(7, .int 0), (5, .long 0), (0, .ref (ad 200)), (1, .int (nI t)), (2, .int set), (3, .long x)]) hx hb dX11_worthOf_4 hl (by decide) rfl (fun ls hl => ?_)
  suffices lp6 : ∀ (nfu : Nat) (i : Nat) (acc : Int64) (ls : Array Slot), N - i < nfu → i ≤ N → acc = su (fun c => (kbit set c * we (8 * t + c)).toInt64) i → lv_has ls 8 [(0, .ref (ad 200)), (1, .int (nI t)), (2, .int set), (3, .long x), (5, .long acc), (7, .int (nI i))] → W pg l en (headSpec wsX11_worthOf ({ frames := 3, cells := 0, slots := 0, locals := 86 })).room s m (([.ref (ad 200), .int (nI t), .int set, .long x] : List Value).toArray) below meth cod s.heap [] 0 0 (MQ below (k2_QcV (.long (kWo b N f (fun c => we (8 * t + c)) set x))) (([.ref (ad 200), .int (nI t), .int set, .long x] : List Value).toArray) s 0 0 (fun _ => False)) (F0 m 6 ls []) by
    exact lp6 (N - 0 + 1) 0 0 ls (by omega) (by omega) (by rfl) (by have hl9 := lv_sub hl (l' := [(0, .ref (ad 200)), (1, .int (nI t)), (2, .int set), (3, .long x), (5, .long 0), (7, .int 0)]) [2, 3, 4, 5, 1, 0] rfl; exact hl9)
  intro n6
  induction n6 with
  | zero => intro i acc ls hfu; exact absurd hfu (Nat.not_lt_zero _)
  | succ n6 ih6 =>
    intro i acc ls hfu6 hi ha hl
    refine lv_iload hx hb dX11_worthOf_6 (lv_at hl 5 rfl) ?_
    refine lv_aload_n hx hb dX11_worthOf_8 rfl (lv_at hl 0 rfl) ?_
    refine kg_get (v := .int (nI N)) (C := RX11) (T := TX11) (N := 27) hx hb hts hinX11 hown hK hw h0 rfl 2 (by decide) (hts (.fieldLink RX11 7 "BetMakerModel" "cases" "I") (by decide +kernel)) (fun _ h9 => h9) rfl dX11_worthOf_9 ?_
    refine kn_ge i N rfl rfl (by omega) (by omega) (tgt := 46) hx hb dX11_worthOf_12 (by decide) (fun c_1 => ?_) (fun c_1 => ?_)
    · refine lv_lload hx hb dX11_worthOf_46 (lv_at hl 4 rfl) ?_
      refine lv_lload_n hx hb dX11_worthOf_48 rfl (lv_at hl 3 rfl) ?_
      refine lv_lmul hx hb dX11_worthOf_49 ?_
      refine lv_aload_n hx hb dX11_worthOf_50 rfl (lv_at hl 0 rfl) ?_
      refine kc_v (As := []) (rest := [.long (acc * x)]) S0 (c_X11_grains l D tc s.heap.size ad ct (N := N) (nt := nt) (no := no) (nf := nf) h0) (cwV 0 hts gX11_worthOf_X11_grains rfl rfl rfl (by decide +kernel) ⟨Nat.le_of_ble_eq_true rfl, Nat.le_of_ble_eq_true rfl⟩) hK hw h0 rfl rfl hl.1 rfl (Nat.le_of_ble_eq_true rfl) dX11_worthOf_51 ⟨Nat.le_of_ble_eq_true rfl, (Nat.le_of_ble_eq_true rfl)⟩ ?_
      refine lv_lmul hx hb dX11_worthOf_54 ?_
      refine lv_aload_n hx hb dX11_worthOf_55 rfl (lv_at hl 0 rfl) ?_
      refine lv_iload_n hx hb dX11_worthOf_56 rfl (lv_at hl 1 rfl) ?_
      refine kc_v (As := [.int (nI t)]) (rest := [.long ((acc * x) * (kU b N))]) S0 (c_X11_believed l D tc s.heap.size ad ct (t := t) (N := N) (nt := nt) (no := no) (nf := nf) h0 h206 (by omega) (by omega)) (cwV 1 hts gX11_worthOf_X11_believed rfl rfl rfl (by decide +kernel) ⟨Nat.le_of_ble_eq_true rfl, Nat.le_of_ble_eq_true rfl⟩) hK hw h0 rfl rfl hl.1 rfl (Nat.le_of_ble_eq_true rfl) dX11_worthOf_57 ⟨Nat.le_of_ble_eq_true rfl, (Nat.le_of_ble_eq_true rfl)⟩ ?_
      refine lv_i2l (v := (sw (fun c => we (8 * t + c)) N).toInt64) hx hb dX11_worthOf_60 rfl ?_
      refine lv_aload_n hx hb dX11_worthOf_61 rfl (lv_at hl 0 rfl) ?_
      refine lv_iload_n hx hb dX11_worthOf_62 rfl (lv_at hl 2 rfl) ?_
      refine lv_lload_n hx hb dX11_worthOf_63 rfl (lv_at hl 3 rfl) ?_
      refine kc_v (As := [.int set, .long x]) (rest := [.long ((sw (fun c => we (8 * t + c)) N).toInt64), .long ((acc * x) * (kU b N))]) S0 (c_X11_paid l D tc s.heap.size ad ct (N := N) (nt := nt) (no := no) (nf := nf) h0 h201 (by omega)) (cwV 2 hts gX11_worthOf_X11_paid rfl rfl rfl (by decide +kernel) ⟨Nat.le_of_ble_eq_true rfl, Nat.le_of_ble_eq_true rfl⟩) hK hw h0 rfl rfl hl.1 rfl (Nat.le_of_ble_eq_true rfl) dX11_worthOf_64 ⟨Nat.le_of_ble_eq_true rfl, (Nat.le_of_ble_eq_true rfl)⟩ ?_
      refine lv_lmul hx hb dX11_worthOf_67 ?_
      refine lv_lsub hx hb dX11_worthOf_68 ?_
      refine W.eq (congrArg (fun z => F0 m 69 ls [.long z]) (show (((acc * x) * (kU b N)) - (((sw (fun c => we (8 * t + c)) N).toInt64) * (kPd b N f set x))) = (kWo b N f (fun c => we (8 * t + c)) set x) from by rw [ha, show i = N by omega]; rfl)) ?_
      exact W.lret hx hb hr (fun t ht _ => ⟨rfl, ht⟩) (fun _ h => absurd h List.not_mem_nil) dX11_worthOf_69
    · refine lv_lload hx hb dX11_worthOf_15 (lv_at hl 4 rfl) ?_
      refine lv_iload_n hx hb dX11_worthOf_17 rfl (lv_at hl 2 rfl) ?_
      refine lv_iload hx hb dX11_worthOf_18 (lv_at hl 5 rfl) ?_
      refine kc_s (As := [.int set, .int (nI i)]) (rest := [.long acc]) S0 (c_X11_in l D tc s.heap.size ad ct (c := i) ) (va_cwS 2 hts gX11_worthOf_X11_in rfl rfl rfl (by decide +kernel) ⟨Nat.le_of_ble_eq_true rfl, Nat.le_of_ble_eq_true rfl⟩) hK hw rfl hl.1 rfl (Nat.le_of_ble_eq_true rfl) dX11_worthOf_20 ⟨Nat.le_of_ble_eq_true rfl, (Nat.le_of_ble_eq_true rfl)⟩ ?_
      refine lv_aload_n hx hb dX11_worthOf_23 rfl (lv_at hl 0 rfl) ?_
      refine kg_get (v := .ref (ad 206)) (C := RX11) (T := TX11) (N := 27) hx hb hts hinX11 hown hK hw h0 rfl 13 (by decide) (hts (.fieldLink RX11 36 "BetMakerModel" "weight" "[I") (by decide +kernel)) (fun _ h9 => h9) rfl dX11_worthOf_24 ?_
      refine lv_bipush (v := 8) hx hb dX11_worthOf_27 (by decide) ?_
      refine lv_iload_n hx hb dX11_worthOf_29 rfl (lv_at hl 1 rfl) ?_
      refine lv_imul hx hb dX11_worthOf_30 ?_
      refine lv_iload hx hb dX11_worthOf_31 (lv_at hl 5 rfl) ?_
      refine lv_iadd hx hb dX11_worthOf_33 ?_
      refine kg_iald hx hb hK hw h206 ((8 * t) + i) (by simp only [kn_lit, nI_add, pk_mul, nI_1]) (by omega) (by omega) dX11_worthOf_34 ?_
      refine lv_imul hx hb dX11_worthOf_35 ?_
      refine lv_i2l (v := ((kbit set i) * (we ((8 * t) + i))).toInt64) hx hb dX11_worthOf_36 rfl ?_
      refine lv_ladd hx hb dX11_worthOf_37 ?_
      refine lv_lstore (lv' := [(5, .long (acc + (((kbit set i) * (we ((8 * t) + i))).toInt64))), (0, .ref (ad 200)), (1, .int (nI t)), (2, .int set), (3, .long x), (7, .int (nI i))]) hx hb dX11_worthOf_38 hl (by decide) rfl (fun ls hl => ?_)
      refine lv_iinc (v := (nI (i + 1))) (lv' := [(7, .int (nI (i + 1))), (5, .long (acc + (((kbit set i) * (we ((8 * t) + i))).toInt64))), (0, .ref (ad 200)), (1, .int (nI t)), (2, .int set), (3, .long x)]) hx hb dX11_worthOf_40 hl (k := 5) rfl (nI_1 i) (by decide) rfl (fun ls hl => ?_)
      refine lv_goto (tgt := 6) hx hb dX11_worthOf_43 (by decide) ?_
      exact ih6 (i + 1) (acc + (((kbit set i) * (we ((8 * t) + i))).toInt64)) ls (by omega) (by omega) (by rw [ha]; rfl) (lv_sub hl [2, 3, 4, 5, 1, 0] rfl)
set_option maxHeartbeats 4000000 in
set_option maxRecDepth 100000 in
theorem c_X11_worth (l : Launch) (D : va_G) (tc : Nat → ClassId) (sz : Nat) (ad : Nat → Nat) (ct : Nat → Option va_E) {N nt no nf : Nat} {ft tr b cm da bs : Int32} {g : Int64} {f : Nat → Int64}     {we : Nat → Int32}           {t : Nat} {set x : Int32} (h0 : ct 200 = some (.inr (11, [.int ft, .int tr, .int (nI N), .int b, .ref (ad 201), .long g, .int cm, .int da, .int (nI nt), .ref (ad 202), .ref (ad 203), .ref (ad 204), .ref (ad 205), .ref (ad 206), .ref (ad 207), .ref (ad 208), .ref (ad 209), .int (nI no), .ref (ad 210), .ref (ad 211), .ref (ad 212), .ref (ad 213), .ref (ad 214), .int bs, .int (nI nf), .ref (ad 215), .ref (ad 216)]))) (h201 : ct 201 = some (eJ tc 8 f)) (h206 : ct 206 = some (eI tc 48 we)) (ht : t < nt) (hnt : nt ≤ 6) (hN : N ≤ 8) (hs : 1 ≤ set.toInt64 ∧ set.toInt64 ≤ 1 <<< ((nI N).toInt64 &&& 63) - 2) (hx1 : ¬ x = 0 ∧ ((-1000) ≤ x.toInt64 ∧ x.toInt64 ≤ 1000)) : Met l yX11_worth wsX11_worth ({ frames := 4, cells := 0, slots := 0, locals := 117 }) (va_Pc [.ref (ad 200), .int (nI t), .int set, .int x] (kw_B D tc sz ad ct)) (k2_QcV (.long (kWo b N f (fun c => we (8 * t + c)) set x.toInt64))) 0 0 (fun _ => False) := by
  refine Met.ofW (cc := cX11_worth) (maxL := 4) (ret := (some .long)) (by decide) rfl ?_
  intro pg en s m args below meth cod s₁ B hml hv
  obtain ⟨rfl, hsz, hP0, hK⟩ := hv
  have hx := B.exec
  have hb := B.bytes
  have hr := B.returns
  have hts := atoms_spec (ws := wsX11_worth) B.pre
  have hown : s.vm.findClass RX11 = some m.cls := findClass_of_methodNamed B.named
  have hlocks := B.notSynchronized
  subst hsz
  have hw := kw_H.start hP0
  generalize kw_A ad ct s.heap.size = A at hw
  have hl := lv_entry ([.ref (ad 200), .int (nI t), .int set, .int x]) (n := 4) (Nat.le_of_ble_eq_true rfl)
  rw [lg_entry_eq]
  generalize (lg_sl ([.ref (ad 200), .int (nI t), .int set, .int x]) ++ List.replicate (4 - (lg_sl ([.ref (ad 200), .int (nI t), .int set, .int x])).length) Slot.unset).toArray = ls at hl ⊢
  have hl : lv_has ls 4 [(0, .ref (ad 200)), (1, .int (nI t)), (2, .int set), (3, .int x)] := hl
  have S0 : CallFix pg m cod cX11_worth 4 s _ wsX11_worth RX11 := ⟨hx, hb, hml, hown, hts⟩
  have kT : 0 ≤ nI t ∧ nI t < nI nt := ⟨nI_pos' (by omega), nI_lt ht (by omega)⟩
  refine lv_aload_n hx hb dX11_worth_0 rfl (lv_at hl 0 rfl) ?_
  refine lv_iload_n hx hb dX11_worth_1 rfl (lv_at hl 1 rfl) ?_
  refine kc_v (As := [.int (nI t)]) (rest := []) S0 (c_X11_isTrader l D tc s.heap.size ad ct (N := N) (nt := nt) (no := no) (nf := nf) h0) (cwV 1 hts gX11_worth_X11_isTrader rfl rfl rfl (by decide +kernel) ⟨Nat.le_of_ble_eq_true rfl, Nat.le_of_ble_eq_true rfl⟩) hK hw h0 rfl rfl hl.1 rfl (Nat.le_of_ble_eq_true rfl) dX11_worth_2 ⟨Nat.le_of_ble_eq_true rfl, (Nat.le_of_ble_eq_true rfl)⟩ ?_
  refine kb_ifeq (tgt := 34) hx hb dX11_worth_5 (by decide) (fun c_1 => ?_) (fun c_1 => ?_)
  · exact absurd kT c_1
  · refine lv_aload_n hx hb dX11_worth_8 rfl (lv_at hl 0 rfl) ?_
    refine lv_iload_n hx hb dX11_worth_9 rfl (lv_at hl 2 rfl) ?_
    refine kc_v (As := [.int set]) (rest := []) S0 (c_X11_isSet l D tc s.heap.size ad ct (N := N) (nt := nt) (no := no) (nf := nf) h0) (cwV 1 hts gX11_worth_X11_isSet rfl rfl rfl (by decide +kernel) ⟨Nat.le_of_ble_eq_true rfl, Nat.le_of_ble_eq_true rfl⟩) hK hw h0 rfl rfl hl.1 rfl (Nat.le_of_ble_eq_true rfl) dX11_worth_10 ⟨Nat.le_of_ble_eq_true rfl, (Nat.le_of_ble_eq_true rfl)⟩ ?_
    refine kb_ifeq (tgt := 34) hx hb dX11_worth_13 (by decide) (fun c_2 => ?_) (fun c_2 => ?_)
    · exact absurd hs c_2
    · refine lv_iload_n hx hb dX11_worth_16 rfl (lv_at hl 3 rfl) ?_
      refine kc_s (As := [.int x]) (rest := []) S0 (c_X11_isShares l D tc s.heap.size ad ct ) (va_cwS 1 hts gX11_worth_X11_isShares rfl rfl rfl (by decide +kernel) ⟨Nat.le_of_ble_eq_true rfl, Nat.le_of_ble_eq_true rfl⟩) hK hw rfl hl.1 rfl (Nat.le_of_ble_eq_true rfl) dX11_worth_17 ⟨Nat.le_of_ble_eq_true rfl, (Nat.le_of_ble_eq_true rfl)⟩ ?_
      refine kb_ifeq (tgt := 34) hx hb dX11_worth_20 (by decide) (fun c_3 => ?_) (fun c_3 => ?_)
      · exact absurd hx1 c_3
      · refine lv_aload_n hx hb dX11_worth_23 rfl (lv_at hl 0 rfl) ?_
        refine lv_iload_n hx hb dX11_worth_24 rfl (lv_at hl 1 rfl) ?_
        refine lv_iload_n hx hb dX11_worth_25 rfl (lv_at hl 2 rfl) ?_
        refine lv_iload_n hx hb dX11_worth_26 rfl (lv_at hl 3 rfl) ?_
        refine lv_i2l (v := x.toInt64) hx hb dX11_worth_27 rfl ?_
        refine kc_v (As := [.int (nI t), .int set, .long x.toInt64]) (rest := []) S0 (c_X11_worthOf l D tc s.heap.size ad ct (t := t) (N := N) (nt := nt) (no := no) (nf := nf) h0 h201 h206 (by omega) (by omega)) (cwV 3 hts gX11_worth_X11_worthOf rfl rfl rfl (by decide +kernel) ⟨Nat.le_of_ble_eq_true rfl, Nat.le_of_ble_eq_true rfl⟩) hK hw h0 rfl rfl hl.1 rfl (Nat.le_of_ble_eq_true rfl) dX11_worth_28 ⟨Nat.le_of_ble_eq_true rfl, (Nat.le_of_ble_eq_true rfl)⟩ ?_
        refine lv_goto (tgt := 37) hx hb dX11_worth_31 (by decide) ?_
        exact W.lret hx hb hr (fun t ht _ => ⟨rfl, ht⟩) (fun _ h => absurd h List.not_mem_nil) dX11_worth_37
set_option maxHeartbeats 4000000 in
set_option maxRecDepth 100000 in
theorem c_X11_worth_n (l : Launch) (D : va_G) (tc : Nat → ClassId) (sz : Nat) (ad : Nat → Nat) (ct : Nat → Option va_E) {N nt no nf : Nat} {ft tr b cm da bs : Int32} {g : Int64}                 {t set x : Int32} (h0 : ct 200 = some (.inr (11, [.int ft, .int tr, .int (nI N), .int b, .ref (ad 201), .long g, .int cm, .int da, .int (nI nt), .ref (ad 202), .ref (ad 203), .ref (ad 204), .ref (ad 205), .ref (ad 206), .ref (ad 207), .ref (ad 208), .ref (ad 209), .int (nI no), .ref (ad 210), .ref (ad 211), .ref (ad 212), .ref (ad 213), .ref (ad 214), .int bs, .int (nI nf), .ref (ad 215), .ref (ad 216)]))) (hbad : ¬ ((0 ≤ t ∧ t < nI nt) ∧ (1 ≤ set.toInt64 ∧ set.toInt64 ≤ 1 <<< ((nI N).toInt64 &&& 63) - 2) ∧ ¬ x = 0 ∧ ((-1000) ≤ x.toInt64 ∧ x.toInt64 ≤ 1000))) : Met l yX11_worth wsX11_worth ({ frames := 4, cells := 0, slots := 0, locals := 117 }) (va_Pc [.ref (ad 200), .int t, .int set, .int x] (kw_B D tc sz ad ct)) (k2_QcV (.long (-9223372036854775808))) 0 0 (fun _ => False) := by
  refine Met.ofW (cc := cX11_worth) (maxL := 4) (ret := (some .long)) (by decide) rfl ?_
  intro pg en s m args below meth cod s₁ B hml hv
  obtain ⟨rfl, hsz, hP0, hK⟩ := hv
  have hx := B.exec
  have hb := B.bytes
  have hr := B.returns
  have hts := atoms_spec (ws := wsX11_worth) B.pre
  have hown : s.vm.findClass RX11 = some m.cls := findClass_of_methodNamed B.named
  have hlocks := B.notSynchronized
  subst hsz
  have hw := kw_H.start hP0
  generalize kw_A ad ct s.heap.size = A at hw
  have hl := lv_entry ([.ref (ad 200), .int t, .int set, .int x]) (n := 4) (Nat.le_of_ble_eq_true rfl)
  rw [lg_entry_eq]
  generalize (lg_sl ([.ref (ad 200), .int t, .int set, .int x]) ++ List.replicate (4 - (lg_sl ([.ref (ad 200), .int t, .int set, .int x])).length) Slot.unset).toArray = ls at hl ⊢
  have hl : lv_has ls 4 [(0, .ref (ad 200)), (1, .int t), (2, .int set), (3, .int x)] := hl
  have S0 : CallFix pg m cod cX11_worth 4 s _ wsX11_worth RX11 := ⟨hx, hb, hml, hown, hts⟩
  refine lv_aload_n hx hb dX11_worth_0 rfl (lv_at hl 0 rfl) ?_
  refine lv_iload_n hx hb dX11_worth_1 rfl (lv_at hl 1 rfl) ?_
  refine kc_v (As := [.int t]) (rest := []) S0 (c_X11_isTrader l D tc s.heap.size ad ct (N := N) (nt := nt) (no := no) (nf := nf) h0) (cwV 1 hts gX11_worth_X11_isTrader rfl rfl rfl (by decide +kernel) ⟨Nat.le_of_ble_eq_true rfl, Nat.le_of_ble_eq_true rfl⟩) hK hw h0 rfl rfl hl.1 rfl (Nat.le_of_ble_eq_true rfl) dX11_worth_2 ⟨Nat.le_of_ble_eq_true rfl, (Nat.le_of_ble_eq_true rfl)⟩ ?_
  refine kb_ifeq (tgt := 34) hx hb dX11_worth_5 (by decide) (fun c_1 => ?_) (fun c_1 => ?_)
  · refine lv_ldc2 (v := (-9223372036854775808)) hx hb hown (hts (.constantLong RX11 72 (-9223372036854775808)) (by decide +kernel)) dX11_worth_34 ?_
    exact W.lret hx hb hr (fun t ht _ => ⟨rfl, ht⟩) (fun _ h => absurd h List.not_mem_nil) dX11_worth_37
  · refine lv_aload_n hx hb dX11_worth_8 rfl (lv_at hl 0 rfl) ?_
    refine lv_iload_n hx hb dX11_worth_9 rfl (lv_at hl 2 rfl) ?_
    refine kc_v (As := [.int set]) (rest := []) S0 (c_X11_isSet l D tc s.heap.size ad ct (N := N) (nt := nt) (no := no) (nf := nf) h0) (cwV 1 hts gX11_worth_X11_isSet rfl rfl rfl (by decide +kernel) ⟨Nat.le_of_ble_eq_true rfl, Nat.le_of_ble_eq_true rfl⟩) hK hw h0 rfl rfl hl.1 rfl (Nat.le_of_ble_eq_true rfl) dX11_worth_10 ⟨Nat.le_of_ble_eq_true rfl, (Nat.le_of_ble_eq_true rfl)⟩ ?_
    refine kb_ifeq (tgt := 34) hx hb dX11_worth_13 (by decide) (fun c_2 => ?_) (fun c_2 => ?_)
    · refine lv_ldc2 (v := (-9223372036854775808)) hx hb hown (hts (.constantLong RX11 72 (-9223372036854775808)) (by decide +kernel)) dX11_worth_34 ?_
      exact W.lret hx hb hr (fun t ht _ => ⟨rfl, ht⟩) (fun _ h => absurd h List.not_mem_nil) dX11_worth_37
    · refine lv_iload_n hx hb dX11_worth_16 rfl (lv_at hl 3 rfl) ?_
      refine kc_s (As := [.int x]) (rest := []) S0 (c_X11_isShares l D tc s.heap.size ad ct ) (va_cwS 1 hts gX11_worth_X11_isShares rfl rfl rfl (by decide +kernel) ⟨Nat.le_of_ble_eq_true rfl, Nat.le_of_ble_eq_true rfl⟩) hK hw rfl hl.1 rfl (Nat.le_of_ble_eq_true rfl) dX11_worth_17 ⟨Nat.le_of_ble_eq_true rfl, (Nat.le_of_ble_eq_true rfl)⟩ ?_
      refine kb_ifeq (tgt := 34) hx hb dX11_worth_20 (by decide) (fun c_3 => ?_) (fun c_3 => ?_)
      · refine lv_ldc2 (v := (-9223372036854775808)) hx hb hown (hts (.constantLong RX11 72 (-9223372036854775808)) (by decide +kernel)) dX11_worth_34 ?_
        exact W.lret hx hb hr (fun t ht _ => ⟨rfl, ht⟩) (fun _ h => absurd h List.not_mem_nil) dX11_worth_37
      · exact absurd ⟨c_1, c_2, c_3⟩ hbad
