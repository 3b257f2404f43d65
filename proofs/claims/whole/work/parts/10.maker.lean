/-! the maker -/
def kU (b : Int32) (N : Nat) : Int64 := 4 * b.toInt64 * (nI N).toInt64
def kPr (b : Int32) (N : Nat) (f : Nat → Int64) (ss : Int64) (c : Nat) : Int64 := 4 * b.toInt64 + 2 * ((nI N).toInt64 * f c - ss)
def kIn (set : Int32) (f : Nat → Int64) (c : Nat) : Int64 := if kbit set c ≠ 0 then f c else 0
def kBC (x : Int32) : Int32 :=
  let x1 := x - ((x.toUInt32 >>> ((1 : Int32).toUInt32 &&& Int32.toUInt32 31)).toInt32 &&& 1431655765)
  let x2 := (x1 &&& 858993459) + ((x1.toUInt32 >>> ((2 : Int32).toUInt32 &&& Int32.toUInt32 31)).toInt32 &&& 858993459)
  let x3 := (x2 + (x2.toUInt32 >>> ((4 : Int32).toUInt32 &&& Int32.toUInt32 31)).toInt32) &&& 252645135
  let x4 := x3 + (x3.toUInt32 >>> ((8 : Int32).toUInt32 &&& Int32.toUInt32 31)).toInt32
  let x5 := x4 + (x4.toUInt32 >>> ((16 : Int32).toUInt32 &&& Int32.toUInt32 31)).toInt32
  x5 &&& 63
def kall (p : Nat → Bool) : Nat → Bool
  | 0 => true
  | n + 1 => kall p n && p n
theorem kall_iff {p : Nat → Bool} : ∀ {n : Nat}, kall p n = true ↔ ∀ c, c < n → p c = true
  | 0 => by simp [kall]
  | n + 1 => by
    rw [kall, Bool.and_eq_true, kall_iff (n := n)]
    exact ⟨fun h c hc => by rcases Nat.lt_succ_iff_lt_or_eq.mp hc with q | q; exact h.1 c q; exact q ▸ h.2, fun h => ⟨fun c hc => h c (by omega), h n (by omega)⟩⟩
def kSP (b : Int32) (N : Nat) (f : Nat → Int64) (ss : Int64) (set : Int32) : Int64 := su (kIn set (kPr b N f ss)) N
def kCost (b : Int32) (N : Nat) (f : Nat → Int64) (ss : Int64) (set x : Int32) : Int64 := x.toInt64 * kSP b N f ss set + (kBC set).toInt64 * ((nI N).toInt64 - (kBC set).toInt64) * x.toInt64 * x.toInt64
def kAl (b : Int32) (N : Nat) (f : Nat → Int64) (ss : Int64) (set x : Int32) (c : Nat) : Bool :=
  decide (0 ≤ kPr b N f ss c + 2 * ((nI N).toInt64 * (if kbit set c ≠ 0 then x.toInt64 else 0) - (kBC set).toInt64 * x.toInt64)) && decide (kPr b N f ss c + 2 * ((nI N).toInt64 * (if kbit set c ≠ 0 then x.toInt64 else 0) - (kBC set).toInt64 * x.toInt64) ≤ kU b N)
def kAd (f : Nat → Int64) (set : Int32) (x : Int64) (n : Nat) : Nat → Int64 := fun c => if c < n ∧ kbit set c ≠ 0 then f c + x else f c
def kMx (f : Nat → Int64) : Nat → Int64
  | 0 => f 0
  | n + 1 => if f (n + 1) < kMx f n then kMx f n else f (n + 1)
theorem kq_1 {a b : Int32} (h : ¬ a < b) : b ≤ a := by grind
theorem kq_2 {a b : Int32} (h : ¬ a ≤ b) : b < a := by grind
theorem kq_3 {a b : Int32} (h : a < b) : ¬ b ≤ a := by grind
theorem kq_4 {a b : Int32} (h : a ≤ b) : ¬ b < a := by grind
def kFl {α : Type} (f : Nat → α) (v : α) (n : Nat) : Nat → α := fun c => if c < n then v else f c
theorem kFl_0 {α : Type} (f : Nat → α) (v : α) : f = kFl f v 0 := by funext c; simp [kFl]
theorem kFl_s {α : Type} (f : Nat → α) (v : α) (i : Nat) : va_up (kFl f v i) i v = kFl f v (i + 1) := by funext c; grind [kFl, va_up]
theorem kAd_0 (f : Nat → Int64) (set : Int32) (x : Int64) : f = kAd f set x 0 := by funext c; simp [kAd]
theorem kAd_i {f : Nat → Int64} {set : Int32} {x : Int64} {i : Nat} (h : kbit set i ≠ 0) : va_up (kAd f set x i) i (kAd f set x i i + x) = kAd f set x (i + 1) := by funext c; grind [kAd, va_up]
theorem kAd_o {f : Nat → Int64} {set : Int32} {x : Int64} {i : Nat} (h : ¬ kbit set i ≠ 0) : kAd f set x i = kAd f set x (i + 1) := by funext c; grind [kAd]
theorem su_i {set : Int32} {f : Nat → Int64} {i : Nat} (h : kbit set i ≠ 0) : su (kIn set f) i + f i = su (kIn set f) (i + 1) := by simp only [su, kIn, if_pos h]
theorem su_o {set : Int32} {f : Nat → Int64} {i : Nat} (h : ¬ kbit set i ≠ 0) : su (kIn set f) i = su (kIn set f) (i + 1) := by simp only [su, kIn, if_neg h, Int64.add_zero]
theorem kAl_t {b : Int32} {N : Nat} {f : Nat → Int64} {ss : Int64} {set x : Int32} {c : Nat} {v : Int64} (hv : v = if kbit set c ≠ 0 then x.toInt64 else 0) (h1 : ¬ kPr b N f ss c + 2 * ((nI N).toInt64 * v - (kBC set).toInt64 * x.toInt64) < 0) (h2 : kPr b N f ss c + 2 * ((nI N).toInt64 * v - (kBC set).toInt64 * x.toInt64) ≤ kU b N) : kAl b N f ss set x c = true := by
  subst hv; simp only [kAl, Bool.and_eq_true, decide_eq_true_eq]; exact ⟨by grind, h2⟩
theorem kAl_f {b : Int32} {N : Nat} {f : Nat → Int64} {ss : Int64} {set x : Int32} {c : Nat} {v : Int64} (hv : v = if kbit set c ≠ 0 then x.toInt64 else 0) (h1 : kPr b N f ss c + 2 * ((nI N).toInt64 * v - (kBC set).toInt64 * x.toInt64) < 0 ∨ ¬ kPr b N f ss c + 2 * ((nI N).toInt64 * v - (kBC set).toInt64 * x.toInt64) ≤ kU b N) : ¬ kAl b N f ss set x c = true := by
  subst hv; simp only [kAl, Bool.and_eq_true, decide_eq_true_eq]; grind
theorem kall_s {p : Nat → Bool} {n : Nat} (h : kall p n = true) (h2 : p n = true) : kall p (n + 1) = true := by rw [kall, h, h2]; rfl
theorem kMx_s (f : Nat → Int64) {i : Nat} (h : 1 ≤ i) : (if f i < kMx f (i - 1) then kMx f (i - 1) else f i) = kMx f (i + 1 - 1) := by
  obtain ⟨j, rfl⟩ : ∃ j, i = j + 1 := ⟨i - 1, by omega⟩
  rfl
set_option maxHeartbeats 4000000 in
set_option maxRecDepth 100000 in
theorem c_X10_isIn (l : Launch) (D : va_G) (tc : Nat → ClassId) (sz : Nat) (ad : Nat → Nat) (ct : Nat → Option va_E) {set : Int32} {c : Nat} : Met l yX10_isIn wsX10_isIn ({ frames := 0, cells := 0, slots := 0, locals := 0 }) (va_Pc [.int set, .int (nI c)] (kw_B D tc sz ad ct)) (k2_QcV (.int (kb (kbit set c ≠ 0)))) 0 0 (fun _ => False) := by
  refine Met.ofW (cc := cX10_isIn) (maxL := 2) (ret := (some .boolean)) (by decide) rfl ?_
  intro pg en s m args below meth cod s₁ B hml hv
  obtain ⟨rfl, hsz, hP0, hK⟩ := hv
  have hx := B.exec
  have hb := B.bytes
  have hr := B.returns
  have hts := atoms_spec (ws := wsX10_isIn) B.pre
  have hown : s.vm.findClass RX10 = some m.cls := findClass_of_methodNamed B.named
  have hlocks := B.notSynchronized
  subst hsz
  have hw := kw_H.start hP0
  generalize kw_A ad ct s.heap.size = A at hw
  have hl := lv_entry ([.int set, .int (nI c)]) (n := 2) (Nat.le_of_ble_eq_true rfl)
  rw [lg_entry_eq]
  generalize (lg_sl ([.int set, .int (nI c)]) ++ List.replicate (2 - (lg_sl ([.int set, .int (nI c)])).length) Slot.unset).toArray = ls at hl ⊢
  have hl : lv_has ls 2 [(0, .int set), (1, .int (nI c))] := hl
  have S0 : CallFix pg m cod cX10_isIn 2 s _ wsX10_isIn RX10 := ⟨hx, hb, hml, hown, hts⟩
  refine lv_iload_n hx hb dX10_isIn_0 rfl (lv_at hl 0 rfl) ?_
  refine lv_iload_n hx hb dX10_isIn_1 rfl (lv_at hl 1 rfl) ?_
  refine lv_ishr hx hb dX10_isIn_2 ?_
  refine lv_iconst (v := 1) hx hb dX10_isIn_3 (by decide) ?_
  refine lv_iand hx hb dX10_isIn_4 ?_
  refine lv_if_eq (tgt := 12) hx hb dX10_isIn_5 (by decide) (fun c_1 => ?_) (fun c_1 => ?_)
  · refine lv_iconst (v := 0) hx hb dX10_isIn_12 (by decide) ?_
    refine W.eq (congrArg (fun z => F0 m 13 ls [.int z]) (show 0 = (kb (kbit set c ≠ 0)) from by exact (kb_f (fun q => q c_1)).symm)) ?_
    exact W.zret hx hb hr kb_nar (fun t ht _ => ⟨rfl, ht⟩) (fun _ h => absurd h List.not_mem_nil) dX10_isIn_13
  · refine lv_iconst (v := 1) hx hb dX10_isIn_8 (by decide) ?_
    refine lv_goto (tgt := 13) hx hb dX10_isIn_9 (by decide) ?_
    refine W.eq (congrArg (fun z => F0 m 13 ls [.int z]) (show 1 = (kb (kbit set c ≠ 0)) from by exact (kb_t c_1).symm)) ?_
    exact W.zret hx hb hr kb_nar (fun t ht _ => ⟨rfl, ht⟩) (fun _ h => absurd h List.not_mem_nil) dX10_isIn_13
set_option maxHeartbeats 4000000 in
set_option maxRecDepth 100000 in
theorem c_J6_bitCount_0f7a4 (l : Launch) (D : va_G) (tc : Nat → ClassId) (sz : Nat) (ad : Nat → Nat) (ct : Nat → Option va_E) {x : Int32} : Met l yJ6_bitCount_0f7a4 wsJ6_bitCount_0f7a4 ({ frames := 0, cells := 0, slots := 0, locals := 0 }) (va_Pc [.int x] (kw_B D tc sz ad ct)) (k2_QcV (.int (kBC x))) 0 0 (fun _ => False) := by
  refine Met.ofW (cc := cJ6_bitCount_0f7a4) (maxL := 1) (ret := (some .int)) (by decide) rfl ?_
  intro pg en s m args below meth cod s₁ B hml hv
  obtain ⟨rfl, hsz, hP0, hK⟩ := hv
  have hx := B.exec
  have hb := B.bytes
  have hr := B.returns
  have hts := atoms_spec (ws := wsJ6_bitCount_0f7a4) B.pre
  have hown : s.vm.findClass RJ6 = some m.cls := findClass_of_methodNamed B.named
  have hlocks := B.notSynchronized
  subst hsz
  have hw := kw_H.start hP0
  generalize kw_A ad ct s.heap.size = A at hw
  have hl := lv_entry ([.int x]) (n := 1) (Nat.le_of_ble_eq_true rfl)
  rw [lg_entry_eq]
  generalize (lg_sl ([.int x]) ++ List.replicate (1 - (lg_sl ([.int x])).length) Slot.unset).toArray = ls at hl ⊢
  have hl : lv_has ls 1 [(0, .int x)] := hl
  have S0 : CallFix pg m cod cJ6_bitCount_0f7a4 1 s _ wsJ6_bitCount_0f7a4 RJ6 := ⟨hx, hb, hml, hown, hts⟩
  refine lv_iload_n hx hb dJ6_bitCount_0f7a4_0 rfl (lv_at hl 0 rfl) ?_
  refine lv_iload_n hx hb dJ6_bitCount_0f7a4_1 rfl (lv_at hl 0 rfl) ?_
  refine lv_iconst (v := 1) hx hb dJ6_bitCount_0f7a4_2 (by decide) ?_
  refine lv_iushr (v := (x.toUInt32 >>> ((1 : Int32).toUInt32 &&& Int32.toUInt32 31)).toInt32) hx hb dJ6_bitCount_0f7a4_3 rfl ?_
  refine lv_ldcw (v := 1431655765) hx hb hown (hts (.constant RJ6 265 (1431655765)) (by decide +kernel)) dJ6_bitCount_0f7a4_4 ?_
  refine lv_iand hx hb dJ6_bitCount_0f7a4_7 ?_
  refine lv_isub hx hb dJ6_bitCount_0f7a4_8 ?_
  refine lv_istore_n (lv' := [(0, .int (x - (((x.toUInt32 >>> ((1 : Int32).toUInt32 &&& Int32.toUInt32 31)).toInt32) &&& 1431655765)))]) hx hb dJ6_bitCount_0f7a4_9 rfl hl (by decide) rfl (fun ls hl => ?_)
  refine lv_iload_n hx hb dJ6_bitCount_0f7a4_10 rfl (lv_at hl 0 rfl) ?_
  refine lv_ldcw (v := 858993459) hx hb hown (hts (.constant RJ6 266 (858993459)) (by decide +kernel)) dJ6_bitCount_0f7a4_11 ?_
  refine lv_iand hx hb dJ6_bitCount_0f7a4_14 ?_
  refine lv_iload_n hx hb dJ6_bitCount_0f7a4_15 rfl (lv_at hl 0 rfl) ?_
  refine lv_iconst (v := 2) hx hb dJ6_bitCount_0f7a4_16 (by decide) ?_
  refine lv_iushr (v := ((x - (((x.toUInt32 >>> ((1 : Int32).toUInt32 &&& Int32.toUInt32 31)).toInt32) &&& 1431655765)).toUInt32 >>> ((2 : Int32).toUInt32 &&& Int32.toUInt32 31)).toInt32) hx hb dJ6_bitCount_0f7a4_17 rfl ?_
  refine lv_ldcw (v := 858993459) hx hb hown (hts (.constant RJ6 266 (858993459)) (by decide +kernel)) dJ6_bitCount_0f7a4_18 ?_
  refine lv_iand hx hb dJ6_bitCount_0f7a4_21 ?_
  refine lv_iadd hx hb dJ6_bitCount_0f7a4_22 ?_
  refine lv_istore_n (lv' := [(0, .int (((x - (((x.toUInt32 >>> ((1 : Int32).toUInt32 &&& Int32.toUInt32 31)).toInt32) &&& 1431655765)) &&& 858993459) + ((((x - (((x.toUInt32 >>> ((1 : Int32).toUInt32 &&& Int32.toUInt32 31)).toInt32) &&& 1431655765)).toUInt32 >>> ((2 : Int32).toUInt32 &&& Int32.toUInt32 31)).toInt32) &&& 858993459)))]) hx hb dJ6_bitCount_0f7a4_23 rfl hl (by decide) rfl (fun ls hl => ?_)
  refine lv_iload_n hx hb dJ6_bitCount_0f7a4_24 rfl (lv_at hl 0 rfl) ?_
  refine lv_iload_n hx hb dJ6_bitCount_0f7a4_25 rfl (lv_at hl 0 rfl) ?_
  refine lv_iconst (v := 4) hx hb dJ6_bitCount_0f7a4_26 (by decide) ?_
  refine lv_iushr (v := ((((x - (((x.toUInt32 >>> ((1 : Int32).toUInt32 &&& Int32.toUInt32 31)).toInt32) &&& 1431655765)) &&& 858993459) + ((((x - (((x.toUInt32 >>> ((1 : Int32).toUInt32 &&& Int32.toUInt32 31)).toInt32) &&& 1431655765)).toUInt32 >>> ((2 : Int32).toUInt32 &&& Int32.toUInt32 31)).toInt32) &&& 858993459)).toUInt32 >>> ((4 : Int32).toUInt32 &&& Int32.toUInt32 31)).toInt32) hx hb dJ6_bitCount_0f7a4_27 rfl ?_
  refine lv_iadd hx hb dJ6_bitCount_0f7a4_28 ?_
  refine lv_ldcw (v := 252645135) hx hb hown (hts (.constant RJ6 267 (252645135)) (by decide +kernel)) dJ6_bitCount_0f7a4_29 ?_
  refine lv_iand hx hb dJ6_bitCount_0f7a4_32 ?_
  refine lv_istore_n (lv' := [(0, .int (((((x - (((x.toUInt32 >>> ((1 : Int32).toUInt32 &&& Int32.toUInt32 31)).toInt32) &&& 1431655765)) &&& 858993459) + ((((x - (((x.toUInt32 >>> ((1 : Int32).toUInt32 &&& Int32.toUInt32 31)).toInt32) &&& 1431655765)).toUInt32 >>> ((2 : Int32).toUInt32 &&& Int32.toUInt32 31)).toInt32) &&& 858993459)) + (((((x - (((x.toUInt32 >>> ((1 : Int32).toUInt32 &&& Int32.toUInt32 31)).toInt32) &&& 1431655765)) &&& 858993459) + ((((x - (((x.toUInt32 >>> ((1 : Int32).toUInt32 &&& Int32.toUInt32 31)).toInt32) &&& 1431655765)).toUInt32 >>> ((2 : Int32).toUInt32 &&& Int32.toUInt32 31)).toInt32) &&& 858993459)).toUInt32 >>> ((4 : Int32).toUInt32 &&& Int32.toUInt32 31)).toInt32)) &&& 252645135))]) hx hb dJ6_bitCount_0f7a4_33 rfl hl (by decide) rfl (fun ls hl => ?_)
  refine lv_iload_n hx hb dJ6_bitCount_0f7a4_34 rfl (lv_at hl 0 rfl) ?_
  refine lv_iload_n hx hb dJ6_bitCount_0f7a4_35 rfl (lv_at hl 0 rfl) ?_
  refine lv_bipush (v := 8) hx hb dJ6_bitCount_0f7a4_36 (by decide) ?_
  refine lv_iushr (v := ((((((x - (((x.toUInt32 >>> ((1 : Int32).toUInt32 &&& Int32.toUInt32 31)).toInt32) &&& 1431655765)) &&& 858993459) + ((((x - (((x.toUInt32 >>> ((1 : Int32).toUInt32 &&& Int32.toUInt32 31)).toInt32) &&& 1431655765)).toUInt32 >>> ((2 : Int32).toUInt32 &&& Int32.toUInt32 31)).toInt32) &&& 858993459)) + (((((x - (((x.toUInt32 >>> ((1 : Int32).toUInt32 &&& Int32.toUInt32 31)).toInt32) &&& 1431655765)) &&& 858993459) + ((((x - (((x.toUInt32 >>> ((1 : Int32).toUInt32 &&& Int32.toUInt32 31)).toInt32) &&& 1431655765)).toUInt32 >>> ((2 : Int32).toUInt32 &&& Int32.toUInt32 31)).toInt32) &&& 858993459)).toUInt32 >>> ((4 : Int32).toUInt32 &&& Int32.toUInt32 31)).toInt32)) &&& 252645135).toUInt32 >>> ((8 : Int32).toUInt32 &&& Int32.toUInt32 31)).toInt32) hx hb dJ6_bitCount_0f7a4_38 rfl ?_
  refine lv_iadd hx hb dJ6_bitCount_0f7a4_39 ?_
  refine lv_istore_n (lv' := [(0, .int ((((((x - (((x.toUInt32 >>> ((1 : Int32).toUInt32 &&& Int32.toUInt32 31)).toInt32) &&& 1431655765)) &&& 858993459) + ((((x - (((x.toUInt32 >>> ((1 : Int32).toUInt32 &&& Int32.toUInt32 31)).toInt32) &&& 1431655765)).toUInt32 >>> ((2 : Int32).toUInt32 &&& Int32.toUInt32 31)).toInt32) &&& 858993459)) + (((((x - (((x.toUInt32 >>> ((1 : Int32).toUInt32 &&& Int32.toUInt32 31)).toInt32) &&& 1431655765)) &&& 858993459) + ((((x - (((x.toUInt32 >>> ((1 : Int32).toUInt32 &&& Int32.toUInt32 31)).toInt32) &&& 1431655765)).toUInt32 >>> ((2 : Int32).toUInt32 &&& Int32.toUInt32 31)).toInt32) &&& 858993459)).toUInt32 >>> ((4 : Int32).toUInt32 &&& Int32.toUInt32 31)).toInt32)) &&& 252645135) + (((((((x - (((x.toUInt32 >>> ((1 : Int32).toUInt32 &&& Int32.toUInt32 31)).toInt32) &&& 1431655765)) &&& 858993459) + ((((x - (((x.toUInt32 >>> ((1 : Int32).toUInt32 &&& Int32.toUInt32 31)).toInt32) &&& 1431655765)).toUInt32 >>> ((2 : Int32).toUInt32 &&& Int32.toUInt32 31)).toInt32) &&& 858993459)) + (((((x - (((x.toUInt32 >>> ((1 : Int32).toUInt32 &&& Int32.toUInt32 31)).toInt32) &&& 1431655765)) &&& 858993459) + ((((x - (((x.toUInt32 >>> ((1 : Int32).toUInt32 &&& Int32.toUInt32 31)).toInt32) &&& 1431655765)).toUInt32 >>> ((2 : Int32).toUInt32 &&& Int32.toUInt32 31)).toInt32) &&& 858993459)).toUInt32 >>> ((4 : Int32).toUInt32 &&& Int32.toUInt32 31)).toInt32)) &&& 252645135).toUInt32 >>> ((8 : Int32).toUInt32 &&& Int32.toUInt32 31)).toInt32)))]) hx hb dJ6_bitCount_0f7a4_40 rfl hl (by decide) rfl (fun ls hl => ?_)
  refine lv_iload_n hx hb dJ6_bitCount_0f7a4_41 rfl (lv_at hl 0 rfl) ?_
  refine lv_iload_n hx hb dJ6_bitCount_0f7a4_42 rfl (lv_at hl 0 rfl) ?_
  refine lv_bipush (v := 16) hx hb dJ6_bitCount_0f7a4_43 (by decide) ?_
  refine lv_iushr (v := (((((((x - (((x.toUInt32 >>> ((1 : Int32).toUInt32 &&& Int32.toUInt32 31)).toInt32) &&& 1431655765)) &&& 858993459) + ((((x - (((x.toUInt32 >>> ((1 : Int32).toUInt32 &&& Int32.toUInt32 31)).toInt32) &&& 1431655765)).toUInt32 >>> ((2 : Int32).toUInt32 &&& Int32.toUInt32 31)).toInt32) &&& 858993459)) + (((((x - (((x.toUInt32 >>> ((1 : Int32).toUInt32 &&& Int32.toUInt32 31)).toInt32) &&& 1431655765)) &&& 858993459) + ((((x - (((x.toUInt32 >>> ((1 : Int32).toUInt32 &&& Int32.toUInt32 31)).toInt32) &&& 1431655765)).toUInt32 >>> ((2 : Int32).toUInt32 &&& Int32.toUInt32 31)).toInt32) &&& 858993459)).toUInt32 >>> ((4 : Int32).toUInt32 &&& Int32.toUInt32 31)).toInt32)) &&& 252645135) + (((((((x - (((x.toUInt32 >>> ((1 : Int32).toUInt32 &&& Int32.toUInt32 31)).toInt32) &&& 1431655765)) &&& 858993459) + ((((x - (((x.toUInt32 >>> ((1 : Int32).toUInt32 &&& Int32.toUInt32 31)).toInt32) &&& 1431655765)).toUInt32 >>> ((2 : Int32).toUInt32 &&& Int32.toUInt32 31)).toInt32) &&& 858993459)) + (((((x - (((x.toUInt32 >>> ((1 : Int32).toUInt32 &&& Int32.toUInt32 31)).toInt32) &&& 1431655765)) &&& 858993459) + ((((x - (((x.toUInt32 >>> ((1 : Int32).toUInt32 &&& Int32.toUInt32 31)).toInt32) &&& 1431655765)).toUInt32 >>> ((2 : Int32).toUInt32 &&& Int32.toUInt32 31)).toInt32) &&& 858993459)).toUInt32 >>> ((4 : Int32).toUInt32 &&& Int32.toUInt32 31)).toInt32)) &&& 252645135).toUInt32 >>> ((8 : Int32).toUInt32 &&& Int32.toUInt32 31)).toInt32)).toUInt32 >>> ((16 : Int32).toUInt32 &&& Int32.toUInt32 31)).toInt32) hx hb dJ6_bitCount_0f7a4_45 rfl ?_
  refine lv_iadd hx hb dJ6_bitCount_0f7a4_46 ?_
  refine lv_istore_n (lv' := [(0, .int (((((((x - (((x.toUInt32 >>> ((1 : Int32).toUInt32 &&& Int32.toUInt32 31)).toInt32) &&& 1431655765)) &&& 858993459) + ((((x - (((x.toUInt32 >>> ((1 : Int32).toUInt32 &&& Int32.toUInt32 31)).toInt32) &&& 1431655765)).toUInt32 >>> ((2 : Int32).toUInt32 &&& Int32.toUInt32 31)).toInt32) &&& 858993459)) + (((((x - (((x.toUInt32 >>> ((1 : Int32).toUInt32 &&& Int32.toUInt32 31)).toInt32) &&& 1431655765)) &&& 858993459) + ((((x - (((x.toUInt32 >>> ((1 : Int32).toUInt32 &&& Int32.toUInt32 31)).toInt32) &&& 1431655765)).toUInt32 >>> ((2 : Int32).toUInt32 &&& Int32.toUInt32 31)).toInt32) &&& 858993459)).toUInt32 >>> ((4 : Int32).toUInt32 &&& Int32.toUInt32 31)).toInt32)) &&& 252645135) + (((((((x - (((x.toUInt32 >>> ((1 : Int32).toUInt32 &&& Int32.toUInt32 31)).toInt32) &&& 1431655765)) &&& 858993459) + ((((x - (((x.toUInt32 >>> ((1 : Int32).toUInt32 &&& Int32.toUInt32 31)).toInt32) &&& 1431655765)).toUInt32 >>> ((2 : Int32).toUInt32 &&& Int32.toUInt32 31)).toInt32) &&& 858993459)) + (((((x - (((x.toUInt32 >>> ((1 : Int32).toUInt32 &&& Int32.toUInt32 31)).toInt32) &&& 1431655765)) &&& 858993459) + ((((x - (((x.toUInt32 >>> ((1 : Int32).toUInt32 &&& Int32.toUInt32 31)).toInt32) &&& 1431655765)).toUInt32 >>> ((2 : Int32).toUInt32 &&& Int32.toUInt32 31)).toInt32) &&& 858993459)).toUInt32 >>> ((4 : Int32).toUInt32 &&& Int32.toUInt32 31)).toInt32)) &&& 252645135).toUInt32 >>> ((8 : Int32).toUInt32 &&& Int32.toUInt32 31)).toInt32)) + ((((((((x - (((x.toUInt32 >>> ((1 : Int32).toUInt32 &&& Int32.toUInt32 31)).toInt32) &&& 1431655765)) &&& 858993459) + ((((x - (((x.toUInt32 >>> ((1 : Int32).toUInt32 &&& Int32.toUInt32 31)).toInt32) &&& 1431655765)).toUInt32 >>> ((2 : Int32).toUInt32 &&& Int32.toUInt32 31)).toInt32) &&& 858993459)) + (((((x - (((x.toUInt32 >>> ((1 : Int32).toUInt32 &&& Int32.toUInt32 31)).toInt32) &&& 1431655765)) &&& 858993459) + ((((x - (((x.toUInt32 >>> ((1 : Int32).toUInt32 &&& Int32.toUInt32 31)).toInt32) &&& 1431655765)).toUInt32 >>> ((2 : Int32).toUInt32 &&& Int32.toUInt32 31)).toInt32) &&& 858993459)).toUInt32 >>> ((4 : Int32).toUInt32 &&& Int32.toUInt32 31)).toInt32)) &&& 252645135) + (((((((x - (((x.toUInt32 >>> ((1 : Int32).toUInt32 &&& Int32.toUInt32 31)).toInt32) &&& 1431655765)) &&& 858993459) + ((((x - (((x.toUInt32 >>> ((1 : Int32).toUInt32 &&& Int32.toUInt32 31)).toInt32) &&& 1431655765)).toUInt32 >>> ((2 : Int32).toUInt32 &&& Int32.toUInt32 31)).toInt32) &&& 858993459)) + (((((x - (((x.toUInt32 >>> ((1 : Int32).toUInt32 &&& Int32.toUInt32 31)).toInt32) &&& 1431655765)) &&& 858993459) + ((((x - (((x.toUInt32 >>> ((1 : Int32).toUInt32 &&& Int32.toUInt32 31)).toInt32) &&& 1431655765)).toUInt32 >>> ((2 : Int32).toUInt32 &&& Int32.toUInt32 31)).toInt32) &&& 858993459)).toUInt32 >>> ((4 : Int32).toUInt32 &&& Int32.toUInt32 31)).toInt32)) &&& 252645135).toUInt32 >>> ((8 : Int32).toUInt32 &&& Int32.toUInt32 31)).toInt32)).toUInt32 >>> ((16 : Int32).toUInt32 &&& Int32.toUInt32 31)).toInt32)))]) hx hb dJ6_bitCount_0f7a4_47 rfl hl (by decide) rfl (fun ls hl => ?_)
  refine lv_iload_n hx hb dJ6_bitCount_0f7a4_48 rfl (lv_at hl 0 rfl) ?_
  refine lv_bipush (v := 63) hx hb dJ6_bitCount_0f7a4_49 (by decide) ?_
  refine lv_iand hx hb dJ6_bitCount_0f7a4_51 ?_
  refine W.eq (congrArg (fun z => F0 m 52 ls [.int z]) (show ((((((((x - (((x.toUInt32 >>> ((1 : Int32).toUInt32 &&& Int32.toUInt32 31)).toInt32) &&& 1431655765)) &&& 858993459) + ((((x - (((x.toUInt32 >>> ((1 : Int32).toUInt32 &&& Int32.toUInt32 31)).toInt32) &&& 1431655765)).toUInt32 >>> ((2 : Int32).toUInt32 &&& Int32.toUInt32 31)).toInt32) &&& 858993459)) + (((((x - (((x.toUInt32 >>> ((1 : Int32).toUInt32 &&& Int32.toUInt32 31)).toInt32) &&& 1431655765)) &&& 858993459) + ((((x - (((x.toUInt32 >>> ((1 : Int32).toUInt32 &&& Int32.toUInt32 31)).toInt32) &&& 1431655765)).toUInt32 >>> ((2 : Int32).toUInt32 &&& Int32.toUInt32 31)).toInt32) &&& 858993459)).toUInt32 >>> ((4 : Int32).toUInt32 &&& Int32.toUInt32 31)).toInt32)) &&& 252645135) + (((((((x - (((x.toUInt32 >>> ((1 : Int32).toUInt32 &&& Int32.toUInt32 31)).toInt32) &&& 1431655765)) &&& 858993459) + ((((x - (((x.toUInt32 >>> ((1 : Int32).toUInt32 &&& Int32.toUInt32 31)).toInt32) &&& 1431655765)).toUInt32 >>> ((2 : Int32).toUInt32 &&& Int32.toUInt32 31)).toInt32) &&& 858993459)) + (((((x - (((x.toUInt32 >>> ((1 : Int32).toUInt32 &&& Int32.toUInt32 31)).toInt32) &&& 1431655765)) &&& 858993459) + ((((x - (((x.toUInt32 >>> ((1 : Int32).toUInt32 &&& Int32.toUInt32 31)).toInt32) &&& 1431655765)).toUInt32 >>> ((2 : Int32).toUInt32 &&& Int32.toUInt32 31)).toInt32) &&& 858993459)).toUInt32 >>> ((4 : Int32).toUInt32 &&& Int32.toUInt32 31)).toInt32)) &&& 252645135).toUInt32 >>> ((8 : Int32).toUInt32 &&& Int32.toUInt32 31)).toInt32)) + ((((((((x - (((x.toUInt32 >>> ((1 : Int32).toUInt32 &&& Int32.toUInt32 31)).toInt32) &&& 1431655765)) &&& 858993459) + ((((x - (((x.toUInt32 >>> ((1 : Int32).toUInt32 &&& Int32.toUInt32 31)).toInt32) &&& 1431655765)).toUInt32 >>> ((2 : Int32).toUInt32 &&& Int32.toUInt32 31)).toInt32) &&& 858993459)) + (((((x - (((x.toUInt32 >>> ((1 : Int32).toUInt32 &&& Int32.toUInt32 31)).toInt32) &&& 1431655765)) &&& 858993459) + ((((x - (((x.toUInt32 >>> ((1 : Int32).toUInt32 &&& Int32.toUInt32 31)).toInt32) &&& 1431655765)).toUInt32 >>> ((2 : Int32).toUInt32 &&& Int32.toUInt32 31)).toInt32) &&& 858993459)).toUInt32 >>> ((4 : Int32).toUInt32 &&& Int32.toUInt32 31)).toInt32)) &&& 252645135) + (((((((x - (((x.toUInt32 >>> ((1 : Int32).toUInt32 &&& Int32.toUInt32 31)).toInt32) &&& 1431655765)) &&& 858993459) + ((((x - (((x.toUInt32 >>> ((1 : Int32).toUInt32 &&& Int32.toUInt32 31)).toInt32) &&& 1431655765)).toUInt32 >>> ((2 : Int32).toUInt32 &&& Int32.toUInt32 31)).toInt32) &&& 858993459)) + (((((x - (((x.toUInt32 >>> ((1 : Int32).toUInt32 &&& Int32.toUInt32 31)).toInt32) &&& 1431655765)) &&& 858993459) + ((((x - (((x.toUInt32 >>> ((1 : Int32).toUInt32 &&& Int32.toUInt32 31)).toInt32) &&& 1431655765)).toUInt32 >>> ((2 : Int32).toUInt32 &&& Int32.toUInt32 31)).toInt32) &&& 858993459)).toUInt32 >>> ((4 : Int32).toUInt32 &&& Int32.toUInt32 31)).toInt32)) &&& 252645135).toUInt32 >>> ((8 : Int32).toUInt32 &&& Int32.toUInt32 31)).toInt32)).toUInt32 >>> ((16 : Int32).toUInt32 &&& Int32.toUInt32 31)).toInt32)) &&& 63) = (kBC x) from by rfl)) ?_
  exact W.iret hx hb hr (fun t ht _ => ⟨rfl, ht⟩) (fun _ h => absurd h List.not_mem_nil) dJ6_bitCount_0f7a4_52
set_option maxHeartbeats 4000000 in
set_option maxRecDepth 100000 in
theorem c_J7_fill_d0a16 (l : Launch) (D : va_G) (tc : Nat → ClassId) (sz : Nat) (ad : Nat → Nat) (ct : Nat → Option va_E) {k1 N : Nat} {f : Nat → Int64} {v : Int64} (h1 : ct k1 = some (eJ tc N f)) (hN : N < 2 ^ 31) : Met l yJ7_fill_d0a16 wsJ7_fill_d0a16 ({ frames := 0, cells := 0, slots := 0, locals := 0 }) (va_Pc [.ref (ad k1), .long v] (kw_B D tc sz ad ct)) (kw_Q D ad (kw_A ad ct sz) (none) (kw_up ct k1 (eJ tc N (kFl f v N))) 0) 0 0 (kw_A ad ct sz) := by
  refine Met.ofW (cc := cJ7_fill_d0a16) (maxL := 5) (ret := none) (by decide) rfl ?_
  intro pg en s m args below meth cod s₁ B hml hv
  obtain ⟨rfl, hsz, hP0, hK⟩ := hv
  have hx := B.exec
  have hb := B.bytes
  have hr := B.returns
  have hts := atoms_spec (ws := wsJ7_fill_d0a16) B.pre
  have hown : s.vm.findClass RJ7 = some m.cls := findClass_of_methodNamed B.named
  have hlocks := B.notSynchronized
  subst hsz
  have hw := kw_H.start hP0
  generalize hAe : kw_A ad ct s.heap.size = A at hw ⊢
  have hA : ∀ q, s.heap.size ≤ q → A q := fun q h => by rw [← hAe]; exact Or.inr h
  have hl := lv_entry ([.ref (ad k1), .long v]) (n := 5) (Nat.le_of_ble_eq_true rfl)
  rw [lg_entry_eq]
  generalize (lg_sl ([.ref (ad k1), .long v]) ++ List.replicate (5 - (lg_sl ([.ref (ad k1), .long v])).length) Slot.unset).toArray = ls at hl ⊢
  have hl : lv_has ls 5 [(0, .ref (ad k1)), (1, .long v)] := hl
  have S0 : CallFix pg m cod cJ7_fill_d0a16 5 s _ wsJ7_fill_d0a16 RJ7 := ⟨hx, hb, hml, hown, hts⟩
  have hfr : ∀ j, j ≠ k1 → ct j = ct j := fun _ _ => rfl
  refine lv_iconst (v := 0) hx hb dJ7_fill_d0a16_0 (by decide) ?_
  refine lv_istore_n (lv' := [(3, .int 0), (0, .ref (ad k1)), (1, .long v)]) hx hb dJ7_fill_d0a16_1 rfl hl (by decide) rfl (fun ls hl => ?_)
  refine lv_aload_n hx hb dJ7_fill_d0a16_2 rfl (lv_at hl 1 rfl) ?_
  refine kg_llen hx hb hK hw h1 dJ7_fill_d0a16_3 ?_
  refine lv_istore (lv' := [(4, .int (nI N)), (3, .int 0), (0, .ref (ad k1)), (1, .long v)]) hx hb dJ7_fill_d0a16_4 hl (by decide) rfl (fun ls hl => ?_)
  suffices lp6 : ∀ (nfu : Nat) (i : Nat) (g1 : Nat → Int64) (ctL6 : Nat → Option va_E) (H : Heap) (locs : List Loc) (ls : Array Slot), N - i < nfu → i ≤ N → g1 = kFl f v i → ctL6 k1 = some (eJ tc N g1) → (∀ j, j ≠ k1 → ctL6 j = ct j) → kw_H D ad A s.heap ctL6 H locs s.heap.size → lv_has ls 5 [(0, .ref (ad k1)), (1, .long v), (3, .int (nI i)), (4, .int (nI N))] → W pg l en (headSpec wsJ7_fill_d0a16 ({ frames := 0, cells := 0, slots := 0, locals := 0 })).room s m (([.ref (ad k1), .long v] : List Value).toArray) below meth cod H locs 0 0 (MQ below (kw_Q D ad A (none) (kw_up ct k1 (eJ tc N (kFl f v N))) 0) (([.ref (ad k1), .long v] : List Value).toArray) s 0 0 A) (F0 m 6 ls []) by
    exact lp6 (N - 0 + 1) 0 f _ _ _ ls (by omega) (by omega) (by exact kFl_0 f v) h1 hfr hw (by have hl9 := lv_sub hl (l' := [(0, .ref (ad k1)), (1, .long v), (3, .int 0), (4, .int (nI N))]) [2, 3, 1, 0] rfl; exact hl9)
  intro n6
  induction n6 with
  | zero => intro i g1 ctL6 H locs ls hfu; exact absurd hfu (Nat.not_lt_zero _)
  | succ n6 ih6 =>
    intro i g1 ctL6 H locs ls hfu6 hi hg h_1 hfr_2 hw hl
    refine lv_iload_n hx hb dJ7_fill_d0a16_6 rfl (lv_at hl 2 rfl) ?_
    refine lv_iload hx hb dJ7_fill_d0a16_7 (lv_at hl 3 rfl) ?_
    refine kn_ge i N rfl rfl (by omega) (by omega) (tgt := 22) hx hb dJ7_fill_d0a16_9 (by decide) (fun c_3 => ?_) (fun c_3 => ?_)
    · have hq_4 : ctL6 k1 = some (eJ tc N (kFl f v N)) := h_1.trans (congrArg some (show (eJ tc N g1 : va_E) = eJ tc N (kFl f v N) from by rw [hg, show i = N by omega]))
      have hend := kw_eq1 hq_4 hfr_2
      rw [hend] at hw
      exact W.vret hx hb hr (fun t ht _ => ⟨rfl, by rw [ht]; exact hw.1, hw.2.2.1, hw.2.1.F ht, by rw [ht]; exact hw.2.2.2⟩) hw.2.1.2.2 dJ7_fill_d0a16_22
    · refine lv_aload_n hx hb dJ7_fill_d0a16_12 rfl (lv_at hl 0 rfl) ?_
      refine lv_iload_n hx hb dJ7_fill_d0a16_13 rfl (lv_at hl 2 rfl) ?_
      refine lv_lload_n hx hb dJ7_fill_d0a16_14 rfl (lv_at hl 1 rfl) ?_
      refine kg_last hx hb hK hw h_1 i rfl (by omega) (by omega) dJ7_fill_d0a16_15 (fun H locs hw => ?_)
      obtain ⟨ct_5, ect_5⟩ : ∃ z, z = kw_up ctL6 k1 (eJ tc N (va_up g1 i v)) := ⟨_, rfl⟩
      rw [← ect_5] at hw
      have h_6 : ct_5 k1 = some (eJ tc N (va_up g1 i v)) := by rw [ect_5]; exact kw_up_s
      have hfr_7 : ∀ j, j ≠ k1 → ct_5 j = ct j := fun j a0 => by rw [ect_5]; exact (kw_up_n a0).trans (hfr_2 j a0)
      refine lv_iinc (v := (nI (i + 1))) (lv' := [(3, .int (nI (i + 1))), (0, .ref (ad k1)), (1, .long v), (4, .int (nI N))]) hx hb dJ7_fill_d0a16_16 hl (k := 2) rfl (nI_1 i) (by decide) rfl (fun ls hl => ?_)
      refine lv_goto (tgt := 6) hx hb dJ7_fill_d0a16_19 (by decide) ?_
      exact ih6 (i + 1) (va_up g1 i v) _ _ _ ls (by omega) (by omega) (by rw [hg]; exact kFl_s f v i) h_6 hfr_7 hw (lv_sub hl [1, 2, 0, 3] rfl)
set_option maxHeartbeats 4000000 in
set_option maxRecDepth 100000 in
theorem c_J7_fill_53178 (l : Launch) (D : va_G) (tc : Nat → ClassId) (sz : Nat) (ad : Nat → Nat) (ct : Nat → Option va_E) {k1 N : Nat} {f : Nat → Int32} {v : Int32} (h1 : ct k1 = some (eI tc N f)) (hN : N < 2 ^ 31) : Met l yJ7_fill_53178 wsJ7_fill_53178 ({ frames := 0, cells := 0, slots := 0, locals := 0 }) (va_Pc [.ref (ad k1), .int v] (kw_B D tc sz ad ct)) (kw_Q D ad (kw_A ad ct sz) (none) (kw_up ct k1 (eI tc N (kFl f v N))) 0) 0 0 (kw_A ad ct sz) := by
  refine Met.ofW (cc := cJ7_fill_53178) (maxL := 4) (ret := none) (by decide) rfl ?_
  intro pg en s m args below meth cod s₁ B hml hv
  obtain ⟨rfl, hsz, hP0, hK⟩ := hv
  have hx := B.exec
  have hb := B.bytes
  have hr := B.returns
  have hts := atoms_spec (ws := wsJ7_fill_53178) B.pre
  have hown : s.vm.findClass RJ7 = some m.cls := findClass_of_methodNamed B.named
  have hlocks := B.notSynchronized
  subst hsz
  have hw := kw_H.start hP0
  generalize hAe : kw_A ad ct s.heap.size = A at hw ⊢
  have hA : ∀ q, s.heap.size ≤ q → A q := fun q h => by rw [← hAe]; exact Or.inr h
  have hl := lv_entry ([.ref (ad k1), .int v]) (n := 4) (Nat.le_of_ble_eq_true rfl)
  rw [lg_entry_eq]
  generalize (lg_sl ([.ref (ad k1), .int v]) ++ List.replicate (4 - (lg_sl ([.ref (ad k1), .int v])).length) Slot.unset).toArray = ls at hl ⊢
  have hl : lv_has ls 4 [(0, .ref (ad k1)), (1, .int v)] := hl
  have S0 : CallFix pg m cod cJ7_fill_53178 4 s _ wsJ7_fill_53178 RJ7 := ⟨hx, hb, hml, hown, hts⟩
  have hfr : ∀ j, j ≠ k1 → ct j = ct j := fun _ _ => rfl
  refine lv_iconst (v := 0) hx hb dJ7_fill_53178_0 (by decide) ?_
  refine lv_istore_n (lv' := [(2, .int 0), (0, .ref (ad k1)), (1, .int v)]) hx hb dJ7_fill_53178_1 rfl hl (by decide) rfl (fun ls hl => ?_)
  refine lv_aload_n hx hb dJ7_fill_53178_2 rfl (lv_at hl 1 rfl) ?_
  refine kg_ilen hx hb hK hw h1 dJ7_fill_53178_3 ?_
  refine lv_istore_n (lv' := [(3, .int (nI N)), (2, .int 0), (0, .ref (ad k1)), (1, .int v)]) hx hb dJ7_fill_53178_4 rfl hl (by decide) rfl (fun ls hl => ?_)
  suffices lp5 : ∀ (nfu : Nat) (i : Nat) (g1 : Nat → Int32) (ctL5 : Nat → Option va_E) (H : Heap) (locs : List Loc) (ls : Array Slot), N - i < nfu → i ≤ N → g1 = kFl f v i → ctL5 k1 = some (eI tc N g1) → (∀ j, j ≠ k1 → ctL5 j = ct j) → kw_H D ad A s.heap ctL5 H locs s.heap.size → lv_has ls 4 [(0, .ref (ad k1)), (1, .int v), (2, .int (nI i)), (3, .int (nI N))] → W pg l en (headSpec wsJ7_fill_53178 ({ frames := 0, cells := 0, slots := 0, locals := 0 })).room s m (([.ref (ad k1), .int v] : List Value).toArray) below meth cod H locs 0 0 (MQ below (kw_Q D ad A (none) (kw_up ct k1 (eI tc N (kFl f v N))) 0) (([.ref (ad k1), .int v] : List Value).toArray) s 0 0 A) (F0 m 5 ls []) by
    exact lp5 (N - 0 + 1) 0 f _ _ _ ls (by omega) (by omega) (by exact kFl_0 f v) h1 hfr hw (by have hl9 := lv_sub hl (l' := [(0, .ref (ad k1)), (1, .int v), (2, .int 0), (3, .int (nI N))]) [2, 3, 1, 0] rfl; exact hl9)
  intro n5
  induction n5 with
  | zero => intro i g1 ctL5 H locs ls hfu; exact absurd hfu (Nat.not_lt_zero _)
  | succ n5 ih5 =>
    intro i g1 ctL5 H locs ls hfu5 hi hg h_1 hfr_2 hw hl
    refine lv_iload_n hx hb dJ7_fill_53178_5 rfl (lv_at hl 2 rfl) ?_
    refine lv_iload_n hx hb dJ7_fill_53178_6 rfl (lv_at hl 3 rfl) ?_
    refine kn_ge i N rfl rfl (by omega) (by omega) (tgt := 20) hx hb dJ7_fill_53178_7 (by decide) (fun c_3 => ?_) (fun c_3 => ?_)
    · have hq_4 : ctL5 k1 = some (eI tc N (kFl f v N)) := h_1.trans (congrArg some (show (eI tc N g1 : va_E) = eI tc N (kFl f v N) from by rw [hg, show i = N by omega]))
      have hend := kw_eq1 hq_4 hfr_2
      rw [hend] at hw
      exact W.vret hx hb hr (fun t ht _ => ⟨rfl, by rw [ht]; exact hw.1, hw.2.2.1, hw.2.1.F ht, by rw [ht]; exact hw.2.2.2⟩) hw.2.1.2.2 dJ7_fill_53178_20
    · refine lv_aload_n hx hb dJ7_fill_53178_10 rfl (lv_at hl 0 rfl) ?_
      refine lv_iload_n hx hb dJ7_fill_53178_11 rfl (lv_at hl 2 rfl) ?_
      refine lv_iload_n hx hb dJ7_fill_53178_12 rfl (lv_at hl 1 rfl) ?_
      refine kg_iast hx hb hK hw h_1 i rfl (by omega) (by omega) dJ7_fill_53178_13 (fun H locs hw => ?_)
      obtain ⟨ct_5, ect_5⟩ : ∃ z, z = kw_up ctL5 k1 (eI tc N (va_up g1 i v)) := ⟨_, rfl⟩
      rw [← ect_5] at hw
      have h_6 : ct_5 k1 = some (eI tc N (va_up g1 i v)) := by rw [ect_5]; exact kw_up_s
      have hfr_7 : ∀ j, j ≠ k1 → ct_5 j = ct j := fun j a0 => by rw [ect_5]; exact (kw_up_n a0).trans (hfr_2 j a0)
      refine lv_iinc (v := (nI (i + 1))) (lv' := [(2, .int (nI (i + 1))), (0, .ref (ad k1)), (1, .int v), (3, .int (nI N))]) hx hb dJ7_fill_53178_14 hl (k := 2) rfl (nI_1 i) (by decide) rfl (fun ls hl => ?_)
      refine lv_goto (tgt := 5) hx hb dJ7_fill_53178_17 (by decide) ?_
      exact ih5 (i + 1) (va_up g1 i v) _ _ _ ls (by omega) (by omega) (by rw [hg]; exact kFl_s f v i) h_6 hfr_7 hw (lv_sub hl [1, 2, 0, 3] rfl)
set_option maxHeartbeats 4000000 in
set_option maxRecDepth 100000 in
theorem c_X3_cases (l : Launch) (D : va_G) (tc : Nat → ClassId) (sz : Nat) (ad : Nat → Nat) (ct : Nat → Option va_E) {k0 k1 N : Nat} {b cm : Int32} {ss g : Int64} (h0 : ct k0 = some (.inr (3, [.ref (ad k1), .int (nI N), .int b, .long ss, .long g, .int cm]))) : Met l yX3_cases wsX3_cases ({ frames := 0, cells := 0, slots := 0, locals := 0 }) (va_Pc [.ref (ad k0)] (kw_B D tc sz ad ct)) (k2_QcV (.int (nI N))) 0 0 (fun _ => False) := by
  refine Met.ofW (cc := cX3_cases) (maxL := 1) (ret := (some .int)) (by decide) rfl ?_
  intro pg en s m args below meth cod s₁ B hml hv
  obtain ⟨rfl, hsz, hP0, hK⟩ := hv
  have hx := B.exec
  have hb := B.bytes
  have hr := B.returns
  have hts := atoms_spec (ws := wsX3_cases) B.pre
  have hown : s.vm.findClass RX3 = some m.cls := findClass_of_methodNamed B.named
  have hlocks := B.notSynchronized
  subst hsz
  have hw := kw_H.start hP0
  generalize kw_A ad ct s.heap.size = A at hw
  have hinX3 : ∀ w ∈ wsX30, w ∈ wsX3_cases := by decide +kernel
  have hl := lv_entry ([.ref (ad k0)]) (n := 1) (Nat.le_of_ble_eq_true rfl)
  rw [lg_entry_eq]
  generalize (lg_sl ([.ref (ad k0)]) ++ List.replicate (1 - (lg_sl ([.ref (ad k0)])).length) Slot.unset).toArray = ls at hl ⊢
  have hl : lv_has ls 1 [(0, .ref (ad k0))] := hl
  have S0 : CallFix pg m cod cX3_cases 1 s _ wsX3_cases RX3 := ⟨hx, hb, hml, hown, hts⟩
  refine lv_aload_n hx hb dX3_cases_0 rfl (lv_at hl 0 rfl) ?_
  refine kg_get (v := .int (nI N)) (C := RX3) (T := TX3) (N := 6) hx hb hts hinX3 hown hK hw h0 rfl 1 (by decide) (hts (.fieldLink RX3 21 "BetMaker$Maker" "cases" "I") (by decide +kernel)) (fun _ h9 => h9) rfl dX3_cases_1 ?_
  exact W.iret hx hb hr (fun t ht _ => ⟨rfl, ht⟩) (fun _ h => absurd h List.not_mem_nil) dX3_cases_4
set_option maxHeartbeats 4000000 in
set_option maxRecDepth 100000 in
theorem c_X3_breadth (l : Launch) (D : va_G) (tc : Nat → ClassId) (sz : Nat) (ad : Nat → Nat) (ct : Nat → Option va_E) {k0 k1 N : Nat} {b cm : Int32} {ss g : Int64} (h0 : ct k0 = some (.inr (3, [.ref (ad k1), .int (nI N), .int b, .long ss, .long g, .int cm]))) : Met l yX3_breadth wsX3_breadth ({ frames := 0, cells := 0, slots := 0, locals := 0 }) (va_Pc [.ref (ad k0)] (kw_B D tc sz ad ct)) (k2_QcV (.int b)) 0 0 (fun _ => False) := by
  refine Met.ofW (cc := cX3_breadth) (maxL := 1) (ret := (some .int)) (by decide) rfl ?_
  intro pg en s m args below meth cod s₁ B hml hv
  obtain ⟨rfl, hsz, hP0, hK⟩ := hv
  have hx := B.exec
  have hb := B.bytes
  have hr := B.returns
  have hts := atoms_spec (ws := wsX3_breadth) B.pre
  have hown : s.vm.findClass RX3 = some m.cls := findClass_of_methodNamed B.named
  have hlocks := B.notSynchronized
  subst hsz
  have hw := kw_H.start hP0
  generalize kw_A ad ct s.heap.size = A at hw
  have hinX3 : ∀ w ∈ wsX30, w ∈ wsX3_breadth := by decide +kernel
  have hl := lv_entry ([.ref (ad k0)]) (n := 1) (Nat.le_of_ble_eq_true rfl)
  rw [lg_entry_eq]
  generalize (lg_sl ([.ref (ad k0)]) ++ List.replicate (1 - (lg_sl ([.ref (ad k0)])).length) Slot.unset).toArray = ls at hl ⊢
  have hl : lv_has ls 1 [(0, .ref (ad k0))] := hl
  have S0 : CallFix pg m cod cX3_breadth 1 s _ wsX3_breadth RX3 := ⟨hx, hb, hml, hown, hts⟩
  refine lv_aload_n hx hb dX3_breadth_0 rfl (lv_at hl 0 rfl) ?_
  refine kg_get (v := .int b) (C := RX3) (T := TX3) (N := 6) hx hb hts hinX3 hown hK hw h0 rfl 2 (by decide) (hts (.fieldLink RX3 25 "BetMaker$Maker" "breadth" "I") (by decide +kernel)) (fun _ h9 => h9) rfl dX3_breadth_1 ?_
  exact W.iret hx hb hr (fun t ht _ => ⟨rfl, ht⟩) (fun _ h => absurd h List.not_mem_nil) dX3_breadth_4
set_option maxHeartbeats 4000000 in
set_option maxRecDepth 100000 in
theorem c_X3_gain (l : Launch) (D : va_G) (tc : Nat → ClassId) (sz : Nat) (ad : Nat → Nat) (ct : Nat → Option va_E) {k0 k1 N : Nat} {b cm : Int32} {ss g : Int64} (h0 : ct k0 = some (.inr (3, [.ref (ad k1), .int (nI N), .int b, .long ss, .long g, .int cm]))) : Met l yX3_gain wsX3_gain ({ frames := 0, cells := 0, slots := 0, locals := 0 }) (va_Pc [.ref (ad k0)] (kw_B D tc sz ad ct)) (k2_QcV (.long g)) 0 0 (fun _ => False) := by
  refine Met.ofW (cc := cX3_gain) (maxL := 1) (ret := (some .long)) (by decide) rfl ?_
  intro pg en s m args below meth cod s₁ B hml hv
  obtain ⟨rfl, hsz, hP0, hK⟩ := hv
  have hx := B.exec
  have hb := B.bytes
  have hr := B.returns
  have hts := atoms_spec (ws := wsX3_gain) B.pre
  have hown : s.vm.findClass RX3 = some m.cls := findClass_of_methodNamed B.named
  have hlocks := B.notSynchronized
  subst hsz
  have hw := kw_H.start hP0
  generalize kw_A ad ct s.heap.size = A at hw
  have hinX3 : ∀ w ∈ wsX30, w ∈ wsX3_gain := by decide +kernel
  have hl := lv_entry ([.ref (ad k0)]) (n := 1) (Nat.le_of_ble_eq_true rfl)
  rw [lg_entry_eq]
  generalize (lg_sl ([.ref (ad k0)]) ++ List.replicate (1 - (lg_sl ([.ref (ad k0)])).length) Slot.unset).toArray = ls at hl ⊢
  have hl : lv_has ls 1 [(0, .ref (ad k0))] := hl
  have S0 : CallFix pg m cod cX3_gain 1 s _ wsX3_gain RX3 := ⟨hx, hb, hml, hown, hts⟩
  refine lv_aload_n hx hb dX3_gain_0 rfl (lv_at hl 0 rfl) ?_
  refine kg_get (v := .long g) (C := RX3) (T := TX3) (N := 6) hx hb hts hinX3 hown hK hw h0 rfl 4 (by decide) (hts (.fieldLink RX3 32 "BetMaker$Maker" "gain" "J") (by decide +kernel)) (fun _ h9 => h9) rfl dX3_gain_1 ?_
  exact W.lret hx hb hr (fun t ht _ => ⟨rfl, ht⟩) (fun _ h => absurd h List.not_mem_nil) dX3_gain_4
set_option maxHeartbeats 4000000 in
set_option maxRecDepth 100000 in
theorem c_X3_came (l : Launch) (D : va_G) (tc : Nat → ClassId) (sz : Nat) (ad : Nat → Nat) (ct : Nat → Option va_E) {k0 k1 N : Nat} {b cm : Int32} {ss g : Int64} (h0 : ct k0 = some (.inr (3, [.ref (ad k1), .int (nI N), .int b, .long ss, .long g, .int cm]))) : Met l yX3_came wsX3_came ({ frames := 0, cells := 0, slots := 0, locals := 0 }) (va_Pc [.ref (ad k0)] (kw_B D tc sz ad ct)) (k2_QcV (.int cm)) 0 0 (fun _ => False) := by
  refine Met.ofW (cc := cX3_came) (maxL := 1) (ret := (some .int)) (by decide) rfl ?_
  intro pg en s m args below meth cod s₁ B hml hv
  obtain ⟨rfl, hsz, hP0, hK⟩ := hv
  have hx := B.exec
  have hb := B.bytes
  have hr := B.returns
  have hts := atoms_spec (ws := wsX3_came) B.pre
  have hown : s.vm.findClass RX3 = some m.cls := findClass_of_methodNamed B.named
  have hlocks := B.notSynchronized
  subst hsz
  have hw := kw_H.start hP0
  generalize kw_A ad ct s.heap.size = A at hw
  have hinX3 : ∀ w ∈ wsX30, w ∈ wsX3_came := by decide +kernel
  have hl := lv_entry ([.ref (ad k0)]) (n := 1) (Nat.le_of_ble_eq_true rfl)
  rw [lg_entry_eq]
  generalize (lg_sl ([.ref (ad k0)]) ++ List.replicate (1 - (lg_sl ([.ref (ad k0)])).length) Slot.unset).toArray = ls at hl ⊢
  have hl : lv_has ls 1 [(0, .ref (ad k0))] := hl
  have S0 : CallFix pg m cod cX3_came 1 s _ wsX3_came RX3 := ⟨hx, hb, hml, hown, hts⟩
  refine lv_aload_n hx hb dX3_came_0 rfl (lv_at hl 0 rfl) ?_
  refine kg_get (v := .int cm) (C := RX3) (T := TX3) (N := 6) hx hb hts hinX3 hown hK hw h0 rfl 5 (by decide) (hts (.fieldLink RX3 35 "BetMaker$Maker" "came" "I") (by decide +kernel)) (fun _ h9 => h9) rfl dX3_came_1 ?_
  exact W.iret hx hb hr (fun t ht _ => ⟨rfl, ht⟩) (fun _ h => absurd h List.not_mem_nil) dX3_came_4
set_option maxHeartbeats 4000000 in
set_option maxRecDepth 100000 in
theorem c_X3_hasCome (l : Launch) (D : va_G) (tc : Nat → ClassId) (sz : Nat) (ad : Nat → Nat) (ct : Nat → Option va_E) {k0 k1 N : Nat} {b cm : Int32} {ss g : Int64} (h0 : ct k0 = some (.inr (3, [.ref (ad k1), .int (nI N), .int b, .long ss, .long g, .int cm]))) : Met l yX3_hasCome wsX3_hasCome ({ frames := 0, cells := 0, slots := 0, locals := 0 }) (va_Pc [.ref (ad k0)] (kw_B D tc sz ad ct)) (k2_QcV (.int (kb (¬ cm = (-9))))) 0 0 (fun _ => False) := by
  refine Met.ofW (cc := cX3_hasCome) (maxL := 1) (ret := (some .boolean)) (by decide) rfl ?_
  intro pg en s m args below meth cod s₁ B hml hv
  obtain ⟨rfl, hsz, hP0, hK⟩ := hv
  have hx := B.exec
  have hb := B.bytes
  have hr := B.returns
  have hts := atoms_spec (ws := wsX3_hasCome) B.pre
  have hown : s.vm.findClass RX3 = some m.cls := findClass_of_methodNamed B.named
  have hlocks := B.notSynchronized
  subst hsz
  have hw := kw_H.start hP0
  generalize kw_A ad ct s.heap.size = A at hw
  have hinX3 : ∀ w ∈ wsX30, w ∈ wsX3_hasCome := by decide +kernel
  have hl := lv_entry ([.ref (ad k0)]) (n := 1) (Nat.le_of_ble_eq_true rfl)
  rw [lg_entry_eq]
  generalize (lg_sl ([.ref (ad k0)]) ++ List.replicate (1 - (lg_sl ([.ref (ad k0)])).length) Slot.unset).toArray = ls at hl ⊢
  have hl : lv_has ls 1 [(0, .ref (ad k0))] := hl
  have S0 : CallFix pg m cod cX3_hasCome 1 s _ wsX3_hasCome RX3 := ⟨hx, hb, hml, hown, hts⟩
  refine lv_aload_n hx hb dX3_hasCome_0 rfl (lv_at hl 0 rfl) ?_
  refine kg_get (v := .int cm) (C := RX3) (T := TX3) (N := 6) hx hb hts hinX3 hown hK hw h0 rfl 5 (by decide) (hts (.fieldLink RX3 35 "BetMaker$Maker" "came" "I") (by decide +kernel)) (fun _ h9 => h9) rfl dX3_hasCome_1 ?_
  refine lv_bipush (v := (-9)) hx hb dX3_hasCome_4 (by decide) ?_
  refine lv_icmp_eq (tgt := 13) hx hb dX3_hasCome_6 (by decide) (fun c_1 => ?_) (fun c_1 => ?_)
  · refine lv_iconst (v := 0) hx hb dX3_hasCome_13 (by decide) ?_
    refine W.eq (congrArg (fun z => F0 m 14 ls [.int z]) (show 0 = (kb (¬ cm = (-9))) from by exact (kb_f (fun q => q c_1)).symm)) ?_
    exact W.zret hx hb hr kb_nar (fun t ht _ => ⟨rfl, ht⟩) (fun _ h => absurd h List.not_mem_nil) dX3_hasCome_14
  · refine lv_iconst (v := 1) hx hb dX3_hasCome_9 (by decide) ?_
    refine lv_goto (tgt := 14) hx hb dX3_hasCome_10 (by decide) ?_
    refine W.eq (congrArg (fun z => F0 m 14 ls [.int z]) (show 1 = (kb (¬ cm = (-9))) from by exact (kb_t c_1).symm)) ?_
    exact W.zret hx hb hr kb_nar (fun t ht _ => ⟨rfl, ht⟩) (fun _ h => absurd h List.not_mem_nil) dX3_hasCome_14
set_option maxHeartbeats 4000000 in
set_option maxRecDepth 100000 in
theorem c_X3_unit (l : Launch) (D : va_G) (tc : Nat → ClassId) (sz : Nat) (ad : Nat → Nat) (ct : Nat → Option va_E) {k0 k1 N : Nat} {b cm : Int32} {ss g : Int64} (h0 : ct k0 = some (.inr (3, [.ref (ad k1), .int (nI N), .int b, .long ss, .long g, .int cm]))) : Met l yX3_unit wsX3_unit ({ frames := 0, cells := 0, slots := 0, locals := 0 }) (va_Pc [.ref (ad k0)] (kw_B D tc sz ad ct)) (k2_QcV (.long (kU b N))) 0 0 (fun _ => False) := by
  refine Met.ofW (cc := cX3_unit) (maxL := 1) (ret := (some .long)) (by decide) rfl ?_
  intro pg en s m args below meth cod s₁ B hml hv
  obtain ⟨rfl, hsz, hP0, hK⟩ := hv
  have hx := B.exec
  have hb := B.bytes
  have hr := B.returns
  have hts := atoms_spec (ws := wsX3_unit) B.pre
  have hown : s.vm.findClass RX3 = some m.cls := findClass_of_methodNamed B.named
  have hlocks := B.notSynchronized
  subst hsz
  have hw := kw_H.start hP0
  generalize kw_A ad ct s.heap.size = A at hw
  have hinX3 : ∀ w ∈ wsX30, w ∈ wsX3_unit := by decide +kernel
  have hl := lv_entry ([.ref (ad k0)]) (n := 1) (Nat.le_of_ble_eq_true rfl)
  rw [lg_entry_eq]
  generalize (lg_sl ([.ref (ad k0)]) ++ List.replicate (1 - (lg_sl ([.ref (ad k0)])).length) Slot.unset).toArray = ls at hl ⊢
  have hl : lv_has ls 1 [(0, .ref (ad k0))] := hl
  have S0 : CallFix pg m cod cX3_unit 1 s _ wsX3_unit RX3 := ⟨hx, hb, hml, hown, hts⟩
  refine lv_ldc2 (v := 4) hx hb hown (hts (.constantLong RX3 38 (4)) (by decide +kernel)) dX3_unit_0 ?_
  refine lv_aload_n hx hb dX3_unit_3 rfl (lv_at hl 0 rfl) ?_
  refine kg_get (v := .int b) (C := RX3) (T := TX3) (N := 6) hx hb hts hinX3 hown hK hw h0 rfl 2 (by decide) (hts (.fieldLink RX3 25 "BetMaker$Maker" "breadth" "I") (by decide +kernel)) (fun _ h9 => h9) rfl dX3_unit_4 ?_
  refine lv_i2l (v := b.toInt64) hx hb dX3_unit_7 rfl ?_
  refine lv_lmul hx hb dX3_unit_8 ?_
  refine lv_aload_n hx hb dX3_unit_9 rfl (lv_at hl 0 rfl) ?_
  refine kg_get (v := .int (nI N)) (C := RX3) (T := TX3) (N := 6) hx hb hts hinX3 hown hK hw h0 rfl 1 (by decide) (hts (.fieldLink RX3 21 "BetMaker$Maker" "cases" "I") (by decide +kernel)) (fun _ h9 => h9) rfl dX3_unit_10 ?_
  refine lv_i2l (v := (nI N).toInt64) hx hb dX3_unit_13 rfl ?_
  refine lv_lmul hx hb dX3_unit_14 ?_
  refine W.eq (congrArg (fun z => F0 m 15 ls [.long z]) (show ((4 * b.toInt64) * ((nI N).toInt64)) = (kU b N) from by rfl)) ?_
  exact W.lret hx hb hr (fun t ht _ => ⟨rfl, ht⟩) (fun _ h => absurd h List.not_mem_nil) dX3_unit_15
set_option maxHeartbeats 4000000 in
set_option maxRecDepth 100000 in
theorem c_X3_isCase (l : Launch) (D : va_G) (tc : Nat → ClassId) (sz : Nat) (ad : Nat → Nat) (ct : Nat → Option va_E) {k0 k1 N : Nat} {b cm : Int32} {ss g : Int64} {c : Int32} (h0 : ct k0 = some (.inr (3, [.ref (ad k1), .int (nI N), .int b, .long ss, .long g, .int cm]))) : Met l yX3_isCase wsX3_isCase ({ frames := 0, cells := 0, slots := 0, locals := 0 }) (va_Pc [.ref (ad k0), .int c] (kw_B D tc sz ad ct)) (k2_QcV (.int (kb (0 ≤ c ∧ c < nI N)))) 0 0 (fun _ => False) := by
  refine Met.ofW (cc := cX3_isCase) (maxL := 2) (ret := (some .boolean)) (by decide) rfl ?_
  intro pg en s m args below meth cod s₁ B hml hv
  obtain ⟨rfl, hsz, hP0, hK⟩ := hv
  have hx := B.exec
  have hb := B.bytes
  have hr := B.returns
  have hts := atoms_spec (ws := wsX3_isCase) B.pre
  have hown : s.vm.findClass RX3 = some m.cls := findClass_of_methodNamed B.named
  have hlocks := B.notSynchronized
  subst hsz
  have hw := kw_H.start hP0
  generalize kw_A ad ct s.heap.size = A at hw
  have hinX3 : ∀ w ∈ wsX30, w ∈ wsX3_isCase := by decide +kernel
  have hl := lv_entry ([.ref (ad k0), .int c]) (n := 2) (Nat.le_of_ble_eq_true rfl)
  rw [lg_entry_eq]
  generalize (lg_sl ([.ref (ad k0), .int c]) ++ List.replicate (2 - (lg_sl ([.ref (ad k0), .int c])).length) Slot.unset).toArray = ls at hl ⊢
  have hl : lv_has ls 2 [(0, .ref (ad k0)), (1, .int c)] := hl
  have S0 : CallFix pg m cod cX3_isCase 2 s _ wsX3_isCase RX3 := ⟨hx, hb, hml, hown, hts⟩
  refine lv_iload_n hx hb dX3_isCase_0 rfl (lv_at hl 1 rfl) ?_
  refine lv_if_lt (tgt := 16) hx hb dX3_isCase_1 (by decide) (fun c_1 => ?_) (fun c_1 => ?_)
  · refine lv_iconst (v := 0) hx hb dX3_isCase_16 (by decide) ?_
    refine W.eq (congrArg (fun z => F0 m 17 ls [.int z]) (show 0 = (kb (0 ≤ c ∧ c < nI N)) from by exact (kb_f (fun q => kq_3 c_1 q.1)).symm)) ?_
    exact W.zret hx hb hr kb_nar (fun t ht _ => ⟨rfl, ht⟩) (fun _ h => absurd h List.not_mem_nil) dX3_isCase_17
  · refine lv_iload_n hx hb dX3_isCase_4 rfl (lv_at hl 1 rfl) ?_
    refine lv_aload_n hx hb dX3_isCase_5 rfl (lv_at hl 0 rfl) ?_
    refine kg_get (v := .int (nI N)) (C := RX3) (T := TX3) (N := 6) hx hb hts hinX3 hown hK hw h0 rfl 1 (by decide) (hts (.fieldLink RX3 21 "BetMaker$Maker" "cases" "I") (by decide +kernel)) (fun _ h9 => h9) rfl dX3_isCase_6 ?_
    refine lv_icmp_ge (tgt := 16) hx hb dX3_isCase_9 (by decide) (fun c_2 => ?_) (fun c_2 => ?_)
    · refine lv_iconst (v := 0) hx hb dX3_isCase_16 (by decide) ?_
      refine W.eq (congrArg (fun z => F0 m 17 ls [.int z]) (show 0 = (kb (0 ≤ c ∧ c < nI N)) from by exact (kb_f (fun q => kq_4 c_2 q.2)).symm)) ?_
      exact W.zret hx hb hr kb_nar (fun t ht _ => ⟨rfl, ht⟩) (fun _ h => absurd h List.not_mem_nil) dX3_isCase_17
    · refine lv_iconst (v := 1) hx hb dX3_isCase_12 (by decide) ?_
      refine lv_goto (tgt := 17) hx hb dX3_isCase_13 (by decide) ?_
      refine W.eq (congrArg (fun z => F0 m 17 ls [.int z]) (show 1 = (kb (0 ≤ c ∧ c < nI N)) from by exact (kb_t ⟨kq_1 c_1, kq_2 c_2⟩).symm)) ?_
      exact W.zret hx hb hr kb_nar (fun t ht _ => ⟨rfl, ht⟩) (fun _ h => absurd h List.not_mem_nil) dX3_isCase_17
set_option maxHeartbeats 4000000 in
set_option maxRecDepth 100000 in
theorem c_X3_isSet (l : Launch) (D : va_G) (tc : Nat → ClassId) (sz : Nat) (ad : Nat → Nat) (ct : Nat → Option va_E) {k0 k1 N : Nat} {b cm : Int32} {ss g : Int64} {set : Int32} (h0 : ct k0 = some (.inr (3, [.ref (ad k1), .int (nI N), .int b, .long ss, .long g, .int cm]))) : Met l yX3_isSet wsX3_isSet ({ frames := 0, cells := 0, slots := 0, locals := 0 }) (va_Pc [.ref (ad k0), .int set] (kw_B D tc sz ad ct)) (k2_QcV (.int (kb (1 ≤ set ∧ set ≤ 1 <<< (nI N &&& 31) - 2)))) 0 0 (fun _ => False) := by
  refine Met.ofW (cc := cX3_isSet) (maxL := 2) (ret := (some .boolean)) (by decide) rfl ?_
  intro pg en s m args below meth cod s₁ B hml hv
  obtain ⟨rfl, hsz, hP0, hK⟩ := hv
  have hx := B.exec
  have hb := B.bytes
  have hr := B.returns
  have hts := atoms_spec (ws := wsX3_isSet) B.pre
  have hown : s.vm.findClass RX3 = some m.cls := findClass_of_methodNamed B.named
  have hlocks := B.notSynchronized
  subst hsz
  have hw := kw_H.start hP0
  generalize kw_A ad ct s.heap.size = A at hw
  have hinX3 : ∀ w ∈ wsX30, w ∈ wsX3_isSet := by decide +kernel
  have hl := lv_entry ([.ref (ad k0), .int set]) (n := 2) (Nat.le_of_ble_eq_true rfl)
  rw [lg_entry_eq]
  generalize (lg_sl ([.ref (ad k0), .int set]) ++ List.replicate (2 - (lg_sl ([.ref (ad k0), .int set])).length) Slot.unset).toArray = ls at hl ⊢
  have hl : lv_has ls 2 [(0, .ref (ad k0)), (1, .int set)] := hl
  have S0 : CallFix pg m cod cX3_isSet 2 s _ wsX3_isSet RX3 := ⟨hx, hb, hml, hown, hts⟩
  refine lv_iload_n hx hb dX3_isSet_0 rfl (lv_at hl 1 rfl) ?_
  refine lv_iconst (v := 1) hx hb dX3_isSet_1 (by decide) ?_
  refine lv_icmp_lt (tgt := 21) hx hb dX3_isSet_2 (by decide) (fun c_1 => ?_) (fun c_1 => ?_)
  · refine lv_iconst (v := 0) hx hb dX3_isSet_21 (by decide) ?_
    refine W.eq (congrArg (fun z => F0 m 22 ls [.int z]) (show 0 = (kb (1 ≤ set ∧ set ≤ 1 <<< (nI N &&& 31) - 2)) from by exact (kb_f (fun q => kq_3 c_1 q.1)).symm)) ?_
    exact W.zret hx hb hr kb_nar (fun t ht _ => ⟨rfl, ht⟩) (fun _ h => absurd h List.not_mem_nil) dX3_isSet_22
  · refine lv_iload_n hx hb dX3_isSet_5 rfl (lv_at hl 1 rfl) ?_
    refine lv_iconst (v := 1) hx hb dX3_isSet_6 (by decide) ?_
    refine lv_aload_n hx hb dX3_isSet_7 rfl (lv_at hl 0 rfl) ?_
    refine kg_get (v := .int (nI N)) (C := RX3) (T := TX3) (N := 6) hx hb hts hinX3 hown hK hw h0 rfl 1 (by decide) (hts (.fieldLink RX3 21 "BetMaker$Maker" "cases" "I") (by decide +kernel)) (fun _ h9 => h9) rfl dX3_isSet_8 ?_
    refine lv_ishl hx hb dX3_isSet_11 ?_
    refine lv_iconst (v := 2) hx hb dX3_isSet_12 (by decide) ?_
    refine lv_isub hx hb dX3_isSet_13 ?_
    refine lv_icmp_gt (tgt := 21) hx hb dX3_isSet_14 (by decide) (fun c_2 => ?_) (fun c_2 => ?_)
    · refine lv_iconst (v := 0) hx hb dX3_isSet_21 (by decide) ?_
      refine W.eq (congrArg (fun z => F0 m 22 ls [.int z]) (show 0 = (kb (1 ≤ set ∧ set ≤ 1 <<< (nI N &&& 31) - 2)) from by exact (kb_f (fun q => kq_3 c_2 q.2)).symm)) ?_
      exact W.zret hx hb hr kb_nar (fun t ht _ => ⟨rfl, ht⟩) (fun _ h => absurd h List.not_mem_nil) dX3_isSet_22
    · refine lv_iconst (v := 1) hx hb dX3_isSet_17 (by decide) ?_
      refine lv_goto (tgt := 22) hx hb dX3_isSet_18 (by decide) ?_
      refine W.eq (congrArg (fun z => F0 m 22 ls [.int z]) (show 1 = (kb (1 ≤ set ∧ set ≤ 1 <<< (nI N &&& 31) - 2)) from by exact (kb_t ⟨kq_1 c_1, kq_1 c_2⟩).symm)) ?_
      exact W.zret hx hb hr kb_nar (fun t ht _ => ⟨rfl, ht⟩) (fun _ h => absurd h List.not_mem_nil) dX3_isSet_22
set_option maxHeartbeats 4000000 in
set_option maxRecDepth 100000 in
theorem c_X3_soldOf (l : Launch) (D : va_G) (tc : Nat → ClassId) (sz : Nat) (ad : Nat → Nat) (ct : Nat → Option va_E) {k0 k1 N : Nat} {b cm : Int32} {ss g : Int64} {f : Nat → Int64} {c : Nat} (h0 : ct k0 = some (.inr (3, [.ref (ad k1), .int (nI N), .int b, .long ss, .long g, .int cm]))) (h1 : ct k1 = some (eJ tc 8 f)) (hc : c < N) (hN : N ≤ 8) : Met l yX3_soldOf wsX3_soldOf ({ frames := 1, cells := 0, slots := 0, locals := 25 }) (va_Pc [.ref (ad k0), .int (nI c)] (kw_B D tc sz ad ct)) (k2_QcV (.long (f c))) 0 0 (fun _ => False) := by
  refine Met.ofW (cc := cX3_soldOf) (maxL := 2) (ret := (some .long)) (by decide) rfl ?_
  intro pg en s m args below meth cod s₁ B hml hv
  obtain ⟨rfl, hsz, hP0, hK⟩ := hv
  have hx := B.exec
  have hb := B.bytes
  have hr := B.returns
  have hts := atoms_spec (ws := wsX3_soldOf) B.pre
  have hown : s.vm.findClass RX3 = some m.cls := findClass_of_methodNamed B.named
  have hlocks := B.notSynchronized
  subst hsz
  have hw := kw_H.start hP0
  generalize kw_A ad ct s.heap.size = A at hw
  have hinX3 : ∀ w ∈ wsX30, w ∈ wsX3_soldOf := by decide +kernel
  have hl := lv_entry ([.ref (ad k0), .int (nI c)]) (n := 2) (Nat.le_of_ble_eq_true rfl)
  rw [lg_entry_eq]
  generalize (lg_sl ([.ref (ad k0), .int (nI c)]) ++ List.replicate (2 - (lg_sl ([.ref (ad k0), .int (nI c)])).length) Slot.unset).toArray = ls at hl ⊢
  have hl : lv_has ls 2 [(0, .ref (ad k0)), (1, .int (nI c))] := hl
  have S0 : CallFix pg m cod cX3_soldOf 2 s _ wsX3_soldOf RX3 := ⟨hx, hb, hml, hown, hts⟩
  refine lv_aload_n hx hb dX3_soldOf_0 rfl (lv_at hl 0 rfl) ?_
  refine lv_iload_n hx hb dX3_soldOf_1 rfl (lv_at hl 1 rfl) ?_
  refine kc_v (As := [.int (nI c)]) (rest := []) S0 (c_X3_isCase l D tc s.heap.size ad ct (N := N) h0) (cwV 1 hts gX3_soldOf_X3_isCase rfl rfl rfl (by decide +kernel) ⟨Nat.le_of_ble_eq_true rfl, Nat.le_of_ble_eq_true rfl⟩) hK hw h0 rfl rfl hl.1 rfl (Nat.le_of_ble_eq_true rfl) dX3_soldOf_2 ⟨Nat.le_of_ble_eq_true rfl, (Nat.le_of_ble_eq_true rfl)⟩ ?_
  refine kb_ifeq (tgt := 23) hx hb dX3_soldOf_5 (by decide) (fun c_1 => ?_) (fun c_1 => ?_)
  · exact absurd ⟨nI_pos' (by omega), nI_lt hc (by omega)⟩ c_1
  · refine lv_iload_n hx hb dX3_soldOf_8 rfl (lv_at hl 1 rfl) ?_
    refine lv_bipush (v := 8) hx hb dX3_soldOf_9 (by decide) ?_
    refine kn_ge c 8 rfl rfl (by omega) (by omega) (tgt := 23) hx hb dX3_soldOf_11 (by decide) (fun c_2 => ?_) (fun c_2 => ?_)
    · exfalso; omega
    · refine lv_aload_n hx hb dX3_soldOf_14 rfl (lv_at hl 0 rfl) ?_
      refine kg_get (v := .ref (ad k1)) (C := RX3) (T := TX3) (N := 6) hx hb hts hinX3 hown hK hw h0 rfl 0 (by decide) (hts (.fieldLink RX3 9 "BetMaker$Maker" "sold" "[J") (by decide +kernel)) (fun _ h9 => h9) rfl dX3_soldOf_15 ?_
      refine lv_iload_n hx hb dX3_soldOf_18 rfl (lv_at hl 1 rfl) ?_
      refine kg_lald hx hb hK hw h1 c rfl (by omega) (by omega) dX3_soldOf_19 ?_
      refine lv_goto (tgt := 24) hx hb dX3_soldOf_20 (by decide) ?_
      exact W.lret hx hb hr (fun t ht _ => ⟨rfl, ht⟩) (fun _ h => absurd h List.not_mem_nil) dX3_soldOf_24
set_option maxHeartbeats 4000000 in
set_option maxRecDepth 100000 in
theorem c_X3_casePrice (l : Launch) (D : va_G) (tc : Nat → ClassId) (sz : Nat) (ad : Nat → Nat) (ct : Nat → Option va_E) {k0 k1 N : Nat} {b cm : Int32} {ss g : Int64} {f : Nat → Int64} {c : Nat} (h0 : ct k0 = some (.inr (3, [.ref (ad k1), .int (nI N), .int b, .long ss, .long g, .int cm]))) (h1 : ct k1 = some (eJ tc 8 f)) (hc : c < N) (hN : N ≤ 8) : Met l yX3_casePrice wsX3_casePrice ({ frames := 2, cells := 0, slots := 0, locals := 50 }) (va_Pc [.ref (ad k0), .int (nI c)] (kw_B D tc sz ad ct)) (k2_QcV (.long (kPr b N f ss c))) 0 0 (fun _ => False) := by
  refine Met.ofW (cc := cX3_casePrice) (maxL := 2) (ret := (some .long)) (by decide) rfl ?_
  intro pg en s m args below meth cod s₁ B hml hv
  obtain ⟨rfl, hsz, hP0, hK⟩ := hv
  have hx := B.exec
  have hb := B.bytes
  have hr := B.returns
  have hts := atoms_spec (ws := wsX3_casePrice) B.pre
  have hown : s.vm.findClass RX3 = some m.cls := findClass_of_methodNamed B.named
  have hlocks := B.notSynchronized
  subst hsz
  have hw := kw_H.start hP0
  generalize kw_A ad ct s.heap.size = A at hw
  have hinX3 : ∀ w ∈ wsX30, w ∈ wsX3_casePrice := by decide +kernel
  have hl := lv_entry ([.ref (ad k0), .int (nI c)]) (n := 2) (Nat.le_of_ble_eq_true rfl)
  rw [lg_entry_eq]
  generalize (lg_sl ([.ref (ad k0), .int (nI c)]) ++ List.replicate (2 - (lg_sl ([.ref (ad k0), .int (nI c)])).length) Slot.unset).toArray = ls at hl ⊢
  have hl : lv_has ls 2 [(0, .ref (ad k0)), (1, .int (nI c))] := hl
  have S0 : CallFix pg m cod cX3_casePrice 2 s _ wsX3_casePrice RX3 := ⟨hx, hb, hml, hown, hts⟩
  refine lv_ldc2 (v := 4) hx hb hown (hts (.constantLong RX3 38 (4)) (by decide +kernel)) dX3_casePrice_0 ?_
  refine lv_aload_n hx hb dX3_casePrice_3 rfl (lv_at hl 0 rfl) ?_
  refine kg_get (v := .int b) (C := RX3) (T := TX3) (N := 6) hx hb hts hinX3 hown hK hw h0 rfl 2 (by decide) (hts (.fieldLink RX3 25 "BetMaker$Maker" "breadth" "I") (by decide +kernel)) (fun _ h9 => h9) rfl dX3_casePrice_4 ?_
  refine lv_i2l (v := b.toInt64) hx hb dX3_casePrice_7 rfl ?_
  refine lv_lmul hx hb dX3_casePrice_8 ?_
  refine lv_ldc2 (v := 2) hx hb hown (hts (.constantLong RX3 44 (2)) (by decide +kernel)) dX3_casePrice_9 ?_
  refine lv_aload_n hx hb dX3_casePrice_12 rfl (lv_at hl 0 rfl) ?_
  refine kg_get (v := .int (nI N)) (C := RX3) (T := TX3) (N := 6) hx hb hts hinX3 hown hK hw h0 rfl 1 (by decide) (hts (.fieldLink RX3 21 "BetMaker$Maker" "cases" "I") (by decide +kernel)) (fun _ h9 => h9) rfl dX3_casePrice_13 ?_
  refine lv_i2l (v := (nI N).toInt64) hx hb dX3_casePrice_16 rfl ?_
  refine lv_aload_n hx hb dX3_casePrice_17 rfl (lv_at hl 0 rfl) ?_
  refine lv_iload_n hx hb dX3_casePrice_18 rfl (lv_at hl 1 rfl) ?_
  refine kc_v (As := [.int (nI c)]) (rest := [.long ((nI N).toInt64), .long 2, .long (4 * b.toInt64)]) S0 (c_X3_soldOf l D tc s.heap.size ad ct (c := c) (N := N) h0 h1 (by omega) (by omega)) (cwV 1 hts gX3_casePrice_X3_soldOf rfl rfl rfl (by decide +kernel) ⟨Nat.le_of_ble_eq_true rfl, Nat.le_of_ble_eq_true rfl⟩) hK hw h0 rfl rfl hl.1 rfl (Nat.le_of_ble_eq_true rfl) dX3_casePrice_19 ⟨Nat.le_of_ble_eq_true rfl, (Nat.le_of_ble_eq_true rfl)⟩ ?_
  refine lv_lmul hx hb dX3_casePrice_22 ?_
  refine lv_aload_n hx hb dX3_casePrice_23 rfl (lv_at hl 0 rfl) ?_
  refine kg_get (v := .long ss) (C := RX3) (T := TX3) (N := 6) hx hb hts hinX3 hown hK hw h0 rfl 3 (by decide) (hts (.fieldLink RX3 28 "BetMaker$Maker" "soldSum" "J") (by decide +kernel)) (fun _ h9 => h9) rfl dX3_casePrice_24 ?_
  refine lv_lsub hx hb dX3_casePrice_27 ?_
  refine lv_lmul hx hb dX3_casePrice_28 ?_
  refine lv_ladd hx hb dX3_casePrice_29 ?_
  refine W.eq (congrArg (fun z => F0 m 30 ls [.long z]) (show ((4 * b.toInt64) + (2 * ((((nI N).toInt64) * (f c)) - ss))) = (kPr b N f ss c) from by rfl)) ?_
  exact W.lret hx hb hr (fun t ht _ => ⟨rfl, ht⟩) (fun _ h => absurd h List.not_mem_nil) dX3_casePrice_30
set_option maxHeartbeats 4000000 in
set_option maxRecDepth 100000 in
theorem c_X3_setPrice (l : Launch) (D : va_G) (tc : Nat → ClassId) (sz : Nat) (ad : Nat → Nat) (ct : Nat → Option va_E) {k0 k1 N : Nat} {b cm : Int32} {ss g : Int64} {f : Nat → Int64} {set : Int32} (h0 : ct k0 = some (.inr (3, [.ref (ad k1), .int (nI N), .int b, .long ss, .long g, .int cm]))) (h1 : ct k1 = some (eJ tc 8 f)) (hN : N ≤ 8) : Met l yX3_setPrice wsX3_setPrice ({ frames := 3, cells := 0, slots := 0, locals := 75 }) (va_Pc [.ref (ad k0), .int set] (kw_B D tc sz ad ct)) (k2_QcV (.long (kSP b N f ss set))) 0 0 (fun _ => False) := by
  refine Met.ofW (cc := cX3_setPrice) (maxL := 5) (ret := (some .long)) (by decide) rfl ?_
  intro pg en s m args below meth cod s₁ B hml hv
  obtain ⟨rfl, hsz, hP0, hK⟩ := hv
  have hx := B.exec
  have hb := B.bytes
  have hr := B.returns
  have hts := atoms_spec (ws := wsX3_setPrice) B.pre
  have hown : s.vm.findClass RX3 = some m.cls := findClass_of_methodNamed B.named
  have hlocks := B.notSynchronized
  subst hsz
  have hw := kw_H.start hP0
  generalize kw_A ad ct s.heap.size = A at hw
  have hinX3 : ∀ w ∈ wsX30, w ∈ wsX3_setPrice := by decide +kernel
  have hl := lv_entry ([.ref (ad k0), .int set]) (n := 5) (Nat.le_of_ble_eq_true rfl)
  rw [lg_entry_eq]
  generalize (lg_sl ([.ref (ad k0), .int set]) ++ List.replicate (5 - (lg_sl ([.ref (ad k0), .int set])).length) Slot.unset).toArray = ls at hl ⊢
  have hl : lv_has ls 5 [(0, .ref (ad k0)), (1, .int set)] := hl
  have S0 : CallFix pg m cod cX3_setPrice 5 s _ wsX3_setPrice RX3 := ⟨hx, hb, hml, hown, hts⟩
  refine lv_lconst (v := 0) hx hb dX3_setPrice_0 (by decide) ?_
  refine lv_lstore_n (lv' := [(2, .long 0), (0, .ref (ad k0)), (1, .int set)]) hx hb dX3_setPrice_1 rfl hl (by decide) rfl (fun ls hl => ?_)
  refine lv_iconst (v := 0) hx hb dX3_setPrice_2 (by decide) ?_
  refine lv_istore (lv' := [(4, .int 0), (2, .long 0), (0, .ref (ad k0)), (1, .int set)]) hx hb dX3_setPrice_3 hl (by decide) rfl (fun ls hl => ?_)
  suffices lp5 : ∀ (nfu : Nat) (i : Nat) (acc : Int64) (ls : Array Slot), N - i < nfu → i ≤ N → acc = su (kIn set (kPr b N f ss)) i → lv_has ls 5 [(0, .ref (ad k0)), (1, .int set), (2, .long acc), (4, .int (nI i))] → W pg l en (headSpec wsX3_setPrice ({ frames := 3, cells := 0, slots := 0, locals := 75 })).room s m (([.ref (ad k0), .int set] : List Value).toArray) below meth cod s.heap [] 0 0 (MQ below (k2_QcV (.long (kSP b N f ss set))) (([.ref (ad k0), .int set] : List Value).toArray) s 0 0 (fun _ => False)) (F0 m 5 ls []) by
    exact lp5 (N - 0 + 1) 0 0 ls (by omega) (by omega) (by rfl) (by have hl9 := lv_sub hl (l' := [(0, .ref (ad k0)), (1, .int set), (2, .long 0), (4, .int 0)]) [2, 3, 1, 0] rfl; exact hl9)
  intro n5
  induction n5 with
  | zero => intro i acc ls hfu; exact absurd hfu (Nat.not_lt_zero _)
  | succ n5 ih5 =>
    intro i acc ls hfu5 hi ha hl
    refine lv_iload hx hb dX3_setPrice_5 (lv_at hl 3 rfl) ?_
    refine lv_aload_n hx hb dX3_setPrice_7 rfl (lv_at hl 0 rfl) ?_
    refine kg_get (v := .int (nI N)) (C := RX3) (T := TX3) (N := 6) hx hb hts hinX3 hown hK hw h0 rfl 1 (by decide) (hts (.fieldLink RX3 21 "BetMaker$Maker" "cases" "I") (by decide +kernel)) (fun _ h9 => h9) rfl dX3_setPrice_8 ?_
    refine kn_ge i N rfl rfl (by omega) (by omega) (tgt := 38) hx hb dX3_setPrice_11 (by decide) (fun c_1 => ?_) (fun c_1 => ?_)
    · refine lv_lload_n hx hb dX3_setPrice_38 rfl (lv_at hl 2 rfl) ?_
      refine W.eq (congrArg (fun z => F0 m 39 ls [.long z]) (show acc = (kSP b N f ss set) from by rw [ha, show i = N by omega]; rfl)) ?_
      exact W.lret hx hb hr (fun t ht _ => ⟨rfl, ht⟩) (fun _ h => absurd h List.not_mem_nil) dX3_setPrice_39
    · refine lv_iload_n hx hb dX3_setPrice_14 rfl (lv_at hl 1 rfl) ?_
      refine lv_iload hx hb dX3_setPrice_15 (lv_at hl 3 rfl) ?_
      refine kc_sn (As := [.int set, .int (nI i)]) (rest := []) S0 (c_X10_isIn l D tc s.heap.size ad ct (c := i) ) ⟨va_cnB 2 hts gX3_setPrice_X10_isIn_n50 rfl rfl rfl hK.2.2.1 (hts (.initialized RX10) (by decide +kernel)) (by decide +kernel) ⟨Nat.le_of_ble_eq_true rfl, Nat.le_of_ble_eq_true rfl⟩, hts (.static yX10_isIn) (by decide +kernel), trivial⟩ hK hw rfl hl.1 rfl (Nat.le_of_ble_eq_true rfl) dX3_setPrice_17 ⟨Nat.le_of_ble_eq_true rfl, (Nat.le_of_ble_eq_true rfl)⟩ ?_
      refine kb_ifeq (tgt := 32) hx hb dX3_setPrice_20 (by decide) (fun c_2 => ?_) (fun c_2 => ?_)
      · refine lv_iinc (v := (nI (i + 1))) (lv' := [(4, .int (nI (i + 1))), (0, .ref (ad k0)), (1, .int set), (2, .long acc)]) hx hb dX3_setPrice_32 hl (k := 3) rfl (nI_1 i) (by decide) rfl (fun ls hl => ?_)
        refine lv_goto (tgt := 5) hx hb dX3_setPrice_35 (by decide) ?_
        exact ih5 (i + 1) acc ls (by omega) (by omega) (by rw [ha]; exact su_o c_2) (lv_sub hl [1, 2, 3, 0] rfl)
      · refine lv_lload_n hx hb dX3_setPrice_23 rfl (lv_at hl 2 rfl) ?_
        refine lv_aload_n hx hb dX3_setPrice_24 rfl (lv_at hl 0 rfl) ?_
        refine lv_iload hx hb dX3_setPrice_25 (lv_at hl 3 rfl) ?_
        refine kc_v (As := [.int (nI i)]) (rest := [.long acc]) S0 (c_X3_casePrice l D tc s.heap.size ad ct (c := i) (N := N) h0 h1 (by omega) (by omega)) (cwV 1 hts gX3_setPrice_X3_casePrice rfl rfl rfl (by decide +kernel) ⟨Nat.le_of_ble_eq_true rfl, Nat.le_of_ble_eq_true rfl⟩) hK hw h0 rfl rfl hl.1 rfl (Nat.le_of_ble_eq_true rfl) dX3_setPrice_27 ⟨Nat.le_of_ble_eq_true rfl, (Nat.le_of_ble_eq_true rfl)⟩ ?_
        refine lv_ladd hx hb dX3_setPrice_30 ?_
        refine lv_lstore_n (lv' := [(2, .long (acc + (kPr b N f ss i))), (0, .ref (ad k0)), (1, .int set), (4, .int (nI i))]) hx hb dX3_setPrice_31 rfl hl (by decide) rfl (fun ls hl => ?_)
        refine lv_iinc (v := (nI (i + 1))) (lv' := [(4, .int (nI (i + 1))), (2, .long (acc + (kPr b N f ss i))), (0, .ref (ad k0)), (1, .int set)]) hx hb dX3_setPrice_32 hl (k := 3) rfl (nI_1 i) (by decide) rfl (fun ls hl => ?_)
        refine lv_goto (tgt := 5) hx hb dX3_setPrice_35 (by decide) ?_
        exact ih5 (i + 1) (acc + (kPr b N f ss i)) ls (by omega) (by omega) (by rw [ha]; exact su_i c_2) (lv_sub hl [2, 3, 1, 0] rfl)
set_option maxHeartbeats 4000000 in
set_option maxRecDepth 100000 in
theorem c_X3_level (l : Launch) (D : va_G) (tc : Nat → ClassId) (sz : Nat) (ad : Nat → Nat) (ct : Nat → Option va_E) {k0 k1 N : Nat} {b cm : Int32} {ss g : Int64} {f : Nat → Int64} (h0 : ct k0 = some (.inr (3, [.ref (ad k1), .int (nI N), .int b, .long ss, .long g, .int cm]))) (h1 : ct k1 = some (eJ tc 8 f)) (hN : N ≤ 8) : Met l yX3_level wsX3_level ({ frames := 2, cells := 0, slots := 0, locals := 50 }) (va_Pc [.ref (ad k0)] (kw_B D tc sz ad ct)) (k2_QcV (.long (4 * b.toInt64 * ss + (nI N).toInt64 * su (fun c => f c * f c) N - ss * ss))) 0 0 (fun _ => False) := by
  refine Met.ofW (cc := cX3_level) (maxL := 4) (ret := (some .long)) (by decide) rfl ?_
  intro pg en s m args below meth cod s₁ B hml hv
  obtain ⟨rfl, hsz, hP0, hK⟩ := hv
  have hx := B.exec
  have hb := B.bytes
  have hr := B.returns
  have hts := atoms_spec (ws := wsX3_level) B.pre
  have hown : s.vm.findClass RX3 = some m.cls := findClass_of_methodNamed B.named
  have hlocks := B.notSynchronized
  subst hsz
  have hw := kw_H.start hP0
  generalize kw_A ad ct s.heap.size = A at hw
  have hinX3 : ∀ w ∈ wsX30, w ∈ wsX3_level := by decide +kernel
  have hl := lv_entry ([.ref (ad k0)]) (n := 4) (Nat.le_of_ble_eq_true rfl)
  rw [lg_entry_eq]
  generalize (lg_sl ([.ref (ad k0)]) ++ List.replicate (4 - (lg_sl ([.ref (ad k0)])).length) Slot.unset).toArray = ls at hl ⊢
  have hl : lv_has ls 4 [(0, .ref (ad k0))] := hl
  have S0 : CallFix pg m cod cX3_level 4 s _ wsX3_level RX3 := ⟨hx, hb, hml, hown, hts⟩
  refine lv_lconst (v := 0) hx hb dX3_level_0 (by decide) ?_
  refine lv_lstore_n (lv' := [(1, .long 0), (0, .ref (ad k0))]) hx hb dX3_level_1 rfl hl (by decide) rfl (fun ls hl => ?_)
  refine lv_iconst (v := 0) hx hb dX3_level_2 (by decide) ?_
  refine lv_istore_n (lv' := [(3, .int 0), (1, .long 0), (0, .ref (ad k0))]) hx hb dX3_level_3 rfl hl (by decide) rfl (fun ls hl => ?_)
  suffices lp4 : ∀ (nfu : Nat) (i : Nat) (acc : Int64) (ls : Array Slot), N - i < nfu → i ≤ N → acc = su (fun c => f c * f c) i → lv_has ls 4 [(0, .ref (ad k0)), (1, .long acc), (3, .int (nI i))] → W pg l en (headSpec wsX3_level ({ frames := 2, cells := 0, slots := 0, locals := 50 })).room s m (([.ref (ad k0)] : List Value).toArray) below meth cod s.heap [] 0 0 (MQ below (k2_QcV (.long (4 * b.toInt64 * ss + (nI N).toInt64 * su (fun c => f c * f c) N - ss * ss))) (([.ref (ad k0)] : List Value).toArray) s 0 0 (fun _ => False)) (F0 m 4 ls []) by
    exact lp4 (N - 0 + 1) 0 0 ls (by omega) (by omega) (by rfl) (by have hl9 := lv_sub hl (l' := [(0, .ref (ad k0)), (1, .long 0), (3, .int 0)]) [2, 1, 0] rfl; exact hl9)
  intro n4
  induction n4 with
  | zero => intro i acc ls hfu; exact absurd hfu (Nat.not_lt_zero _)
  | succ n4 ih4 =>
    intro i acc ls hfu4 hi ha hl
    refine lv_iload_n hx hb dX3_level_4 rfl (lv_at hl 2 rfl) ?_
    refine lv_aload_n hx hb dX3_level_5 rfl (lv_at hl 0 rfl) ?_
    refine kg_get (v := .int (nI N)) (C := RX3) (T := TX3) (N := 6) hx hb hts hinX3 hown hK hw h0 rfl 1 (by decide) (hts (.fieldLink RX3 21 "BetMaker$Maker" "cases" "I") (by decide +kernel)) (fun _ h9 => h9) rfl dX3_level_6 ?_
    refine kn_ge i N rfl rfl (by omega) (by omega) (tgt := 32) hx hb dX3_level_9 (by decide) (fun c_1 => ?_) (fun c_1 => ?_)
    · refine lv_ldc2 (v := 4) hx hb hown (hts (.constantLong RX3 38 (4)) (by decide +kernel)) dX3_level_32 ?_
      refine lv_aload_n hx hb dX3_level_35 rfl (lv_at hl 0 rfl) ?_
      refine kg_get (v := .int b) (C := RX3) (T := TX3) (N := 6) hx hb hts hinX3 hown hK hw h0 rfl 2 (by decide) (hts (.fieldLink RX3 25 "BetMaker$Maker" "breadth" "I") (by decide +kernel)) (fun _ h9 => h9) rfl dX3_level_36 ?_
      refine lv_i2l (v := b.toInt64) hx hb dX3_level_39 rfl ?_
      refine lv_lmul hx hb dX3_level_40 ?_
      refine lv_aload_n hx hb dX3_level_41 rfl (lv_at hl 0 rfl) ?_
      refine kg_get (v := .long ss) (C := RX3) (T := TX3) (N := 6) hx hb hts hinX3 hown hK hw h0 rfl 3 (by decide) (hts (.fieldLink RX3 28 "BetMaker$Maker" "soldSum" "J") (by decide +kernel)) (fun _ h9 => h9) rfl dX3_level_42 ?_
      refine lv_lmul hx hb dX3_level_45 ?_
      refine lv_aload_n hx hb dX3_level_46 rfl (lv_at hl 0 rfl) ?_
      refine kg_get (v := .int (nI N)) (C := RX3) (T := TX3) (N := 6) hx hb hts hinX3 hown hK hw h0 rfl 1 (by decide) (hts (.fieldLink RX3 21 "BetMaker$Maker" "cases" "I") (by decide +kernel)) (fun _ h9 => h9) rfl dX3_level_47 ?_
      refine lv_i2l (v := (nI N).toInt64) hx hb dX3_level_50 rfl ?_
      refine lv_lload_n hx hb dX3_level_51 rfl (lv_at hl 1 rfl) ?_
      refine lv_lmul hx hb dX3_level_52 ?_
      refine lv_ladd hx hb dX3_level_53 ?_
      refine lv_aload_n hx hb dX3_level_54 rfl (lv_at hl 0 rfl) ?_
      refine kg_get (v := .long ss) (C := RX3) (T := TX3) (N := 6) hx hb hts hinX3 hown hK hw h0 rfl 3 (by decide) (hts (.fieldLink RX3 28 "BetMaker$Maker" "soldSum" "J") (by decide +kernel)) (fun _ h9 => h9) rfl dX3_level_55 ?_
      refine lv_aload_n hx hb dX3_level_58 rfl (lv_at hl 0 rfl) ?_
      refine kg_get (v := .long ss) (C := RX3) (T := TX3) (N := 6) hx hb hts hinX3 hown hK hw h0 rfl 3 (by decide) (hts (.fieldLink RX3 28 "BetMaker$Maker" "soldSum" "J") (by decide +kernel)) (fun _ h9 => h9) rfl dX3_level_59 ?_
      refine lv_lmul hx hb dX3_level_62 ?_
      refine lv_lsub hx hb dX3_level_63 ?_
      refine W.eq (congrArg (fun z => F0 m 64 ls [.long z]) (show ((((4 * b.toInt64) * ss) + (((nI N).toInt64) * acc)) - (ss * ss)) = (4 * b.toInt64 * ss + (nI N).toInt64 * su (fun c => f c * f c) N - ss * ss) from by rw [ha, show i = N by omega])) ?_
      exact W.lret hx hb hr (fun t ht _ => ⟨rfl, ht⟩) (fun _ h => absurd h List.not_mem_nil) dX3_level_64
    · refine lv_lload_n hx hb dX3_level_12 rfl (lv_at hl 1 rfl) ?_
      refine lv_aload_n hx hb dX3_level_13 rfl (lv_at hl 0 rfl) ?_
      refine lv_iload_n hx hb dX3_level_14 rfl (lv_at hl 2 rfl) ?_
      refine kc_v (As := [.int (nI i)]) (rest := [.long acc]) S0 (c_X3_soldOf l D tc s.heap.size ad ct (c := i) (N := N) h0 h1 (by omega) (by omega)) (cwV 1 hts gX3_level_X3_soldOf rfl rfl rfl (by decide +kernel) ⟨Nat.le_of_ble_eq_true rfl, Nat.le_of_ble_eq_true rfl⟩) hK hw h0 rfl rfl hl.1 rfl (Nat.le_of_ble_eq_true rfl) dX3_level_15 ⟨Nat.le_of_ble_eq_true rfl, (Nat.le_of_ble_eq_true rfl)⟩ ?_
      refine lv_aload_n hx hb dX3_level_18 rfl (lv_at hl 0 rfl) ?_
      refine lv_iload_n hx hb dX3_level_19 rfl (lv_at hl 2 rfl) ?_
      refine kc_v (As := [.int (nI i)]) (rest := [.long (f i), .long acc]) S0 (c_X3_soldOf l D tc s.heap.size ad ct (c := i) (N := N) h0 h1 (by omega) (by omega)) (cwV 1 hts gX3_level_X3_soldOf rfl rfl rfl (by decide +kernel) ⟨Nat.le_of_ble_eq_true rfl, Nat.le_of_ble_eq_true rfl⟩) hK hw h0 rfl rfl hl.1 rfl (Nat.le_of_ble_eq_true rfl) dX3_level_20 ⟨Nat.le_of_ble_eq_true rfl, (Nat.le_of_ble_eq_true rfl)⟩ ?_
      refine lv_lmul hx hb dX3_level_23 ?_
      refine lv_ladd hx hb dX3_level_24 ?_
      refine lv_lstore_n (lv' := [(1, .long (acc + ((f i) * (f i)))), (0, .ref (ad k0)), (3, .int (nI i))]) hx hb dX3_level_25 rfl hl (by decide) rfl (fun ls hl => ?_)
      refine lv_iinc (v := (nI (i + 1))) (lv' := [(3, .int (nI (i + 1))), (1, .long (acc + ((f i) * (f i)))), (0, .ref (ad k0))]) hx hb dX3_level_26 hl (k := 2) rfl (nI_1 i) (by decide) rfl (fun ls hl => ?_)
      refine lv_goto (tgt := 4) hx hb dX3_level_29 (by decide) ?_
      exact ih4 (i + 1) (acc + ((f i) * (f i))) ls (by omega) (by omega) (by rw [su, ← ha]) (lv_sub hl [2, 1, 0] rfl)
set_option maxHeartbeats 4000000 in
set_option maxRecDepth 100000 in
theorem c_X3_cost (l : Launch) (D : va_G) (tc : Nat → ClassId) (sz : Nat) (ad : Nat → Nat) (ct : Nat → Option va_E) {k0 k1 N : Nat} {b cm : Int32} {ss g : Int64} {f : Nat → Int64} {set x : Int32} (h0 : ct k0 = some (.inr (3, [.ref (ad k1), .int (nI N), .int b, .long ss, .long g, .int cm]))) (h1 : ct k1 = some (eJ tc 8 f)) (hN : N ≤ 8) : Met l yX3_cost wsX3_cost ({ frames := 4, cells := 0, slots := 0, locals := 103 }) (va_Pc [.ref (ad k0), .int set, .int x] (kw_B D tc sz ad ct)) (k2_QcV (.long (kCost b N f ss set x))) 0 0 (fun _ => False) := by
  refine Met.ofW (cc := cX3_cost) (maxL := 5) (ret := (some .long)) (by decide) rfl ?_
  intro pg en s m args below meth cod s₁ B hml hv
  obtain ⟨rfl, hsz, hP0, hK⟩ := hv
  have hx := B.exec
  have hb := B.bytes
  have hr := B.returns
  have hts := atoms_spec (ws := wsX3_cost) B.pre
  have hown : s.vm.findClass RX3 = some m.cls := findClass_of_methodNamed B.named
  have hlocks := B.notSynchronized
  subst hsz
  have hw := kw_H.start hP0
  generalize kw_A ad ct s.heap.size = A at hw
  have hinX3 : ∀ w ∈ wsX30, w ∈ wsX3_cost := by decide +kernel
  have hl := lv_entry ([.ref (ad k0), .int set, .int x]) (n := 5) (Nat.le_of_ble_eq_true rfl)
  rw [lg_entry_eq]
  generalize (lg_sl ([.ref (ad k0), .int set, .int x]) ++ List.replicate (5 - (lg_sl ([.ref (ad k0), .int set, .int x])).length) Slot.unset).toArray = ls at hl ⊢
  have hl : lv_has ls 5 [(0, .ref (ad k0)), (1, .int set), (2, .int x)] := hl
  have S0 : CallFix pg m cod cX3_cost 5 s _ wsX3_cost RX3 := ⟨hx, hb, hml, hown, hts⟩
  refine lv_iload_n hx hb dX3_cost_0 rfl (lv_at hl 1 rfl) ?_
  refine kc_s (As := [.int set]) (rest := []) S0 (c_J6_bitCount_0f7a4 l D tc s.heap.size ad ct ) (va_cwS 1 hts gX3_cost_J6_bitCount_0f7a4 rfl rfl rfl (by decide +kernel) ⟨Nat.le_of_ble_eq_true rfl, Nat.le_of_ble_eq_true rfl⟩) hK hw rfl hl.1 rfl (Nat.le_of_ble_eq_true rfl) dX3_cost_1 ⟨Nat.le_of_ble_eq_true rfl, (Nat.le_of_ble_eq_true rfl)⟩ ?_
  refine lv_i2l (v := (kBC set).toInt64) hx hb dX3_cost_4 rfl ?_
  refine lv_lstore_n (lv' := [(3, .long ((kBC set).toInt64)), (0, .ref (ad k0)), (1, .int set), (2, .int x)]) hx hb dX3_cost_5 rfl hl (by decide) rfl (fun ls hl => ?_)
  refine lv_iload_n hx hb dX3_cost_6 rfl (lv_at hl 3 rfl) ?_
  refine lv_i2l (v := x.toInt64) hx hb dX3_cost_7 rfl ?_
  refine lv_aload_n hx hb dX3_cost_8 rfl (lv_at hl 1 rfl) ?_
  refine lv_iload_n hx hb dX3_cost_9 rfl (lv_at hl 2 rfl) ?_
  refine kc_v (As := [.int set]) (rest := [.long x.toInt64]) S0 (c_X3_setPrice l D tc s.heap.size ad ct (N := N) h0 h1 (by omega)) (cwV 1 hts gX3_cost_X3_setPrice rfl rfl rfl (by decide +kernel) ⟨Nat.le_of_ble_eq_true rfl, Nat.le_of_ble_eq_true rfl⟩) hK hw h0 rfl rfl hl.1 rfl (Nat.le_of_ble_eq_true rfl) dX3_cost_10 ⟨Nat.le_of_ble_eq_true rfl, (Nat.le_of_ble_eq_true rfl)⟩ ?_
  refine lv_lmul hx hb dX3_cost_13 ?_
  refine lv_lload_n hx hb dX3_cost_14 rfl (lv_at hl 0 rfl) ?_
  refine lv_aload_n hx hb dX3_cost_15 rfl (lv_at hl 1 rfl) ?_
  refine kg_get (v := .int (nI N)) (C := RX3) (T := TX3) (N := 6) hx hb hts hinX3 hown hK hw h0 rfl 1 (by decide) (hts (.fieldLink RX3 21 "BetMaker$Maker" "cases" "I") (by decide +kernel)) (fun _ h9 => h9) rfl dX3_cost_16 ?_
  refine lv_i2l (v := (nI N).toInt64) hx hb dX3_cost_19 rfl ?_
  refine lv_lload_n hx hb dX3_cost_20 rfl (lv_at hl 0 rfl) ?_
  refine lv_lsub hx hb dX3_cost_21 ?_
  refine lv_lmul hx hb dX3_cost_22 ?_
  refine lv_iload_n hx hb dX3_cost_23 rfl (lv_at hl 3 rfl) ?_
  refine lv_i2l (v := x.toInt64) hx hb dX3_cost_24 rfl ?_
  refine lv_lmul hx hb dX3_cost_25 ?_
  refine lv_iload_n hx hb dX3_cost_26 rfl (lv_at hl 3 rfl) ?_
  refine lv_i2l (v := x.toInt64) hx hb dX3_cost_27 rfl ?_
  refine lv_lmul hx hb dX3_cost_28 ?_
  refine lv_ladd hx hb dX3_cost_29 ?_
  refine W.eq (congrArg (fun z => F0 m 30 ls [.long z]) (show ((x.toInt64 * (kSP b N f ss set)) + (((((kBC set).toInt64) * (((nI N).toInt64) - ((kBC set).toInt64))) * x.toInt64) * x.toInt64)) = (kCost b N f ss set x) from by rfl)) ?_
  exact W.lret hx hb hr (fun t ht _ => ⟨rfl, ht⟩) (fun _ h => absurd h List.not_mem_nil) dX3_cost_30
set_option maxHeartbeats 4000000 in
set_option maxRecDepth 100000 in
theorem c_X3_allowsPrices (l : Launch) (D : va_G) (tc : Nat → ClassId) (sz : Nat) (ad : Nat → Nat) (ct : Nat → Option va_E) {k0 k1 N : Nat} {b cm : Int32} {ss g : Int64} {f : Nat → Int64} {set x : Int32} (h0 : ct k0 = some (.inr (3, [.ref (ad k1), .int (nI N), .int b, .long ss, .long g, .int cm]))) (h1 : ct k1 = some (eJ tc 8 f)) (hN : N ≤ 8) : Met l yX3_allowsPrices wsX3_allowsPrices ({ frames := 3, cells := 0, slots := 0, locals := 75 }) (va_Pc [.ref (ad k0), .int set, .int x] (kw_B D tc sz ad ct)) (k2_QcV (.int (kb (kall (kAl b N f ss set x) N = true)))) 0 0 (fun _ => False) := by
  refine Met.ofW (cc := cX3_allowsPrices) (maxL := 10) (ret := (some .boolean)) (by decide) rfl ?_
  intro pg en s m args below meth cod s₁ B hml hv
  obtain ⟨rfl, hsz, hP0, hK⟩ := hv
  have hx := B.exec
  have hb := B.bytes
  have hr := B.returns
  have hts := atoms_spec (ws := wsX3_allowsPrices) B.pre
  have hown : s.vm.findClass RX3 = some m.cls := findClass_of_methodNamed B.named
  have hlocks := B.notSynchronized
  subst hsz
  have hw := kw_H.start hP0
  generalize kw_A ad ct s.heap.size = A at hw
  have hinX3 : ∀ w ∈ wsX30, w ∈ wsX3_allowsPrices := by decide +kernel
  have hl := lv_entry ([.ref (ad k0), .int set, .int x]) (n := 10) (Nat.le_of_ble_eq_true rfl)
  rw [lg_entry_eq]
  generalize (lg_sl ([.ref (ad k0), .int set, .int x]) ++ List.replicate (10 - (lg_sl ([.ref (ad k0), .int set, .int x])).length) Slot.unset).toArray = ls at hl ⊢
  have hl : lv_has ls 10 [(0, .ref (ad k0)), (1, .int set), (2, .int x)] := hl
  have S0 : CallFix pg m cod cX3_allowsPrices 10 s _ wsX3_allowsPrices RX3 := ⟨hx, hb, hml, hown, hts⟩
  refine lv_iload_n hx hb dX3_allowsPrices_0 rfl (lv_at hl 1 rfl) ?_
  refine kc_s (As := [.int set]) (rest := []) S0 (c_J6_bitCount_0f7a4 l D tc s.heap.size ad ct ) (va_cwS 1 hts gX3_allowsPrices_J6_bitCount_0f7a4 rfl rfl rfl (by decide +kernel) ⟨Nat.le_of_ble_eq_true rfl, Nat.le_of_ble_eq_true rfl⟩) hK hw rfl hl.1 rfl (Nat.le_of_ble_eq_true rfl) dX3_allowsPrices_1 ⟨Nat.le_of_ble_eq_true rfl, (Nat.le_of_ble_eq_true rfl)⟩ ?_
  refine lv_i2l (v := (kBC set).toInt64) hx hb dX3_allowsPrices_4 rfl ?_
  refine lv_iload_n hx hb dX3_allowsPrices_5 rfl (lv_at hl 2 rfl) ?_
  refine lv_i2l (v := x.toInt64) hx hb dX3_allowsPrices_6 rfl ?_
  refine lv_lmul hx hb dX3_allowsPrices_7 ?_
  refine lv_lstore_n (lv' := [(3, .long (((kBC set).toInt64) * x.toInt64)), (0, .ref (ad k0)), (1, .int set), (2, .int x)]) hx hb dX3_allowsPrices_8 rfl hl (by decide) rfl (fun ls hl => ?_)
  refine lv_iconst (v := 0) hx hb dX3_allowsPrices_9 (by decide) ?_
  refine lv_istore (lv' := [(5, .int 0), (3, .long (((kBC set).toInt64) * x.toInt64)), (0, .ref (ad k0)), (1, .int set), (2, .int x)]) hx hb dX3_allowsPrices_10 hl (by decide) rfl (fun ls hl => ?_)
  suffices lp12 : ∀ (nfu : Nat) (i : Nat) (ls : Array Slot), N - i < nfu → i ≤ N → kall (kAl b N f ss set x) i = true → lv_has ls 10 [(0, .ref (ad k0)), (1, .int set), (2, .int x), (3, .long ((kBC set).toInt64 * x.toInt64)), (5, .int (nI i))] → W pg l en (headSpec wsX3_allowsPrices ({ frames := 3, cells := 0, slots := 0, locals := 75 })).room s m (([.ref (ad k0), .int set, .int x] : List Value).toArray) below meth cod s.heap [] 0 0 (MQ below (k2_QcV (.int (kb (kall (kAl b N f ss set x) N = true)))) (([.ref (ad k0), .int set, .int x] : List Value).toArray) s 0 0 (fun _ => False)) (F0 m 12 ls []) by
    exact lp12 (N - 0 + 1) 0 ls (by omega) (by omega) (by rfl) (by have hl9 := lv_sub hl (l' := [(0, .ref (ad k0)), (1, .int set), (2, .int x), (3, .long (((kBC set).toInt64) * x.toInt64)), (5, .int 0)]) [2, 3, 4, 1, 0] rfl; exact hl9)
  intro n12
  induction n12 with
  | zero => intro i ls hfu; exact absurd hfu (Nat.not_lt_zero _)
  | succ n12 ih12 =>
    intro i ls hfu12 hi ha hl
    refine lv_iload hx hb dX3_allowsPrices_12 (lv_at hl 4 rfl) ?_
    refine lv_aload_n hx hb dX3_allowsPrices_14 rfl (lv_at hl 0 rfl) ?_
    refine kg_get (v := .int (nI N)) (C := RX3) (T := TX3) (N := 6) hx hb hts hinX3 hown hK hw h0 rfl 1 (by decide) (hts (.fieldLink RX3 21 "BetMaker$Maker" "cases" "I") (by decide +kernel)) (fun _ h9 => h9) rfl dX3_allowsPrices_15 ?_
    refine kn_ge i N rfl rfl (by omega) (by omega) (tgt := 86) hx hb dX3_allowsPrices_18 (by decide) (fun c_1 => ?_) (fun c_1 => ?_)
    · refine lv_iconst (v := 1) hx hb dX3_allowsPrices_86 (by decide) ?_
      refine W.eq (congrArg (fun z => F0 m 87 ls [.int z]) (show 1 = (kb (kall (kAl b N f ss set x) N = true)) from by exact (kb_t (by rw [← ha, show i = N by omega])).symm)) ?_
      exact W.zret hx hb hr kb_nar (fun t ht _ => ⟨rfl, ht⟩) (fun _ h => absurd h List.not_mem_nil) dX3_allowsPrices_87
    · refine lv_iload_n hx hb dX3_allowsPrices_21 rfl (lv_at hl 1 rfl) ?_
      refine lv_iload hx hb dX3_allowsPrices_22 (lv_at hl 4 rfl) ?_
      refine kc_sn (As := [.int set, .int (nI i)]) (rest := []) S0 (c_X10_isIn l D tc s.heap.size ad ct (c := i) ) ⟨va_cnB 2 hts gX3_allowsPrices_X10_isIn_n50 rfl rfl rfl hK.2.2.1 (hts (.initialized RX10) (by decide +kernel)) (by decide +kernel) ⟨Nat.le_of_ble_eq_true rfl, Nat.le_of_ble_eq_true rfl⟩, hts (.static yX10_isIn) (by decide +kernel), trivial⟩ hK hw rfl hl.1 rfl (Nat.le_of_ble_eq_true rfl) dX3_allowsPrices_24 ⟨Nat.le_of_ble_eq_true rfl, (Nat.le_of_ble_eq_true rfl)⟩ ?_
      refine kb_ifeq (tgt := 35) hx hb dX3_allowsPrices_27 (by decide) (fun c_2 => ?_) (fun c_2 => ?_)
      · refine lv_lconst (v := 0) hx hb dX3_allowsPrices_35 (by decide) ?_
        refine lv_lstore (lv' := [(6, .long 0), (0, .ref (ad k0)), (1, .int set), (2, .int x), (3, .long ((kBC set).toInt64 * x.toInt64)), (5, .int (nI i))]) hx hb dX3_allowsPrices_36 hl (by decide) rfl (fun ls hl => ?_)
        refine lv_aload_n hx hb dX3_allowsPrices_38 rfl (lv_at hl 1 rfl) ?_
        refine lv_iload hx hb dX3_allowsPrices_39 (lv_at hl 5 rfl) ?_
        refine kc_v (As := [.int (nI i)]) (rest := []) S0 (c_X3_casePrice l D tc s.heap.size ad ct (c := i) (N := N) h0 h1 (by omega) (by omega)) (cwV 1 hts gX3_allowsPrices_X3_casePrice rfl rfl rfl (by decide +kernel) ⟨Nat.le_of_ble_eq_true rfl, Nat.le_of_ble_eq_true rfl⟩) hK hw h0 rfl rfl hl.1 rfl (Nat.le_of_ble_eq_true rfl) dX3_allowsPrices_41 ⟨Nat.le_of_ble_eq_true rfl, (Nat.le_of_ble_eq_true rfl)⟩ ?_
        refine lv_ldc2 (v := 2) hx hb hown (hts (.constantLong RX3 44 (2)) (by decide +kernel)) dX3_allowsPrices_44 ?_
        refine lv_aload_n hx hb dX3_allowsPrices_47 rfl (lv_at hl 1 rfl) ?_
        refine kg_get (v := .int (nI N)) (C := RX3) (T := TX3) (N := 6) hx hb hts hinX3 hown hK hw h0 rfl 1 (by decide) (hts (.fieldLink RX3 21 "BetMaker$Maker" "cases" "I") (by decide +kernel)) (fun _ h9 => h9) rfl dX3_allowsPrices_48 ?_
        refine lv_i2l (v := (nI N).toInt64) hx hb dX3_allowsPrices_51 rfl ?_
        refine lv_lload hx hb dX3_allowsPrices_52 (lv_at hl 0 rfl) ?_
        refine lv_lmul hx hb dX3_allowsPrices_54 ?_
        refine lv_lload_n hx hb dX3_allowsPrices_55 rfl (lv_at hl 4 rfl) ?_
        refine lv_lsub hx hb dX3_allowsPrices_56 ?_
        refine lv_lmul hx hb dX3_allowsPrices_57 ?_
        refine lv_ladd hx hb dX3_allowsPrices_58 ?_
        refine lv_lstore (lv' := [(8, .long ((kPr b N f ss i) + (2 * ((((nI N).toInt64) * 0) - ((kBC set).toInt64 * x.toInt64))))), (6, .long 0), (0, .ref (ad k0)), (1, .int set), (2, .int x), (3, .long ((kBC set).toInt64 * x.toInt64)), (5, .int (nI i))]) hx hb dX3_allowsPrices_59 hl (by decide) rfl (fun ls hl => ?_)
        refine lv_lload hx hb dX3_allowsPrices_61 (lv_at hl 0 rfl) ?_
        refine lv_lconst (v := 0) hx hb dX3_allowsPrices_63 (by decide) ?_
        refine W.lcmp hx hb dX3_allowsPrices_64 ?_
        refine kl_lt (tgt := 78) hx hb dX3_allowsPrices_65 (by decide) (fun c_3 => ?_) (fun c_3 => ?_)
        · refine lv_iconst (v := 0) hx hb dX3_allowsPrices_78 (by decide) ?_
          refine W.eq (congrArg (fun z => F0 m 79 ls [.int z]) (show 0 = (kb (kall (kAl b N f ss set x) N = true)) from by exact (kb_f (fun q => kAl_f (if_neg c_2).symm (Or.inl c_3) ((kall_iff.mp q) i (by omega)))).symm)) ?_
          exact W.zret hx hb hr kb_nar (fun t ht _ => ⟨rfl, ht⟩) (fun _ h => absurd h List.not_mem_nil) dX3_allowsPrices_79
        · refine lv_lload hx hb dX3_allowsPrices_68 (lv_at hl 0 rfl) ?_
          refine lv_aload_n hx hb dX3_allowsPrices_70 rfl (lv_at hl 2 rfl) ?_
          refine kc_v (As := []) (rest := [.long ((kPr b N f ss i) + (2 * ((((nI N).toInt64) * 0) - ((kBC set).toInt64 * x.toInt64))))]) S0 (c_X3_unit l D tc s.heap.size ad ct (N := N) h0) (cwV 0 hts gX3_allowsPrices_X3_unit rfl rfl rfl (by decide +kernel) ⟨Nat.le_of_ble_eq_true rfl, Nat.le_of_ble_eq_true rfl⟩) hK hw h0 rfl rfl hl.1 rfl (Nat.le_of_ble_eq_true rfl) dX3_allowsPrices_71 ⟨Nat.le_of_ble_eq_true rfl, (Nat.le_of_ble_eq_true rfl)⟩ ?_
          refine W.lcmp hx hb dX3_allowsPrices_74 ?_
          refine kl_le (tgt := 80) hx hb dX3_allowsPrices_75 (by decide) (fun c_4 => ?_) (fun c_4 => ?_)
          · refine lv_iinc (v := (nI (i + 1))) (lv' := [(5, .int (nI (i + 1))), (8, .long ((kPr b N f ss i) + (2 * ((((nI N).toInt64) * 0) - ((kBC set).toInt64 * x.toInt64))))), (6, .long 0), (0, .ref (ad k0)), (1, .int set), (2, .int x), (3, .long ((kBC set).toInt64 * x.toInt64))]) hx hb dX3_allowsPrices_80 hl (k := 6) rfl (nI_1 i) (by decide) rfl (fun ls hl => ?_)
            refine lv_goto (tgt := 12) hx hb dX3_allowsPrices_83 (by decide) ?_
            exact ih12 (i + 1) ls (by omega) (by omega) (by exact kall_s ha (kAl_t (if_neg c_2).symm c_3 c_4)) (lv_sub hl [3, 4, 5, 6, 0] rfl)
          · refine lv_iconst (v := 0) hx hb dX3_allowsPrices_78 (by decide) ?_
            refine W.eq (congrArg (fun z => F0 m 79 ls [.int z]) (show 0 = (kb (kall (kAl b N f ss set x) N = true)) from by exact (kb_f (fun q => kAl_f (if_neg c_2).symm (Or.inr c_4) ((kall_iff.mp q) i (by omega)))).symm)) ?_
            exact W.zret hx hb hr kb_nar (fun t ht _ => ⟨rfl, ht⟩) (fun _ h => absurd h List.not_mem_nil) dX3_allowsPrices_79
      · refine lv_iload_n hx hb dX3_allowsPrices_30 rfl (lv_at hl 2 rfl) ?_
        refine lv_i2l (v := x.toInt64) hx hb dX3_allowsPrices_31 rfl ?_
        refine lv_goto (tgt := 36) hx hb dX3_allowsPrices_32 (by decide) ?_
        refine lv_lstore (lv' := [(6, .long x.toInt64), (0, .ref (ad k0)), (1, .int set), (2, .int x), (3, .long ((kBC set).toInt64 * x.toInt64)), (5, .int (nI i))]) hx hb dX3_allowsPrices_36 hl (by decide) rfl (fun ls hl => ?_)
        refine lv_aload_n hx hb dX3_allowsPrices_38 rfl (lv_at hl 1 rfl) ?_
        refine lv_iload hx hb dX3_allowsPrices_39 (lv_at hl 5 rfl) ?_
        refine kc_v (As := [.int (nI i)]) (rest := []) S0 (c_X3_casePrice l D tc s.heap.size ad ct (c := i) (N := N) h0 h1 (by omega) (by omega)) (cwV 1 hts gX3_allowsPrices_X3_casePrice rfl rfl rfl (by decide +kernel) ⟨Nat.le_of_ble_eq_true rfl, Nat.le_of_ble_eq_true rfl⟩) hK hw h0 rfl rfl hl.1 rfl (Nat.le_of_ble_eq_true rfl) dX3_allowsPrices_41 ⟨Nat.le_of_ble_eq_true rfl, (Nat.le_of_ble_eq_true rfl)⟩ ?_
        refine lv_ldc2 (v := 2) hx hb hown (hts (.constantLong RX3 44 (2)) (by decide +kernel)) dX3_allowsPrices_44 ?_
        refine lv_aload_n hx hb dX3_allowsPrices_47 rfl (lv_at hl 1 rfl) ?_
        refine kg_get (v := .int (nI N)) (C := RX3) (T := TX3) (N := 6) hx hb hts hinX3 hown hK hw h0 rfl 1 (by decide) (hts (.fieldLink RX3 21 "BetMaker$Maker" "cases" "I") (by decide +kernel)) (fun _ h9 => h9) rfl dX3_allowsPrices_48 ?_
        refine lv_i2l (v := (nI N).toInt64) hx hb dX3_allowsPrices_51 rfl ?_
        refine lv_lload hx hb dX3_allowsPrices_52 (lv_at hl 0 rfl) ?_
        refine lv_lmul hx hb dX3_allowsPrices_54 ?_
        refine lv_lload_n hx hb dX3_allowsPrices_55 rfl (lv_at hl 4 rfl) ?_
        refine lv_lsub hx hb dX3_allowsPrices_56 ?_
        refine lv_lmul hx hb dX3_allowsPrices_57 ?_
        refine lv_ladd hx hb dX3_allowsPrices_58 ?_
        refine lv_lstore (lv' := [(8, .long ((kPr b N f ss i) + (2 * ((((nI N).toInt64) * x.toInt64) - ((kBC set).toInt64 * x.toInt64))))), (6, .long x.toInt64), (0, .ref (ad k0)), (1, .int set), (2, .int x), (3, .long ((kBC set).toInt64 * x.toInt64)), (5, .int (nI i))]) hx hb dX3_allowsPrices_59 hl (by decide) rfl (fun ls hl => ?_)
        refine lv_lload hx hb dX3_allowsPrices_61 (lv_at hl 0 rfl) ?_
        refine lv_lconst (v := 0) hx hb dX3_allowsPrices_63 (by decide) ?_
        refine W.lcmp hx hb dX3_allowsPrices_64 ?_
        refine kl_lt (tgt := 78) hx hb dX3_allowsPrices_65 (by decide) (fun c_5 => ?_) (fun c_5 => ?_)
        · refine lv_iconst (v := 0) hx hb dX3_allowsPrices_78 (by decide) ?_
          refine W.eq (congrArg (fun z => F0 m 79 ls [.int z]) (show 0 = (kb (kall (kAl b N f ss set x) N = true)) from by exact (kb_f (fun q => kAl_f (if_pos c_2).symm (Or.inl c_5) ((kall_iff.mp q) i (by omega)))).symm)) ?_
          exact W.zret hx hb hr kb_nar (fun t ht _ => ⟨rfl, ht⟩) (fun _ h => absurd h List.not_mem_nil) dX3_allowsPrices_79
        · refine lv_lload hx hb dX3_allowsPrices_68 (lv_at hl 0 rfl) ?_
          refine lv_aload_n hx hb dX3_allowsPrices_70 rfl (lv_at hl 2 rfl) ?_
          refine kc_v (As := []) (rest := [.long ((kPr b N f ss i) + (2 * ((((nI N).toInt64) * x.toInt64) - ((kBC set).toInt64 * x.toInt64))))]) S0 (c_X3_unit l D tc s.heap.size ad ct (N := N) h0) (cwV 0 hts gX3_allowsPrices_X3_unit rfl rfl rfl (by decide +kernel) ⟨Nat.le_of_ble_eq_true rfl, Nat.le_of_ble_eq_true rfl⟩) hK hw h0 rfl rfl hl.1 rfl (Nat.le_of_ble_eq_true rfl) dX3_allowsPrices_71 ⟨Nat.le_of_ble_eq_true rfl, (Nat.le_of_ble_eq_true rfl)⟩ ?_
          refine W.lcmp hx hb dX3_allowsPrices_74 ?_
          refine kl_le (tgt := 80) hx hb dX3_allowsPrices_75 (by decide) (fun c_6 => ?_) (fun c_6 => ?_)
          · refine lv_iinc (v := (nI (i + 1))) (lv' := [(5, .int (nI (i + 1))), (8, .long ((kPr b N f ss i) + (2 * ((((nI N).toInt64) * x.toInt64) - ((kBC set).toInt64 * x.toInt64))))), (6, .long x.toInt64), (0, .ref (ad k0)), (1, .int set), (2, .int x), (3, .long ((kBC set).toInt64 * x.toInt64))]) hx hb dX3_allowsPrices_80 hl (k := 6) rfl (nI_1 i) (by decide) rfl (fun ls hl => ?_)
            refine lv_goto (tgt := 12) hx hb dX3_allowsPrices_83 (by decide) ?_
            exact ih12 (i + 1) ls (by omega) (by omega) (by exact kall_s ha (kAl_t (if_pos c_2).symm c_5 c_6)) (lv_sub hl [3, 4, 5, 6, 0] rfl)
          · refine lv_iconst (v := 0) hx hb dX3_allowsPrices_78 (by decide) ?_
            refine W.eq (congrArg (fun z => F0 m 79 ls [.int z]) (show 0 = (kb (kall (kAl b N f ss set x) N = true)) from by exact (kb_f (fun q => kAl_f (if_pos c_2).symm (Or.inr c_6) ((kall_iff.mp q) i (by omega)))).symm)) ?_
            exact W.zret hx hb hr kb_nar (fun t ht _ => ⟨rfl, ht⟩) (fun _ h => absurd h List.not_mem_nil) dX3_allowsPrices_79
set_option maxHeartbeats 4000000 in
set_option maxRecDepth 100000 in
theorem c_X3_sell (l : Launch) (D : va_G) (tc : Nat → ClassId) (sz : Nat) (ad : Nat → Nat) (ct : Nat → Option va_E) {k0 k1 N : Nat} {b cm : Int32} {ss g : Int64} {f : Nat → Int64} {set x : Int32} {paid : Int64} (h0 : ct k0 = some (.inr (3, [.ref (ad k1), .int (nI N), .int b, .long ss, .long g, .int cm]))) (h1 : ct k1 = some (eJ tc 8 f)) (hN : N ≤ 8) : Met l yX3_sell wsX3_sell ({ frames := 1, cells := 0, slots := 0, locals := 25 }) (va_Pc [.ref (ad k0), .int set, .int x, .long paid] (kw_B D tc sz ad ct)) (kw_Q D ad (kw_A ad ct sz) (none) (kw_up (kw_up ct k0 (.inr (3, [.ref (ad k1), .int (nI N), .int b, .long (ss + su (kIn set (fun _ => x.toInt64)) N), .long (g + paid), .int cm]))) k1 (eJ tc 8 (kAd f set x.toInt64 N))) 0) 0 0 (kw_A ad ct sz) := by
  refine Met.ofW (cc := cX3_sell) (maxL := 6) (ret := none) (by decide) rfl ?_
  intro pg en s m args below meth cod s₁ B hml hv
  obtain ⟨rfl, hsz, hP0, hK⟩ := hv
  have hx := B.exec
  have hb := B.bytes
  have hr := B.returns
  have hts := atoms_spec (ws := wsX3_sell) B.pre
  have hown : s.vm.findClass RX3 = some m.cls := findClass_of_methodNamed B.named
  have hlocks := B.notSynchronized
  subst hsz
  have hw := kw_H.start hP0
  generalize hAe : kw_A ad ct s.heap.size = A at hw ⊢
  have hA : ∀ q, s.heap.size ≤ q → A q := fun q h => by rw [← hAe]; exact Or.inr h
  have hinX3 : ∀ w ∈ wsX30, w ∈ wsX3_sell := by decide +kernel
  have hl := lv_entry ([.ref (ad k0), .int set, .int x, .long paid]) (n := 6) (Nat.le_of_ble_eq_true rfl)
  rw [lg_entry_eq]
  generalize (lg_sl ([.ref (ad k0), .int set, .int x, .long paid]) ++ List.replicate (6 - (lg_sl ([.ref (ad k0), .int set, .int x, .long paid])).length) Slot.unset).toArray = ls at hl ⊢
  have hl : lv_has ls 6 [(0, .ref (ad k0)), (1, .int set), (2, .int x), (3, .long paid)] := hl
  have S0 : CallFix pg m cod cX3_sell 6 s _ wsX3_sell RX3 := ⟨hx, hb, hml, hown, hts⟩
  have hfr : ∀ j, j ≠ k0 → j ≠ k1 → ct j = ct j := fun _ _ _ => rfl
  refine lv_iconst (v := 0) hx hb dX3_sell_0 (by decide) ?_
  refine lv_istore (lv' := [(5, .int 0), (0, .ref (ad k0)), (1, .int set), (2, .int x), (3, .long paid)]) hx hb dX3_sell_1 hl (by decide) rfl (fun ls hl => ?_)
  suffices lp3 : ∀ (nfu : Nat) (i : Nat) (g1 : Nat → Int64) (s1 : Int64) (ctL3 : Nat → Option va_E) (H : Heap) (locs : List Loc) (ls : Array Slot), N - i < nfu → i ≤ N → g1 = kAd f set x.toInt64 i → s1 = ss + su (kIn set (fun _ => x.toInt64)) i → ctL3 k0 = some (.inr (3, [.ref (ad k1), .int (nI N), .int b, .long s1, .long g, .int cm])) → ctL3 k1 = some (eJ tc 8 g1) → (∀ j, j ≠ k0 → j ≠ k1 → ctL3 j = ct j) → kw_H D ad A s.heap ctL3 H locs s.heap.size → lv_has ls 6 [(0, .ref (ad k0)), (1, .int set), (2, .int x), (3, .long paid), (5, .int (nI i))] → W pg l en (headSpec wsX3_sell ({ frames := 1, cells := 0, slots := 0, locals := 25 })).room s m (([.ref (ad k0), .int set, .int x, .long paid] : List Value).toArray) below meth cod H locs 0 0 (MQ below (kw_Q D ad A (none) (kw_up (kw_up ct k0 (.inr (3, [.ref (ad k1), .int (nI N), .int b, .long (ss + su (kIn set (fun _ => x.toInt64)) N), .long (g + paid), .int cm]))) k1 (eJ tc 8 (kAd f set x.toInt64 N))) 0) (([.ref (ad k0), .int set, .int x, .long paid] : List Value).toArray) s 0 0 A) (F0 m 3 ls []) by
    exact lp3 (N - 0 + 1) 0 f ss _ _ _ ls (by omega) (by omega) (by exact kAd_0 f set _) (by exact (Int64.add_zero _).symm) h0 h1 hfr hw (by have hl9 := lv_sub hl (l' := [(0, .ref (ad k0)), (1, .int set), (2, .int x), (3, .long paid), (5, .int 0)]) [1, 2, 3, 4, 0] rfl; exact hl9)
  intro n3
  induction n3 with
  | zero => intro i g1 s1 ctL3 H locs ls hfu; exact absurd hfu (Nat.not_lt_zero _)
  | succ n3 ih3 =>
    intro i g1 s1 ctL3 H locs ls hfu3 hi hg hs h_1 h_2 hfr_3 hw hl
    refine lv_iload hx hb dX3_sell_3 (lv_at hl 4 rfl) ?_
    refine lv_aload_n hx hb dX3_sell_5 rfl (lv_at hl 0 rfl) ?_
    refine kg_get (v := .int (nI N)) (C := RX3) (T := TX3) (N := 6) hx hb hts hinX3 hown hK hw h_1 rfl 1 (by decide) (hts (.fieldLink RX3 21 "BetMaker$Maker" "cases" "I") (by decide +kernel)) (fun _ h9 => h9) rfl dX3_sell_6 ?_
    refine kn_ge i N rfl rfl (by omega) (by omega) (tgt := 57) hx hb dX3_sell_9 (by decide) (fun c_4 => ?_) (fun c_4 => ?_)
    · refine lv_aload_n hx hb dX3_sell_57 rfl (lv_at hl 0 rfl) ?_
      refine lv_dup hx hb dX3_sell_58 rfl ?_
      refine kg_get (v := .long g) (C := RX3) (T := TX3) (N := 6) hx hb hts hinX3 hown hK hw h_1 rfl 4 (by decide) (hts (.fieldLink RX3 32 "BetMaker$Maker" "gain" "J") (by decide +kernel)) (fun _ h9 => h9) rfl dX3_sell_59 ?_
      refine lv_lload_n hx hb dX3_sell_62 rfl (lv_at hl 3 rfl) ?_
      refine lv_ladd hx hb dX3_sell_63 ?_
      refine kg_put (v := .long (g + paid)) (ty := .long) (C := RX3) (T := TX3) (N := 6) (fs' := [.ref (ad k1), .int (nI N), .int b, .long s1, .long (g + paid), .int cm]) hx hb hts hinX3 tyX3 tyX3_ok nmX3 hown hK hw h_1 rfl 4 (by decide) (hts (.fieldLink RX3 32 "BetMaker$Maker" "gain" "J") (by decide +kernel)) (fun _ h9 => h9) rfl (by decide +kernel) rfl rfl (Nat.le_of_ble_eq_true rfl) rfl dX3_sell_64 (fun H locs hw => ?_)
      obtain ⟨ct_5, ect_5⟩ : ∃ z, z = kw_up ctL3 k0 (.inr (3, [.ref (ad k1), .int (nI N), .int b, .long s1, .long (g + paid), .int cm])) := ⟨_, rfl⟩
      rw [← ect_5] at hw
      have h_6 : ct_5 k1 = some (eJ tc 8 g1) := by rw [ect_5, kw_up_n (kw_neK h_2 h_1 (by intro q; cases q))]; exact h_2
      have h_7 : ct_5 k0 = some (.inr (3, [.ref (ad k1), .int (nI N), .int b, .long s1, .long (g + paid), .int cm])) := by rw [ect_5]; exact kw_up_s
      have hfr_8 : ∀ j, j ≠ k0 → j ≠ k1 → ct_5 j = ct j := fun j a0 a1 => by rw [ect_5]; exact (kw_up_n a0).trans (hfr_3 j a0 a1)
      have hq_9 : ct_5 k0 = some (.inr (3, [.ref (ad k1), .int (nI N), .int b, .long (ss + su (kIn set (fun _ => x.toInt64)) N), .long (g + paid), .int cm])) := h_7.trans (congrArg some (show (.inr (3, [.ref (ad k1), .int (nI N), .int b, .long s1, .long (g + paid), .int cm]) : va_E) = .inr (3, [.ref (ad k1), .int (nI N), .int b, .long (ss + su (kIn set (fun _ => x.toInt64)) N), .long (g + paid), .int cm]) from by rw [hs, show i = N by omega]))
      have hq_10 : ct_5 k1 = some (eJ tc 8 (kAd f set x.toInt64 N)) := h_6.trans (congrArg some (show (eJ tc 8 g1 : va_E) = eJ tc 8 (kAd f set x.toInt64 N) from by rw [hg, show i = N by omega]))
      have hend := kw_eq2 hq_9 hq_10 hfr_8
      rw [hend] at hw
      exact W.vret hx hb hr (fun t ht _ => ⟨rfl, by rw [ht]; exact hw.1, hw.2.2.1, hw.2.1.F ht, by rw [ht]; exact hw.2.2.2⟩) hw.2.1.2.2 dX3_sell_67
    · refine lv_iload hx hb dX3_sell_12 (lv_at hl 4 rfl) ?_
      refine lv_bipush (v := 8) hx hb dX3_sell_14 (by decide) ?_
      refine kn_ge i 8 rfl rfl (by omega) (by omega) (tgt := 57) hx hb dX3_sell_16 (by decide) (fun c_11 => ?_) (fun c_11 => ?_)
      · exfalso; omega
      · refine lv_iload_n hx hb dX3_sell_19 rfl (lv_at hl 1 rfl) ?_
        refine lv_iload hx hb dX3_sell_20 (lv_at hl 4 rfl) ?_
        refine kc_sn (As := [.int set, .int (nI i)]) (rest := []) S0 (c_X10_isIn l D tc s.heap.size ad ctL3 (c := i) ) ⟨va_cnB 2 hts gX3_sell_X10_isIn_n50 rfl rfl rfl hK.2.2.1 (hts (.initialized RX10) (by decide +kernel)) (by decide +kernel) ⟨Nat.le_of_ble_eq_true rfl, Nat.le_of_ble_eq_true rfl⟩, hts (.static yX10_isIn) (by decide +kernel), trivial⟩ hK hw rfl hl.1 rfl (Nat.le_of_ble_eq_true rfl) dX3_sell_22 ⟨Nat.le_of_ble_eq_true rfl, (Nat.le_of_ble_eq_true rfl)⟩ ?_
        refine kb_ifeq (tgt := 51) hx hb dX3_sell_25 (by decide) (fun c_12 => ?_) (fun c_12 => ?_)
        · refine lv_iinc (v := (nI (i + 1))) (lv' := [(5, .int (nI (i + 1))), (0, .ref (ad k0)), (1, .int set), (2, .int x), (3, .long paid)]) hx hb dX3_sell_51 hl (k := 4) rfl (nI_1 i) (by decide) rfl (fun ls hl => ?_)
          refine lv_goto (tgt := 3) hx hb dX3_sell_54 (by decide) ?_
          exact ih3 (i + 1) g1 s1 _ _ _ ls (by omega) (by omega) (by rw [hg]; exact kAd_o c_12) (by rw [hs]; exact congrArg _ (su_o c_12)) h_1 h_2 hfr_3 hw (lv_sub hl [1, 2, 3, 4, 0] rfl)
        · refine lv_aload_n hx hb dX3_sell_28 rfl (lv_at hl 0 rfl) ?_
          refine kg_get (v := .ref (ad k1)) (C := RX3) (T := TX3) (N := 6) hx hb hts hinX3 hown hK hw h_1 rfl 0 (by decide) (hts (.fieldLink RX3 9 "BetMaker$Maker" "sold" "[J") (by decide +kernel)) (fun _ h9 => h9) rfl dX3_sell_29 ?_
          refine lv_iload hx hb dX3_sell_32 (lv_at hl 4 rfl) ?_
          refine lv_dup2_11 hx hb dX3_sell_34 rfl rfl ?_
          refine kg_lald hx hb hK hw h_2 i rfl (by omega) (by omega) dX3_sell_35 ?_
          refine lv_iload_n hx hb dX3_sell_36 rfl (lv_at hl 2 rfl) ?_
          refine lv_i2l (v := x.toInt64) hx hb dX3_sell_37 rfl ?_
          refine lv_ladd hx hb dX3_sell_38 ?_
          refine kg_last hx hb hK hw h_2 i rfl (by omega) (by omega) dX3_sell_39 (fun H locs hw => ?_)
          obtain ⟨ct_13, ect_13⟩ : ∃ z, z = kw_up ctL3 k1 (eJ tc 8 (va_up g1 i ((g1 i) + x.toInt64))) := ⟨_, rfl⟩
          rw [← ect_13] at hw
          have h_14 : ct_13 k0 = some (.inr (3, [.ref (ad k1), .int (nI N), .int b, .long s1, .long g, .int cm])) := by rw [ect_13, kw_up_n (kw_neK h_1 h_2 (by intro q; cases q))]; exact h_1
          have h_15 : ct_13 k1 = some (eJ tc 8 (va_up g1 i ((g1 i) + x.toInt64))) := by rw [ect_13]; exact kw_up_s
          have hfr_16 : ∀ j, j ≠ k0 → j ≠ k1 → ct_13 j = ct j := fun j a0 a1 => by rw [ect_13]; exact (kw_up_n a1).trans (hfr_3 j a0 a1)
          refine lv_aload_n hx hb dX3_sell_40 rfl (lv_at hl 0 rfl) ?_
          refine lv_dup hx hb dX3_sell_41 rfl ?_
          refine kg_get (v := .long s1) (C := RX3) (T := TX3) (N := 6) hx hb hts hinX3 hown hK hw h_14 rfl 3 (by decide) (hts (.fieldLink RX3 28 "BetMaker$Maker" "soldSum" "J") (by decide +kernel)) (fun _ h9 => h9) rfl dX3_sell_42 ?_
          refine lv_iload_n hx hb dX3_sell_45 rfl (lv_at hl 2 rfl) ?_
          refine lv_i2l (v := x.toInt64) hx hb dX3_sell_46 rfl ?_
          refine lv_ladd hx hb dX3_sell_47 ?_
          refine kg_put (v := .long (s1 + x.toInt64)) (ty := .long) (C := RX3) (T := TX3) (N := 6) (fs' := [.ref (ad k1), .int (nI N), .int b, .long (s1 + x.toInt64), .long g, .int cm]) hx hb hts hinX3 tyX3 tyX3_ok nmX3 hown hK hw h_14 rfl 3 (by decide) (hts (.fieldLink RX3 28 "BetMaker$Maker" "soldSum" "J") (by decide +kernel)) (fun _ h9 => h9) rfl (by decide +kernel) rfl rfl (Nat.le_of_ble_eq_true rfl) rfl dX3_sell_48 (fun H locs hw => ?_)
          obtain ⟨ct_17, ect_17⟩ : ∃ z, z = kw_up ct_13 k0 (.inr (3, [.ref (ad k1), .int (nI N), .int b, .long (s1 + x.toInt64), .long g, .int cm])) := ⟨_, rfl⟩
          rw [← ect_17] at hw
          have h_18 : ct_17 k1 = some (eJ tc 8 (va_up g1 i ((g1 i) + x.toInt64))) := by rw [ect_17, kw_up_n (kw_neK h_15 h_14 (by intro q; cases q))]; exact h_15
          have h_19 : ct_17 k0 = some (.inr (3, [.ref (ad k1), .int (nI N), .int b, .long (s1 + x.toInt64), .long g, .int cm])) := by rw [ect_17]; exact kw_up_s
          have hfr_20 : ∀ j, j ≠ k0 → j ≠ k1 → ct_17 j = ct j := fun j a0 a1 => by rw [ect_17]; exact (kw_up_n a0).trans (hfr_16 j a0 a1)
          refine lv_iinc (v := (nI (i + 1))) (lv' := [(5, .int (nI (i + 1))), (0, .ref (ad k0)), (1, .int set), (2, .int x), (3, .long paid)]) hx hb dX3_sell_51 hl (k := 4) rfl (nI_1 i) (by decide) rfl (fun ls hl => ?_)
          refine lv_goto (tgt := 3) hx hb dX3_sell_54 (by decide) ?_
          exact ih3 (i + 1) (va_up g1 i ((g1 i) + x.toInt64)) (s1 + x.toInt64) _ _ _ ls (by omega) (by omega) (by rw [hg]; exact kAd_i c_12) (by rw [hs, Int64.add_assoc]; exact congrArg _ (su_i (f := fun _ => x.toInt64) c_12)) h_19 h_18 hfr_20 hw (lv_sub hl [1, 2, 3, 4, 0] rfl)
set_option maxHeartbeats 4000000 in
set_option maxRecDepth 100000 in
theorem c_X3_settle (l : Launch) (D : va_G) (tc : Nat → ClassId) (sz : Nat) (ad : Nat → Nat) (ct : Nat → Option va_E) {k0 k1 N : Nat} {b cm : Int32} {ss g : Int64} {c : Int32} {won : Int64} (h0 : ct k0 = some (.inr (3, [.ref (ad k1), .int (nI N), .int b, .long ss, .long g, .int cm]))) : Met l yX3_settle wsX3_settle ({ frames := 0, cells := 0, slots := 0, locals := 0 }) (va_Pc [.ref (ad k0), .int c, .long won] (kw_B D tc sz ad ct)) (kw_Q D ad (kw_A ad ct sz) (none) (kw_up ct k0 (.inr (3, [.ref (ad k1), .int (nI N), .int b, .long ss, .long (g - won), .int c]))) 0) 0 0 (kw_A ad ct sz) := by
  refine Met.ofW (cc := cX3_settle) (maxL := 4) (ret := none) (by decide) rfl ?_
  intro pg en s m args below meth cod s₁ B hml hv
  obtain ⟨rfl, hsz, hP0, hK⟩ := hv
  have hx := B.exec
  have hb := B.bytes
  have hr := B.returns
  have hts := atoms_spec (ws := wsX3_settle) B.pre
  have hown : s.vm.findClass RX3 = some m.cls := findClass_of_methodNamed B.named
  have hlocks := B.notSynchronized
  subst hsz
  have hw := kw_H.start hP0
  generalize hAe : kw_A ad ct s.heap.size = A at hw ⊢
  have hA : ∀ q, s.heap.size ≤ q → A q := fun q h => by rw [← hAe]; exact Or.inr h
  have hinX3 : ∀ w ∈ wsX30, w ∈ wsX3_settle := by decide +kernel
  have hl := lv_entry ([.ref (ad k0), .int c, .long won]) (n := 4) (Nat.le_of_ble_eq_true rfl)
  rw [lg_entry_eq]
  generalize (lg_sl ([.ref (ad k0), .int c, .long won]) ++ List.replicate (4 - (lg_sl ([.ref (ad k0), .int c, .long won])).length) Slot.unset).toArray = ls at hl ⊢
  have hl : lv_has ls 4 [(0, .ref (ad k0)), (1, .int c), (2, .long won)] := hl
  have S0 : CallFix pg m cod cX3_settle 4 s _ wsX3_settle RX3 := ⟨hx, hb, hml, hown, hts⟩
  have hfr : ∀ j, j ≠ k0 → ct j = ct j := fun _ _ => rfl
  refine lv_aload_n hx hb dX3_settle_0 rfl (lv_at hl 0 rfl) ?_
  refine lv_iload_n hx hb dX3_settle_1 rfl (lv_at hl 1 rfl) ?_
  refine kg_put (v := .int c) (ty := .int) (C := RX3) (T := TX3) (N := 6) (fs' := [.ref (ad k1), .int (nI N), .int b, .long ss, .long g, .int c]) hx hb hts hinX3 tyX3 tyX3_ok nmX3 hown hK hw h0 rfl 5 (by decide) (hts (.fieldLink RX3 35 "BetMaker$Maker" "came" "I") (by decide +kernel)) (fun _ h9 => h9) rfl (by decide +kernel) rfl rfl (Nat.le_of_ble_eq_true rfl) rfl dX3_settle_2 (fun H locs hw => ?_)
  obtain ⟨ct_1, ect_1⟩ : ∃ z, z = kw_up ct k0 (.inr (3, [.ref (ad k1), .int (nI N), .int b, .long ss, .long g, .int c])) := ⟨_, rfl⟩
  rw [← ect_1] at hw
  have h_2 : ct_1 k0 = some (.inr (3, [.ref (ad k1), .int (nI N), .int b, .long ss, .long g, .int c])) := by rw [ect_1]; exact kw_up_s
  have hfr_3 : ∀ j, j ≠ k0 → ct_1 j = ct j := fun j a0 => by rw [ect_1]; exact (kw_up_n a0).trans (hfr j a0)
  refine lv_aload_n hx hb dX3_settle_5 rfl (lv_at hl 0 rfl) ?_
  refine lv_dup hx hb dX3_settle_6 rfl ?_
  refine kg_get (v := .long g) (C := RX3) (T := TX3) (N := 6) hx hb hts hinX3 hown hK hw h_2 rfl 4 (by decide) (hts (.fieldLink RX3 32 "BetMaker$Maker" "gain" "J") (by decide +kernel)) (fun _ h9 => h9) rfl dX3_settle_7 ?_
  refine lv_lload_n hx hb dX3_settle_10 rfl (lv_at hl 2 rfl) ?_
  refine lv_lsub hx hb dX3_settle_11 ?_
  refine kg_put (v := .long (g - won)) (ty := .long) (C := RX3) (T := TX3) (N := 6) (fs' := [.ref (ad k1), .int (nI N), .int b, .long ss, .long (g - won), .int c]) hx hb hts hinX3 tyX3 tyX3_ok nmX3 hown hK hw h_2 rfl 4 (by decide) (hts (.fieldLink RX3 32 "BetMaker$Maker" "gain" "J") (by decide +kernel)) (fun _ h9 => h9) rfl (by decide +kernel) rfl rfl (Nat.le_of_ble_eq_true rfl) rfl dX3_settle_12 (fun H locs hw => ?_)
  obtain ⟨ct_4, ect_4⟩ : ∃ z, z = kw_up ct_1 k0 (.inr (3, [.ref (ad k1), .int (nI N), .int b, .long ss, .long (g - won), .int c])) := ⟨_, rfl⟩
  rw [← ect_4] at hw
  have h_5 : ct_4 k0 = some (.inr (3, [.ref (ad k1), .int (nI N), .int b, .long ss, .long (g - won), .int c])) := by rw [ect_4]; exact kw_up_s
  have hfr_6 : ∀ j, j ≠ k0 → ct_4 j = ct j := fun j a0 => by rw [ect_4]; exact (kw_up_n a0).trans (hfr_3 j a0)
  have hq_7 := h_5
  have hend := kw_eq1 hq_7 hfr_6
  rw [hend] at hw
  exact W.vret hx hb hr (fun t ht _ => ⟨rfl, by rw [ht]; exact hw.1, hw.2.2.1, hw.2.1.F ht, by rw [ht]; exact hw.2.2.2⟩) hw.2.1.2.2 dX3_settle_15
set_option maxHeartbeats 4000000 in
set_option maxRecDepth 100000 in
theorem c_X3_worst (l : Launch) (D : va_G) (tc : Nat → ClassId) (sz : Nat) (ad : Nat → Nat) (ct : Nat → Option va_E) {k0 k1 N : Nat} {b cm : Int32} {ss g : Int64} {f : Nat → Int64} (h0 : ct k0 = some (.inr (3, [.ref (ad k1), .int (nI N), .int b, .long ss, .long g, .int cm]))) (h1 : ct k1 = some (eJ tc 8 f)) (hN : N ≤ 8) (hN2 : 2 ≤ N) : Met l yX3_worst wsX3_worst ({ frames := 2, cells := 0, slots := 0, locals := 50 }) (va_Pc [.ref (ad k0)] (kw_B D tc sz ad ct)) (k2_QcV (.long (if ¬ cm = (-9) then g else g - kU b N * kMx f (N - 1)))) 0 0 (fun _ => False) := by
  refine Met.ofW (cc := cX3_worst) (maxL := 4) (ret := (some .long)) (by decide) rfl ?_
  intro pg en s m args below meth cod s₁ B hml hv
  obtain ⟨rfl, hsz, hP0, hK⟩ := hv
  have hx := B.exec
  have hb := B.bytes
  have hr := B.returns
  have hts := atoms_spec (ws := wsX3_worst) B.pre
  have hown : s.vm.findClass RX3 = some m.cls := findClass_of_methodNamed B.named
  have hlocks := B.notSynchronized
  subst hsz
  have hw := kw_H.start hP0
  generalize kw_A ad ct s.heap.size = A at hw
  have hinX3 : ∀ w ∈ wsX30, w ∈ wsX3_worst := by decide +kernel
  have hl := lv_entry ([.ref (ad k0)]) (n := 4) (Nat.le_of_ble_eq_true rfl)
  rw [lg_entry_eq]
  generalize (lg_sl ([.ref (ad k0)]) ++ List.replicate (4 - (lg_sl ([.ref (ad k0)])).length) Slot.unset).toArray = ls at hl ⊢
  have hl : lv_has ls 4 [(0, .ref (ad k0))] := hl
  have S0 : CallFix pg m cod cX3_worst 4 s _ wsX3_worst RX3 := ⟨hx, hb, hml, hown, hts⟩
  refine lv_aload_n hx hb dX3_worst_0 rfl (lv_at hl 0 rfl) ?_
  refine kc_v (As := []) (rest := []) S0 (c_X3_hasCome l D tc s.heap.size ad ct (N := N) h0) (cwV 0 hts gX3_worst_X3_hasCome rfl rfl rfl (by decide +kernel) ⟨Nat.le_of_ble_eq_true rfl, Nat.le_of_ble_eq_true rfl⟩) hK hw h0 rfl rfl hl.1 rfl (Nat.le_of_ble_eq_true rfl) dX3_worst_1 ⟨Nat.le_of_ble_eq_true rfl, (Nat.le_of_ble_eq_true rfl)⟩ ?_
  refine kb_ifeq (tgt := 12) hx hb dX3_worst_4 (by decide) (fun c_1 => ?_) (fun c_1 => ?_)
  · refine lv_aload_n hx hb dX3_worst_12 rfl (lv_at hl 0 rfl) ?_
    refine lv_iconst (v := 0) hx hb dX3_worst_13 (by decide) ?_
    refine kc_v (As := [.int 0]) (rest := []) S0 (c_X3_soldOf l D tc s.heap.size ad ct (c := 0) (N := N) h0 h1 (by omega) (by omega)) (cwV 1 hts gX3_worst_X3_soldOf rfl rfl rfl (by decide +kernel) ⟨Nat.le_of_ble_eq_true rfl, Nat.le_of_ble_eq_true rfl⟩) hK hw h0 rfl rfl hl.1 rfl (Nat.le_of_ble_eq_true rfl) dX3_worst_14 ⟨Nat.le_of_ble_eq_true rfl, (Nat.le_of_ble_eq_true rfl)⟩ ?_
    refine lv_lstore_n (lv' := [(1, .long (f 0)), (0, .ref (ad k0))]) hx hb dX3_worst_17 rfl hl (by decide) rfl (fun ls hl => ?_)
    refine lv_iconst (v := 1) hx hb dX3_worst_18 (by decide) ?_
    refine lv_istore_n (lv' := [(3, .int 1), (1, .long (f 0)), (0, .ref (ad k0))]) hx hb dX3_worst_19 rfl hl (by decide) rfl (fun ls hl => ?_)
    suffices lp20 : ∀ (nfu : Nat) (i : Nat) (acc : Int64) (ls : Array Slot), N - i < nfu → 1 ≤ i → i ≤ N → acc = kMx f (i - 1) → lv_has ls 4 [(0, .ref (ad k0)), (1, .long acc), (3, .int (nI i))] → W pg l en (headSpec wsX3_worst ({ frames := 2, cells := 0, slots := 0, locals := 50 })).room s m (([.ref (ad k0)] : List Value).toArray) below meth cod s.heap [] 0 0 (MQ below (k2_QcV (.long (if ¬ cm = (-9) then g else g - kU b N * kMx f (N - 1)))) (([.ref (ad k0)] : List Value).toArray) s 0 0 (fun _ => False)) (F0 m 20 ls []) by
      exact lp20 (N - 1 + 1) 1 (f 0) ls (by omega) (by omega) (by omega) (by rfl) (by have hl9 := lv_sub hl (l' := [(0, .ref (ad k0)), (1, .long (f 0)), (3, .int 1)]) [2, 1, 0] rfl; exact hl9)
    intro n20
    induction n20 with
    | zero => intro i acc ls hfu; exact absurd hfu (Nat.not_lt_zero _)
    | succ n20 ih20 =>
      intro i acc ls hfu20 hi1 hi ha hl
      refine lv_iload_n hx hb dX3_worst_20 rfl (lv_at hl 2 rfl) ?_
      refine lv_aload_n hx hb dX3_worst_21 rfl (lv_at hl 0 rfl) ?_
      refine kg_get (v := .int (nI N)) (C := RX3) (T := TX3) (N := 6) hx hb hts hinX3 hown hK hw h0 rfl 1 (by decide) (hts (.fieldLink RX3 21 "BetMaker$Maker" "cases" "I") (by decide +kernel)) (fun _ h9 => h9) rfl dX3_worst_22 ?_
      refine kn_ge i N rfl rfl (by omega) (by omega) (tgt := 44) hx hb dX3_worst_25 (by decide) (fun c_2 => ?_) (fun c_2 => ?_)
      · refine lv_aload_n hx hb dX3_worst_44 rfl (lv_at hl 0 rfl) ?_
        refine kg_get (v := .long g) (C := RX3) (T := TX3) (N := 6) hx hb hts hinX3 hown hK hw h0 rfl 4 (by decide) (hts (.fieldLink RX3 32 "BetMaker$Maker" "gain" "J") (by decide +kernel)) (fun _ h9 => h9) rfl dX3_worst_45 ?_
        refine lv_aload_n hx hb dX3_worst_48 rfl (lv_at hl 0 rfl) ?_
        refine kc_v (As := []) (rest := [.long g]) S0 (c_X3_unit l D tc s.heap.size ad ct (N := N) h0) (cwV 0 hts gX3_worst_X3_unit rfl rfl rfl (by decide +kernel) ⟨Nat.le_of_ble_eq_true rfl, Nat.le_of_ble_eq_true rfl⟩) hK hw h0 rfl rfl hl.1 rfl (Nat.le_of_ble_eq_true rfl) dX3_worst_49 ⟨Nat.le_of_ble_eq_true rfl, (Nat.le_of_ble_eq_true rfl)⟩ ?_
        refine lv_lload_n hx hb dX3_worst_52 rfl (lv_at hl 1 rfl) ?_
        refine lv_lmul hx hb dX3_worst_53 ?_
        refine lv_lsub hx hb dX3_worst_54 ?_
        refine W.eq (congrArg (fun z => F0 m 55 ls [.long z]) (show (g - ((kU b N) * acc)) = (if ¬ cm = (-9) then g else g - kU b N * kMx f (N - 1)) from by rw [if_neg c_1, ha, show i = N by omega])) ?_
        exact W.lret hx hb hr (fun t ht _ => ⟨rfl, ht⟩) (fun _ h => absurd h List.not_mem_nil) dX3_worst_55
      · refine lv_lload_n hx hb dX3_worst_28 rfl (lv_at hl 1 rfl) ?_
        refine lv_aload_n hx hb dX3_worst_29 rfl (lv_at hl 0 rfl) ?_
        refine lv_iload_n hx hb dX3_worst_30 rfl (lv_at hl 2 rfl) ?_
        refine kc_v (As := [.int (nI i)]) (rest := [.long acc]) S0 (c_X3_soldOf l D tc s.heap.size ad ct (c := i) (N := N) h0 h1 (by omega) (by omega)) (cwV 1 hts gX3_worst_X3_soldOf rfl rfl rfl (by decide +kernel) ⟨Nat.le_of_ble_eq_true rfl, Nat.le_of_ble_eq_true rfl⟩) hK hw h0 rfl rfl hl.1 rfl (Nat.le_of_ble_eq_true rfl) dX3_worst_31 ⟨Nat.le_of_ble_eq_true rfl, (Nat.le_of_ble_eq_true rfl)⟩ ?_
        refine va_mmax_long hx hb (by rw [hml]; exact hl.1.symm) hown (hts (.methodLink RX3 74 Lib.MathLoose.max_long.x) (by decide +kernel)) (hts (.static Lib.MathLoose.max_long.x) (by decide +kernel)) (hts (.initialized "java/lang/Math") (by decide +kernel)) (hts (.code Lib.MathLoose.max_long.x Lib.MathLoose.max_long.code 4 (some .long)) (by decide +kernel)) (Nat.le_of_ble_eq_true rfl) (Nat.le_of_ble_eq_true rfl) (Nat.le_of_ble_eq_true rfl) (Nat.le_of_ble_eq_true rfl) dX3_worst_34 ?_
        refine lv_lstore_n (lv' := [(1, .long (if (f i) < acc then acc else (f i))), (0, .ref (ad k0)), (3, .int (nI i))]) hx hb dX3_worst_37 rfl hl (by decide) rfl (fun ls hl => ?_)
        refine lv_iinc (v := (nI (i + 1))) (lv' := [(3, .int (nI (i + 1))), (1, .long (if (f i) < acc then acc else (f i))), (0, .ref (ad k0))]) hx hb dX3_worst_38 hl (k := 2) rfl (nI_1 i) (by decide) rfl (fun ls hl => ?_)
        refine lv_goto (tgt := 20) hx hb dX3_worst_41 (by decide) ?_
        exact ih20 (i + 1) (if (f i) < acc then acc else (f i)) ls (by omega) (by omega) (by omega) (by rw [ha]; exact kMx_s f hi1) (lv_sub hl [2, 1, 0] rfl)
  · refine lv_aload_n hx hb dX3_worst_7 rfl (lv_at hl 0 rfl) ?_
    refine kg_get (v := .long g) (C := RX3) (T := TX3) (N := 6) hx hb hts hinX3 hown hK hw h0 rfl 4 (by decide) (hts (.fieldLink RX3 32 "BetMaker$Maker" "gain" "J") (by decide +kernel)) (fun _ h9 => h9) rfl dX3_worst_8 ?_
    refine W.eq (congrArg (fun z => F0 m 11 ls [.long z]) (show g = (if ¬ cm = (-9) then g else g - kU b N * kMx f (N - 1)) from by rw [if_pos c_1])) ?_
    exact W.lret hx hb hr (fun t ht _ => ⟨rfl, ht⟩) (fun _ h => absurd h List.not_mem_nil) dX3_worst_11
set_option maxHeartbeats 4000000 in
set_option maxRecDepth 100000 in
theorem c_X3_restart (l : Launch) (D : va_G) (tc : Nat → ClassId) (sz : Nat) (ad : Nat → Nat) (ct : Nat → Option va_E) {k0 k1 N : Nat} {b cm : Int32} {ss g : Int64} {f : Nat → Int64} {n1 : Nat} {b1 : Int32} (h0 : ct k0 = some (.inr (3, [.ref (ad k1), .int (nI N), .int b, .long ss, .long g, .int cm]))) (h1 : ct k1 = some (eJ tc 8 f)) : Met l yX3_restart wsX3_restart ({ frames := 1, cells := 0, slots := 0, locals := 28 }) (va_Pc [.ref (ad k0), .int (nI n1), .int b1] (kw_B D tc sz ad ct)) (kw_Q D ad (kw_A ad ct sz) (none) (kw_up (kw_up ct k0 (.inr (3, [.ref (ad k1), .int (nI n1), .int b1, .long 0, .long 0, .int (-9)]))) k1 (eJ tc 8 (kFl f 0 8))) 0) 0 0 (kw_A ad ct sz) := by
  refine Met.ofW (cc := cX3_restart) (maxL := 3) (ret := none) (by decide) rfl ?_
  intro pg en s m args below meth cod s₁ B hml hv
  obtain ⟨rfl, hsz, hP0, hK⟩ := hv
  have hx := B.exec
  have hb := B.bytes
  have hr := B.returns
  have hts := atoms_spec (ws := wsX3_restart) B.pre
  have hown : s.vm.findClass RX3 = some m.cls := findClass_of_methodNamed B.named
  have hlocks := B.notSynchronized
  subst hsz
  have hw := kw_H.start hP0
  generalize hAe : kw_A ad ct s.heap.size = A at hw ⊢
  have hA : ∀ q, s.heap.size ≤ q → A q := fun q h => by rw [← hAe]; exact Or.inr h
  have hinX3 : ∀ w ∈ wsX30, w ∈ wsX3_restart := by decide +kernel
  have hl := lv_entry ([.ref (ad k0), .int (nI n1), .int b1]) (n := 3) (Nat.le_of_ble_eq_true rfl)
  rw [lg_entry_eq]
  generalize (lg_sl ([.ref (ad k0), .int (nI n1), .int b1]) ++ List.replicate (3 - (lg_sl ([.ref (ad k0), .int (nI n1), .int b1])).length) Slot.unset).toArray = ls at hl ⊢
  have hl : lv_has ls 3 [(0, .ref (ad k0)), (1, .int (nI n1)), (2, .int b1)] := hl
  have S0 : CallFix pg m cod cX3_restart 3 s _ wsX3_restart RX3 := ⟨hx, hb, hml, hown, hts⟩
  have hfr : ∀ j, j ≠ k0 → j ≠ k1 → ct j = ct j := fun _ _ _ => rfl
  refine lv_aload_n hx hb dX3_restart_0 rfl (lv_at hl 0 rfl) ?_
  refine kg_get (v := .ref (ad k1)) (C := RX3) (T := TX3) (N := 6) hx hb hts hinX3 hown hK hw h0 rfl 0 (by decide) (hts (.fieldLink RX3 9 "BetMaker$Maker" "sold" "[J") (by decide +kernel)) (fun _ h9 => h9) rfl dX3_restart_1 ?_
  refine lv_lconst (v := 0) hx hb dX3_restart_4 (by decide) ?_
  refine kc_su (As := [.ref (ad k1), .long 0]) (rest := []) S0 (c_J7_fill_d0a16 l D tc s.heap.size ad ct h1 (by omega)) (va_cwS 2 hts gX3_restart_J7_fill_d0a16 rfl rfl rfl (by decide +kernel) ⟨Nat.le_of_ble_eq_true rfl, Nat.le_of_ble_eq_true rfl⟩) hK hw hA rfl hl.1 rfl (Nat.le_of_ble_eq_true rfl) dX3_restart_5 ⟨Nat.le_of_ble_eq_true rfl, (Nat.le_of_ble_eq_true rfl)⟩ (fun H locs hw => ?_)
  obtain ⟨ct_1, ect_1⟩ : ∃ z, z = kw_up ct k1 (eJ tc 8 (kFl f 0 8)) := ⟨_, rfl⟩
  rw [← ect_1] at hw
  have h_2 : ct_1 k0 = some (.inr (3, [.ref (ad k1), .int (nI N), .int b, .long ss, .long g, .int cm])) := by rw [ect_1, kw_up_n (kw_neK h0 h1 (by intro q; cases q))]; exact h0
  have h_3 : ct_1 k1 = some (eJ tc 8 (kFl f 0 8)) := by rw [ect_1]; exact kw_up_s
  have hfr_4 : ∀ j, j ≠ k0 → j ≠ k1 → ct_1 j = ct j := fun j a0 a1 => by rw [ect_1]; exact (kw_up_n a1).trans (hfr j a0 a1)
  refine lv_aload_n hx hb dX3_restart_8 rfl (lv_at hl 0 rfl) ?_
  refine lv_iload_n hx hb dX3_restart_9 rfl (lv_at hl 1 rfl) ?_
  refine kg_put (v := .int (nI n1)) (ty := .int) (C := RX3) (T := TX3) (N := 6) (fs' := [.ref (ad k1), .int (nI n1), .int b, .long ss, .long g, .int cm]) hx hb hts hinX3 tyX3 tyX3_ok nmX3 hown hK hw h_2 rfl 1 (by decide) (hts (.fieldLink RX3 21 "BetMaker$Maker" "cases" "I") (by decide +kernel)) (fun _ h9 => h9) rfl (by decide +kernel) rfl rfl (Nat.le_of_ble_eq_true rfl) rfl dX3_restart_10 (fun H locs hw => ?_)
  obtain ⟨ct_5, ect_5⟩ : ∃ z, z = kw_up ct_1 k0 (.inr (3, [.ref (ad k1), .int (nI n1), .int b, .long ss, .long g, .int cm])) := ⟨_, rfl⟩
  rw [← ect_5] at hw
  have h_6 : ct_5 k1 = some (eJ tc 8 (kFl f 0 8)) := by rw [ect_5, kw_up_n (kw_neK h_3 h_2 (by intro q; cases q))]; exact h_3
  have h_7 : ct_5 k0 = some (.inr (3, [.ref (ad k1), .int (nI n1), .int b, .long ss, .long g, .int cm])) := by rw [ect_5]; exact kw_up_s
  have hfr_8 : ∀ j, j ≠ k0 → j ≠ k1 → ct_5 j = ct j := fun j a0 a1 => by rw [ect_5]; exact (kw_up_n a0).trans (hfr_4 j a0 a1)
  refine lv_aload_n hx hb dX3_restart_13 rfl (lv_at hl 0 rfl) ?_
  refine lv_iload_n hx hb dX3_restart_14 rfl (lv_at hl 2 rfl) ?_
  refine kg_put (v := .int b1) (ty := .int) (C := RX3) (T := TX3) (N := 6) (fs' := [.ref (ad k1), .int (nI n1), .int b1, .long ss, .long g, .int cm]) hx hb hts hinX3 tyX3 tyX3_ok nmX3 hown hK hw h_7 rfl 2 (by decide) (hts (.fieldLink RX3 25 "BetMaker$Maker" "breadth" "I") (by decide +kernel)) (fun _ h9 => h9) rfl (by decide +kernel) rfl rfl (Nat.le_of_ble_eq_true rfl) rfl dX3_restart_15 (fun H locs hw => ?_)
  obtain ⟨ct_9, ect_9⟩ : ∃ z, z = kw_up ct_5 k0 (.inr (3, [.ref (ad k1), .int (nI n1), .int b1, .long ss, .long g, .int cm])) := ⟨_, rfl⟩
  rw [← ect_9] at hw
  have h_10 : ct_9 k1 = some (eJ tc 8 (kFl f 0 8)) := by rw [ect_9, kw_up_n (kw_neK h_6 h_7 (by intro q; cases q))]; exact h_6
  have h_11 : ct_9 k0 = some (.inr (3, [.ref (ad k1), .int (nI n1), .int b1, .long ss, .long g, .int cm])) := by rw [ect_9]; exact kw_up_s
  have hfr_12 : ∀ j, j ≠ k0 → j ≠ k1 → ct_9 j = ct j := fun j a0 a1 => by rw [ect_9]; exact (kw_up_n a0).trans (hfr_8 j a0 a1)
  refine lv_aload_n hx hb dX3_restart_18 rfl (lv_at hl 0 rfl) ?_
  refine lv_lconst (v := 0) hx hb dX3_restart_19 (by decide) ?_
  refine kg_put (v := .long 0) (ty := .long) (C := RX3) (T := TX3) (N := 6) (fs' := [.ref (ad k1), .int (nI n1), .int b1, .long 0, .long g, .int cm]) hx hb hts hinX3 tyX3 tyX3_ok nmX3 hown hK hw h_11 rfl 3 (by decide) (hts (.fieldLink RX3 28 "BetMaker$Maker" "soldSum" "J") (by decide +kernel)) (fun _ h9 => h9) rfl (by decide +kernel) rfl rfl (Nat.le_of_ble_eq_true rfl) rfl dX3_restart_20 (fun H locs hw => ?_)
  obtain ⟨ct_13, ect_13⟩ : ∃ z, z = kw_up ct_9 k0 (.inr (3, [.ref (ad k1), .int (nI n1), .int b1, .long 0, .long g, .int cm])) := ⟨_, rfl⟩
  rw [← ect_13] at hw
  have h_14 : ct_13 k1 = some (eJ tc 8 (kFl f 0 8)) := by rw [ect_13, kw_up_n (kw_neK h_10 h_11 (by intro q; cases q))]; exact h_10
  have h_15 : ct_13 k0 = some (.inr (3, [.ref (ad k1), .int (nI n1), .int b1, .long 0, .long g, .int cm])) := by rw [ect_13]; exact kw_up_s
  have hfr_16 : ∀ j, j ≠ k0 → j ≠ k1 → ct_13 j = ct j := fun j a0 a1 => by rw [ect_13]; exact (kw_up_n a0).trans (hfr_12 j a0 a1)
  refine lv_aload_n hx hb dX3_restart_23 rfl (lv_at hl 0 rfl) ?_
  refine lv_lconst (v := 0) hx hb dX3_restart_24 (by decide) ?_
  refine kg_put (v := .long 0) (ty := .long) (C := RX3) (T := TX3) (N := 6) (fs' := [.ref (ad k1), .int (nI n1), .int b1, .long 0, .long 0, .int cm]) hx hb hts hinX3 tyX3 tyX3_ok nmX3 hown hK hw h_15 rfl 4 (by decide) (hts (.fieldLink RX3 32 "BetMaker$Maker" "gain" "J") (by decide +kernel)) (fun _ h9 => h9) rfl (by decide +kernel) rfl rfl (Nat.le_of_ble_eq_true rfl) rfl dX3_restart_25 (fun H locs hw => ?_)
  obtain ⟨ct_17, ect_17⟩ : ∃ z, z = kw_up ct_13 k0 (.inr (3, [.ref (ad k1), .int (nI n1), .int b1, .long 0, .long 0, .int cm])) := ⟨_, rfl⟩
  rw [← ect_17] at hw
  have h_18 : ct_17 k1 = some (eJ tc 8 (kFl f 0 8)) := by rw [ect_17, kw_up_n (kw_neK h_14 h_15 (by intro q; cases q))]; exact h_14
  have h_19 : ct_17 k0 = some (.inr (3, [.ref (ad k1), .int (nI n1), .int b1, .long 0, .long 0, .int cm])) := by rw [ect_17]; exact kw_up_s
  have hfr_20 : ∀ j, j ≠ k0 → j ≠ k1 → ct_17 j = ct j := fun j a0 a1 => by rw [ect_17]; exact (kw_up_n a0).trans (hfr_16 j a0 a1)
  refine lv_aload_n hx hb dX3_restart_28 rfl (lv_at hl 0 rfl) ?_
  refine lv_bipush (v := (-9)) hx hb dX3_restart_29 (by decide) ?_
  refine kg_put (v := .int (-9)) (ty := .int) (C := RX3) (T := TX3) (N := 6) (fs' := [.ref (ad k1), .int (nI n1), .int b1, .long 0, .long 0, .int (-9)]) hx hb hts hinX3 tyX3 tyX3_ok nmX3 hown hK hw h_19 rfl 5 (by decide) (hts (.fieldLink RX3 35 "BetMaker$Maker" "came" "I") (by decide +kernel)) (fun _ h9 => h9) rfl (by decide +kernel) rfl rfl (Nat.le_of_ble_eq_true rfl) rfl dX3_restart_31 (fun H locs hw => ?_)
  obtain ⟨ct_21, ect_21⟩ : ∃ z, z = kw_up ct_17 k0 (.inr (3, [.ref (ad k1), .int (nI n1), .int b1, .long 0, .long 0, .int (-9)])) := ⟨_, rfl⟩
  rw [← ect_21] at hw
  have h_22 : ct_21 k1 = some (eJ tc 8 (kFl f 0 8)) := by rw [ect_21, kw_up_n (kw_neK h_18 h_19 (by intro q; cases q))]; exact h_18
  have h_23 : ct_21 k0 = some (.inr (3, [.ref (ad k1), .int (nI n1), .int b1, .long 0, .long 0, .int (-9)])) := by rw [ect_21]; exact kw_up_s
  have hfr_24 : ∀ j, j ≠ k0 → j ≠ k1 → ct_21 j = ct j := fun j a0 a1 => by rw [ect_21]; exact (kw_up_n a0).trans (hfr_20 j a0 a1)
  have hq_25 := h_23
  have hq_26 := h_22
  have hend := kw_eq2 hq_25 hq_26 hfr_24
  rw [hend] at hw
  exact W.vret hx hb hr (fun t ht _ => ⟨rfl, by rw [ht]; exact hw.1, hw.2.2.1, hw.2.1.F ht, by rw [ht]; exact hw.2.2.2⟩) hw.2.1.2.2 dX3_restart_34
set_option maxHeartbeats 4000000 in
set_option maxRecDepth 100000 in
theorem c_X3_init (l : Launch) (D : va_G) (tc : Nat → ClassId) (sz : Nat) (ad : Nat → Nat) (ct : Nat → Option va_E) {k0 k1 : Nat} (h0 : ct k0 = some (.inr (3, [.null, .int 0, .int 0, .long 0, .long 0, .int 0]))) (hk1 : ct k1 = none) (hk1a : ad k1 = sz) : Met l yX3_init wsX3_init ({ frames := 1, cells := 1, slots := 8, locals := 40 }) (va_Pc [.ref (ad k0)] (kw_B D tc sz ad ct)) (kw_Q D ad (kw_A ad ct sz) (none) (kw_up (kw_up ct k0 (.inr (3, [.ref (ad k1), .int 0, .int 0, .long 0, .long 0, .int 0]))) k1 (eJ tc 8 (fun _ => 0))) 1) 1 8 (kw_A ad ct sz) := by
  refine Met.ofW (cc := cX3_init) (maxL := 1) (ret := none) (by decide) rfl ?_
  intro pg en s m args below meth cod s₁ B hml hv
  obtain ⟨rfl, hsz, hP0, hK⟩ := hv
  have hx := B.exec
  have hb := B.bytes
  have hr := B.returns
  have hts := atoms_spec (ws := wsX3_init) B.pre
  have hown : s.vm.findClass RX3 = some m.cls := findClass_of_methodNamed B.named
  have hlocks := B.notSynchronized
  have hin2 : meth.name = "<init>" := (name_of_methodNamed B.named B.method).1
  subst hsz
  have hw := kw_H.start hP0
  generalize hAe : kw_A ad ct s.heap.size = A at hw ⊢
  have hA : ∀ q, s.heap.size ≤ q → A q := fun q h => by rw [← hAe]; exact Or.inr h
  have hinX3 : ∀ w ∈ wsX30, w ∈ wsX3_init := by decide +kernel
  have hl := lv_entry ([.ref (ad k0)]) (n := 1) (Nat.le_of_ble_eq_true rfl)
  rw [lg_entry_eq]
  generalize (lg_sl ([.ref (ad k0)]) ++ List.replicate (1 - (lg_sl ([.ref (ad k0)])).length) Slot.unset).toArray = ls at hl ⊢
  have hl : lv_has ls 1 [(0, .ref (ad k0))] := hl
  have S0 : CallFix pg m cod cX3_init 1 s _ wsX3_init RX3 := ⟨hx, hb, hml, hown, hts⟩
  have hfr : ∀ j, j ≠ k0 → j ≠ k1 → ct j = ct j := fun _ _ _ => rfl
  refine lv_aload_n hx hb dX3_init_0 rfl (lv_at hl 0 rfl) ?_
  refine W.objInit hx hb hown (hts (.methodLink RX3 3 objectInit) (by decide +kernel)) (hts (.instanceMethod objectInit) (by decide +kernel)) (hts (.code objectInit ⟨#[0xb1]⟩ 1 none) (by decide +kernel)) rfl (by rw [hml]; exact hl.1) rfl dX3_init_1 (Nat.le_of_ble_eq_true rfl) (Nat.le_of_ble_eq_true rfl) ?_
  refine W.eq (g2 := F0 m 4 ls []) rfl ?_
  refine lv_aload_n hx hb dX3_init_4 rfl (lv_at hl 0 rfl) ?_
  refine lv_bipush (v := 8) hx hb dX3_init_5 (by decide) ?_
  refine kg_newl hx hb (hts (.arrayClass .long) (by decide +kernel)) hK hw hA k1 hk1 hk1a 8 rfl (by omega) (Nat.le_of_ble_eq_true rfl) (Nat.le_of_ble_eq_true rfl) dX3_init_7 (fun H hw => ?_)
  obtain ⟨ct_1, ect_1⟩ : ∃ z, z = kw_up ct k1 (eJ tc 8 (fun _ => 0)) := ⟨_, rfl⟩
  rw [← ect_1] at hw
  have h_2 : ct_1 k0 = some (.inr (3, [.null, .int 0, .int 0, .long 0, .long 0, .int 0])) := by rw [ect_1, kw_up_n (fun q => absurd ((congrArg ct q).symm.trans h0) (by rw [hk1]; intro z; cases z))]; exact h0
  have h_3 : ct_1 k1 = some (eJ tc 8 (fun _ => 0)) := by rw [ect_1]; exact kw_up_s
  have hfr_4 : ∀ j, j ≠ k0 → j ≠ k1 → ct_1 j = ct j := fun j a0 a1 => by rw [ect_1]; exact (kw_up_n a1).trans (hfr j a0 a1)
  refine kg_putF (v := .ref (ad k1)) (ty := .array .long) (C := RX3) (T := TX3) (N := 6) (fs' := [.ref (ad k1), .int 0, .int 0, .long 0, .long 0, .int 0]) hx hb hts hinX3 tyX3 tyX3_ok nmX3 hown hK hw h_2 rfl 0 (by decide) (hts (.fieldLink RX3 9 "BetMaker$Maker" "sold" "[J") (by decide +kernel)) (fun _ h9 => h9) rfl hin2 rfl (by decide +kernel) rfl rfl (Nat.le_of_ble_eq_true rfl) rfl dX3_init_9 (fun H locs hw => ?_)
  obtain ⟨ct_5, ect_5⟩ : ∃ z, z = kw_up ct_1 k0 (.inr (3, [.ref (ad k1), .int 0, .int 0, .long 0, .long 0, .int 0])) := ⟨_, rfl⟩
  rw [← ect_5] at hw
  have h_6 : ct_5 k1 = some (eJ tc 8 (fun _ => 0)) := by rw [ect_5, kw_up_n (kw_neK h_3 h_2 (by intro q; cases q))]; exact h_3
  have h_7 : ct_5 k0 = some (.inr (3, [.ref (ad k1), .int 0, .int 0, .long 0, .long 0, .int 0])) := by rw [ect_5]; exact kw_up_s
  have hfr_8 : ∀ j, j ≠ k0 → j ≠ k1 → ct_5 j = ct j := fun j a0 a1 => by rw [ect_5]; exact (kw_up_n a0).trans (hfr_4 j a0 a1)
  have hq_9 := h_7
  have hq_10 := h_6
  have hend := kw_eq2 hq_9 hq_10 hfr_8
  rw [hend] at hw
  refine W.widen (k := 1) (n := 8) (Nat.le_of_ble_eq_true rfl) (Nat.le_of_ble_eq_true rfl) ?_
  exact W.vret hx hb hr (fun t ht _ => ⟨rfl, by rw [ht]; exact hw.1, hw.2.2.1, hw.2.1.F ht, by rw [ht]; exact hw.2.2.2⟩) hw.2.1.2.2 dX3_init_12
