theorem kput {i n : Nat} (h : i < n) (hn : n < 2 ^ 30) : 0 ≤ (nI i).toInt64 ∧ (nI i).toInt64 ≤ (nI n).toInt64 - 1 := by
  rw [nI_l (by omega), nI_l (by omega), show (1 : Int64) = lN 1 from rfl, lN_sub (by omega)]
  exact ⟨(lN_le (a := 0) (b := i) (by omega) (by omega)).mpr (by omega), (lN_le (by omega) (by omega)).mpr (by omega)⟩
theorem kw_eq17 {ct ct' : Nat → Option va_E} {k0 k1 k2 k3 k4 k5 k6 k7 k8 k9 k10 k11 k12 k13 k14 k15 k16 : Nat} {e0 e1 e2 e3 e4 e5 e6 e7 e8 e9 e10 e11 e12 e13 e14 e15 e16 : va_E} (h0 : ct' k0 = some e0) (h1 : ct' k1 = some e1) (h2 : ct' k2 = some e2) (h3 : ct' k3 = some e3) (h4 : ct' k4 = some e4) (h5 : ct' k5 = some e5) (h6 : ct' k6 = some e6) (h7 : ct' k7 = some e7) (h8 : ct' k8 = some e8) (h9 : ct' k9 = some e9) (h10 : ct' k10 = some e10) (h11 : ct' k11 = some e11) (h12 : ct' k12 = some e12) (h13 : ct' k13 = some e13) (h14 : ct' k14 = some e14) (h15 : ct' k15 = some e15) (h16 : ct' k16 = some e16) (hf : ∀ j, j ≠ k0 → j ≠ k1 → j ≠ k2 → j ≠ k3 → j ≠ k4 → j ≠ k5 → j ≠ k6 → j ≠ k7 → j ≠ k8 → j ≠ k9 → j ≠ k10 → j ≠ k11 → j ≠ k12 → j ≠ k13 → j ≠ k14 → j ≠ k15 → j ≠ k16 → ct' j = ct j) : ct' = kw_up (kw_up (kw_up (kw_up (kw_up (kw_up (kw_up (kw_up (kw_up (kw_up (kw_up (kw_up (kw_up (kw_up (kw_up (kw_up (kw_up ct k0 e0) k1 e1) k2 e2) k3 e3) k4 e4) k5 e5) k6 e6) k7 e7) k8 e8) k9 e9) k10 e10) k11 e11) k12 e12) k13 e13) k14 e14) k15 e15) k16 e16 := by
  funext j
  by_cases q16 : j = k16
  · subst q16; rw [kw_up_s, h16]
  rw [kw_up_n q16]
  by_cases q15 : j = k15
  · subst q15; rw [kw_up_s, h15]
  rw [kw_up_n q15]
  by_cases q14 : j = k14
  · subst q14; rw [kw_up_s, h14]
  rw [kw_up_n q14]
  by_cases q13 : j = k13
  · subst q13; rw [kw_up_s, h13]
  rw [kw_up_n q13]
  by_cases q12 : j = k12
  · subst q12; rw [kw_up_s, h12]
  rw [kw_up_n q12]
  by_cases q11 : j = k11
  · subst q11; rw [kw_up_s, h11]
  rw [kw_up_n q11]
  by_cases q10 : j = k10
  · subst q10; rw [kw_up_s, h10]
  rw [kw_up_n q10]
  by_cases q9 : j = k9
  · subst q9; rw [kw_up_s, h9]
  rw [kw_up_n q9]
  by_cases q8 : j = k8
  · subst q8; rw [kw_up_s, h8]
  rw [kw_up_n q8]
  by_cases q7 : j = k7
  · subst q7; rw [kw_up_s, h7]
  rw [kw_up_n q7]
  by_cases q6 : j = k6
  · subst q6; rw [kw_up_s, h6]
  rw [kw_up_n q6]
  by_cases q5 : j = k5
  · subst q5; rw [kw_up_s, h5]
  rw [kw_up_n q5]
  by_cases q4 : j = k4
  · subst q4; rw [kw_up_s, h4]
  rw [kw_up_n q4]
  by_cases q3 : j = k3
  · subst q3; rw [kw_up_s, h3]
  rw [kw_up_n q3]
  by_cases q2 : j = k2
  · subst q2; rw [kw_up_s, h2]
  rw [kw_up_n q2]
  by_cases q1 : j = k1
  · subst q1; rw [kw_up_s, h1]
  rw [kw_up_n q1]
  by_cases q0 : j = k0
  · subst q0; rw [kw_up_s, h0]
  rw [kw_up_n q0]
  exact hf j q0 q1 q2 q3 q4 q5 q6 q7 q8 q9 q10 q11 q12 q13 q14 q15 q16
set_option maxHeartbeats 4000000 in
set_option maxRecDepth 100000 in
theorem c_X11_best_n (l : Launch) (D : va_G) (tc : Nat → ClassId) (sz : Nat) (ad : Nat → Nat) (ct : Nat → Option va_E) {N nt no nf : Nat} {ft tr b cm da bs : Int32} {g : Int64}                 {t set : Int32} (h0 : ct 200 = some (.inr (11, [.int ft, .int tr, .int (nI N), .int b, .ref (ad 201), .long g, .int cm, .int da, .int (nI nt), .ref (ad 202), .ref (ad 203), .ref (ad 204), .ref (ad 205), .ref (ad 206), .ref (ad 207), .ref (ad 208), .ref (ad 209), .int (nI no), .ref (ad 210), .ref (ad 211), .ref (ad 212), .ref (ad 213), .ref (ad 214), .int bs, .int (nI nf), .ref (ad 215), .ref (ad 216)]))) (hbad : ¬ ((0 ≤ t ∧ t < nI nt) ∧ (1 ≤ set.toInt64 ∧ set.toInt64 ≤ 1 <<< ((nI N).toInt64 &&& 63) - 2) ∧ cm = (-9))) : Met l yX11_best wsX11_best ({ frames := 4, cells := 0, slots := 0, locals := 119 }) (va_Pc [.ref (ad 200), .int t, .int set] (kw_B D tc sz ad ct)) (k2_QcV (.long (-9223372036854775808))) 0 0 (fun _ => False) := by
  refine Met.ofW (cc := cX11_best) (maxL := 12) (ret := (some .long)) (by decide) rfl ?_
  intro pg en s m args below meth cod s₁ B hml hv
  obtain ⟨rfl, hsz, hP0, hK⟩ := hv
  have hx := B.exec
  have hb := B.bytes
  have hr := B.returns
  have hts := atoms_spec (ws := wsX11_best) B.pre
  have hown : s.vm.findClass RX11 = some m.cls := findClass_of_methodNamed B.named
  have hlocks := B.notSynchronized
  subst hsz
  have hw := kw_H.start hP0
  generalize kw_A ad ct s.heap.size = A at hw
  have hinX11 : ∀ w ∈ wsX110, w ∈ wsX11_best := by decide +kernel
  have hl := lv_entry ([.ref (ad 200), .int t, .int set]) (n := 12) (Nat.le_of_ble_eq_true rfl)
  rw [lg_entry_eq]
  generalize (lg_sl ([.ref (ad 200), .int t, .int set]) ++ List.replicate (12 - (lg_sl ([.ref (ad 200), .int t, .int set])).length) Slot.unset).toArray = ls at hl ⊢
  have hl : lv_has ls 12 [(0, .ref (ad 200)), (1, .int t), (2, .int set)] := hl
  have S0 : CallFix pg m cod cX11_best 12 s _ wsX11_best RX11 := ⟨hx, hb, hml, hown, hts⟩
  refine lv_aload_n hx hb dX11_best_0 rfl (lv_at hl 0 rfl) ?_
  refine lv_iload_n hx hb dX11_best_1 rfl (lv_at hl 1 rfl) ?_
  refine kc_v (As := [.int t]) (rest := []) S0 (c_X11_isTrader l D tc s.heap.size ad ct (N := N) (nt := nt) (no := no) (nf := nf) h0) (cwV 1 hts gX11_best_X11_isTrader rfl rfl rfl (by decide +kernel) ⟨Nat.le_of_ble_eq_true rfl, Nat.le_of_ble_eq_true rfl⟩) hK hw h0 rfl rfl hl.1 rfl (Nat.le_of_ble_eq_true rfl) dX11_best_2 ⟨Nat.le_of_ble_eq_true rfl, (Nat.le_of_ble_eq_true rfl)⟩ ?_
  refine kb_ifeq (tgt := 25) hx hb dX11_best_5 (by decide) (fun c_1 => ?_) (fun c_1 => ?_)
  · refine lv_ldc2 (v := (-9223372036854775808)) hx hb hown (hts (.constantLong RX11 72 (-9223372036854775808)) (by decide +kernel)) dX11_best_25 ?_
    exact W.lret hx hb hr (fun t ht _ => ⟨rfl, ht⟩) (fun _ h => absurd h List.not_mem_nil) dX11_best_28
  · refine lv_aload_n hx hb dX11_best_8 rfl (lv_at hl 0 rfl) ?_
    refine lv_iload_n hx hb dX11_best_9 rfl (lv_at hl 2 rfl) ?_
    refine kc_v (As := [.int set]) (rest := []) S0 (c_X11_isSet l D tc s.heap.size ad ct (N := N) (nt := nt) (no := no) (nf := nf) h0) (cwV 1 hts gX11_best_X11_isSet rfl rfl rfl (by decide +kernel) ⟨Nat.le_of_ble_eq_true rfl, Nat.le_of_ble_eq_true rfl⟩) hK hw h0 rfl rfl hl.1 rfl (Nat.le_of_ble_eq_true rfl) dX11_best_10 ⟨Nat.le_of_ble_eq_true rfl, (Nat.le_of_ble_eq_true rfl)⟩ ?_
    refine kb_ifeq (tgt := 25) hx hb dX11_best_13 (by decide) (fun c_2 => ?_) (fun c_2 => ?_)
    · refine lv_ldc2 (v := (-9223372036854775808)) hx hb hown (hts (.constantLong RX11 72 (-9223372036854775808)) (by decide +kernel)) dX11_best_25 ?_
      exact W.lret hx hb hr (fun t ht _ => ⟨rfl, ht⟩) (fun _ h => absurd h List.not_mem_nil) dX11_best_28
    · refine lv_aload_n hx hb dX11_best_16 rfl (lv_at hl 0 rfl) ?_
      refine kg_get (v := .int cm) (C := RX11) (T := TX11) (N := 27) hx hb hts hinX11 hown hK hw h0 rfl 6 (by decide) (hts (.fieldLink RX11 20 "BetMakerModel" "came" "I") (by decide +kernel)) (fun _ h9 => h9) rfl dX11_best_17 ?_
      refine lv_bipush (v := (-9)) hx hb dX11_best_20 (by decide) ?_
      refine lv_icmp_eq (tgt := 29) hx hb dX11_best_22 (by decide) (fun c_3 => ?_) (fun c_3 => ?_)
      · exact absurd ⟨c_1, c_2, c_3⟩ hbad
      · refine lv_ldc2 (v := (-9223372036854775808)) hx hb hown (hts (.constantLong RX11 72 (-9223372036854775808)) (by decide +kernel)) dX11_best_25 ?_
        exact W.lret hx hb hr (fun t ht _ => ⟨rfl, ht⟩) (fun _ h => absurd h List.not_mem_nil) dX11_best_28
set_option maxHeartbeats 4000000 in
set_option maxRecDepth 100000 in
theorem c_X11_best (l : Launch) (D : va_G) (tc : Nat → ClassId) (sz : Nat) (ad : Nat → Nat) (ct : Nat → Option va_E) {N nt no nf : Nat} {ft tr b cm da bs : Int32} {g : Int64} {f : Nat → Int64}  {pu : Nat → Int64}  {ho : Nat → Int64} {we : Nat → Int32}           {t : Nat} {set : Int32} (h0 : ct 200 = some (.inr (11, [.int ft, .int tr, .int (nI N), .int b, .ref (ad 201), .long g, .int cm, .int da, .int (nI nt), .ref (ad 202), .ref (ad 203), .ref (ad 204), .ref (ad 205), .ref (ad 206), .ref (ad 207), .ref (ad 208), .ref (ad 209), .int (nI no), .ref (ad 210), .ref (ad 211), .ref (ad 212), .ref (ad 213), .ref (ad 214), .int bs, .int (nI nf), .ref (ad 215), .ref (ad 216)]))) (h201 : ct 201 = some (eJ tc 8 f)) (h203 : ct 203 = some (eJ tc 6 pu)) (h205 : ct 205 = some (eJ tc 48 ho)) (h206 : ct 206 = some (eI tc 48 we)) (ht : t < nt) (hnt : nt ≤ 6) (hN : N ≤ 8) (hN2 : 2 ≤ N) (hs : 1 ≤ set.toInt64 ∧ set.toInt64 ≤ 1 <<< ((nI N).toInt64 &&& 63) - 2) (hm : cm = (-9)) : Met l yX11_best wsX11_best ({ frames := 4, cells := 0, slots := 0, locals := 119 }) (va_Pc [.ref (ad 200), .int (nI t), .int set] (kw_B D tc sz ad ct)) (k2_QcV (.long ((kBs (fun x => kWo b N f (fun c => we (8 * t + c)) set x.toInt64) (fun x => decide (kWy b N f set x.toInt64 (pu t) (fun c => ho (8 * t + c)) = 0)) 100).1.toInt64))) 0 0 (fun _ => False) := by
  refine Met.ofW (cc := cX11_best) (maxL := 12) (ret := (some .long)) (by decide) rfl ?_
  intro pg en s m args below meth cod s₁ B hml hv
  obtain ⟨rfl, hsz, hP0, hK⟩ := hv
  have hx := B.exec
  have hb := B.bytes
  have hr := B.returns
  have hts := atoms_spec (ws := wsX11_best) B.pre
  have hown : s.vm.findClass RX11 = some m.cls := findClass_of_methodNamed B.named
  have hlocks := B.notSynchronized
  subst hsz
  have hw := kw_H.start hP0
  generalize kw_A ad ct s.heap.size = A at hw
  have hinX11 : ∀ w ∈ wsX110, w ∈ wsX11_best := by decide +kernel
  have hl := lv_entry ([.ref (ad 200), .int (nI t), .int set]) (n := 12) (Nat.le_of_ble_eq_true rfl)
  rw [lg_entry_eq]
  generalize (lg_sl ([.ref (ad 200), .int (nI t), .int set]) ++ List.replicate (12 - (lg_sl ([.ref (ad 200), .int (nI t), .int set])).length) Slot.unset).toArray = ls at hl ⊢
  have hl : lv_has ls 12 [(0, .ref (ad 200)), (1, .int (nI t)), (2, .int set)] := hl
  have S0 : CallFix pg m cod cX11_best 12 s _ wsX11_best RX11 := ⟨hx, hb, hml, hown, hts⟩
  have kT : 0 ≤ nI t ∧ nI t < nI nt := ⟨nI_pos' (by omega), nI_lt ht (by omega)⟩
  refine lv_aload_n hx hb dX11_best_0 rfl (lv_at hl 0 rfl) ?_
  refine lv_iload_n hx hb dX11_best_1 rfl (lv_at hl 1 rfl) ?_
  refine kc_v (As := [.int (nI t)]) (rest := []) S0 (c_X11_isTrader l D tc s.heap.size ad ct (N := N) (nt := nt) (no := no) (nf := nf) h0) (cwV 1 hts gX11_best_X11_isTrader rfl rfl rfl (by decide +kernel) ⟨Nat.le_of_ble_eq_true rfl, Nat.le_of_ble_eq_true rfl⟩) hK hw h0 rfl rfl hl.1 rfl (Nat.le_of_ble_eq_true rfl) dX11_best_2 ⟨Nat.le_of_ble_eq_true rfl, (Nat.le_of_ble_eq_true rfl)⟩ ?_
  refine kb_ifeq (tgt := 25) hx hb dX11_best_5 (by decide) (fun c_1 => ?_) (fun c_1 => ?_)
  · exact absurd kT c_1
  · refine lv_aload_n hx hb dX11_best_8 rfl (lv_at hl 0 rfl) ?_
    refine lv_iload_n hx hb dX11_best_9 rfl (lv_at hl 2 rfl) ?_
    refine kc_v (As := [.int set]) (rest := []) S0 (c_X11_isSet l D tc s.heap.size ad ct (N := N) (nt := nt) (no := no) (nf := nf) h0) (cwV 1 hts gX11_best_X11_isSet rfl rfl rfl (by decide +kernel) ⟨Nat.le_of_ble_eq_true rfl, Nat.le_of_ble_eq_true rfl⟩) hK hw h0 rfl rfl hl.1 rfl (Nat.le_of_ble_eq_true rfl) dX11_best_10 ⟨Nat.le_of_ble_eq_true rfl, (Nat.le_of_ble_eq_true rfl)⟩ ?_
    refine kb_ifeq (tgt := 25) hx hb dX11_best_13 (by decide) (fun c_2 => ?_) (fun c_2 => ?_)
    · exact absurd hs c_2
    · refine lv_aload_n hx hb dX11_best_16 rfl (lv_at hl 0 rfl) ?_
      refine kg_get (v := .int cm) (C := RX11) (T := TX11) (N := 27) hx hb hts hinX11 hown hK hw h0 rfl 6 (by decide) (hts (.fieldLink RX11 20 "BetMakerModel" "came" "I") (by decide +kernel)) (fun _ h9 => h9) rfl dX11_best_17 ?_
      refine lv_bipush (v := (-9)) hx hb dX11_best_20 (by decide) ?_
      refine lv_icmp_eq (tgt := 29) hx hb dX11_best_22 (by decide) (fun c_3 => ?_) (fun c_3 => ?_)
      · refine lv_lconst (v := 0) hx hb dX11_best_29 (by decide) ?_
        refine lv_lstore_n (lv' := [(3, .long 0), (0, .ref (ad 200)), (1, .int (nI t)), (2, .int set)]) hx hb dX11_best_30 rfl hl (by decide) rfl (fun ls hl => ?_)
        refine lv_lconst (v := 0) hx hb dX11_best_31 (by decide) ?_
        refine lv_lstore (lv' := [(5, .long 0), (3, .long 0), (0, .ref (ad 200)), (1, .int (nI t)), (2, .int set)]) hx hb dX11_best_32 hl (by decide) rfl (fun ls hl => ?_)
        refine lv_iconst (v := 1) hx hb dX11_best_34 (by decide) ?_
        refine lv_istore (lv' := [(7, .int 1), (5, .long 0), (3, .long 0), (0, .ref (ad 200)), (1, .int (nI t)), (2, .int set)]) hx hb dX11_best_35 hl (by decide) rfl (fun ls hl => ?_)
        suffices lp37 : ∀ (nfu : Nat) (k1 : Nat) (b1 m1 : Int64) (ls : Array Slot), 51 - k1 < nfu → 1 ≤ k1 → k1 ≤ 51 → b1 = (kBs (fun x => kWo b N f (fun c => we (8 * t + c)) set x.toInt64) (fun x => decide (kWy b N f set x.toInt64 (pu t) (fun c => ho (8 * t + c)) = 0)) (2 * (k1 - 1))).1.toInt64 → m1 = (kBs (fun x => kWo b N f (fun c => we (8 * t + c)) set x.toInt64) (fun x => decide (kWy b N f set x.toInt64 (pu t) (fun c => ho (8 * t + c)) = 0)) (2 * (k1 - 1))).2 → lv_has ls 12 [(0, .ref (ad 200)), (1, .int (nI t)), (2, .int set), (3, .long b1), (5, .long m1), (7, .int (nI k1))] → W pg l en (headSpec wsX11_best ({ frames := 4, cells := 0, slots := 0, locals := 119 })).room s m (([.ref (ad 200), .int (nI t), .int set] : List Value).toArray) below meth cod s.heap [] 0 0 (MQ below (k2_QcV (.long ((kBs (fun x => kWo b N f (fun c => we (8 * t + c)) set x.toInt64) (fun x => decide (kWy b N f set x.toInt64 (pu t) (fun c => ho (8 * t + c)) = 0)) 100).1.toInt64))) (([.ref (ad 200), .int (nI t), .int set] : List Value).toArray) s 0 0 (fun _ => False)) (F0 m 37 ls []) by
          exact lp37 (51 - 1 + 1) 1 0 0 ls (by omega) (by omega) (by omega) (by rfl) (by rfl) (by have hl9 := lv_sub hl (l' := [(0, .ref (ad 200)), (1, .int (nI t)), (2, .int set), (3, .long 0), (5, .long 0), (7, .int 1)]) [3, 4, 5, 2, 1, 0] rfl; exact hl9)
        intro n37
        induction n37 with
        | zero => intro k1 b1 m1 ls hfu; exact absurd hfu (Nat.not_lt_zero _)
        | succ n37 ih37 =>
          intro k1 b1 m1 ls hfu37 hk1 hk2 hb2 hm2 hl
          refine lv_iload hx hb dX11_best_37 (lv_at hl 5 rfl) ?_
          refine lv_bipush (v := 50) hx hb dX11_best_39 (by decide) ?_
          refine kn_gt k1 50 rfl rfl (by omega) (by omega) (tgt := 119) hx hb dX11_best_41 (by decide) (fun c_4 => ?_) (fun c_4 => ?_)
          · refine lv_lload_n hx hb dX11_best_119 rfl (lv_at hl 3 rfl) ?_
            refine W.eq (congrArg (fun z => F0 m 120 ls [.long z]) (show b1 = ((kBs (fun x => kWo b N f (fun c => we (8 * t + c)) set x.toInt64) (fun x => decide (kWy b N f set x.toInt64 (pu t) (fun c => ho (8 * t + c)) = 0)) 100).1.toInt64) from by rw [hb2, show 2 * (k1 - 1) = 100 by omega])) ?_
            exact W.lret hx hb hr (fun t ht _ => ⟨rfl, ht⟩) (fun _ h => absurd h List.not_mem_nil) dX11_best_120
          · refine lv_iconst (v := 0) hx hb dX11_best_44 (by decide) ?_
            refine lv_istore (lv' := [(8, .int 0), (0, .ref (ad 200)), (1, .int (nI t)), (2, .int set), (3, .long b1), (5, .long m1), (7, .int (nI k1))]) hx hb dX11_best_45 hl (by decide) rfl (fun ls hl => ?_)
            suffices lp47 : ∀ (nfu : Nat) (w1 : Nat) (b2 m2 : Int64) (ls : Array Slot), 2 - w1 < nfu → w1 ≤ 2 → b2 = (kBs (fun x => kWo b N f (fun c => we (8 * t + c)) set x.toInt64) (fun x => decide (kWy b N f set x.toInt64 (pu t) (fun c => ho (8 * t + c)) = 0)) (2 * (k1 - 1) + w1)).1.toInt64 → m2 = (kBs (fun x => kWo b N f (fun c => we (8 * t + c)) set x.toInt64) (fun x => decide (kWy b N f set x.toInt64 (pu t) (fun c => ho (8 * t + c)) = 0)) (2 * (k1 - 1) + w1)).2 → lv_has ls 12 [(0, .ref (ad 200)), (1, .int (nI t)), (2, .int set), (3, .long b2), (5, .long m2), (7, .int (nI k1)), (8, .int (nI w1))] → W pg l en (headSpec wsX11_best ({ frames := 4, cells := 0, slots := 0, locals := 119 })).room s m (([.ref (ad 200), .int (nI t), .int set] : List Value).toArray) below meth cod s.heap [] 0 0 (MQ below (k2_QcV (.long ((kBs (fun x => kWo b N f (fun c => we (8 * t + c)) set x.toInt64) (fun x => decide (kWy b N f set x.toInt64 (pu t) (fun c => ho (8 * t + c)) = 0)) 100).1.toInt64))) (([.ref (ad 200), .int (nI t), .int set] : List Value).toArray) s 0 0 (fun _ => False)) (F0 m 47 ls []) by
              exact lp47 (2 - 0 + 1) 0 b1 m1 ls (by omega) (by omega) (by exact hb2) (by exact hm2) (by have hl9 := lv_sub hl (l' := [(0, .ref (ad 200)), (1, .int (nI t)), (2, .int set), (3, .long b1), (5, .long m1), (7, .int (nI k1)), (8, .int 0)]) [1, 2, 3, 4, 5, 6, 0] rfl; exact hl9)
            intro n47
            induction n47 with
            | zero => intro w1 b2 m2 ls hfu; exact absurd hfu (Nat.not_lt_zero _)
            | succ n47 ih47 =>
              intro w1 b2 m2 ls hfu47 hw1 hb3 hm3 hl
              refine lv_iload hx hb dX11_best_47 (lv_at hl 6 rfl) ?_
              refine lv_iconst (v := 2) hx hb dX11_best_49 (by decide) ?_
              refine kn_ge w1 2 rfl rfl (by omega) (by omega) (tgt := 113) hx hb dX11_best_50 (by decide) (fun c_5 => ?_) (fun c_5 => ?_)
              · refine lv_iinc (v := (nI (k1 + 1))) (lv' := [(7, .int (nI (k1 + 1))), (0, .ref (ad 200)), (1, .int (nI t)), (2, .int set), (3, .long b2), (5, .long m2), (8, .int (nI w1))]) hx hb dX11_best_113 hl (k := 5) rfl (nI_1 k1) (by decide) rfl (fun ls hl => ?_)
                refine lv_goto (tgt := 37) hx hb dX11_best_116 (by decide) ?_
                exact ih37 (k1 + 1) b2 m2 ls (by omega) (by omega) (by omega) (by rw [hb3, show 2 * (k1 - 1) + w1 = 2 * (k1 + 1 - 1) by omega]) (by rw [hm3, show 2 * (k1 - 1) + w1 = 2 * (k1 + 1 - 1) by omega]) (lv_sub hl [1, 2, 3, 4, 5, 0] rfl)
              · refine lv_iload hx hb dX11_best_53 (lv_at hl 6 rfl) ?_
                refine lv_if_ne (tgt := 63) hx hb dX11_best_55 (by decide) (fun c_6 => ?_) (fun c_6 => ?_)
                · refine lv_iload hx hb dX11_best_63 (lv_at hl 5 rfl) ?_
                  refine lv_ineg hx hb dX11_best_65 ?_
                  refine lv_istore (lv' := [(9, .int (-(nI k1))), (0, .ref (ad 200)), (1, .int (nI t)), (2, .int set), (3, .long b2), (5, .long m2), (7, .int (nI k1)), (8, .int (nI w1))]) hx hb dX11_best_66 hl (by decide) rfl (fun ls hl => ?_)
                  refine lv_aload_n hx hb dX11_best_68 rfl (lv_at hl 1 rfl) ?_
                  refine lv_iload_n hx hb dX11_best_69 rfl (lv_at hl 2 rfl) ?_
                  refine lv_iload_n hx hb dX11_best_70 rfl (lv_at hl 3 rfl) ?_
                  refine lv_iload hx hb dX11_best_71 (lv_at hl 0 rfl) ?_
                  refine lv_i2l (v := (-(nI k1)).toInt64) hx hb dX11_best_73 rfl ?_
                  refine kc_v (As := [.int (nI t), .int set, .long ((-(nI k1)).toInt64)]) (rest := []) S0 (c_X11_worthOf l D tc s.heap.size ad ct (t := t) (N := N) (nt := nt) (no := no) (nf := nf) h0 h201 h206 (by omega) (by omega)) (cwV 3 hts gX11_best_X11_worthOf rfl rfl rfl (by decide +kernel) ⟨Nat.le_of_ble_eq_true rfl, Nat.le_of_ble_eq_true rfl⟩) hK hw h0 rfl rfl hl.1 rfl (Nat.le_of_ble_eq_true rfl) dX11_best_74 ⟨Nat.le_of_ble_eq_true rfl, (Nat.le_of_ble_eq_true rfl)⟩ ?_
                  refine lv_lstore (lv' := [(10, .long (kWo b N f (fun c => we (8 * t + c)) set ((-(nI k1)).toInt64))), (9, .int (-(nI k1))), (0, .ref (ad 200)), (1, .int (nI t)), (2, .int set), (3, .long b2), (5, .long m2), (7, .int (nI k1)), (8, .int (nI w1))]) hx hb dX11_best_77 hl (by decide) rfl (fun ls hl => ?_)
                  refine lv_lload hx hb dX11_best_79 (lv_at hl 0 rfl) ?_
                  refine lv_lload hx hb dX11_best_81 (lv_at hl 6 rfl) ?_
                  refine W.lcmp hx hb dX11_best_83 ?_
                  refine kl_le (tgt := 107) hx hb dX11_best_84 (by decide) (fun c_7 => ?_) (fun c_7 => ?_)
                  · refine lv_iinc (v := (nI (w1 + 1))) (lv' := [(8, .int (nI (w1 + 1))), (10, .long (kWo b N f (fun c => we (8 * t + c)) set ((-(nI k1)).toInt64))), (9, .int (-(nI k1))), (0, .ref (ad 200)), (1, .int (nI t)), (2, .int set), (3, .long b2), (5, .long m2), (7, .int (nI k1))]) hx hb dX11_best_107 hl (k := 8) rfl (nI_1 w1) (by decide) rfl (fun ls hl => ?_)
                    refine lv_goto (tgt := 47) hx hb dX11_best_110 (by decide) ?_
                    exact ih47 (w1 + 1) b2 m2 ls (by omega) (by omega) (by rw [hb3]; exact (congrArg (fun z => z.1.toInt64) (kBs_f (v := (fun x => kWo b N f (fun c => we (8 * t + c)) set x.toInt64)) (ok := (fun x => decide (kWy b N f set x.toInt64 (pu t) (fun c => ho (8 * t + c)) = 0))) (kBx_1 hk1 (by omega) c_6) (fun q => kr_4 c_7 (by rw [hm3]; exact q.1)))).symm) (by rw [hm3]; exact (congrArg (fun z => z.2) (kBs_f (v := (fun x => kWo b N f (fun c => we (8 * t + c)) set x.toInt64)) (ok := (fun x => decide (kWy b N f set x.toInt64 (pu t) (fun c => ho (8 * t + c)) = 0))) (kBx_1 hk1 (by omega) c_6) (fun q => kr_4 c_7 (by rw [hm3]; exact q.1)))).symm) (lv_sub hl [3, 4, 5, 6, 7, 8, 0] rfl)
                  · refine lv_aload_n hx hb dX11_best_87 rfl (lv_at hl 2 rfl) ?_
                    refine lv_iload_n hx hb dX11_best_88 rfl (lv_at hl 3 rfl) ?_
                    refine lv_iload_n hx hb dX11_best_89 rfl (lv_at hl 4 rfl) ?_
                    refine lv_iload hx hb dX11_best_90 (lv_at hl 1 rfl) ?_
                    refine lv_i2l (v := (-(nI k1)).toInt64) hx hb dX11_best_92 rfl ?_
                    refine kc_v (As := [.int (nI t), .int set, .long ((-(nI k1)).toInt64)]) (rest := []) S0 (c_X11_why l D tc s.heap.size ad ct (t := t) (N := N) (nt := nt) (no := no) (nf := nf) h0 h201 h203 h205 (by omega) (by omega) (by omega)) (cwV 3 hts gX11_best_X11_why rfl rfl rfl (by decide +kernel) ⟨Nat.le_of_ble_eq_true rfl, Nat.le_of_ble_eq_true rfl⟩) hK hw h0 rfl rfl hl.1 rfl (Nat.le_of_ble_eq_true rfl) dX11_best_93 ⟨Nat.le_of_ble_eq_true rfl, (Nat.le_of_ble_eq_true rfl)⟩ ?_
                    refine lv_if_ne (tgt := 107) hx hb dX11_best_96 (by decide) (fun c_8 => ?_) (fun c_8 => ?_)
                    · refine lv_iinc (v := (nI (w1 + 1))) (lv' := [(8, .int (nI (w1 + 1))), (10, .long (kWo b N f (fun c => we (8 * t + c)) set ((-(nI k1)).toInt64))), (9, .int (-(nI k1))), (0, .ref (ad 200)), (1, .int (nI t)), (2, .int set), (3, .long b2), (5, .long m2), (7, .int (nI k1))]) hx hb dX11_best_107 hl (k := 8) rfl (nI_1 w1) (by decide) rfl (fun ls hl => ?_)
                      refine lv_goto (tgt := 47) hx hb dX11_best_110 (by decide) ?_
                      exact ih47 (w1 + 1) b2 m2 ls (by omega) (by omega) (by rw [hb3]; exact (congrArg (fun z => z.1.toInt64) (kBs_f (v := (fun x => kWo b N f (fun c => we (8 * t + c)) set x.toInt64)) (ok := (fun x => decide (kWy b N f set x.toInt64 (pu t) (fun c => ho (8 * t + c)) = 0))) (kBx_1 hk1 (by omega) c_6) (fun q => c_8 (of_decide_eq_true q.2)))).symm) (by rw [hm3]; exact (congrArg (fun z => z.2) (kBs_f (v := (fun x => kWo b N f (fun c => we (8 * t + c)) set x.toInt64)) (ok := (fun x => decide (kWy b N f set x.toInt64 (pu t) (fun c => ho (8 * t + c)) = 0))) (kBx_1 hk1 (by omega) c_6) (fun q => c_8 (of_decide_eq_true q.2)))).symm) (lv_sub hl [3, 4, 5, 6, 7, 8, 0] rfl)
                    · refine lv_lload hx hb dX11_best_99 (lv_at hl 0 rfl) ?_
                      refine lv_lstore (lv' := [(5, .long (kWo b N f (fun c => we (8 * t + c)) set ((-(nI k1)).toInt64))), (10, .long (kWo b N f (fun c => we (8 * t + c)) set ((-(nI k1)).toInt64))), (9, .int (-(nI k1))), (0, .ref (ad 200)), (1, .int (nI t)), (2, .int set), (3, .long b2), (7, .int (nI k1)), (8, .int (nI w1))]) hx hb dX11_best_101 hl (by decide) rfl (fun ls hl => ?_)
                      refine lv_iload hx hb dX11_best_103 (lv_at hl 2 rfl) ?_
                      refine lv_i2l (v := (-(nI k1)).toInt64) hx hb dX11_best_105 rfl ?_
                      refine lv_lstore_n (lv' := [(3, .long ((-(nI k1)).toInt64)), (5, .long (kWo b N f (fun c => we (8 * t + c)) set ((-(nI k1)).toInt64))), (10, .long (kWo b N f (fun c => we (8 * t + c)) set ((-(nI k1)).toInt64))), (9, .int (-(nI k1))), (0, .ref (ad 200)), (1, .int (nI t)), (2, .int set), (7, .int (nI k1)), (8, .int (nI w1))]) hx hb dX11_best_106 rfl hl (by decide) rfl (fun ls hl => ?_)
                      refine lv_iinc (v := (nI (w1 + 1))) (lv' := [(8, .int (nI (w1 + 1))), (3, .long ((-(nI k1)).toInt64)), (5, .long (kWo b N f (fun c => we (8 * t + c)) set ((-(nI k1)).toInt64))), (10, .long (kWo b N f (fun c => we (8 * t + c)) set ((-(nI k1)).toInt64))), (9, .int (-(nI k1))), (0, .ref (ad 200)), (1, .int (nI t)), (2, .int set), (7, .int (nI k1))]) hx hb dX11_best_107 hl (k := 8) rfl (nI_1 w1) (by decide) rfl (fun ls hl => ?_)
                      refine lv_goto (tgt := 47) hx hb dX11_best_110 (by decide) ?_
                      exact ih47 (w1 + 1) ((-(nI k1)).toInt64) (kWo b N f (fun c => we (8 * t + c)) set ((-(nI k1)).toInt64)) ls (by omega) (by omega) (by exact (congrArg (fun z => z.1.toInt64) (kBs_t (v := (fun x => kWo b N f (fun c => we (8 * t + c)) set x.toInt64)) (ok := (fun x => decide (kWy b N f set x.toInt64 (pu t) (fun c => ho (8 * t + c)) = 0))) (kBx_1 hk1 (by omega) c_6) (by rw [← hm3]; exact kr_2 c_7) (decide_eq_true c_8))).symm) (by exact (congrArg (fun z => z.2) (kBs_t (v := (fun x => kWo b N f (fun c => we (8 * t + c)) set x.toInt64)) (ok := (fun x => decide (kWy b N f set x.toInt64 (pu t) (fun c => ho (8 * t + c)) = 0))) (kBx_1 hk1 (by omega) c_6) (by rw [← hm3]; exact kr_2 c_7) (decide_eq_true c_8))).symm) (lv_sub hl [5, 6, 7, 1, 2, 8, 0] rfl)
                · refine lv_iload hx hb dX11_best_58 (lv_at hl 5 rfl) ?_
                  refine lv_goto (tgt := 66) hx hb dX11_best_60 (by decide) ?_
                  refine lv_istore (lv' := [(9, .int (nI k1)), (0, .ref (ad 200)), (1, .int (nI t)), (2, .int set), (3, .long b2), (5, .long m2), (7, .int (nI k1)), (8, .int (nI w1))]) hx hb dX11_best_66 hl (by decide) rfl (fun ls hl => ?_)
                  refine lv_aload_n hx hb dX11_best_68 rfl (lv_at hl 1 rfl) ?_
                  refine lv_iload_n hx hb dX11_best_69 rfl (lv_at hl 2 rfl) ?_
                  refine lv_iload_n hx hb dX11_best_70 rfl (lv_at hl 3 rfl) ?_
                  refine lv_iload hx hb dX11_best_71 (lv_at hl 0 rfl) ?_
                  refine lv_i2l (v := (nI k1).toInt64) hx hb dX11_best_73 rfl ?_
                  refine kc_v (As := [.int (nI t), .int set, .long ((nI k1).toInt64)]) (rest := []) S0 (c_X11_worthOf l D tc s.heap.size ad ct (t := t) (N := N) (nt := nt) (no := no) (nf := nf) h0 h201 h206 (by omega) (by omega)) (cwV 3 hts gX11_best_X11_worthOf rfl rfl rfl (by decide +kernel) ⟨Nat.le_of_ble_eq_true rfl, Nat.le_of_ble_eq_true rfl⟩) hK hw h0 rfl rfl hl.1 rfl (Nat.le_of_ble_eq_true rfl) dX11_best_74 ⟨Nat.le_of_ble_eq_true rfl, (Nat.le_of_ble_eq_true rfl)⟩ ?_
                  refine lv_lstore (lv' := [(10, .long (kWo b N f (fun c => we (8 * t + c)) set ((nI k1).toInt64))), (9, .int (nI k1)), (0, .ref (ad 200)), (1, .int (nI t)), (2, .int set), (3, .long b2), (5, .long m2), (7, .int (nI k1)), (8, .int (nI w1))]) hx hb dX11_best_77 hl (by decide) rfl (fun ls hl => ?_)
                  refine lv_lload hx hb dX11_best_79 (lv_at hl 0 rfl) ?_
                  refine lv_lload hx hb dX11_best_81 (lv_at hl 6 rfl) ?_
                  refine W.lcmp hx hb dX11_best_83 ?_
                  refine kl_le (tgt := 107) hx hb dX11_best_84 (by decide) (fun c_9 => ?_) (fun c_9 => ?_)
                  · refine lv_iinc (v := (nI (w1 + 1))) (lv' := [(8, .int (nI (w1 + 1))), (10, .long (kWo b N f (fun c => we (8 * t + c)) set ((nI k1).toInt64))), (9, .int (nI k1)), (0, .ref (ad 200)), (1, .int (nI t)), (2, .int set), (3, .long b2), (5, .long m2), (7, .int (nI k1))]) hx hb dX11_best_107 hl (k := 8) rfl (nI_1 w1) (by decide) rfl (fun ls hl => ?_)
                    refine lv_goto (tgt := 47) hx hb dX11_best_110 (by decide) ?_
                    exact ih47 (w1 + 1) b2 m2 ls (by omega) (by omega) (by rw [hb3]; exact (congrArg (fun z => z.1.toInt64) (kBs_f (v := (fun x => kWo b N f (fun c => we (8 * t + c)) set x.toInt64)) (ok := (fun x => decide (kWy b N f set x.toInt64 (pu t) (fun c => ho (8 * t + c)) = 0))) (kBx_0 hk1 (by omega) c_6) (fun q => kr_4 c_9 (by rw [hm3]; exact q.1)))).symm) (by rw [hm3]; exact (congrArg (fun z => z.2) (kBs_f (v := (fun x => kWo b N f (fun c => we (8 * t + c)) set x.toInt64)) (ok := (fun x => decide (kWy b N f set x.toInt64 (pu t) (fun c => ho (8 * t + c)) = 0))) (kBx_0 hk1 (by omega) c_6) (fun q => kr_4 c_9 (by rw [hm3]; exact q.1)))).symm) (lv_sub hl [3, 4, 5, 6, 7, 8, 0] rfl)
                  · refine lv_aload_n hx hb dX11_best_87 rfl (lv_at hl 2 rfl) ?_
                    refine lv_iload_n hx hb dX11_best_88 rfl (lv_at hl 3 rfl) ?_
                    refine lv_iload_n hx hb dX11_best_89 rfl (lv_at hl 4 rfl) ?_
                    refine lv_iload hx hb dX11_best_90 (lv_at hl 1 rfl) ?_
                    refine lv_i2l (v := (nI k1).toInt64) hx hb dX11_best_92 rfl ?_
                    refine kc_v (As := [.int (nI t), .int set, .long ((nI k1).toInt64)]) (rest := []) S0 (c_X11_why l D tc s.heap.size ad ct (t := t) (N := N) (nt := nt) (no := no) (nf := nf) h0 h201 h203 h205 (by omega) (by omega) (by omega)) (cwV 3 hts gX11_best_X11_why rfl rfl rfl (by decide +kernel) ⟨Nat.le_of_ble_eq_true rfl, Nat.le_of_ble_eq_true rfl⟩) hK hw h0 rfl rfl hl.1 rfl (Nat.le_of_ble_eq_true rfl) dX11_best_93 ⟨Nat.le_of_ble_eq_true rfl, (Nat.le_of_ble_eq_true rfl)⟩ ?_
                    refine lv_if_ne (tgt := 107) hx hb dX11_best_96 (by decide) (fun c_10 => ?_) (fun c_10 => ?_)
                    · refine lv_iinc (v := (nI (w1 + 1))) (lv' := [(8, .int (nI (w1 + 1))), (10, .long (kWo b N f (fun c => we (8 * t + c)) set ((nI k1).toInt64))), (9, .int (nI k1)), (0, .ref (ad 200)), (1, .int (nI t)), (2, .int set), (3, .long b2), (5, .long m2), (7, .int (nI k1))]) hx hb dX11_best_107 hl (k := 8) rfl (nI_1 w1) (by decide) rfl (fun ls hl => ?_)
                      refine lv_goto (tgt := 47) hx hb dX11_best_110 (by decide) ?_
                      exact ih47 (w1 + 1) b2 m2 ls (by omega) (by omega) (by rw [hb3]; exact (congrArg (fun z => z.1.toInt64) (kBs_f (v := (fun x => kWo b N f (fun c => we (8 * t + c)) set x.toInt64)) (ok := (fun x => decide (kWy b N f set x.toInt64 (pu t) (fun c => ho (8 * t + c)) = 0))) (kBx_0 hk1 (by omega) c_6) (fun q => c_10 (of_decide_eq_true q.2)))).symm) (by rw [hm3]; exact (congrArg (fun z => z.2) (kBs_f (v := (fun x => kWo b N f (fun c => we (8 * t + c)) set x.toInt64)) (ok := (fun x => decide (kWy b N f set x.toInt64 (pu t) (fun c => ho (8 * t + c)) = 0))) (kBx_0 hk1 (by omega) c_6) (fun q => c_10 (of_decide_eq_true q.2)))).symm) (lv_sub hl [3, 4, 5, 6, 7, 8, 0] rfl)
                    · refine lv_lload hx hb dX11_best_99 (lv_at hl 0 rfl) ?_
                      refine lv_lstore (lv' := [(5, .long (kWo b N f (fun c => we (8 * t + c)) set ((nI k1).toInt64))), (10, .long (kWo b N f (fun c => we (8 * t + c)) set ((nI k1).toInt64))), (9, .int (nI k1)), (0, .ref (ad 200)), (1, .int (nI t)), (2, .int set), (3, .long b2), (7, .int (nI k1)), (8, .int (nI w1))]) hx hb dX11_best_101 hl (by decide) rfl (fun ls hl => ?_)
                      refine lv_iload hx hb dX11_best_103 (lv_at hl 2 rfl) ?_
                      refine lv_i2l (v := (nI k1).toInt64) hx hb dX11_best_105 rfl ?_
                      refine lv_lstore_n (lv' := [(3, .long ((nI k1).toInt64)), (5, .long (kWo b N f (fun c => we (8 * t + c)) set ((nI k1).toInt64))), (10, .long (kWo b N f (fun c => we (8 * t + c)) set ((nI k1).toInt64))), (9, .int (nI k1)), (0, .ref (ad 200)), (1, .int (nI t)), (2, .int set), (7, .int (nI k1)), (8, .int (nI w1))]) hx hb dX11_best_106 rfl hl (by decide) rfl (fun ls hl => ?_)
                      refine lv_iinc (v := (nI (w1 + 1))) (lv' := [(8, .int (nI (w1 + 1))), (3, .long ((nI k1).toInt64)), (5, .long (kWo b N f (fun c => we (8 * t + c)) set ((nI k1).toInt64))), (10, .long (kWo b N f (fun c => we (8 * t + c)) set ((nI k1).toInt64))), (9, .int (nI k1)), (0, .ref (ad 200)), (1, .int (nI t)), (2, .int set), (7, .int (nI k1))]) hx hb dX11_best_107 hl (k := 8) rfl (nI_1 w1) (by decide) rfl (fun ls hl => ?_)
                      refine lv_goto (tgt := 47) hx hb dX11_best_110 (by decide) ?_
                      exact ih47 (w1 + 1) ((nI k1).toInt64) (kWo b N f (fun c => we (8 * t + c)) set ((nI k1).toInt64)) ls (by omega) (by omega) (by exact (congrArg (fun z => z.1.toInt64) (kBs_t (v := (fun x => kWo b N f (fun c => we (8 * t + c)) set x.toInt64)) (ok := (fun x => decide (kWy b N f set x.toInt64 (pu t) (fun c => ho (8 * t + c)) = 0))) (kBx_0 hk1 (by omega) c_6) (by rw [← hm3]; exact kr_2 c_9) (decide_eq_true c_10))).symm) (by exact (congrArg (fun z => z.2) (kBs_t (v := (fun x => kWo b N f (fun c => we (8 * t + c)) set x.toInt64)) (ok := (fun x => decide (kWy b N f set x.toInt64 (pu t) (fun c => ho (8 * t + c)) = 0))) (kBx_0 hk1 (by omega) c_6) (by rw [← hm3]; exact kr_2 c_9) (decide_eq_true c_10))).symm) (lv_sub hl [5, 6, 7, 1, 2, 8, 0] rfl)
      · exact absurd hm c_3
set_option maxHeartbeats 4000000 in
set_option maxRecDepth 100000 in
theorem c_X11_sheet_u (l : Launch) (D : va_G) (tc : Nat → ClassId) (sz : Nat) (ad : Nat → Nat) (ct : Nat → Option va_E) {N nt no nf : Nat} {ft tr b cm da bs : Int32} {g : Int64}                 {k lane n1 : Int32} (h0 : ct 200 = some (.inr (11, [.int ft, .int tr, .int (nI N), .int b, .ref (ad 201), .long g, .int cm, .int da, .int (nI nt), .ref (ad 202), .ref (ad 203), .ref (ad 204), .ref (ad 205), .ref (ad 206), .ref (ad 207), .ref (ad 208), .ref (ad 209), .int (nI no), .ref (ad 210), .ref (ad 211), .ref (ad 212), .ref (ad 213), .ref (ad 214), .int bs, .int (nI nf), .ref (ad 215), .ref (ad 216)]))) (hk : ¬ (0 ≤ k.toInt64 ∧ k.toInt64 ≤ 3)) : Met l yX11_sheet wsX11_sheet ({ frames := 1, cells := 0, slots := 0, locals := 29 }) (va_Pc [.ref (ad 200), .int k, .int lane, .int n1] (kw_B D tc sz ad ct)) (kw_Q D ad (kw_A ad ct sz) (some (.int (-1))) (kw_up ct 200 (.inr (11, [.int 0, .int tr, .int (nI N), .int b, .ref (ad 201), .long g, .int cm, .int da, .int (nI nt), .ref (ad 202), .ref (ad 203), .ref (ad 204), .ref (ad 205), .ref (ad 206), .ref (ad 207), .ref (ad 208), .ref (ad 209), .int (nI no), .ref (ad 210), .ref (ad 211), .ref (ad 212), .ref (ad 213), .ref (ad 214), .int bs, .int (nI nf), .ref (ad 215), .ref (ad 216)]))) 0) 0 0 (kw_A ad ct sz) := by
  refine Met.ofW (cc := cX11_sheet) (maxL := 5) (ret := (some .int)) (by decide) rfl ?_
  intro pg en s m args below meth cod s₁ B hml hv
  obtain ⟨rfl, hsz, hP0, hK⟩ := hv
  have hx := B.exec
  have hb := B.bytes
  have hr := B.returns
  have hts := atoms_spec (ws := wsX11_sheet) B.pre
  have hown : s.vm.findClass RX11 = some m.cls := findClass_of_methodNamed B.named
  have hlocks := B.notSynchronized
  subst hsz
  have hw := kw_H.start hP0
  generalize hAe : kw_A ad ct s.heap.size = A at hw ⊢
  have hA : ∀ q, s.heap.size ≤ q → A q := fun q h => by rw [← hAe]; exact Or.inr h
  have hinX11 : ∀ w ∈ wsX110, w ∈ wsX11_sheet := by decide +kernel
  have hl := lv_entry ([.ref (ad 200), .int k, .int lane, .int n1]) (n := 5) (Nat.le_of_ble_eq_true rfl)
  rw [lg_entry_eq]
  generalize (lg_sl ([.ref (ad 200), .int k, .int lane, .int n1]) ++ List.replicate (5 - (lg_sl ([.ref (ad 200), .int k, .int lane, .int n1])).length) Slot.unset).toArray = ls at hl ⊢
  have hl : lv_has ls 5 [(0, .ref (ad 200)), (1, .int k), (2, .int lane), (3, .int n1)] := hl
  have S0 : CallFix pg m cod cX11_sheet 5 s _ wsX11_sheet RX11 := ⟨hx, hb, hml, hown, hts⟩
  have hfr : ∀ j, j ≠ 200 → ct j = ct j := fun _ _ => rfl
  refine lv_aload_n hx hb dX11_sheet_0 rfl (lv_at hl 0 rfl) ?_
  refine lv_iconst (v := 0) hx hb dX11_sheet_1 (by decide) ?_
  refine kg_put (v := .int 0) (ty := .int) (C := RX11) (T := TX11) (N := 27) (fs' := [.int 0, .int tr, .int (nI N), .int b, .ref (ad 201), .long g, .int cm, .int da, .int (nI nt), .ref (ad 202), .ref (ad 203), .ref (ad 204), .ref (ad 205), .ref (ad 206), .ref (ad 207), .ref (ad 208), .ref (ad 209), .int (nI no), .ref (ad 210), .ref (ad 211), .ref (ad 212), .ref (ad 213), .ref (ad 214), .int bs, .int (nI nf), .ref (ad 215), .ref (ad 216)]) hx hb hts hinX11 tyX11 tyX11_ok nmX11 hown hK hw h0 rfl 0 (by decide) (hts (.fieldLink RX11 69 "BetMakerModel" "fault" "I") (by decide +kernel)) (fun _ h9 => h9) rfl (by decide +kernel) rfl rfl (Nat.le_of_ble_eq_true rfl) rfl dX11_sheet_2 (fun H locs hw => ?_)
  obtain ⟨ct_1, ect_1⟩ : ∃ z, z = kw_up ct 200 (.inr (11, [.int 0, .int tr, .int (nI N), .int b, .ref (ad 201), .long g, .int cm, .int da, .int (nI nt), .ref (ad 202), .ref (ad 203), .ref (ad 204), .ref (ad 205), .ref (ad 206), .ref (ad 207), .ref (ad 208), .ref (ad 209), .int (nI no), .ref (ad 210), .ref (ad 211), .ref (ad 212), .ref (ad 213), .ref (ad 214), .int bs, .int (nI nf), .ref (ad 215), .ref (ad 216)])) := ⟨_, rfl⟩
  rw [← ect_1] at hw
  have h_2 : ct_1 200 = some (.inr (11, [.int 0, .int tr, .int (nI N), .int b, .ref (ad 201), .long g, .int cm, .int da, .int (nI nt), .ref (ad 202), .ref (ad 203), .ref (ad 204), .ref (ad 205), .ref (ad 206), .ref (ad 207), .ref (ad 208), .ref (ad 209), .int (nI no), .ref (ad 210), .ref (ad 211), .ref (ad 212), .ref (ad 213), .ref (ad 214), .int bs, .int (nI nf), .ref (ad 215), .ref (ad 216)])) := by rw [ect_1]; exact kw_up_s
  have hfr_3 : ∀ j, j ≠ 200 → ct_1 j = ct j := fun j a0 => by rw [ect_1]; exact (kw_up_n a0).trans (hfr j a0)
  refine lv_iload_n hx hb dX11_sheet_5 rfl (lv_at hl 1 rfl) ?_
  refine lv_i2l (v := k.toInt64) hx hb dX11_sheet_6 rfl ?_
  refine lv_lconst (v := 0) hx hb dX11_sheet_7 (by decide) ?_
  refine lv_ldc2 (v := 3) hx hb hown (hts (.constantLong RX11 165 (3)) (by decide +kernel)) dX11_sheet_8 ?_
  refine kc_s (As := [.long k.toInt64, .long 0, .long 3]) (rest := []) S0 (c_X11_within l D tc s.heap.size ad ct_1 ) (va_cwS 3 hts gX11_sheet_X11_within rfl rfl rfl (by decide +kernel) ⟨Nat.le_of_ble_eq_true rfl, Nat.le_of_ble_eq_true rfl⟩) hK hw rfl hl.1 rfl (Nat.le_of_ble_eq_true rfl) dX11_sheet_11 ⟨Nat.le_of_ble_eq_true rfl, (Nat.le_of_ble_eq_true rfl)⟩ ?_
  refine kb_ifne (tgt := 19) hx hb dX11_sheet_14 (by decide) (fun c_4 => ?_) (fun c_4 => ?_)
  · exact absurd c_4 hk
  · refine lv_iconst (v := (-1)) hx hb dX11_sheet_17 (by decide) ?_
    have hq_5 := h_2
    have hend := kw_eq1 hq_5 hfr_3
    rw [hend] at hw
    exact W.iret hx hb hr (fun t ht _ => ⟨rfl, by rw [ht]; exact hw.1, hw.2.2.1, hw.2.1.F ht, by rw [ht]; exact hw.2.2.2⟩) hw.2.1.2.2 dX11_sheet_18
set_option maxHeartbeats 4000000 in
set_option maxRecDepth 100000 in
theorem c_X11_sheet_o (l : Launch) (D : va_G) (tc : Nat → ClassId) (sz : Nat) (ad : Nat → Nat) (ct : Nat → Option va_E) {N nt no nf : Nat} {ft tr b cm da bs : Int32} {g : Int64}                 {k lane n1 : Int32} (h0 : ct 200 = some (.inr (11, [.int ft, .int tr, .int (nI N), .int b, .ref (ad 201), .long g, .int cm, .int da, .int (nI nt), .ref (ad 202), .ref (ad 203), .ref (ad 204), .ref (ad 205), .ref (ad 206), .ref (ad 207), .ref (ad 208), .ref (ad 209), .int (nI no), .ref (ad 210), .ref (ad 211), .ref (ad 212), .ref (ad 213), .ref (ad 214), .int bs, .int (nI nf), .ref (ad 215), .ref (ad 216)]))) (hk : 0 ≤ k.toInt64 ∧ k.toInt64 ≤ 3) (hbad : ¬ ((0 ≤ lane.toInt64 ∧ lane.toInt64 ≤ 2) ∧ n1 ≤ 24)) : Met l yX11_sheet wsX11_sheet ({ frames := 1, cells := 0, slots := 0, locals := 29 }) (va_Pc [.ref (ad 200), .int k, .int lane, .int n1] (kw_B D tc sz ad ct)) (kw_Q D ad (kw_A ad ct sz) (some (.int (-2))) (kw_up ct 200 (.inr (11, [.int 0, .int tr, .int (nI N), .int b, .ref (ad 201), .long g, .int cm, .int da, .int (nI nt), .ref (ad 202), .ref (ad 203), .ref (ad 204), .ref (ad 205), .ref (ad 206), .ref (ad 207), .ref (ad 208), .ref (ad 209), .int (nI no), .ref (ad 210), .ref (ad 211), .ref (ad 212), .ref (ad 213), .ref (ad 214), .int bs, .int (nI nf), .ref (ad 215), .ref (ad 216)]))) 0) 0 0 (kw_A ad ct sz) := by
  refine Met.ofW (cc := cX11_sheet) (maxL := 5) (ret := (some .int)) (by decide) rfl ?_
  intro pg en s m args below meth cod s₁ B hml hv
  obtain ⟨rfl, hsz, hP0, hK⟩ := hv
  have hx := B.exec
  have hb := B.bytes
  have hr := B.returns
  have hts := atoms_spec (ws := wsX11_sheet) B.pre
  have hown : s.vm.findClass RX11 = some m.cls := findClass_of_methodNamed B.named
  have hlocks := B.notSynchronized
  subst hsz
  have hw := kw_H.start hP0
  generalize hAe : kw_A ad ct s.heap.size = A at hw ⊢
  have hA : ∀ q, s.heap.size ≤ q → A q := fun q h => by rw [← hAe]; exact Or.inr h
  have hinX11 : ∀ w ∈ wsX110, w ∈ wsX11_sheet := by decide +kernel
  have hl := lv_entry ([.ref (ad 200), .int k, .int lane, .int n1]) (n := 5) (Nat.le_of_ble_eq_true rfl)
  rw [lg_entry_eq]
  generalize (lg_sl ([.ref (ad 200), .int k, .int lane, .int n1]) ++ List.replicate (5 - (lg_sl ([.ref (ad 200), .int k, .int lane, .int n1])).length) Slot.unset).toArray = ls at hl ⊢
  have hl : lv_has ls 5 [(0, .ref (ad 200)), (1, .int k), (2, .int lane), (3, .int n1)] := hl
  have S0 : CallFix pg m cod cX11_sheet 5 s _ wsX11_sheet RX11 := ⟨hx, hb, hml, hown, hts⟩
  have hfr : ∀ j, j ≠ 200 → ct j = ct j := fun _ _ => rfl
  refine lv_aload_n hx hb dX11_sheet_0 rfl (lv_at hl 0 rfl) ?_
  refine lv_iconst (v := 0) hx hb dX11_sheet_1 (by decide) ?_
  refine kg_put (v := .int 0) (ty := .int) (C := RX11) (T := TX11) (N := 27) (fs' := [.int 0, .int tr, .int (nI N), .int b, .ref (ad 201), .long g, .int cm, .int da, .int (nI nt), .ref (ad 202), .ref (ad 203), .ref (ad 204), .ref (ad 205), .ref (ad 206), .ref (ad 207), .ref (ad 208), .ref (ad 209), .int (nI no), .ref (ad 210), .ref (ad 211), .ref (ad 212), .ref (ad 213), .ref (ad 214), .int bs, .int (nI nf), .ref (ad 215), .ref (ad 216)]) hx hb hts hinX11 tyX11 tyX11_ok nmX11 hown hK hw h0 rfl 0 (by decide) (hts (.fieldLink RX11 69 "BetMakerModel" "fault" "I") (by decide +kernel)) (fun _ h9 => h9) rfl (by decide +kernel) rfl rfl (Nat.le_of_ble_eq_true rfl) rfl dX11_sheet_2 (fun H locs hw => ?_)
  obtain ⟨ct_1, ect_1⟩ : ∃ z, z = kw_up ct 200 (.inr (11, [.int 0, .int tr, .int (nI N), .int b, .ref (ad 201), .long g, .int cm, .int da, .int (nI nt), .ref (ad 202), .ref (ad 203), .ref (ad 204), .ref (ad 205), .ref (ad 206), .ref (ad 207), .ref (ad 208), .ref (ad 209), .int (nI no), .ref (ad 210), .ref (ad 211), .ref (ad 212), .ref (ad 213), .ref (ad 214), .int bs, .int (nI nf), .ref (ad 215), .ref (ad 216)])) := ⟨_, rfl⟩
  rw [← ect_1] at hw
  have h_2 : ct_1 200 = some (.inr (11, [.int 0, .int tr, .int (nI N), .int b, .ref (ad 201), .long g, .int cm, .int da, .int (nI nt), .ref (ad 202), .ref (ad 203), .ref (ad 204), .ref (ad 205), .ref (ad 206), .ref (ad 207), .ref (ad 208), .ref (ad 209), .int (nI no), .ref (ad 210), .ref (ad 211), .ref (ad 212), .ref (ad 213), .ref (ad 214), .int bs, .int (nI nf), .ref (ad 215), .ref (ad 216)])) := by rw [ect_1]; exact kw_up_s
  have hfr_3 : ∀ j, j ≠ 200 → ct_1 j = ct j := fun j a0 => by rw [ect_1]; exact (kw_up_n a0).trans (hfr j a0)
  refine lv_iload_n hx hb dX11_sheet_5 rfl (lv_at hl 1 rfl) ?_
  refine lv_i2l (v := k.toInt64) hx hb dX11_sheet_6 rfl ?_
  refine lv_lconst (v := 0) hx hb dX11_sheet_7 (by decide) ?_
  refine lv_ldc2 (v := 3) hx hb hown (hts (.constantLong RX11 165 (3)) (by decide +kernel)) dX11_sheet_8 ?_
  refine kc_s (As := [.long k.toInt64, .long 0, .long 3]) (rest := []) S0 (c_X11_within l D tc s.heap.size ad ct_1 ) (va_cwS 3 hts gX11_sheet_X11_within rfl rfl rfl (by decide +kernel) ⟨Nat.le_of_ble_eq_true rfl, Nat.le_of_ble_eq_true rfl⟩) hK hw rfl hl.1 rfl (Nat.le_of_ble_eq_true rfl) dX11_sheet_11 ⟨Nat.le_of_ble_eq_true rfl, (Nat.le_of_ble_eq_true rfl)⟩ ?_
  refine kb_ifne (tgt := 19) hx hb dX11_sheet_14 (by decide) (fun c_4 => ?_) (fun c_4 => ?_)
  · refine lv_iload_n hx hb dX11_sheet_19 rfl (lv_at hl 2 rfl) ?_
    refine lv_i2l (v := lane.toInt64) hx hb dX11_sheet_20 rfl ?_
    refine lv_lconst (v := 0) hx hb dX11_sheet_21 (by decide) ?_
    refine lv_ldc2 (v := 2) hx hb hown (hts (.constantLong RX11 76 (2)) (by decide +kernel)) dX11_sheet_22 ?_
    refine kc_s (As := [.long lane.toInt64, .long 0, .long 2]) (rest := []) S0 (c_X11_within l D tc s.heap.size ad ct_1 ) (va_cwS 3 hts gX11_sheet_X11_within rfl rfl rfl (by decide +kernel) ⟨Nat.le_of_ble_eq_true rfl, Nat.le_of_ble_eq_true rfl⟩) hK hw rfl hl.1 rfl (Nat.le_of_ble_eq_true rfl) dX11_sheet_25 ⟨Nat.le_of_ble_eq_true rfl, (Nat.le_of_ble_eq_true rfl)⟩ ?_
    refine kb_ifeq (tgt := 37) hx hb dX11_sheet_28 (by decide) (fun c_5 => ?_) (fun c_5 => ?_)
    · refine lv_bipush (v := (-2)) hx hb dX11_sheet_37 (by decide) ?_
      have hq_6 := h_2
      have hend := kw_eq1 hq_6 hfr_3
      rw [hend] at hw
      exact W.iret hx hb hr (fun t ht _ => ⟨rfl, by rw [ht]; exact hw.1, hw.2.2.1, hw.2.1.F ht, by rw [ht]; exact hw.2.2.2⟩) hw.2.1.2.2 dX11_sheet_39
    · refine lv_iload_n hx hb dX11_sheet_31 rfl (lv_at hl 3 rfl) ?_
      refine lv_bipush (v := 24) hx hb dX11_sheet_32 (by decide) ?_
      refine lv_icmp_le (tgt := 40) hx hb dX11_sheet_34 (by decide) (fun c_7 => ?_) (fun c_7 => ?_)
      · exact absurd ⟨c_5, c_7⟩ hbad
      · refine lv_bipush (v := (-2)) hx hb dX11_sheet_37 (by decide) ?_
        have hq_8 := h_2
        have hend := kw_eq1 hq_8 hfr_3
        rw [hend] at hw
        exact W.iret hx hb hr (fun t ht _ => ⟨rfl, by rw [ht]; exact hw.1, hw.2.2.1, hw.2.1.F ht, by rw [ht]; exact hw.2.2.2⟩) hw.2.1.2.2 dX11_sheet_39
  · exact absurd hk c_4
set_option maxHeartbeats 4000000 in
set_option maxRecDepth 100000 in
theorem c_X11_sheet_z (l : Launch) (D : va_G) (tc : Nat → ClassId) (sz : Nat) (ad : Nat → Nat) (ct : Nat → Option va_E) {N nt no nf : Nat} {ft tr b cm da bs : Int32} {g : Int64}                 {k lane n1 : Int32} (h0 : ct 200 = some (.inr (11, [.int ft, .int tr, .int (nI N), .int b, .ref (ad 201), .long g, .int cm, .int da, .int (nI nt), .ref (ad 202), .ref (ad 203), .ref (ad 204), .ref (ad 205), .ref (ad 206), .ref (ad 207), .ref (ad 208), .ref (ad 209), .int (nI no), .ref (ad 210), .ref (ad 211), .ref (ad 212), .ref (ad 213), .ref (ad 214), .int bs, .int (nI nf), .ref (ad 215), .ref (ad 216)]))) (hk : 0 ≤ k.toInt64 ∧ k.toInt64 ≤ 3) (hL : 0 ≤ lane.toInt64 ∧ lane.toInt64 ≤ 2) (hz : n1 < 0) (hz2 : n1 ≤ 24) : Met l yX11_sheet wsX11_sheet ({ frames := 1, cells := 0, slots := 0, locals := 29 }) (va_Pc [.ref (ad 200), .int k, .int lane, .int n1] (kw_B D tc sz ad ct)) (kw_Q D ad (kw_A ad ct sz) (some (.int ((-10) - 4))) (kw_up ct 200 (.inr (11, [.int 4, .int tr, .int (nI N), .int b, .ref (ad 201), .long g, .int cm, .int da, .int (nI nt), .ref (ad 202), .ref (ad 203), .ref (ad 204), .ref (ad 205), .ref (ad 206), .ref (ad 207), .ref (ad 208), .ref (ad 209), .int (nI no), .ref (ad 210), .ref (ad 211), .ref (ad 212), .ref (ad 213), .ref (ad 214), .int bs, .int (nI nf), .ref (ad 215), .ref (ad 216)]))) 0) 0 0 (kw_A ad ct sz) := by
  refine Met.ofW (cc := cX11_sheet) (maxL := 5) (ret := (some .int)) (by decide) rfl ?_
  intro pg en s m args below meth cod s₁ B hml hv
  obtain ⟨rfl, hsz, hP0, hK⟩ := hv
  have hx := B.exec
  have hb := B.bytes
  have hr := B.returns
  have hts := atoms_spec (ws := wsX11_sheet) B.pre
  have hown : s.vm.findClass RX11 = some m.cls := findClass_of_methodNamed B.named
  have hlocks := B.notSynchronized
  subst hsz
  have hw := kw_H.start hP0
  generalize hAe : kw_A ad ct s.heap.size = A at hw ⊢
  have hA : ∀ q, s.heap.size ≤ q → A q := fun q h => by rw [← hAe]; exact Or.inr h
  have hinX11 : ∀ w ∈ wsX110, w ∈ wsX11_sheet := by decide +kernel
  have hl := lv_entry ([.ref (ad 200), .int k, .int lane, .int n1]) (n := 5) (Nat.le_of_ble_eq_true rfl)
  rw [lg_entry_eq]
  generalize (lg_sl ([.ref (ad 200), .int k, .int lane, .int n1]) ++ List.replicate (5 - (lg_sl ([.ref (ad 200), .int k, .int lane, .int n1])).length) Slot.unset).toArray = ls at hl ⊢
  have hl : lv_has ls 5 [(0, .ref (ad 200)), (1, .int k), (2, .int lane), (3, .int n1)] := hl
  have S0 : CallFix pg m cod cX11_sheet 5 s _ wsX11_sheet RX11 := ⟨hx, hb, hml, hown, hts⟩
  have hfr : ∀ j, j ≠ 200 → ct j = ct j := fun _ _ => rfl
  have hz3 : ¬ (0 ≤ n1) := kq_3 hz
  refine lv_aload_n hx hb dX11_sheet_0 rfl (lv_at hl 0 rfl) ?_
  refine lv_iconst (v := 0) hx hb dX11_sheet_1 (by decide) ?_
  refine kg_put (v := .int 0) (ty := .int) (C := RX11) (T := TX11) (N := 27) (fs' := [.int 0, .int tr, .int (nI N), .int b, .ref (ad 201), .long g, .int cm, .int da, .int (nI nt), .ref (ad 202), .ref (ad 203), .ref (ad 204), .ref (ad 205), .ref (ad 206), .ref (ad 207), .ref (ad 208), .ref (ad 209), .int (nI no), .ref (ad 210), .ref (ad 211), .ref (ad 212), .ref (ad 213), .ref (ad 214), .int bs, .int (nI nf), .ref (ad 215), .ref (ad 216)]) hx hb hts hinX11 tyX11 tyX11_ok nmX11 hown hK hw h0 rfl 0 (by decide) (hts (.fieldLink RX11 69 "BetMakerModel" "fault" "I") (by decide +kernel)) (fun _ h9 => h9) rfl (by decide +kernel) rfl rfl (Nat.le_of_ble_eq_true rfl) rfl dX11_sheet_2 (fun H locs hw => ?_)
  obtain ⟨ct_1, ect_1⟩ : ∃ z, z = kw_up ct 200 (.inr (11, [.int 0, .int tr, .int (nI N), .int b, .ref (ad 201), .long g, .int cm, .int da, .int (nI nt), .ref (ad 202), .ref (ad 203), .ref (ad 204), .ref (ad 205), .ref (ad 206), .ref (ad 207), .ref (ad 208), .ref (ad 209), .int (nI no), .ref (ad 210), .ref (ad 211), .ref (ad 212), .ref (ad 213), .ref (ad 214), .int bs, .int (nI nf), .ref (ad 215), .ref (ad 216)])) := ⟨_, rfl⟩
  rw [← ect_1] at hw
  have h_2 : ct_1 200 = some (.inr (11, [.int 0, .int tr, .int (nI N), .int b, .ref (ad 201), .long g, .int cm, .int da, .int (nI nt), .ref (ad 202), .ref (ad 203), .ref (ad 204), .ref (ad 205), .ref (ad 206), .ref (ad 207), .ref (ad 208), .ref (ad 209), .int (nI no), .ref (ad 210), .ref (ad 211), .ref (ad 212), .ref (ad 213), .ref (ad 214), .int bs, .int (nI nf), .ref (ad 215), .ref (ad 216)])) := by rw [ect_1]; exact kw_up_s
  have hfr_3 : ∀ j, j ≠ 200 → ct_1 j = ct j := fun j a0 => by rw [ect_1]; exact (kw_up_n a0).trans (hfr j a0)
  refine lv_iload_n hx hb dX11_sheet_5 rfl (lv_at hl 1 rfl) ?_
  refine lv_i2l (v := k.toInt64) hx hb dX11_sheet_6 rfl ?_
  refine lv_lconst (v := 0) hx hb dX11_sheet_7 (by decide) ?_
  refine lv_ldc2 (v := 3) hx hb hown (hts (.constantLong RX11 165 (3)) (by decide +kernel)) dX11_sheet_8 ?_
  refine kc_s (As := [.long k.toInt64, .long 0, .long 3]) (rest := []) S0 (c_X11_within l D tc s.heap.size ad ct_1 ) (va_cwS 3 hts gX11_sheet_X11_within rfl rfl rfl (by decide +kernel) ⟨Nat.le_of_ble_eq_true rfl, Nat.le_of_ble_eq_true rfl⟩) hK hw rfl hl.1 rfl (Nat.le_of_ble_eq_true rfl) dX11_sheet_11 ⟨Nat.le_of_ble_eq_true rfl, (Nat.le_of_ble_eq_true rfl)⟩ ?_
  refine kb_ifne (tgt := 19) hx hb dX11_sheet_14 (by decide) (fun c_4 => ?_) (fun c_4 => ?_)
  · refine lv_iload_n hx hb dX11_sheet_19 rfl (lv_at hl 2 rfl) ?_
    refine lv_i2l (v := lane.toInt64) hx hb dX11_sheet_20 rfl ?_
    refine lv_lconst (v := 0) hx hb dX11_sheet_21 (by decide) ?_
    refine lv_ldc2 (v := 2) hx hb hown (hts (.constantLong RX11 76 (2)) (by decide +kernel)) dX11_sheet_22 ?_
    refine kc_s (As := [.long lane.toInt64, .long 0, .long 2]) (rest := []) S0 (c_X11_within l D tc s.heap.size ad ct_1 ) (va_cwS 3 hts gX11_sheet_X11_within rfl rfl rfl (by decide +kernel) ⟨Nat.le_of_ble_eq_true rfl, Nat.le_of_ble_eq_true rfl⟩) hK hw rfl hl.1 rfl (Nat.le_of_ble_eq_true rfl) dX11_sheet_25 ⟨Nat.le_of_ble_eq_true rfl, (Nat.le_of_ble_eq_true rfl)⟩ ?_
    refine kb_ifeq (tgt := 37) hx hb dX11_sheet_28 (by decide) (fun c_5 => ?_) (fun c_5 => ?_)
    · exact absurd hL c_5
    · refine lv_iload_n hx hb dX11_sheet_31 rfl (lv_at hl 3 rfl) ?_
      refine lv_bipush (v := 24) hx hb dX11_sheet_32 (by decide) ?_
      refine lv_icmp_le (tgt := 40) hx hb dX11_sheet_34 (by decide) (fun c_6 => ?_) (fun c_6 => ?_)
      · refine lv_iload_n hx hb dX11_sheet_40 rfl (lv_at hl 3 rfl) ?_
        refine lv_if_ge (tgt := 50) hx hb dX11_sheet_41 (by decide) (fun c_7 => ?_) (fun c_7 => ?_)
        · exact absurd c_7 hz3
        · refine lv_aload_n hx hb dX11_sheet_44 rfl (lv_at hl 0 rfl) ?_
          refine lv_iconst (v := 4) hx hb dX11_sheet_45 (by decide) ?_
          refine kc_vu (As := [.int 4]) (rest := []) S0 (c_X11_fails l D tc s.heap.size ad ct_1 (N := N) (nt := nt) (no := no) (nf := nf) h_2) (cwV 1 hts gX11_sheet_X11_fails rfl rfl rfl (by decide +kernel) ⟨Nat.le_of_ble_eq_true rfl, Nat.le_of_ble_eq_true rfl⟩) hK hw hA h_2 rfl rfl hl.1 rfl (Nat.le_of_ble_eq_true rfl) dX11_sheet_46 ⟨Nat.le_of_ble_eq_true rfl, (Nat.le_of_ble_eq_true rfl)⟩ (fun H locs hw => ?_)
          obtain ⟨ct_8, ect_8⟩ : ∃ z, z = kw_up ct_1 200 (.inr (11, [.int 4, .int tr, .int (nI N), .int b, .ref (ad 201), .long g, .int cm, .int da, .int (nI nt), .ref (ad 202), .ref (ad 203), .ref (ad 204), .ref (ad 205), .ref (ad 206), .ref (ad 207), .ref (ad 208), .ref (ad 209), .int (nI no), .ref (ad 210), .ref (ad 211), .ref (ad 212), .ref (ad 213), .ref (ad 214), .int bs, .int (nI nf), .ref (ad 215), .ref (ad 216)])) := ⟨_, rfl⟩
          rw [← ect_8] at hw
          have h_9 : ct_8 200 = some (.inr (11, [.int 4, .int tr, .int (nI N), .int b, .ref (ad 201), .long g, .int cm, .int da, .int (nI nt), .ref (ad 202), .ref (ad 203), .ref (ad 204), .ref (ad 205), .ref (ad 206), .ref (ad 207), .ref (ad 208), .ref (ad 209), .int (nI no), .ref (ad 210), .ref (ad 211), .ref (ad 212), .ref (ad 213), .ref (ad 214), .int bs, .int (nI nf), .ref (ad 215), .ref (ad 216)])) := by rw [ect_8]; exact kw_up_s
          have hfr_10 : ∀ j, j ≠ 200 → ct_8 j = ct j := fun j a0 => by rw [ect_8]; exact (kw_up_n a0).trans (hfr_3 j a0)
          have hq_11 := h_9
          have hend := kw_eq1 hq_11 hfr_10
          rw [hend] at hw
          exact W.iret hx hb hr (fun t ht _ => ⟨rfl, by rw [ht]; exact hw.1, hw.2.2.1, hw.2.1.F ht, by rw [ht]; exact hw.2.2.2⟩) hw.2.1.2.2 dX11_sheet_49
      · exact absurd hz2 c_6
  · exact absurd hk c_4
set_option maxHeartbeats 4000000 in
set_option maxRecDepth 100000 in
theorem c_X11_sheet (l : Launch) (D : va_G) (tc : Nat → ClassId) (sz : Nat) (ad : Nat → Nat) (ct : Nat → Option va_E) {N nt no nf : Nat} {ft tr b cm da bs : Int32} {g : Int64}       {la : Nat → Int32} {sl : Nat → Int32} {ce : Nat → Int32}        {k n1 : Nat} {lane : Int32} (h0 : ct 200 = some (.inr (11, [.int ft, .int tr, .int (nI N), .int b, .ref (ad 201), .long g, .int cm, .int da, .int (nI nt), .ref (ad 202), .ref (ad 203), .ref (ad 204), .ref (ad 205), .ref (ad 206), .ref (ad 207), .ref (ad 208), .ref (ad 209), .int (nI no), .ref (ad 210), .ref (ad 211), .ref (ad 212), .ref (ad 213), .ref (ad 214), .int bs, .int (nI nf), .ref (ad 215), .ref (ad 216)]))) (h207 : ct 207 = some (eI tc 4 la)) (h208 : ct 208 = some (eI tc 4 sl)) (h209 : ct 209 = some (eI tc 96 ce)) (hk4 : k < 4) (hL : 0 ≤ lane.toInt64 ∧ lane.toInt64 ≤ 2) (hn1 : n1 ≤ 24) : Met l yX11_sheet wsX11_sheet ({ frames := 1, cells := 0, slots := 0, locals := 29 }) (va_Pc [.ref (ad 200), .int (nI k), .int lane, .int (nI n1)] (kw_B D tc sz ad ct)) (kw_Q D ad (kw_A ad ct sz) (some (.int 1)) (kw_up (kw_up (kw_up (kw_up ct 200 (.inr (11, [.int 0, .int tr, .int (nI N), .int b, .ref (ad 201), .long g, .int cm, .int da, .int (nI nt), .ref (ad 202), .ref (ad 203), .ref (ad 204), .ref (ad 205), .ref (ad 206), .ref (ad 207), .ref (ad 208), .ref (ad 209), .int (nI no), .ref (ad 210), .ref (ad 211), .ref (ad 212), .ref (ad 213), .ref (ad 214), .int bs, .int (nI nf), .ref (ad 215), .ref (ad 216)]))) 207 (eI tc 4 (va_up la k lane))) 208 (eI tc 4 (va_up sl k (nI n1)))) 209 (eI tc 96 (kBl ce (24 * k) 24 (fun _ => 0)))) 0) 0 0 (kw_A ad ct sz) := by
  refine Met.ofW (cc := cX11_sheet) (maxL := 5) (ret := (some .int)) (by decide) rfl ?_
  intro pg en s m args below meth cod s₁ B hml hv
  obtain ⟨rfl, hsz, hP0, hK⟩ := hv
  have hx := B.exec
  have hb := B.bytes
  have hr := B.returns
  have hts := atoms_spec (ws := wsX11_sheet) B.pre
  have hown : s.vm.findClass RX11 = some m.cls := findClass_of_methodNamed B.named
  have hlocks := B.notSynchronized
  subst hsz
  have hw := kw_H.start hP0
  generalize hAe : kw_A ad ct s.heap.size = A at hw ⊢
  have hA : ∀ q, s.heap.size ≤ q → A q := fun q h => by rw [← hAe]; exact Or.inr h
  have hinX11 : ∀ w ∈ wsX110, w ∈ wsX11_sheet := by decide +kernel
  have hl := lv_entry ([.ref (ad 200), .int (nI k), .int lane, .int (nI n1)]) (n := 5) (Nat.le_of_ble_eq_true rfl)
  rw [lg_entry_eq]
  generalize (lg_sl ([.ref (ad 200), .int (nI k), .int lane, .int (nI n1)]) ++ List.replicate (5 - (lg_sl ([.ref (ad 200), .int (nI k), .int lane, .int (nI n1)])).length) Slot.unset).toArray = ls at hl ⊢
  have hl : lv_has ls 5 [(0, .ref (ad 200)), (1, .int (nI k)), (2, .int lane), (3, .int (nI n1))] := hl
  have S0 : CallFix pg m cod cX11_sheet 5 s _ wsX11_sheet RX11 := ⟨hx, hb, hml, hown, hts⟩
  have hfr : ∀ j, j ≠ 200 → j ≠ 207 → j ≠ 208 → j ≠ 209 → ct j = ct j := fun _ _ _ _ _ => rfl
  have kK : 0 ≤ (nI k).toInt64 ∧ (nI k).toInt64 ≤ 3 := kwl k 3 (by omega) (by omega)
  refine lv_aload_n hx hb dX11_sheet_0 rfl (lv_at hl 0 rfl) ?_
  refine lv_iconst (v := 0) hx hb dX11_sheet_1 (by decide) ?_
  refine kg_put (v := .int 0) (ty := .int) (C := RX11) (T := TX11) (N := 27) (fs' := [.int 0, .int tr, .int (nI N), .int b, .ref (ad 201), .long g, .int cm, .int da, .int (nI nt), .ref (ad 202), .ref (ad 203), .ref (ad 204), .ref (ad 205), .ref (ad 206), .ref (ad 207), .ref (ad 208), .ref (ad 209), .int (nI no), .ref (ad 210), .ref (ad 211), .ref (ad 212), .ref (ad 213), .ref (ad 214), .int bs, .int (nI nf), .ref (ad 215), .ref (ad 216)]) hx hb hts hinX11 tyX11 tyX11_ok nmX11 hown hK hw h0 rfl 0 (by decide) (hts (.fieldLink RX11 69 "BetMakerModel" "fault" "I") (by decide +kernel)) (fun _ h9 => h9) rfl (by decide +kernel) rfl rfl (Nat.le_of_ble_eq_true rfl) rfl dX11_sheet_2 (fun H locs hw => ?_)
  obtain ⟨ct_1, ect_1⟩ : ∃ z, z = kw_up ct 200 (.inr (11, [.int 0, .int tr, .int (nI N), .int b, .ref (ad 201), .long g, .int cm, .int da, .int (nI nt), .ref (ad 202), .ref (ad 203), .ref (ad 204), .ref (ad 205), .ref (ad 206), .ref (ad 207), .ref (ad 208), .ref (ad 209), .int (nI no), .ref (ad 210), .ref (ad 211), .ref (ad 212), .ref (ad 213), .ref (ad 214), .int bs, .int (nI nf), .ref (ad 215), .ref (ad 216)])) := ⟨_, rfl⟩
  rw [← ect_1] at hw
  have h_2 : ct_1 207 = some (eI tc 4 la) := by rw [ect_1, kw_up_n (by decide)]; exact h207
  have h_3 : ct_1 208 = some (eI tc 4 sl) := by rw [ect_1, kw_up_n (by decide)]; exact h208
  have h_4 : ct_1 209 = some (eI tc 96 ce) := by rw [ect_1, kw_up_n (by decide)]; exact h209
  have h_5 : ct_1 200 = some (.inr (11, [.int 0, .int tr, .int (nI N), .int b, .ref (ad 201), .long g, .int cm, .int da, .int (nI nt), .ref (ad 202), .ref (ad 203), .ref (ad 204), .ref (ad 205), .ref (ad 206), .ref (ad 207), .ref (ad 208), .ref (ad 209), .int (nI no), .ref (ad 210), .ref (ad 211), .ref (ad 212), .ref (ad 213), .ref (ad 214), .int bs, .int (nI nf), .ref (ad 215), .ref (ad 216)])) := by rw [ect_1]; exact kw_up_s
  have hfr_6 : ∀ j, j ≠ 200 → j ≠ 207 → j ≠ 208 → j ≠ 209 → ct_1 j = ct j := fun j a0 a1 a2 a3 => by rw [ect_1]; exact (kw_up_n a0).trans (hfr j a0 a1 a2 a3)
  refine lv_iload_n hx hb dX11_sheet_5 rfl (lv_at hl 1 rfl) ?_
  refine lv_i2l (v := (nI k).toInt64) hx hb dX11_sheet_6 rfl ?_
  refine lv_lconst (v := 0) hx hb dX11_sheet_7 (by decide) ?_
  refine lv_ldc2 (v := 3) hx hb hown (hts (.constantLong RX11 165 (3)) (by decide +kernel)) dX11_sheet_8 ?_
  refine kc_s (As := [.long ((nI k).toInt64), .long 0, .long 3]) (rest := []) S0 (c_X11_within l D tc s.heap.size ad ct_1 ) (va_cwS 3 hts gX11_sheet_X11_within rfl rfl rfl (by decide +kernel) ⟨Nat.le_of_ble_eq_true rfl, Nat.le_of_ble_eq_true rfl⟩) hK hw rfl hl.1 rfl (Nat.le_of_ble_eq_true rfl) dX11_sheet_11 ⟨Nat.le_of_ble_eq_true rfl, (Nat.le_of_ble_eq_true rfl)⟩ ?_
  refine kb_ifne (tgt := 19) hx hb dX11_sheet_14 (by decide) (fun c_7 => ?_) (fun c_7 => ?_)
  · refine lv_iload_n hx hb dX11_sheet_19 rfl (lv_at hl 2 rfl) ?_
    refine lv_i2l (v := lane.toInt64) hx hb dX11_sheet_20 rfl ?_
    refine lv_lconst (v := 0) hx hb dX11_sheet_21 (by decide) ?_
    refine lv_ldc2 (v := 2) hx hb hown (hts (.constantLong RX11 76 (2)) (by decide +kernel)) dX11_sheet_22 ?_
    refine kc_s (As := [.long lane.toInt64, .long 0, .long 2]) (rest := []) S0 (c_X11_within l D tc s.heap.size ad ct_1 ) (va_cwS 3 hts gX11_sheet_X11_within rfl rfl rfl (by decide +kernel) ⟨Nat.le_of_ble_eq_true rfl, Nat.le_of_ble_eq_true rfl⟩) hK hw rfl hl.1 rfl (Nat.le_of_ble_eq_true rfl) dX11_sheet_25 ⟨Nat.le_of_ble_eq_true rfl, (Nat.le_of_ble_eq_true rfl)⟩ ?_
    refine kb_ifeq (tgt := 37) hx hb dX11_sheet_28 (by decide) (fun c_8 => ?_) (fun c_8 => ?_)
    · exact absurd hL c_8
    · refine lv_iload_n hx hb dX11_sheet_31 rfl (lv_at hl 3 rfl) ?_
      refine lv_bipush (v := 24) hx hb dX11_sheet_32 (by decide) ?_
      refine kn_le n1 24 rfl rfl (by omega) (by omega) (tgt := 40) hx hb dX11_sheet_34 (by decide) (fun c_9 => ?_) (fun c_9 => ?_)
      · refine lv_iload_n hx hb dX11_sheet_40 rfl (lv_at hl 3 rfl) ?_
        refine lv_if_ge (tgt := 50) hx hb dX11_sheet_41 (by decide) (fun c_10 => ?_) (fun c_10 => ?_)
        · refine lv_aload_n hx hb dX11_sheet_50 rfl (lv_at hl 0 rfl) ?_
          refine kg_get (v := .ref (ad 207)) (C := RX11) (T := TX11) (N := 27) hx hb hts hinX11 hown hK hw h_5 rfl 14 (by decide) (hts (.fieldLink RX11 39 "BetMakerModel" "lanes" "[I") (by decide +kernel)) (fun _ h9 => h9) rfl dX11_sheet_51 ?_
          refine lv_iload_n hx hb dX11_sheet_54 rfl (lv_at hl 1 rfl) ?_
          refine lv_iload_n hx hb dX11_sheet_55 rfl (lv_at hl 2 rfl) ?_
          refine kg_iast hx hb hK hw h_2 k rfl (by omega) (by omega) dX11_sheet_56 (fun H locs hw => ?_)
          obtain ⟨ct_11, ect_11⟩ : ∃ z, z = kw_up ct_1 207 (eI tc 4 (va_up la k lane)) := ⟨_, rfl⟩
          rw [← ect_11] at hw
          have h_12 : ct_11 208 = some (eI tc 4 sl) := by rw [ect_11, kw_up_n (by decide)]; exact h_3
          have h_13 : ct_11 209 = some (eI tc 96 ce) := by rw [ect_11, kw_up_n (by decide)]; exact h_4
          have h_14 : ct_11 200 = some (.inr (11, [.int 0, .int tr, .int (nI N), .int b, .ref (ad 201), .long g, .int cm, .int da, .int (nI nt), .ref (ad 202), .ref (ad 203), .ref (ad 204), .ref (ad 205), .ref (ad 206), .ref (ad 207), .ref (ad 208), .ref (ad 209), .int (nI no), .ref (ad 210), .ref (ad 211), .ref (ad 212), .ref (ad 213), .ref (ad 214), .int bs, .int (nI nf), .ref (ad 215), .ref (ad 216)])) := by rw [ect_11, kw_up_n (by decide)]; exact h_5
          have h_15 : ct_11 207 = some (eI tc 4 (va_up la k lane)) := by rw [ect_11]; exact kw_up_s
          have hfr_16 : ∀ j, j ≠ 200 → j ≠ 207 → j ≠ 208 → j ≠ 209 → ct_11 j = ct j := fun j a0 a1 a2 a3 => by rw [ect_11]; exact (kw_up_n a1).trans (hfr_6 j a0 a1 a2 a3)
          refine lv_aload_n hx hb dX11_sheet_57 rfl (lv_at hl 0 rfl) ?_
          refine kg_get (v := .ref (ad 208)) (C := RX11) (T := TX11) (N := 27) hx hb hts hinX11 hown hK hw h_14 rfl 15 (by decide) (hts (.fieldLink RX11 42 "BetMakerModel" "sheetLong" "[I") (by decide +kernel)) (fun _ h9 => h9) rfl dX11_sheet_58 ?_
          refine lv_iload_n hx hb dX11_sheet_61 rfl (lv_at hl 1 rfl) ?_
          refine lv_iload_n hx hb dX11_sheet_62 rfl (lv_at hl 3 rfl) ?_
          refine kg_iast hx hb hK hw h_12 k rfl (by omega) (by omega) dX11_sheet_63 (fun H locs hw => ?_)
          obtain ⟨ct_17, ect_17⟩ : ∃ z, z = kw_up ct_11 208 (eI tc 4 (va_up sl k (nI n1))) := ⟨_, rfl⟩
          rw [← ect_17] at hw
          have h_18 : ct_17 209 = some (eI tc 96 ce) := by rw [ect_17, kw_up_n (by decide)]; exact h_13
          have h_19 : ct_17 200 = some (.inr (11, [.int 0, .int tr, .int (nI N), .int b, .ref (ad 201), .long g, .int cm, .int da, .int (nI nt), .ref (ad 202), .ref (ad 203), .ref (ad 204), .ref (ad 205), .ref (ad 206), .ref (ad 207), .ref (ad 208), .ref (ad 209), .int (nI no), .ref (ad 210), .ref (ad 211), .ref (ad 212), .ref (ad 213), .ref (ad 214), .int bs, .int (nI nf), .ref (ad 215), .ref (ad 216)])) := by rw [ect_17, kw_up_n (by decide)]; exact h_14
          have h_20 : ct_17 207 = some (eI tc 4 (va_up la k lane)) := by rw [ect_17, kw_up_n (by decide)]; exact h_15
          have h_21 : ct_17 208 = some (eI tc 4 (va_up sl k (nI n1))) := by rw [ect_17]; exact kw_up_s
          have hfr_22 : ∀ j, j ≠ 200 → j ≠ 207 → j ≠ 208 → j ≠ 209 → ct_17 j = ct j := fun j a0 a1 a2 a3 => by rw [ect_17]; exact (kw_up_n a2).trans (hfr_16 j a0 a1 a2 a3)
          refine lv_iconst (v := 0) hx hb dX11_sheet_64 (by decide) ?_
          refine lv_istore (lv' := [(4, .int 0), (0, .ref (ad 200)), (1, .int (nI k)), (2, .int lane), (3, .int (nI n1))]) hx hb dX11_sheet_65 hl (by decide) rfl (fun ls hl => ?_)
          suffices lp67 : ∀ (nfu : Nat) (j : Nat) (g1 : Nat → Int32) (ctL67 : Nat → Option va_E) (H : Heap) (locs : List Loc) (ls : Array Slot), 24 - j < nfu → j ≤ 24 → g1 = kBl ce (24 * k) j (fun _ => 0) → ctL67 209 = some (eI tc 96 g1) → ctL67 200 = some (.inr (11, [.int 0, .int tr, .int (nI N), .int b, .ref (ad 201), .long g, .int cm, .int da, .int (nI nt), .ref (ad 202), .ref (ad 203), .ref (ad 204), .ref (ad 205), .ref (ad 206), .ref (ad 207), .ref (ad 208), .ref (ad 209), .int (nI no), .ref (ad 210), .ref (ad 211), .ref (ad 212), .ref (ad 213), .ref (ad 214), .int bs, .int (nI nf), .ref (ad 215), .ref (ad 216)])) → ctL67 207 = some (eI tc 4 (va_up la k lane)) → ctL67 208 = some (eI tc 4 (va_up sl k (nI n1))) → (∀ j, j ≠ 200 → j ≠ 207 → j ≠ 208 → j ≠ 209 → ctL67 j = ct j) → kw_H D ad A s.heap ctL67 H locs s.heap.size → lv_has ls 5 [(0, .ref (ad 200)), (1, .int (nI k)), (2, .int lane), (3, .int (nI n1)), (4, .int (nI j))] → W pg l en (headSpec wsX11_sheet ({ frames := 1, cells := 0, slots := 0, locals := 29 })).room s m (([.ref (ad 200), .int (nI k), .int lane, .int (nI n1)] : List Value).toArray) below meth cod H locs 0 0 (MQ below (kw_Q D ad A (some (.int 1)) (kw_up (kw_up (kw_up (kw_up ct 200 (.inr (11, [.int 0, .int tr, .int (nI N), .int b, .ref (ad 201), .long g, .int cm, .int da, .int (nI nt), .ref (ad 202), .ref (ad 203), .ref (ad 204), .ref (ad 205), .ref (ad 206), .ref (ad 207), .ref (ad 208), .ref (ad 209), .int (nI no), .ref (ad 210), .ref (ad 211), .ref (ad 212), .ref (ad 213), .ref (ad 214), .int bs, .int (nI nf), .ref (ad 215), .ref (ad 216)]))) 207 (eI tc 4 (va_up la k lane))) 208 (eI tc 4 (va_up sl k (nI n1)))) 209 (eI tc 96 (kBl ce (24 * k) 24 (fun _ => 0)))) 0) (([.ref (ad 200), .int (nI k), .int lane, .int (nI n1)] : List Value).toArray) s 0 0 A) (F0 m 67 ls []) by
            exact lp67 (24 - 0 + 1) 0 ce _ _ _ ls (by omega) (by omega) (by exact kBl_0 _ _ _) h_18 h_19 h_20 h_21 hfr_22 hw (by have hl9 := lv_sub hl (l' := [(0, .ref (ad 200)), (1, .int (nI k)), (2, .int lane), (3, .int (nI n1)), (4, .int 0)]) [1, 2, 3, 4, 0] rfl; exact hl9)
          intro n67
          induction n67 with
          | zero => intro j g1 ctL67 H locs ls hfu; exact absurd hfu (Nat.not_lt_zero _)
          | succ n67 ih67 =>
            intro j g1 ctL67 H locs ls hfu67 hj hg h_23 h_24 h_25 h_26 hfr_27 hw hl
            refine lv_iload hx hb dX11_sheet_67 (lv_at hl 4 rfl) ?_
            refine lv_bipush (v := 24) hx hb dX11_sheet_69 (by decide) ?_
            refine kn_ge j 24 rfl rfl (by omega) (by omega) (tgt := 93) hx hb dX11_sheet_71 (by decide) (fun c_28 => ?_) (fun c_28 => ?_)
            · refine lv_iconst (v := 1) hx hb dX11_sheet_93 (by decide) ?_
              have hq_29 := h_24
              have hq_30 := h_25
              have hq_31 := h_26
              have hq_32 : ctL67 209 = some (eI tc 96 (kBl ce (24 * k) 24 (fun _ => 0))) := h_23.trans (congrArg some (show (eI tc 96 g1 : va_E) = eI tc 96 (kBl ce (24 * k) 24 (fun _ => 0)) from by rw [hg, show j = 24 by omega]))
              have hend := kw_eq4 hq_29 hq_30 hq_31 hq_32 hfr_27
              rw [hend] at hw
              exact W.iret hx hb hr (fun t ht _ => ⟨rfl, by rw [ht]; exact hw.1, hw.2.2.1, hw.2.1.F ht, by rw [ht]; exact hw.2.2.2⟩) hw.2.1.2.2 dX11_sheet_94
            · refine lv_aload_n hx hb dX11_sheet_74 rfl (lv_at hl 0 rfl) ?_
              refine kg_get (v := .ref (ad 209)) (C := RX11) (T := TX11) (N := 27) hx hb hts hinX11 hown hK hw h_24 rfl 16 (by decide) (hts (.fieldLink RX11 45 "BetMakerModel" "cells" "[I") (by decide +kernel)) (fun _ h9 => h9) rfl dX11_sheet_75 ?_
              refine lv_bipush (v := 24) hx hb dX11_sheet_78 (by decide) ?_
              refine lv_iload_n hx hb dX11_sheet_80 rfl (lv_at hl 1 rfl) ?_
              refine lv_imul hx hb dX11_sheet_81 ?_
              refine lv_iload hx hb dX11_sheet_82 (lv_at hl 4 rfl) ?_
              refine lv_iadd hx hb dX11_sheet_84 ?_
              refine lv_iconst (v := 0) hx hb dX11_sheet_85 (by decide) ?_
              refine kg_iast hx hb hK hw h_23 ((24 * k) + j) (by simp only [kn_lit, nI_add, pk_mul, nI_1]) (by omega) (by omega) dX11_sheet_86 (fun H locs hw => ?_)
              obtain ⟨ct_33, ect_33⟩ : ∃ z, z = kw_up ctL67 209 (eI tc 96 (va_up g1 ((24 * k) + j) 0)) := ⟨_, rfl⟩
              rw [← ect_33] at hw
              have h_34 : ct_33 200 = some (.inr (11, [.int 0, .int tr, .int (nI N), .int b, .ref (ad 201), .long g, .int cm, .int da, .int (nI nt), .ref (ad 202), .ref (ad 203), .ref (ad 204), .ref (ad 205), .ref (ad 206), .ref (ad 207), .ref (ad 208), .ref (ad 209), .int (nI no), .ref (ad 210), .ref (ad 211), .ref (ad 212), .ref (ad 213), .ref (ad 214), .int bs, .int (nI nf), .ref (ad 215), .ref (ad 216)])) := by rw [ect_33, kw_up_n (by decide)]; exact h_24
              have h_35 : ct_33 207 = some (eI tc 4 (va_up la k lane)) := by rw [ect_33, kw_up_n (by decide)]; exact h_25
              have h_36 : ct_33 208 = some (eI tc 4 (va_up sl k (nI n1))) := by rw [ect_33, kw_up_n (by decide)]; exact h_26
              have h_37 : ct_33 209 = some (eI tc 96 (va_up g1 ((24 * k) + j) 0)) := by rw [ect_33]; exact kw_up_s
              have hfr_38 : ∀ j, j ≠ 200 → j ≠ 207 → j ≠ 208 → j ≠ 209 → ct_33 j = ct j := fun j a0 a1 a2 a3 => by rw [ect_33]; exact (kw_up_n a3).trans (hfr_27 j a0 a1 a2 a3)
              refine lv_iinc (v := (nI (j + 1))) (lv' := [(4, .int (nI (j + 1))), (0, .ref (ad 200)), (1, .int (nI k)), (2, .int lane), (3, .int (nI n1))]) hx hb dX11_sheet_87 hl (k := 4) rfl (nI_1 j) (by decide) rfl (fun ls hl => ?_)
              refine lv_goto (tgt := 67) hx hb dX11_sheet_90 (by decide) ?_
              exact ih67 (j + 1) (va_up g1 ((24 * k) + j) 0) _ _ _ ls (by omega) (by omega) (by rw [hg]; exact kBl_s ce (24 * k) j (fun _ => 0)) h_37 h_34 h_35 h_36 hfr_38 hw (lv_sub hl [1, 2, 3, 4, 0] rfl)
        · exact absurd (nI_pos' (by omega)) c_10
      · exfalso; omega
  · exact absurd kK c_7
set_option maxHeartbeats 4000000 in
set_option maxRecDepth 100000 in
theorem c_X11_lose_u (l : Launch) (D : va_G) (tc : Nat → ClassId) (sz : Nat) (ad : Nat → Nat) (ct : Nat → Option va_E) {N nt no nf : Nat} {ft tr b cm da bs : Int32} {g : Int64}                 {k : Int32} (h0 : ct 200 = some (.inr (11, [.int ft, .int tr, .int (nI N), .int b, .ref (ad 201), .long g, .int cm, .int da, .int (nI nt), .ref (ad 202), .ref (ad 203), .ref (ad 204), .ref (ad 205), .ref (ad 206), .ref (ad 207), .ref (ad 208), .ref (ad 209), .int (nI no), .ref (ad 210), .ref (ad 211), .ref (ad 212), .ref (ad 213), .ref (ad 214), .int bs, .int (nI nf), .ref (ad 215), .ref (ad 216)]))) (hk : ¬ (0 ≤ k.toInt64 ∧ k.toInt64 ≤ 3)) : Met l yX11_lose wsX11_lose ({ frames := 1, cells := 0, slots := 0, locals := 29 }) (va_Pc [.ref (ad 200), .int k] (kw_B D tc sz ad ct)) (k2_QcV (.int (-1))) 0 0 (fun _ => False) := by
  refine Met.ofW (cc := cX11_lose) (maxL := 3) (ret := (some .int)) (by decide) rfl ?_
  intro pg en s m args below meth cod s₁ B hml hv
  obtain ⟨rfl, hsz, hP0, hK⟩ := hv
  have hx := B.exec
  have hb := B.bytes
  have hr := B.returns
  have hts := atoms_spec (ws := wsX11_lose) B.pre
  have hown : s.vm.findClass RX11 = some m.cls := findClass_of_methodNamed B.named
  have hlocks := B.notSynchronized
  subst hsz
  have hw := kw_H.start hP0
  generalize kw_A ad ct s.heap.size = A at hw
  have hinX11 : ∀ w ∈ wsX110, w ∈ wsX11_lose := by decide +kernel
  have hl := lv_entry ([.ref (ad 200), .int k]) (n := 3) (Nat.le_of_ble_eq_true rfl)
  rw [lg_entry_eq]
  generalize (lg_sl ([.ref (ad 200), .int k]) ++ List.replicate (3 - (lg_sl ([.ref (ad 200), .int k])).length) Slot.unset).toArray = ls at hl ⊢
  have hl : lv_has ls 3 [(0, .ref (ad 200)), (1, .int k)] := hl
  have S0 : CallFix pg m cod cX11_lose 3 s _ wsX11_lose RX11 := ⟨hx, hb, hml, hown, hts⟩
  refine lv_iload_n hx hb dX11_lose_0 rfl (lv_at hl 1 rfl) ?_
  refine lv_i2l (v := k.toInt64) hx hb dX11_lose_1 rfl ?_
  refine lv_lconst (v := 0) hx hb dX11_lose_2 (by decide) ?_
  refine lv_ldc2 (v := 3) hx hb hown (hts (.constantLong RX11 165 (3)) (by decide +kernel)) dX11_lose_3 ?_
  refine kc_s (As := [.long k.toInt64, .long 0, .long 3]) (rest := []) S0 (c_X11_within l D tc s.heap.size ad ct ) (va_cwS 3 hts gX11_lose_X11_within rfl rfl rfl (by decide +kernel) ⟨Nat.le_of_ble_eq_true rfl, Nat.le_of_ble_eq_true rfl⟩) hK hw rfl hl.1 rfl (Nat.le_of_ble_eq_true rfl) dX11_lose_6 ⟨Nat.le_of_ble_eq_true rfl, (Nat.le_of_ble_eq_true rfl)⟩ ?_
  refine kb_ifne (tgt := 14) hx hb dX11_lose_9 (by decide) (fun c_1 => ?_) (fun c_1 => ?_)
  · exact absurd c_1 hk
  · refine lv_iconst (v := (-1)) hx hb dX11_lose_12 (by decide) ?_
    exact W.iret hx hb hr (fun t ht _ => ⟨rfl, ht⟩) (fun _ h => absurd h List.not_mem_nil) dX11_lose_13
set_option maxHeartbeats 4000000 in
set_option maxRecDepth 100000 in
theorem c_X11_lose_0 (l : Launch) (D : va_G) (tc : Nat → ClassId) (sz : Nat) (ad : Nat → Nat) (ct : Nat → Option va_E) {N nt no nf : Nat} {ft tr b cm da bs : Int32} {g : Int64}       {la : Nat → Int32}          {k : Nat} (h0 : ct 200 = some (.inr (11, [.int ft, .int tr, .int (nI N), .int b, .ref (ad 201), .long g, .int cm, .int da, .int (nI nt), .ref (ad 202), .ref (ad 203), .ref (ad 204), .ref (ad 205), .ref (ad 206), .ref (ad 207), .ref (ad 208), .ref (ad 209), .int (nI no), .ref (ad 210), .ref (ad 211), .ref (ad 212), .ref (ad 213), .ref (ad 214), .int bs, .int (nI nf), .ref (ad 215), .ref (ad 216)]))) (h207 : ct 207 = some (eI tc 4 la)) (hk4 : k < 4) (ha1 : la k = (-9)) : Met l yX11_lose wsX11_lose ({ frames := 1, cells := 0, slots := 0, locals := 29 }) (va_Pc [.ref (ad 200), .int (nI k)] (kw_B D tc sz ad ct)) (kw_Q D ad (kw_A ad ct sz) (some (.int 0)) (kw_up ct 207 (eI tc 4 (va_up la k (-9)))) 0) 0 0 (kw_A ad ct sz) := by
  refine Met.ofW (cc := cX11_lose) (maxL := 3) (ret := (some .int)) (by decide) rfl ?_
  intro pg en s m args below meth cod s₁ B hml hv
  obtain ⟨rfl, hsz, hP0, hK⟩ := hv
  have hx := B.exec
  have hb := B.bytes
  have hr := B.returns
  have hts := atoms_spec (ws := wsX11_lose) B.pre
  have hown : s.vm.findClass RX11 = some m.cls := findClass_of_methodNamed B.named
  have hlocks := B.notSynchronized
  subst hsz
  have hw := kw_H.start hP0
  generalize hAe : kw_A ad ct s.heap.size = A at hw ⊢
  have hA : ∀ q, s.heap.size ≤ q → A q := fun q h => by rw [← hAe]; exact Or.inr h
  have hinX11 : ∀ w ∈ wsX110, w ∈ wsX11_lose := by decide +kernel
  have hl := lv_entry ([.ref (ad 200), .int (nI k)]) (n := 3) (Nat.le_of_ble_eq_true rfl)
  rw [lg_entry_eq]
  generalize (lg_sl ([.ref (ad 200), .int (nI k)]) ++ List.replicate (3 - (lg_sl ([.ref (ad 200), .int (nI k)])).length) Slot.unset).toArray = ls at hl ⊢
  have hl : lv_has ls 3 [(0, .ref (ad 200)), (1, .int (nI k))] := hl
  have S0 : CallFix pg m cod cX11_lose 3 s _ wsX11_lose RX11 := ⟨hx, hb, hml, hown, hts⟩
  have hfr : ∀ j, j ≠ 207 → ct j = ct j := fun _ _ => rfl
  have kK : 0 ≤ (nI k).toInt64 ∧ (nI k).toInt64 ≤ 3 := kwl k 3 (by omega) (by omega)
  refine lv_iload_n hx hb dX11_lose_0 rfl (lv_at hl 1 rfl) ?_
  refine lv_i2l (v := (nI k).toInt64) hx hb dX11_lose_1 rfl ?_
  refine lv_lconst (v := 0) hx hb dX11_lose_2 (by decide) ?_
  refine lv_ldc2 (v := 3) hx hb hown (hts (.constantLong RX11 165 (3)) (by decide +kernel)) dX11_lose_3 ?_
  refine kc_s (As := [.long ((nI k).toInt64), .long 0, .long 3]) (rest := []) S0 (c_X11_within l D tc s.heap.size ad ct ) (va_cwS 3 hts gX11_lose_X11_within rfl rfl rfl (by decide +kernel) ⟨Nat.le_of_ble_eq_true rfl, Nat.le_of_ble_eq_true rfl⟩) hK hw rfl hl.1 rfl (Nat.le_of_ble_eq_true rfl) dX11_lose_6 ⟨Nat.le_of_ble_eq_true rfl, (Nat.le_of_ble_eq_true rfl)⟩ ?_
  refine kb_ifne (tgt := 14) hx hb dX11_lose_9 (by decide) (fun c_1 => ?_) (fun c_1 => ?_)
  · refine lv_aload_n hx hb dX11_lose_14 rfl (lv_at hl 0 rfl) ?_
    refine kg_get (v := .ref (ad 207)) (C := RX11) (T := TX11) (N := 27) hx hb hts hinX11 hown hK hw h0 rfl 14 (by decide) (hts (.fieldLink RX11 39 "BetMakerModel" "lanes" "[I") (by decide +kernel)) (fun _ h9 => h9) rfl dX11_lose_15 ?_
    refine lv_iload_n hx hb dX11_lose_18 rfl (lv_at hl 1 rfl) ?_
    refine kg_iald hx hb hK hw h207 k rfl (by omega) (by omega) dX11_lose_19 ?_
    refine lv_bipush (v := (-9)) hx hb dX11_lose_20 (by decide) ?_
    refine lv_icmp_ne (tgt := 29) hx hb dX11_lose_22 (by decide) (fun c_2 => ?_) (fun c_2 => ?_)
    · exact absurd ha1 c_2
    · refine lv_iconst (v := 0) hx hb dX11_lose_25 (by decide) ?_
      refine lv_goto (tgt := 30) hx hb dX11_lose_26 (by decide) ?_
      refine lv_istore_n (lv' := [(2, .int 0), (0, .ref (ad 200)), (1, .int (nI k))]) hx hb dX11_lose_30 rfl hl (by decide) rfl (fun ls hl => ?_)
      refine lv_aload_n hx hb dX11_lose_31 rfl (lv_at hl 1 rfl) ?_
      refine kg_get (v := .ref (ad 207)) (C := RX11) (T := TX11) (N := 27) hx hb hts hinX11 hown hK hw h0 rfl 14 (by decide) (hts (.fieldLink RX11 39 "BetMakerModel" "lanes" "[I") (by decide +kernel)) (fun _ h9 => h9) rfl dX11_lose_32 ?_
      refine lv_iload_n hx hb dX11_lose_35 rfl (lv_at hl 2 rfl) ?_
      refine lv_bipush (v := (-9)) hx hb dX11_lose_36 (by decide) ?_
      refine kg_iast hx hb hK hw h207 k rfl (by omega) (by omega) dX11_lose_38 (fun H locs hw => ?_)
      obtain ⟨ct_3, ect_3⟩ : ∃ z, z = kw_up ct 207 (eI tc 4 (va_up la k (-9))) := ⟨_, rfl⟩
      rw [← ect_3] at hw
      have h_4 : ct_3 200 = some (.inr (11, [.int ft, .int tr, .int (nI N), .int b, .ref (ad 201), .long g, .int cm, .int da, .int (nI nt), .ref (ad 202), .ref (ad 203), .ref (ad 204), .ref (ad 205), .ref (ad 206), .ref (ad 207), .ref (ad 208), .ref (ad 209), .int (nI no), .ref (ad 210), .ref (ad 211), .ref (ad 212), .ref (ad 213), .ref (ad 214), .int bs, .int (nI nf), .ref (ad 215), .ref (ad 216)])) := by rw [ect_3, kw_up_n (by decide)]; exact h0
      have h_5 : ct_3 207 = some (eI tc 4 (va_up la k (-9))) := by rw [ect_3]; exact kw_up_s
      have hfr_6 : ∀ j, j ≠ 207 → ct_3 j = ct j := fun j a0 => by rw [ect_3]; exact (kw_up_n a0).trans (hfr j a0)
      refine lv_iload_n hx hb dX11_lose_39 rfl (lv_at hl 0 rfl) ?_
      have hq_7 := h_5
      have hend := kw_eq1 hq_7 hfr_6
      rw [hend] at hw
      exact W.iret hx hb hr (fun t ht _ => ⟨rfl, by rw [ht]; exact hw.1, hw.2.2.1, hw.2.1.F ht, by rw [ht]; exact hw.2.2.2⟩) hw.2.1.2.2 dX11_lose_40
  · exact absurd kK c_1
set_option maxHeartbeats 4000000 in
set_option maxRecDepth 100000 in
theorem c_X11_lose_1 (l : Launch) (D : va_G) (tc : Nat → ClassId) (sz : Nat) (ad : Nat → Nat) (ct : Nat → Option va_E) {N nt no nf : Nat} {ft tr b cm da bs : Int32} {g : Int64}       {la : Nat → Int32}          {k : Nat} (h0 : ct 200 = some (.inr (11, [.int ft, .int tr, .int (nI N), .int b, .ref (ad 201), .long g, .int cm, .int da, .int (nI nt), .ref (ad 202), .ref (ad 203), .ref (ad 204), .ref (ad 205), .ref (ad 206), .ref (ad 207), .ref (ad 208), .ref (ad 209), .int (nI no), .ref (ad 210), .ref (ad 211), .ref (ad 212), .ref (ad 213), .ref (ad 214), .int bs, .int (nI nf), .ref (ad 215), .ref (ad 216)]))) (h207 : ct 207 = some (eI tc 4 la)) (hk4 : k < 4) (ha1 : ¬ (la k = (-9))) : Met l yX11_lose wsX11_lose ({ frames := 1, cells := 0, slots := 0, locals := 29 }) (va_Pc [.ref (ad 200), .int (nI k)] (kw_B D tc sz ad ct)) (kw_Q D ad (kw_A ad ct sz) (some (.int 1)) (kw_up ct 207 (eI tc 4 (va_up la k (-9)))) 0) 0 0 (kw_A ad ct sz) := by
  refine Met.ofW (cc := cX11_lose) (maxL := 3) (ret := (some .int)) (by decide) rfl ?_
  intro pg en s m args below meth cod s₁ B hml hv
  obtain ⟨rfl, hsz, hP0, hK⟩ := hv
  have hx := B.exec
  have hb := B.bytes
  have hr := B.returns
  have hts := atoms_spec (ws := wsX11_lose) B.pre
  have hown : s.vm.findClass RX11 = some m.cls := findClass_of_methodNamed B.named
  have hlocks := B.notSynchronized
  subst hsz
  have hw := kw_H.start hP0
  generalize hAe : kw_A ad ct s.heap.size = A at hw ⊢
  have hA : ∀ q, s.heap.size ≤ q → A q := fun q h => by rw [← hAe]; exact Or.inr h
  have hinX11 : ∀ w ∈ wsX110, w ∈ wsX11_lose := by decide +kernel
  have hl := lv_entry ([.ref (ad 200), .int (nI k)]) (n := 3) (Nat.le_of_ble_eq_true rfl)
  rw [lg_entry_eq]
  generalize (lg_sl ([.ref (ad 200), .int (nI k)]) ++ List.replicate (3 - (lg_sl ([.ref (ad 200), .int (nI k)])).length) Slot.unset).toArray = ls at hl ⊢
  have hl : lv_has ls 3 [(0, .ref (ad 200)), (1, .int (nI k))] := hl
  have S0 : CallFix pg m cod cX11_lose 3 s _ wsX11_lose RX11 := ⟨hx, hb, hml, hown, hts⟩
  have hfr : ∀ j, j ≠ 207 → ct j = ct j := fun _ _ => rfl
  have kK : 0 ≤ (nI k).toInt64 ∧ (nI k).toInt64 ≤ 3 := kwl k 3 (by omega) (by omega)
  refine lv_iload_n hx hb dX11_lose_0 rfl (lv_at hl 1 rfl) ?_
  refine lv_i2l (v := (nI k).toInt64) hx hb dX11_lose_1 rfl ?_
  refine lv_lconst (v := 0) hx hb dX11_lose_2 (by decide) ?_
  refine lv_ldc2 (v := 3) hx hb hown (hts (.constantLong RX11 165 (3)) (by decide +kernel)) dX11_lose_3 ?_
  refine kc_s (As := [.long ((nI k).toInt64), .long 0, .long 3]) (rest := []) S0 (c_X11_within l D tc s.heap.size ad ct ) (va_cwS 3 hts gX11_lose_X11_within rfl rfl rfl (by decide +kernel) ⟨Nat.le_of_ble_eq_true rfl, Nat.le_of_ble_eq_true rfl⟩) hK hw rfl hl.1 rfl (Nat.le_of_ble_eq_true rfl) dX11_lose_6 ⟨Nat.le_of_ble_eq_true rfl, (Nat.le_of_ble_eq_true rfl)⟩ ?_
  refine kb_ifne (tgt := 14) hx hb dX11_lose_9 (by decide) (fun c_1 => ?_) (fun c_1 => ?_)
  · refine lv_aload_n hx hb dX11_lose_14 rfl (lv_at hl 0 rfl) ?_
    refine kg_get (v := .ref (ad 207)) (C := RX11) (T := TX11) (N := 27) hx hb hts hinX11 hown hK hw h0 rfl 14 (by decide) (hts (.fieldLink RX11 39 "BetMakerModel" "lanes" "[I") (by decide +kernel)) (fun _ h9 => h9) rfl dX11_lose_15 ?_
    refine lv_iload_n hx hb dX11_lose_18 rfl (lv_at hl 1 rfl) ?_
    refine kg_iald hx hb hK hw h207 k rfl (by omega) (by omega) dX11_lose_19 ?_
    refine lv_bipush (v := (-9)) hx hb dX11_lose_20 (by decide) ?_
    refine lv_icmp_ne (tgt := 29) hx hb dX11_lose_22 (by decide) (fun c_2 => ?_) (fun c_2 => ?_)
    · refine lv_iconst (v := 1) hx hb dX11_lose_29 (by decide) ?_
      refine lv_istore_n (lv' := [(2, .int 1), (0, .ref (ad 200)), (1, .int (nI k))]) hx hb dX11_lose_30 rfl hl (by decide) rfl (fun ls hl => ?_)
      refine lv_aload_n hx hb dX11_lose_31 rfl (lv_at hl 1 rfl) ?_
      refine kg_get (v := .ref (ad 207)) (C := RX11) (T := TX11) (N := 27) hx hb hts hinX11 hown hK hw h0 rfl 14 (by decide) (hts (.fieldLink RX11 39 "BetMakerModel" "lanes" "[I") (by decide +kernel)) (fun _ h9 => h9) rfl dX11_lose_32 ?_
      refine lv_iload_n hx hb dX11_lose_35 rfl (lv_at hl 2 rfl) ?_
      refine lv_bipush (v := (-9)) hx hb dX11_lose_36 (by decide) ?_
      refine kg_iast hx hb hK hw h207 k rfl (by omega) (by omega) dX11_lose_38 (fun H locs hw => ?_)
      obtain ⟨ct_3, ect_3⟩ : ∃ z, z = kw_up ct 207 (eI tc 4 (va_up la k (-9))) := ⟨_, rfl⟩
      rw [← ect_3] at hw
      have h_4 : ct_3 200 = some (.inr (11, [.int ft, .int tr, .int (nI N), .int b, .ref (ad 201), .long g, .int cm, .int da, .int (nI nt), .ref (ad 202), .ref (ad 203), .ref (ad 204), .ref (ad 205), .ref (ad 206), .ref (ad 207), .ref (ad 208), .ref (ad 209), .int (nI no), .ref (ad 210), .ref (ad 211), .ref (ad 212), .ref (ad 213), .ref (ad 214), .int bs, .int (nI nf), .ref (ad 215), .ref (ad 216)])) := by rw [ect_3, kw_up_n (by decide)]; exact h0
      have h_5 : ct_3 207 = some (eI tc 4 (va_up la k (-9))) := by rw [ect_3]; exact kw_up_s
      have hfr_6 : ∀ j, j ≠ 207 → ct_3 j = ct j := fun j a0 => by rw [ect_3]; exact (kw_up_n a0).trans (hfr j a0)
      refine lv_iload_n hx hb dX11_lose_39 rfl (lv_at hl 0 rfl) ?_
      have hq_7 := h_5
      have hend := kw_eq1 hq_7 hfr_6
      rw [hend] at hw
      exact W.iret hx hb hr (fun t ht _ => ⟨rfl, by rw [ht]; exact hw.1, hw.2.2.1, hw.2.1.F ht, by rw [ht]; exact hw.2.2.2⟩) hw.2.1.2.2 dX11_lose_40
    · exact absurd c_2 ha1
  · exact absurd kK c_1
set_option maxHeartbeats 4000000 in
set_option maxRecDepth 100000 in
theorem c_X11_put_u (l : Launch) (D : va_G) (tc : Nat → ClassId) (sz : Nat) (ad : Nat → Nat) (ct : Nat → Option va_E) {N nt no nf : Nat} {ft tr b cm da bs : Int32} {g : Int64}                 {k i v : Int32} (h0 : ct 200 = some (.inr (11, [.int ft, .int tr, .int (nI N), .int b, .ref (ad 201), .long g, .int cm, .int da, .int (nI nt), .ref (ad 202), .ref (ad 203), .ref (ad 204), .ref (ad 205), .ref (ad 206), .ref (ad 207), .ref (ad 208), .ref (ad 209), .int (nI no), .ref (ad 210), .ref (ad 211), .ref (ad 212), .ref (ad 213), .ref (ad 214), .int bs, .int (nI nf), .ref (ad 215), .ref (ad 216)]))) (hk : ¬ (0 ≤ k.toInt64 ∧ k.toInt64 ≤ 3)) : Met l yX11_put wsX11_put ({ frames := 1, cells := 0, slots := 0, locals := 29 }) (va_Pc [.ref (ad 200), .int k, .int i, .int v] (kw_B D tc sz ad ct)) (kw_Q D ad (kw_A ad ct sz) (some (.int (-1))) (kw_up ct 200 (.inr (11, [.int 0, .int tr, .int (nI N), .int b, .ref (ad 201), .long g, .int cm, .int da, .int (nI nt), .ref (ad 202), .ref (ad 203), .ref (ad 204), .ref (ad 205), .ref (ad 206), .ref (ad 207), .ref (ad 208), .ref (ad 209), .int (nI no), .ref (ad 210), .ref (ad 211), .ref (ad 212), .ref (ad 213), .ref (ad 214), .int bs, .int (nI nf), .ref (ad 215), .ref (ad 216)]))) 0) 0 0 (kw_A ad ct sz) := by
  refine Met.ofW (cc := cX11_put) (maxL := 4) (ret := (some .int)) (by decide) rfl ?_
  intro pg en s m args below meth cod s₁ B hml hv
  obtain ⟨rfl, hsz, hP0, hK⟩ := hv
  have hx := B.exec
  have hb := B.bytes
  have hr := B.returns
  have hts := atoms_spec (ws := wsX11_put) B.pre
  have hown : s.vm.findClass RX11 = some m.cls := findClass_of_methodNamed B.named
  have hlocks := B.notSynchronized
  subst hsz
  have hw := kw_H.start hP0
  generalize hAe : kw_A ad ct s.heap.size = A at hw ⊢
  have hA : ∀ q, s.heap.size ≤ q → A q := fun q h => by rw [← hAe]; exact Or.inr h
  have hinX11 : ∀ w ∈ wsX110, w ∈ wsX11_put := by decide +kernel
  have hl := lv_entry ([.ref (ad 200), .int k, .int i, .int v]) (n := 4) (Nat.le_of_ble_eq_true rfl)
  rw [lg_entry_eq]
  generalize (lg_sl ([.ref (ad 200), .int k, .int i, .int v]) ++ List.replicate (4 - (lg_sl ([.ref (ad 200), .int k, .int i, .int v])).length) Slot.unset).toArray = ls at hl ⊢
  have hl : lv_has ls 4 [(0, .ref (ad 200)), (1, .int k), (2, .int i), (3, .int v)] := hl
  have S0 : CallFix pg m cod cX11_put 4 s _ wsX11_put RX11 := ⟨hx, hb, hml, hown, hts⟩
  have hfr : ∀ j, j ≠ 200 → ct j = ct j := fun _ _ => rfl
  refine lv_aload_n hx hb dX11_put_0 rfl (lv_at hl 0 rfl) ?_
  refine lv_iconst (v := 0) hx hb dX11_put_1 (by decide) ?_
  refine kg_put (v := .int 0) (ty := .int) (C := RX11) (T := TX11) (N := 27) (fs' := [.int 0, .int tr, .int (nI N), .int b, .ref (ad 201), .long g, .int cm, .int da, .int (nI nt), .ref (ad 202), .ref (ad 203), .ref (ad 204), .ref (ad 205), .ref (ad 206), .ref (ad 207), .ref (ad 208), .ref (ad 209), .int (nI no), .ref (ad 210), .ref (ad 211), .ref (ad 212), .ref (ad 213), .ref (ad 214), .int bs, .int (nI nf), .ref (ad 215), .ref (ad 216)]) hx hb hts hinX11 tyX11 tyX11_ok nmX11 hown hK hw h0 rfl 0 (by decide) (hts (.fieldLink RX11 69 "BetMakerModel" "fault" "I") (by decide +kernel)) (fun _ h9 => h9) rfl (by decide +kernel) rfl rfl (Nat.le_of_ble_eq_true rfl) rfl dX11_put_2 (fun H locs hw => ?_)
  obtain ⟨ct_1, ect_1⟩ : ∃ z, z = kw_up ct 200 (.inr (11, [.int 0, .int tr, .int (nI N), .int b, .ref (ad 201), .long g, .int cm, .int da, .int (nI nt), .ref (ad 202), .ref (ad 203), .ref (ad 204), .ref (ad 205), .ref (ad 206), .ref (ad 207), .ref (ad 208), .ref (ad 209), .int (nI no), .ref (ad 210), .ref (ad 211), .ref (ad 212), .ref (ad 213), .ref (ad 214), .int bs, .int (nI nf), .ref (ad 215), .ref (ad 216)])) := ⟨_, rfl⟩
  rw [← ect_1] at hw
  have h_2 : ct_1 200 = some (.inr (11, [.int 0, .int tr, .int (nI N), .int b, .ref (ad 201), .long g, .int cm, .int da, .int (nI nt), .ref (ad 202), .ref (ad 203), .ref (ad 204), .ref (ad 205), .ref (ad 206), .ref (ad 207), .ref (ad 208), .ref (ad 209), .int (nI no), .ref (ad 210), .ref (ad 211), .ref (ad 212), .ref (ad 213), .ref (ad 214), .int bs, .int (nI nf), .ref (ad 215), .ref (ad 216)])) := by rw [ect_1]; exact kw_up_s
  have hfr_3 : ∀ j, j ≠ 200 → ct_1 j = ct j := fun j a0 => by rw [ect_1]; exact (kw_up_n a0).trans (hfr j a0)
  refine lv_iload_n hx hb dX11_put_5 rfl (lv_at hl 1 rfl) ?_
  refine lv_i2l (v := k.toInt64) hx hb dX11_put_6 rfl ?_
  refine lv_lconst (v := 0) hx hb dX11_put_7 (by decide) ?_
  refine lv_ldc2 (v := 3) hx hb hown (hts (.constantLong RX11 165 (3)) (by decide +kernel)) dX11_put_8 ?_
  refine kc_s (As := [.long k.toInt64, .long 0, .long 3]) (rest := []) S0 (c_X11_within l D tc s.heap.size ad ct_1 ) (va_cwS 3 hts gX11_put_X11_within rfl rfl rfl (by decide +kernel) ⟨Nat.le_of_ble_eq_true rfl, Nat.le_of_ble_eq_true rfl⟩) hK hw rfl hl.1 rfl (Nat.le_of_ble_eq_true rfl) dX11_put_11 ⟨Nat.le_of_ble_eq_true rfl, (Nat.le_of_ble_eq_true rfl)⟩ ?_
  refine kb_ifne (tgt := 19) hx hb dX11_put_14 (by decide) (fun c_4 => ?_) (fun c_4 => ?_)
  · exact absurd c_4 hk
  · refine lv_iconst (v := (-1)) hx hb dX11_put_17 (by decide) ?_
    have hq_5 := h_2
    have hend := kw_eq1 hq_5 hfr_3
    rw [hend] at hw
    exact W.iret hx hb hr (fun t ht _ => ⟨rfl, by rw [ht]; exact hw.1, hw.2.2.1, hw.2.1.F ht, by rw [ht]; exact hw.2.2.2⟩) hw.2.1.2.2 dX11_put_18
set_option maxHeartbeats 4000000 in
set_option maxRecDepth 100000 in
theorem c_X11_put_n (l : Launch) (D : va_G) (tc : Nat → ClassId) (sz : Nat) (ad : Nat → Nat) (ct : Nat → Option va_E) {N nt no nf : Nat} {ft tr b cm da bs : Int32} {g : Int64}       {la : Nat → Int32}          {k : Nat} {i v : Int32} (h0 : ct 200 = some (.inr (11, [.int ft, .int tr, .int (nI N), .int b, .ref (ad 201), .long g, .int cm, .int da, .int (nI nt), .ref (ad 202), .ref (ad 203), .ref (ad 204), .ref (ad 205), .ref (ad 206), .ref (ad 207), .ref (ad 208), .ref (ad 209), .int (nI no), .ref (ad 210), .ref (ad 211), .ref (ad 212), .ref (ad 213), .ref (ad 214), .int bs, .int (nI nf), .ref (ad 215), .ref (ad 216)]))) (h207 : ct 207 = some (eI tc 4 la)) (hk4 : k < 4) (ha1 : la k = (-9)) : Met l yX11_put wsX11_put ({ frames := 1, cells := 0, slots := 0, locals := 29 }) (va_Pc [.ref (ad 200), .int (nI k), .int i, .int v] (kw_B D tc sz ad ct)) (kw_Q D ad (kw_A ad ct sz) (some (.int ((-10) - 1))) (kw_up ct 200 (.inr (11, [.int 1, .int tr, .int (nI N), .int b, .ref (ad 201), .long g, .int cm, .int da, .int (nI nt), .ref (ad 202), .ref (ad 203), .ref (ad 204), .ref (ad 205), .ref (ad 206), .ref (ad 207), .ref (ad 208), .ref (ad 209), .int (nI no), .ref (ad 210), .ref (ad 211), .ref (ad 212), .ref (ad 213), .ref (ad 214), .int bs, .int (nI nf), .ref (ad 215), .ref (ad 216)]))) 0) 0 0 (kw_A ad ct sz) := by
  refine Met.ofW (cc := cX11_put) (maxL := 4) (ret := (some .int)) (by decide) rfl ?_
  intro pg en s m args below meth cod s₁ B hml hv
  obtain ⟨rfl, hsz, hP0, hK⟩ := hv
  have hx := B.exec
  have hb := B.bytes
  have hr := B.returns
  have hts := atoms_spec (ws := wsX11_put) B.pre
  have hown : s.vm.findClass RX11 = some m.cls := findClass_of_methodNamed B.named
  have hlocks := B.notSynchronized
  subst hsz
  have hw := kw_H.start hP0
  generalize hAe : kw_A ad ct s.heap.size = A at hw ⊢
  have hA : ∀ q, s.heap.size ≤ q → A q := fun q h => by rw [← hAe]; exact Or.inr h
  have hinX11 : ∀ w ∈ wsX110, w ∈ wsX11_put := by decide +kernel
  have hl := lv_entry ([.ref (ad 200), .int (nI k), .int i, .int v]) (n := 4) (Nat.le_of_ble_eq_true rfl)
  rw [lg_entry_eq]
  generalize (lg_sl ([.ref (ad 200), .int (nI k), .int i, .int v]) ++ List.replicate (4 - (lg_sl ([.ref (ad 200), .int (nI k), .int i, .int v])).length) Slot.unset).toArray = ls at hl ⊢
  have hl : lv_has ls 4 [(0, .ref (ad 200)), (1, .int (nI k)), (2, .int i), (3, .int v)] := hl
  have S0 : CallFix pg m cod cX11_put 4 s _ wsX11_put RX11 := ⟨hx, hb, hml, hown, hts⟩
  have hfr : ∀ j, j ≠ 200 → ct j = ct j := fun _ _ => rfl
  have kK : 0 ≤ (nI k).toInt64 ∧ (nI k).toInt64 ≤ 3 := kwl k 3 (by omega) (by omega)
  refine lv_aload_n hx hb dX11_put_0 rfl (lv_at hl 0 rfl) ?_
  refine lv_iconst (v := 0) hx hb dX11_put_1 (by decide) ?_
  refine kg_put (v := .int 0) (ty := .int) (C := RX11) (T := TX11) (N := 27) (fs' := [.int 0, .int tr, .int (nI N), .int b, .ref (ad 201), .long g, .int cm, .int da, .int (nI nt), .ref (ad 202), .ref (ad 203), .ref (ad 204), .ref (ad 205), .ref (ad 206), .ref (ad 207), .ref (ad 208), .ref (ad 209), .int (nI no), .ref (ad 210), .ref (ad 211), .ref (ad 212), .ref (ad 213), .ref (ad 214), .int bs, .int (nI nf), .ref (ad 215), .ref (ad 216)]) hx hb hts hinX11 tyX11 tyX11_ok nmX11 hown hK hw h0 rfl 0 (by decide) (hts (.fieldLink RX11 69 "BetMakerModel" "fault" "I") (by decide +kernel)) (fun _ h9 => h9) rfl (by decide +kernel) rfl rfl (Nat.le_of_ble_eq_true rfl) rfl dX11_put_2 (fun H locs hw => ?_)
  obtain ⟨ct_1, ect_1⟩ : ∃ z, z = kw_up ct 200 (.inr (11, [.int 0, .int tr, .int (nI N), .int b, .ref (ad 201), .long g, .int cm, .int da, .int (nI nt), .ref (ad 202), .ref (ad 203), .ref (ad 204), .ref (ad 205), .ref (ad 206), .ref (ad 207), .ref (ad 208), .ref (ad 209), .int (nI no), .ref (ad 210), .ref (ad 211), .ref (ad 212), .ref (ad 213), .ref (ad 214), .int bs, .int (nI nf), .ref (ad 215), .ref (ad 216)])) := ⟨_, rfl⟩
  rw [← ect_1] at hw
  have h_2 : ct_1 207 = some (eI tc 4 la) := by rw [ect_1, kw_up_n (by decide)]; exact h207
  have h_3 : ct_1 200 = some (.inr (11, [.int 0, .int tr, .int (nI N), .int b, .ref (ad 201), .long g, .int cm, .int da, .int (nI nt), .ref (ad 202), .ref (ad 203), .ref (ad 204), .ref (ad 205), .ref (ad 206), .ref (ad 207), .ref (ad 208), .ref (ad 209), .int (nI no), .ref (ad 210), .ref (ad 211), .ref (ad 212), .ref (ad 213), .ref (ad 214), .int bs, .int (nI nf), .ref (ad 215), .ref (ad 216)])) := by rw [ect_1]; exact kw_up_s
  have hfr_4 : ∀ j, j ≠ 200 → ct_1 j = ct j := fun j a0 => by rw [ect_1]; exact (kw_up_n a0).trans (hfr j a0)
  refine lv_iload_n hx hb dX11_put_5 rfl (lv_at hl 1 rfl) ?_
  refine lv_i2l (v := (nI k).toInt64) hx hb dX11_put_6 rfl ?_
  refine lv_lconst (v := 0) hx hb dX11_put_7 (by decide) ?_
  refine lv_ldc2 (v := 3) hx hb hown (hts (.constantLong RX11 165 (3)) (by decide +kernel)) dX11_put_8 ?_
  refine kc_s (As := [.long ((nI k).toInt64), .long 0, .long 3]) (rest := []) S0 (c_X11_within l D tc s.heap.size ad ct_1 ) (va_cwS 3 hts gX11_put_X11_within rfl rfl rfl (by decide +kernel) ⟨Nat.le_of_ble_eq_true rfl, Nat.le_of_ble_eq_true rfl⟩) hK hw rfl hl.1 rfl (Nat.le_of_ble_eq_true rfl) dX11_put_11 ⟨Nat.le_of_ble_eq_true rfl, (Nat.le_of_ble_eq_true rfl)⟩ ?_
  refine kb_ifne (tgt := 19) hx hb dX11_put_14 (by decide) (fun c_5 => ?_) (fun c_5 => ?_)
  · refine lv_aload_n hx hb dX11_put_19 rfl (lv_at hl 0 rfl) ?_
    refine kg_get (v := .ref (ad 207)) (C := RX11) (T := TX11) (N := 27) hx hb hts hinX11 hown hK hw h_3 rfl 14 (by decide) (hts (.fieldLink RX11 39 "BetMakerModel" "lanes" "[I") (by decide +kernel)) (fun _ h9 => h9) rfl dX11_put_20 ?_
    refine lv_iload_n hx hb dX11_put_23 rfl (lv_at hl 1 rfl) ?_
    refine kg_iald hx hb hK hw h_2 k rfl (by omega) (by omega) dX11_put_24 ?_
    refine lv_bipush (v := (-9)) hx hb dX11_put_25 (by decide) ?_
    refine lv_icmp_ne (tgt := 36) hx hb dX11_put_27 (by decide) (fun c_6 => ?_) (fun c_6 => ?_)
    · exact absurd ha1 c_6
    · refine lv_aload_n hx hb dX11_put_30 rfl (lv_at hl 0 rfl) ?_
      refine lv_iconst (v := 1) hx hb dX11_put_31 (by decide) ?_
      refine kc_vu (As := [.int 1]) (rest := []) S0 (c_X11_fails l D tc s.heap.size ad ct_1 (N := N) (nt := nt) (no := no) (nf := nf) h_3) (cwV 1 hts gX11_put_X11_fails rfl rfl rfl (by decide +kernel) ⟨Nat.le_of_ble_eq_true rfl, Nat.le_of_ble_eq_true rfl⟩) hK hw hA h_3 rfl rfl hl.1 rfl (Nat.le_of_ble_eq_true rfl) dX11_put_32 ⟨Nat.le_of_ble_eq_true rfl, (Nat.le_of_ble_eq_true rfl)⟩ (fun H locs hw => ?_)
      obtain ⟨ct_7, ect_7⟩ : ∃ z, z = kw_up ct_1 200 (.inr (11, [.int 1, .int tr, .int (nI N), .int b, .ref (ad 201), .long g, .int cm, .int da, .int (nI nt), .ref (ad 202), .ref (ad 203), .ref (ad 204), .ref (ad 205), .ref (ad 206), .ref (ad 207), .ref (ad 208), .ref (ad 209), .int (nI no), .ref (ad 210), .ref (ad 211), .ref (ad 212), .ref (ad 213), .ref (ad 214), .int bs, .int (nI nf), .ref (ad 215), .ref (ad 216)])) := ⟨_, rfl⟩
      rw [← ect_7] at hw
      have h_8 : ct_7 207 = some (eI tc 4 la) := by rw [ect_7, kw_up_n (by decide)]; exact h_2
      have h_9 : ct_7 200 = some (.inr (11, [.int 1, .int tr, .int (nI N), .int b, .ref (ad 201), .long g, .int cm, .int da, .int (nI nt), .ref (ad 202), .ref (ad 203), .ref (ad 204), .ref (ad 205), .ref (ad 206), .ref (ad 207), .ref (ad 208), .ref (ad 209), .int (nI no), .ref (ad 210), .ref (ad 211), .ref (ad 212), .ref (ad 213), .ref (ad 214), .int bs, .int (nI nf), .ref (ad 215), .ref (ad 216)])) := by rw [ect_7]; exact kw_up_s
      have hfr_10 : ∀ j, j ≠ 200 → ct_7 j = ct j := fun j a0 => by rw [ect_7]; exact (kw_up_n a0).trans (hfr_4 j a0)
      have hq_11 := h_9
      have hend := kw_eq1 hq_11 hfr_10
      rw [hend] at hw
      exact W.iret hx hb hr (fun t ht _ => ⟨rfl, by rw [ht]; exact hw.1, hw.2.2.1, hw.2.1.F ht, by rw [ht]; exact hw.2.2.2⟩) hw.2.1.2.2 dX11_put_35
  · exact absurd kK c_5
set_option maxHeartbeats 4000000 in
set_option maxRecDepth 100000 in
theorem c_X11_put_x (l : Launch) (D : va_G) (tc : Nat → ClassId) (sz : Nat) (ad : Nat → Nat) (ct : Nat → Option va_E) {N nt no nf : Nat} {ft tr b cm da bs : Int32} {g : Int64}       {la : Nat → Int32} {sl : Nat → Int32}         {k : Nat} {i v : Int32} (h0 : ct 200 = some (.inr (11, [.int ft, .int tr, .int (nI N), .int b, .ref (ad 201), .long g, .int cm, .int da, .int (nI nt), .ref (ad 202), .ref (ad 203), .ref (ad 204), .ref (ad 205), .ref (ad 206), .ref (ad 207), .ref (ad 208), .ref (ad 209), .int (nI no), .ref (ad 210), .ref (ad 211), .ref (ad 212), .ref (ad 213), .ref (ad 214), .int bs, .int (nI nf), .ref (ad 215), .ref (ad 216)]))) (h207 : ct 207 = some (eI tc 4 la)) (h208 : ct 208 = some (eI tc 4 sl)) (hk4 : k < 4) (ha1 : ¬ (la k = (-9))) (hix : ¬ (0 ≤ i.toInt64 ∧ i.toInt64 ≤ (sl k).toInt64 - 1)) : Met l yX11_put wsX11_put ({ frames := 1, cells := 0, slots := 0, locals := 29 }) (va_Pc [.ref (ad 200), .int (nI k), .int i, .int v] (kw_B D tc sz ad ct)) (kw_Q D ad (kw_A ad ct sz) (some (.int ((-10) - 3))) (kw_up ct 200 (.inr (11, [.int 3, .int tr, .int (nI N), .int b, .ref (ad 201), .long g, .int cm, .int da, .int (nI nt), .ref (ad 202), .ref (ad 203), .ref (ad 204), .ref (ad 205), .ref (ad 206), .ref (ad 207), .ref (ad 208), .ref (ad 209), .int (nI no), .ref (ad 210), .ref (ad 211), .ref (ad 212), .ref (ad 213), .ref (ad 214), .int bs, .int (nI nf), .ref (ad 215), .ref (ad 216)]))) 0) 0 0 (kw_A ad ct sz) := by
  refine Met.ofW (cc := cX11_put) (maxL := 4) (ret := (some .int)) (by decide) rfl ?_
  intro pg en s m args below meth cod s₁ B hml hv
  obtain ⟨rfl, hsz, hP0, hK⟩ := hv
  have hx := B.exec
  have hb := B.bytes
  have hr := B.returns
  have hts := atoms_spec (ws := wsX11_put) B.pre
  have hown : s.vm.findClass RX11 = some m.cls := findClass_of_methodNamed B.named
  have hlocks := B.notSynchronized
  subst hsz
  have hw := kw_H.start hP0
  generalize hAe : kw_A ad ct s.heap.size = A at hw ⊢
  have hA : ∀ q, s.heap.size ≤ q → A q := fun q h => by rw [← hAe]; exact Or.inr h
  have hinX11 : ∀ w ∈ wsX110, w ∈ wsX11_put := by decide +kernel
  have hl := lv_entry ([.ref (ad 200), .int (nI k), .int i, .int v]) (n := 4) (Nat.le_of_ble_eq_true rfl)
  rw [lg_entry_eq]
  generalize (lg_sl ([.ref (ad 200), .int (nI k), .int i, .int v]) ++ List.replicate (4 - (lg_sl ([.ref (ad 200), .int (nI k), .int i, .int v])).length) Slot.unset).toArray = ls at hl ⊢
  have hl : lv_has ls 4 [(0, .ref (ad 200)), (1, .int (nI k)), (2, .int i), (3, .int v)] := hl
  have S0 : CallFix pg m cod cX11_put 4 s _ wsX11_put RX11 := ⟨hx, hb, hml, hown, hts⟩
  have hfr : ∀ j, j ≠ 200 → ct j = ct j := fun _ _ => rfl
  have kK : 0 ≤ (nI k).toInt64 ∧ (nI k).toInt64 ≤ 3 := kwl k 3 (by omega) (by omega)
  refine lv_aload_n hx hb dX11_put_0 rfl (lv_at hl 0 rfl) ?_
  refine lv_iconst (v := 0) hx hb dX11_put_1 (by decide) ?_
  refine kg_put (v := .int 0) (ty := .int) (C := RX11) (T := TX11) (N := 27) (fs' := [.int 0, .int tr, .int (nI N), .int b, .ref (ad 201), .long g, .int cm, .int da, .int (nI nt), .ref (ad 202), .ref (ad 203), .ref (ad 204), .ref (ad 205), .ref (ad 206), .ref (ad 207), .ref (ad 208), .ref (ad 209), .int (nI no), .ref (ad 210), .ref (ad 211), .ref (ad 212), .ref (ad 213), .ref (ad 214), .int bs, .int (nI nf), .ref (ad 215), .ref (ad 216)]) hx hb hts hinX11 tyX11 tyX11_ok nmX11 hown hK hw h0 rfl 0 (by decide) (hts (.fieldLink RX11 69 "BetMakerModel" "fault" "I") (by decide +kernel)) (fun _ h9 => h9) rfl (by decide +kernel) rfl rfl (Nat.le_of_ble_eq_true rfl) rfl dX11_put_2 (fun H locs hw => ?_)
  obtain ⟨ct_1, ect_1⟩ : ∃ z, z = kw_up ct 200 (.inr (11, [.int 0, .int tr, .int (nI N), .int b, .ref (ad 201), .long g, .int cm, .int da, .int (nI nt), .ref (ad 202), .ref (ad 203), .ref (ad 204), .ref (ad 205), .ref (ad 206), .ref (ad 207), .ref (ad 208), .ref (ad 209), .int (nI no), .ref (ad 210), .ref (ad 211), .ref (ad 212), .ref (ad 213), .ref (ad 214), .int bs, .int (nI nf), .ref (ad 215), .ref (ad 216)])) := ⟨_, rfl⟩
  rw [← ect_1] at hw
  have h_2 : ct_1 207 = some (eI tc 4 la) := by rw [ect_1, kw_up_n (by decide)]; exact h207
  have h_3 : ct_1 208 = some (eI tc 4 sl) := by rw [ect_1, kw_up_n (by decide)]; exact h208
  have h_4 : ct_1 200 = some (.inr (11, [.int 0, .int tr, .int (nI N), .int b, .ref (ad 201), .long g, .int cm, .int da, .int (nI nt), .ref (ad 202), .ref (ad 203), .ref (ad 204), .ref (ad 205), .ref (ad 206), .ref (ad 207), .ref (ad 208), .ref (ad 209), .int (nI no), .ref (ad 210), .ref (ad 211), .ref (ad 212), .ref (ad 213), .ref (ad 214), .int bs, .int (nI nf), .ref (ad 215), .ref (ad 216)])) := by rw [ect_1]; exact kw_up_s
  have hfr_5 : ∀ j, j ≠ 200 → ct_1 j = ct j := fun j a0 => by rw [ect_1]; exact (kw_up_n a0).trans (hfr j a0)
  refine lv_iload_n hx hb dX11_put_5 rfl (lv_at hl 1 rfl) ?_
  refine lv_i2l (v := (nI k).toInt64) hx hb dX11_put_6 rfl ?_
  refine lv_lconst (v := 0) hx hb dX11_put_7 (by decide) ?_
  refine lv_ldc2 (v := 3) hx hb hown (hts (.constantLong RX11 165 (3)) (by decide +kernel)) dX11_put_8 ?_
  refine kc_s (As := [.long ((nI k).toInt64), .long 0, .long 3]) (rest := []) S0 (c_X11_within l D tc s.heap.size ad ct_1 ) (va_cwS 3 hts gX11_put_X11_within rfl rfl rfl (by decide +kernel) ⟨Nat.le_of_ble_eq_true rfl, Nat.le_of_ble_eq_true rfl⟩) hK hw rfl hl.1 rfl (Nat.le_of_ble_eq_true rfl) dX11_put_11 ⟨Nat.le_of_ble_eq_true rfl, (Nat.le_of_ble_eq_true rfl)⟩ ?_
  refine kb_ifne (tgt := 19) hx hb dX11_put_14 (by decide) (fun c_6 => ?_) (fun c_6 => ?_)
  · refine lv_aload_n hx hb dX11_put_19 rfl (lv_at hl 0 rfl) ?_
    refine kg_get (v := .ref (ad 207)) (C := RX11) (T := TX11) (N := 27) hx hb hts hinX11 hown hK hw h_4 rfl 14 (by decide) (hts (.fieldLink RX11 39 "BetMakerModel" "lanes" "[I") (by decide +kernel)) (fun _ h9 => h9) rfl dX11_put_20 ?_
    refine lv_iload_n hx hb dX11_put_23 rfl (lv_at hl 1 rfl) ?_
    refine kg_iald hx hb hK hw h_2 k rfl (by omega) (by omega) dX11_put_24 ?_
    refine lv_bipush (v := (-9)) hx hb dX11_put_25 (by decide) ?_
    refine lv_icmp_ne (tgt := 36) hx hb dX11_put_27 (by decide) (fun c_7 => ?_) (fun c_7 => ?_)
    · refine lv_iload_n hx hb dX11_put_36 rfl (lv_at hl 2 rfl) ?_
      refine lv_i2l (v := i.toInt64) hx hb dX11_put_37 rfl ?_
      refine lv_lconst (v := 0) hx hb dX11_put_38 (by decide) ?_
      refine lv_aload_n hx hb dX11_put_39 rfl (lv_at hl 0 rfl) ?_
      refine kg_get (v := .ref (ad 208)) (C := RX11) (T := TX11) (N := 27) hx hb hts hinX11 hown hK hw h_4 rfl 15 (by decide) (hts (.fieldLink RX11 42 "BetMakerModel" "sheetLong" "[I") (by decide +kernel)) (fun _ h9 => h9) rfl dX11_put_40 ?_
      refine lv_iload_n hx hb dX11_put_43 rfl (lv_at hl 1 rfl) ?_
      refine kg_iald hx hb hK hw h_3 k rfl (by omega) (by omega) dX11_put_44 ?_
      refine lv_i2l (v := (sl k).toInt64) hx hb dX11_put_45 rfl ?_
      refine lv_lconst (v := 1) hx hb dX11_put_46 (by decide) ?_
      refine lv_lsub hx hb dX11_put_47 ?_
      refine kc_s (As := [.long i.toInt64, .long 0, .long (((sl k).toInt64) - 1)]) (rest := []) S0 (c_X11_within l D tc s.heap.size ad ct_1 ) (va_cwS 3 hts gX11_put_X11_within rfl rfl rfl (by decide +kernel) ⟨Nat.le_of_ble_eq_true rfl, Nat.le_of_ble_eq_true rfl⟩) hK hw rfl hl.1 rfl (Nat.le_of_ble_eq_true rfl) dX11_put_48 ⟨Nat.le_of_ble_eq_true rfl, (Nat.le_of_ble_eq_true rfl)⟩ ?_
      refine kb_ifne (tgt := 60) hx hb dX11_put_51 (by decide) (fun c_8 => ?_) (fun c_8 => ?_)
      · exact absurd c_8 hix
      · refine lv_aload_n hx hb dX11_put_54 rfl (lv_at hl 0 rfl) ?_
        refine lv_iconst (v := 3) hx hb dX11_put_55 (by decide) ?_
        refine kc_vu (As := [.int 3]) (rest := []) S0 (c_X11_fails l D tc s.heap.size ad ct_1 (N := N) (nt := nt) (no := no) (nf := nf) h_4) (cwV 1 hts gX11_put_X11_fails rfl rfl rfl (by decide +kernel) ⟨Nat.le_of_ble_eq_true rfl, Nat.le_of_ble_eq_true rfl⟩) hK hw hA h_4 rfl rfl hl.1 rfl (Nat.le_of_ble_eq_true rfl) dX11_put_56 ⟨Nat.le_of_ble_eq_true rfl, (Nat.le_of_ble_eq_true rfl)⟩ (fun H locs hw => ?_)
        obtain ⟨ct_9, ect_9⟩ : ∃ z, z = kw_up ct_1 200 (.inr (11, [.int 3, .int tr, .int (nI N), .int b, .ref (ad 201), .long g, .int cm, .int da, .int (nI nt), .ref (ad 202), .ref (ad 203), .ref (ad 204), .ref (ad 205), .ref (ad 206), .ref (ad 207), .ref (ad 208), .ref (ad 209), .int (nI no), .ref (ad 210), .ref (ad 211), .ref (ad 212), .ref (ad 213), .ref (ad 214), .int bs, .int (nI nf), .ref (ad 215), .ref (ad 216)])) := ⟨_, rfl⟩
        rw [← ect_9] at hw
        have h_10 : ct_9 207 = some (eI tc 4 la) := by rw [ect_9, kw_up_n (by decide)]; exact h_2
        have h_11 : ct_9 208 = some (eI tc 4 sl) := by rw [ect_9, kw_up_n (by decide)]; exact h_3
        have h_12 : ct_9 200 = some (.inr (11, [.int 3, .int tr, .int (nI N), .int b, .ref (ad 201), .long g, .int cm, .int da, .int (nI nt), .ref (ad 202), .ref (ad 203), .ref (ad 204), .ref (ad 205), .ref (ad 206), .ref (ad 207), .ref (ad 208), .ref (ad 209), .int (nI no), .ref (ad 210), .ref (ad 211), .ref (ad 212), .ref (ad 213), .ref (ad 214), .int bs, .int (nI nf), .ref (ad 215), .ref (ad 216)])) := by rw [ect_9]; exact kw_up_s
        have hfr_13 : ∀ j, j ≠ 200 → ct_9 j = ct j := fun j a0 => by rw [ect_9]; exact (kw_up_n a0).trans (hfr_5 j a0)
        have hq_14 := h_12
        have hend := kw_eq1 hq_14 hfr_13
        rw [hend] at hw
        exact W.iret hx hb hr (fun t ht _ => ⟨rfl, by rw [ht]; exact hw.1, hw.2.2.1, hw.2.1.F ht, by rw [ht]; exact hw.2.2.2⟩) hw.2.1.2.2 dX11_put_59
    · exact absurd c_7 ha1
  · exact absurd kK c_6
set_option maxHeartbeats 4000000 in
set_option maxRecDepth 100000 in
theorem c_X11_put (l : Launch) (D : va_G) (tc : Nat → ClassId) (sz : Nat) (ad : Nat → Nat) (ct : Nat → Option va_E) {N nt no nf : Nat} {ft tr b cm da bs : Int32} {g : Int64}       {la : Nat → Int32} {sl : Nat → Int32} {ce : Nat → Int32}        {k i n : Nat} {v : Int32} (h0 : ct 200 = some (.inr (11, [.int ft, .int tr, .int (nI N), .int b, .ref (ad 201), .long g, .int cm, .int da, .int (nI nt), .ref (ad 202), .ref (ad 203), .ref (ad 204), .ref (ad 205), .ref (ad 206), .ref (ad 207), .ref (ad 208), .ref (ad 209), .int (nI no), .ref (ad 210), .ref (ad 211), .ref (ad 212), .ref (ad 213), .ref (ad 214), .int bs, .int (nI nf), .ref (ad 215), .ref (ad 216)]))) (h207 : ct 207 = some (eI tc 4 la)) (h208 : ct 208 = some (eI tc 4 sl)) (h209 : ct 209 = some (eI tc 96 ce)) (hk4 : k < 4) (ha1 : ¬ (la k = (-9))) (hi : i < n) (hn24 : n ≤ 24) (hsl : sl k = nI n) : Met l yX11_put wsX11_put ({ frames := 1, cells := 0, slots := 0, locals := 29 }) (va_Pc [.ref (ad 200), .int (nI k), .int (nI i), .int v] (kw_B D tc sz ad ct)) (kw_Q D ad (kw_A ad ct sz) (some (.int 1)) (kw_up (kw_up ct 200 (.inr (11, [.int 0, .int tr, .int (nI N), .int b, .ref (ad 201), .long g, .int cm, .int da, .int (nI nt), .ref (ad 202), .ref (ad 203), .ref (ad 204), .ref (ad 205), .ref (ad 206), .ref (ad 207), .ref (ad 208), .ref (ad 209), .int (nI no), .ref (ad 210), .ref (ad 211), .ref (ad 212), .ref (ad 213), .ref (ad 214), .int bs, .int (nI nf), .ref (ad 215), .ref (ad 216)]))) 209 (eI tc 96 (va_up ce (24 * k + i) (kCut (la k) v)))) 0) 0 0 (kw_A ad ct sz) := by
  refine Met.ofW (cc := cX11_put) (maxL := 4) (ret := (some .int)) (by decide) rfl ?_
  intro pg en s m args below meth cod s₁ B hml hv
  obtain ⟨rfl, hsz, hP0, hK⟩ := hv
  have hx := B.exec
  have hb := B.bytes
  have hr := B.returns
  have hts := atoms_spec (ws := wsX11_put) B.pre
  have hown : s.vm.findClass RX11 = some m.cls := findClass_of_methodNamed B.named
  have hlocks := B.notSynchronized
  subst hsz
  have hw := kw_H.start hP0
  generalize hAe : kw_A ad ct s.heap.size = A at hw ⊢
  have hA : ∀ q, s.heap.size ≤ q → A q := fun q h => by rw [← hAe]; exact Or.inr h
  have hinX11 : ∀ w ∈ wsX110, w ∈ wsX11_put := by decide +kernel
  have hl := lv_entry ([.ref (ad 200), .int (nI k), .int (nI i), .int v]) (n := 4) (Nat.le_of_ble_eq_true rfl)
  rw [lg_entry_eq]
  generalize (lg_sl ([.ref (ad 200), .int (nI k), .int (nI i), .int v]) ++ List.replicate (4 - (lg_sl ([.ref (ad 200), .int (nI k), .int (nI i), .int v])).length) Slot.unset).toArray = ls at hl ⊢
  have hl : lv_has ls 4 [(0, .ref (ad 200)), (1, .int (nI k)), (2, .int (nI i)), (3, .int v)] := hl
  have S0 : CallFix pg m cod cX11_put 4 s _ wsX11_put RX11 := ⟨hx, hb, hml, hown, hts⟩
  have hfr : ∀ j, j ≠ 200 → j ≠ 209 → ct j = ct j := fun _ _ _ => rfl
  have kK : 0 ≤ (nI k).toInt64 ∧ (nI k).toInt64 ≤ 3 := kwl k 3 (by omega) (by omega)
  have kI : 0 ≤ (nI i).toInt64 ∧ (nI i).toInt64 ≤ (sl k).toInt64 - 1 := by rw [hsl]; exact kput hi (by omega)
  refine lv_aload_n hx hb dX11_put_0 rfl (lv_at hl 0 rfl) ?_
  refine lv_iconst (v := 0) hx hb dX11_put_1 (by decide) ?_
  refine kg_put (v := .int 0) (ty := .int) (C := RX11) (T := TX11) (N := 27) (fs' := [.int 0, .int tr, .int (nI N), .int b, .ref (ad 201), .long g, .int cm, .int da, .int (nI nt), .ref (ad 202), .ref (ad 203), .ref (ad 204), .ref (ad 205), .ref (ad 206), .ref (ad 207), .ref (ad 208), .ref (ad 209), .int (nI no), .ref (ad 210), .ref (ad 211), .ref (ad 212), .ref (ad 213), .ref (ad 214), .int bs, .int (nI nf), .ref (ad 215), .ref (ad 216)]) hx hb hts hinX11 tyX11 tyX11_ok nmX11 hown hK hw h0 rfl 0 (by decide) (hts (.fieldLink RX11 69 "BetMakerModel" "fault" "I") (by decide +kernel)) (fun _ h9 => h9) rfl (by decide +kernel) rfl rfl (Nat.le_of_ble_eq_true rfl) rfl dX11_put_2 (fun H locs hw => ?_)
  obtain ⟨ct_1, ect_1⟩ : ∃ z, z = kw_up ct 200 (.inr (11, [.int 0, .int tr, .int (nI N), .int b, .ref (ad 201), .long g, .int cm, .int da, .int (nI nt), .ref (ad 202), .ref (ad 203), .ref (ad 204), .ref (ad 205), .ref (ad 206), .ref (ad 207), .ref (ad 208), .ref (ad 209), .int (nI no), .ref (ad 210), .ref (ad 211), .ref (ad 212), .ref (ad 213), .ref (ad 214), .int bs, .int (nI nf), .ref (ad 215), .ref (ad 216)])) := ⟨_, rfl⟩
  rw [← ect_1] at hw
  have h_2 : ct_1 207 = some (eI tc 4 la) := by rw [ect_1, kw_up_n (by decide)]; exact h207
  have h_3 : ct_1 208 = some (eI tc 4 sl) := by rw [ect_1, kw_up_n (by decide)]; exact h208
  have h_4 : ct_1 209 = some (eI tc 96 ce) := by rw [ect_1, kw_up_n (by decide)]; exact h209
  have h_5 : ct_1 200 = some (.inr (11, [.int 0, .int tr, .int (nI N), .int b, .ref (ad 201), .long g, .int cm, .int da, .int (nI nt), .ref (ad 202), .ref (ad 203), .ref (ad 204), .ref (ad 205), .ref (ad 206), .ref (ad 207), .ref (ad 208), .ref (ad 209), .int (nI no), .ref (ad 210), .ref (ad 211), .ref (ad 212), .ref (ad 213), .ref (ad 214), .int bs, .int (nI nf), .ref (ad 215), .ref (ad 216)])) := by rw [ect_1]; exact kw_up_s
  have hfr_6 : ∀ j, j ≠ 200 → j ≠ 209 → ct_1 j = ct j := fun j a0 a1 => by rw [ect_1]; exact (kw_up_n a0).trans (hfr j a0 a1)
  refine lv_iload_n hx hb dX11_put_5 rfl (lv_at hl 1 rfl) ?_
  refine lv_i2l (v := (nI k).toInt64) hx hb dX11_put_6 rfl ?_
  refine lv_lconst (v := 0) hx hb dX11_put_7 (by decide) ?_
  refine lv_ldc2 (v := 3) hx hb hown (hts (.constantLong RX11 165 (3)) (by decide +kernel)) dX11_put_8 ?_
  refine kc_s (As := [.long ((nI k).toInt64), .long 0, .long 3]) (rest := []) S0 (c_X11_within l D tc s.heap.size ad ct_1 ) (va_cwS 3 hts gX11_put_X11_within rfl rfl rfl (by decide +kernel) ⟨Nat.le_of_ble_eq_true rfl, Nat.le_of_ble_eq_true rfl⟩) hK hw rfl hl.1 rfl (Nat.le_of_ble_eq_true rfl) dX11_put_11 ⟨Nat.le_of_ble_eq_true rfl, (Nat.le_of_ble_eq_true rfl)⟩ ?_
  refine kb_ifne (tgt := 19) hx hb dX11_put_14 (by decide) (fun c_7 => ?_) (fun c_7 => ?_)
  · refine lv_aload_n hx hb dX11_put_19 rfl (lv_at hl 0 rfl) ?_
    refine kg_get (v := .ref (ad 207)) (C := RX11) (T := TX11) (N := 27) hx hb hts hinX11 hown hK hw h_5 rfl 14 (by decide) (hts (.fieldLink RX11 39 "BetMakerModel" "lanes" "[I") (by decide +kernel)) (fun _ h9 => h9) rfl dX11_put_20 ?_
    refine lv_iload_n hx hb dX11_put_23 rfl (lv_at hl 1 rfl) ?_
    refine kg_iald hx hb hK hw h_2 k rfl (by omega) (by omega) dX11_put_24 ?_
    refine lv_bipush (v := (-9)) hx hb dX11_put_25 (by decide) ?_
    refine lv_icmp_ne (tgt := 36) hx hb dX11_put_27 (by decide) (fun c_8 => ?_) (fun c_8 => ?_)
    · refine lv_iload_n hx hb dX11_put_36 rfl (lv_at hl 2 rfl) ?_
      refine lv_i2l (v := (nI i).toInt64) hx hb dX11_put_37 rfl ?_
      refine lv_lconst (v := 0) hx hb dX11_put_38 (by decide) ?_
      refine lv_aload_n hx hb dX11_put_39 rfl (lv_at hl 0 rfl) ?_
      refine kg_get (v := .ref (ad 208)) (C := RX11) (T := TX11) (N := 27) hx hb hts hinX11 hown hK hw h_5 rfl 15 (by decide) (hts (.fieldLink RX11 42 "BetMakerModel" "sheetLong" "[I") (by decide +kernel)) (fun _ h9 => h9) rfl dX11_put_40 ?_
      refine lv_iload_n hx hb dX11_put_43 rfl (lv_at hl 1 rfl) ?_
      refine kg_iald hx hb hK hw h_3 k rfl (by omega) (by omega) dX11_put_44 ?_
      refine lv_i2l (v := (sl k).toInt64) hx hb dX11_put_45 rfl ?_
      refine lv_lconst (v := 1) hx hb dX11_put_46 (by decide) ?_
      refine lv_lsub hx hb dX11_put_47 ?_
      refine kc_s (As := [.long ((nI i).toInt64), .long 0, .long (((sl k).toInt64) - 1)]) (rest := []) S0 (c_X11_within l D tc s.heap.size ad ct_1 ) (va_cwS 3 hts gX11_put_X11_within rfl rfl rfl (by decide +kernel) ⟨Nat.le_of_ble_eq_true rfl, Nat.le_of_ble_eq_true rfl⟩) hK hw rfl hl.1 rfl (Nat.le_of_ble_eq_true rfl) dX11_put_48 ⟨Nat.le_of_ble_eq_true rfl, (Nat.le_of_ble_eq_true rfl)⟩ ?_
      refine kb_ifne (tgt := 60) hx hb dX11_put_51 (by decide) (fun c_9 => ?_) (fun c_9 => ?_)
      · refine lv_aload_n hx hb dX11_put_60 rfl (lv_at hl 0 rfl) ?_
        refine kg_get (v := .ref (ad 209)) (C := RX11) (T := TX11) (N := 27) hx hb hts hinX11 hown hK hw h_5 rfl 16 (by decide) (hts (.fieldLink RX11 45 "BetMakerModel" "cells" "[I") (by decide +kernel)) (fun _ h9 => h9) rfl dX11_put_61 ?_
        refine lv_bipush (v := 24) hx hb dX11_put_64 (by decide) ?_
        refine lv_iload_n hx hb dX11_put_66 rfl (lv_at hl 1 rfl) ?_
        refine lv_imul hx hb dX11_put_67 ?_
        refine lv_iload_n hx hb dX11_put_68 rfl (lv_at hl 2 rfl) ?_
        refine lv_iadd hx hb dX11_put_69 ?_
        refine lv_aload_n hx hb dX11_put_70 rfl (lv_at hl 0 rfl) ?_
        refine kg_get (v := .ref (ad 207)) (C := RX11) (T := TX11) (N := 27) hx hb hts hinX11 hown hK hw h_5 rfl 14 (by decide) (hts (.fieldLink RX11 39 "BetMakerModel" "lanes" "[I") (by decide +kernel)) (fun _ h9 => h9) rfl dX11_put_71 ?_
        refine lv_iload_n hx hb dX11_put_74 rfl (lv_at hl 1 rfl) ?_
        refine kg_iald hx hb hK hw h_2 k rfl (by omega) (by omega) dX11_put_75 ?_
        refine lv_if_ne (tgt := 84) hx hb dX11_put_76 (by decide) (fun c_10 => ?_) (fun c_10 => ?_)
        · refine lv_aload_n hx hb dX11_put_84 rfl (lv_at hl 0 rfl) ?_
          refine kg_get (v := .ref (ad 207)) (C := RX11) (T := TX11) (N := 27) hx hb hts hinX11 hown hK hw h_5 rfl 14 (by decide) (hts (.fieldLink RX11 39 "BetMakerModel" "lanes" "[I") (by decide +kernel)) (fun _ h9 => h9) rfl dX11_put_85 ?_
          refine lv_iload_n hx hb dX11_put_88 rfl (lv_at hl 1 rfl) ?_
          refine kg_iald hx hb hK hw h_2 k rfl (by omega) (by omega) dX11_put_89 ?_
          refine lv_iconst (v := 1) hx hb dX11_put_90 (by decide) ?_
          refine lv_icmp_ne (tgt := 99) hx hb dX11_put_91 (by decide) (fun c_11 => ?_) (fun c_11 => ?_)
          · refine lv_iload_n hx hb dX11_put_99 rfl (lv_at hl 3 rfl) ?_
            refine kg_iast hx hb hK hw h_4 ((24 * k) + i) (by simp only [kn_lit, nI_add, pk_mul, nI_1]) (by omega) (by omega) dX11_put_100 (fun H locs hw => ?_)
            obtain ⟨ct_12, ect_12⟩ : ∃ z, z = kw_up ct_1 209 (eI tc 96 (va_up ce ((24 * k) + i) v)) := ⟨_, rfl⟩
            rw [← ect_12] at hw
            have h_13 : ct_12 207 = some (eI tc 4 la) := by rw [ect_12, kw_up_n (by decide)]; exact h_2
            have h_14 : ct_12 208 = some (eI tc 4 sl) := by rw [ect_12, kw_up_n (by decide)]; exact h_3
            have h_15 : ct_12 200 = some (.inr (11, [.int 0, .int tr, .int (nI N), .int b, .ref (ad 201), .long g, .int cm, .int da, .int (nI nt), .ref (ad 202), .ref (ad 203), .ref (ad 204), .ref (ad 205), .ref (ad 206), .ref (ad 207), .ref (ad 208), .ref (ad 209), .int (nI no), .ref (ad 210), .ref (ad 211), .ref (ad 212), .ref (ad 213), .ref (ad 214), .int bs, .int (nI nf), .ref (ad 215), .ref (ad 216)])) := by rw [ect_12, kw_up_n (by decide)]; exact h_5
            have h_16 : ct_12 209 = some (eI tc 96 (va_up ce ((24 * k) + i) v)) := by rw [ect_12]; exact kw_up_s
            have hfr_17 : ∀ j, j ≠ 200 → j ≠ 209 → ct_12 j = ct j := fun j a0 a1 => by rw [ect_12]; exact (kw_up_n a1).trans (hfr_6 j a0 a1)
            refine lv_iconst (v := 1) hx hb dX11_put_101 (by decide) ?_
            have hq_18 := h_15
            have hq_19 : ct_12 209 = some (eI tc 96 (va_up ce (24 * k + i) (kCut (la k) v))) := h_16.trans (congrArg some (show (eI tc 96 (va_up ce ((24 * k) + i) v) : va_E) = eI tc 96 (va_up ce (24 * k + i) (kCut (la k) v)) from by rw [kCut, if_neg c_10, if_neg c_11]))
            have hend := kw_eq2 hq_18 hq_19 hfr_17
            rw [hend] at hw
            exact W.iret hx hb hr (fun t ht _ => ⟨rfl, by rw [ht]; exact hw.1, hw.2.2.1, hw.2.1.F ht, by rw [ht]; exact hw.2.2.2⟩) hw.2.1.2.2 dX11_put_102
          · refine lv_iload_n hx hb dX11_put_94 rfl (lv_at hl 3 rfl) ?_
            refine lv_i2s (v := v.toInt16.toInt32) hx hb dX11_put_95 rfl ?_
            refine lv_goto (tgt := 100) hx hb dX11_put_96 (by decide) ?_
            refine kg_iast hx hb hK hw h_4 ((24 * k) + i) (by simp only [kn_lit, nI_add, pk_mul, nI_1]) (by omega) (by omega) dX11_put_100 (fun H locs hw => ?_)
            obtain ⟨ct_20, ect_20⟩ : ∃ z, z = kw_up ct_1 209 (eI tc 96 (va_up ce ((24 * k) + i) v.toInt16.toInt32)) := ⟨_, rfl⟩
            rw [← ect_20] at hw
            have h_21 : ct_20 207 = some (eI tc 4 la) := by rw [ect_20, kw_up_n (by decide)]; exact h_2
            have h_22 : ct_20 208 = some (eI tc 4 sl) := by rw [ect_20, kw_up_n (by decide)]; exact h_3
            have h_23 : ct_20 200 = some (.inr (11, [.int 0, .int tr, .int (nI N), .int b, .ref (ad 201), .long g, .int cm, .int da, .int (nI nt), .ref (ad 202), .ref (ad 203), .ref (ad 204), .ref (ad 205), .ref (ad 206), .ref (ad 207), .ref (ad 208), .ref (ad 209), .int (nI no), .ref (ad 210), .ref (ad 211), .ref (ad 212), .ref (ad 213), .ref (ad 214), .int bs, .int (nI nf), .ref (ad 215), .ref (ad 216)])) := by rw [ect_20, kw_up_n (by decide)]; exact h_5
            have h_24 : ct_20 209 = some (eI tc 96 (va_up ce ((24 * k) + i) v.toInt16.toInt32)) := by rw [ect_20]; exact kw_up_s
            have hfr_25 : ∀ j, j ≠ 200 → j ≠ 209 → ct_20 j = ct j := fun j a0 a1 => by rw [ect_20]; exact (kw_up_n a1).trans (hfr_6 j a0 a1)
            refine lv_iconst (v := 1) hx hb dX11_put_101 (by decide) ?_
            have hq_26 := h_23
            have hq_27 : ct_20 209 = some (eI tc 96 (va_up ce (24 * k + i) (kCut (la k) v))) := h_24.trans (congrArg some (show (eI tc 96 (va_up ce ((24 * k) + i) v.toInt16.toInt32) : va_E) = eI tc 96 (va_up ce (24 * k + i) (kCut (la k) v)) from by rw [kCut, if_neg c_10, if_pos c_11]))
            have hend := kw_eq2 hq_26 hq_27 hfr_25
            rw [hend] at hw
            exact W.iret hx hb hr (fun t ht _ => ⟨rfl, by rw [ht]; exact hw.1, hw.2.2.1, hw.2.1.F ht, by rw [ht]; exact hw.2.2.2⟩) hw.2.1.2.2 dX11_put_102
        · refine lv_iload_n hx hb dX11_put_79 rfl (lv_at hl 3 rfl) ?_
          refine lv_i2b (v := v.toInt8.toInt32) hx hb dX11_put_80 rfl ?_
          refine lv_goto (tgt := 100) hx hb dX11_put_81 (by decide) ?_
          refine kg_iast hx hb hK hw h_4 ((24 * k) + i) (by simp only [kn_lit, nI_add, pk_mul, nI_1]) (by omega) (by omega) dX11_put_100 (fun H locs hw => ?_)
          obtain ⟨ct_28, ect_28⟩ : ∃ z, z = kw_up ct_1 209 (eI tc 96 (va_up ce ((24 * k) + i) v.toInt8.toInt32)) := ⟨_, rfl⟩
          rw [← ect_28] at hw
          have h_29 : ct_28 207 = some (eI tc 4 la) := by rw [ect_28, kw_up_n (by decide)]; exact h_2
          have h_30 : ct_28 208 = some (eI tc 4 sl) := by rw [ect_28, kw_up_n (by decide)]; exact h_3
          have h_31 : ct_28 200 = some (.inr (11, [.int 0, .int tr, .int (nI N), .int b, .ref (ad 201), .long g, .int cm, .int da, .int (nI nt), .ref (ad 202), .ref (ad 203), .ref (ad 204), .ref (ad 205), .ref (ad 206), .ref (ad 207), .ref (ad 208), .ref (ad 209), .int (nI no), .ref (ad 210), .ref (ad 211), .ref (ad 212), .ref (ad 213), .ref (ad 214), .int bs, .int (nI nf), .ref (ad 215), .ref (ad 216)])) := by rw [ect_28, kw_up_n (by decide)]; exact h_5
          have h_32 : ct_28 209 = some (eI tc 96 (va_up ce ((24 * k) + i) v.toInt8.toInt32)) := by rw [ect_28]; exact kw_up_s
          have hfr_33 : ∀ j, j ≠ 200 → j ≠ 209 → ct_28 j = ct j := fun j a0 a1 => by rw [ect_28]; exact (kw_up_n a1).trans (hfr_6 j a0 a1)
          refine lv_iconst (v := 1) hx hb dX11_put_101 (by decide) ?_
          have hq_34 := h_31
          have hq_35 : ct_28 209 = some (eI tc 96 (va_up ce (24 * k + i) (kCut (la k) v))) := h_32.trans (congrArg some (show (eI tc 96 (va_up ce ((24 * k) + i) v.toInt8.toInt32) : va_E) = eI tc 96 (va_up ce (24 * k + i) (kCut (la k) v)) from by rw [kCut, if_pos c_10]))
          have hend := kw_eq2 hq_34 hq_35 hfr_33
          rw [hend] at hw
          exact W.iret hx hb hr (fun t ht _ => ⟨rfl, by rw [ht]; exact hw.1, hw.2.2.1, hw.2.1.F ht, by rw [ht]; exact hw.2.2.2⟩) hw.2.1.2.2 dX11_put_102
      · exact absurd kI c_9
    · exact absurd c_8 ha1
  · exact absurd kK c_7
set_option maxHeartbeats 4000000 in
set_option maxRecDepth 100000 in
theorem c_X11_at_o (l : Launch) (D : va_G) (tc : Nat → ClassId) (sz : Nat) (ad : Nat → Nat) (ct : Nat → Option va_E) {N nt no nf : Nat} {ft tr b cm da bs : Int32} {g : Int64}                 {k i lane : Int32} (h0 : ct 200 = some (.inr (11, [.int ft, .int tr, .int (nI N), .int b, .ref (ad 201), .long g, .int cm, .int da, .int (nI nt), .ref (ad 202), .ref (ad 203), .ref (ad 204), .ref (ad 205), .ref (ad 206), .ref (ad 207), .ref (ad 208), .ref (ad 209), .int (nI no), .ref (ad 210), .ref (ad 211), .ref (ad 212), .ref (ad 213), .ref (ad 214), .int bs, .int (nI nf), .ref (ad 215), .ref (ad 216)]))) (hbad : ¬ ((0 ≤ k.toInt64 ∧ k.toInt64 ≤ 3) ∧ 0 ≤ lane.toInt64 ∧ lane.toInt64 ≤ 2)) : Met l yX11_at wsX11_at ({ frames := 1, cells := 0, slots := 0, locals := 29 }) (va_Pc [.ref (ad 200), .int k, .int i, .int lane] (kw_B D tc sz ad ct)) (kw_Q D ad (kw_A ad ct sz) (some (.long (-9223372036854775808))) (kw_up ct 200 (.inr (11, [.int 0, .int tr, .int (nI N), .int b, .ref (ad 201), .long g, .int cm, .int da, .int (nI nt), .ref (ad 202), .ref (ad 203), .ref (ad 204), .ref (ad 205), .ref (ad 206), .ref (ad 207), .ref (ad 208), .ref (ad 209), .int (nI no), .ref (ad 210), .ref (ad 211), .ref (ad 212), .ref (ad 213), .ref (ad 214), .int bs, .int (nI nf), .ref (ad 215), .ref (ad 216)]))) 0) 0 0 (kw_A ad ct sz) := by
  refine Met.ofW (cc := cX11_at) (maxL := 4) (ret := (some .long)) (by decide) rfl ?_
  intro pg en s m args below meth cod s₁ B hml hv
  obtain ⟨rfl, hsz, hP0, hK⟩ := hv
  have hx := B.exec
  have hb := B.bytes
  have hr := B.returns
  have hts := atoms_spec (ws := wsX11_at) B.pre
  have hown : s.vm.findClass RX11 = some m.cls := findClass_of_methodNamed B.named
  have hlocks := B.notSynchronized
  subst hsz
  have hw := kw_H.start hP0
  generalize hAe : kw_A ad ct s.heap.size = A at hw ⊢
  have hA : ∀ q, s.heap.size ≤ q → A q := fun q h => by rw [← hAe]; exact Or.inr h
  have hinX11 : ∀ w ∈ wsX110, w ∈ wsX11_at := by decide +kernel
  have hl := lv_entry ([.ref (ad 200), .int k, .int i, .int lane]) (n := 4) (Nat.le_of_ble_eq_true rfl)
  rw [lg_entry_eq]
  generalize (lg_sl ([.ref (ad 200), .int k, .int i, .int lane]) ++ List.replicate (4 - (lg_sl ([.ref (ad 200), .int k, .int i, .int lane])).length) Slot.unset).toArray = ls at hl ⊢
  have hl : lv_has ls 4 [(0, .ref (ad 200)), (1, .int k), (2, .int i), (3, .int lane)] := hl
  have S0 : CallFix pg m cod cX11_at 4 s _ wsX11_at RX11 := ⟨hx, hb, hml, hown, hts⟩
  have hfr : ∀ j, j ≠ 200 → ct j = ct j := fun _ _ => rfl
  refine lv_aload_n hx hb dX11_at_0 rfl (lv_at hl 0 rfl) ?_
  refine lv_iconst (v := 0) hx hb dX11_at_1 (by decide) ?_
  refine kg_put (v := .int 0) (ty := .int) (C := RX11) (T := TX11) (N := 27) (fs' := [.int 0, .int tr, .int (nI N), .int b, .ref (ad 201), .long g, .int cm, .int da, .int (nI nt), .ref (ad 202), .ref (ad 203), .ref (ad 204), .ref (ad 205), .ref (ad 206), .ref (ad 207), .ref (ad 208), .ref (ad 209), .int (nI no), .ref (ad 210), .ref (ad 211), .ref (ad 212), .ref (ad 213), .ref (ad 214), .int bs, .int (nI nf), .ref (ad 215), .ref (ad 216)]) hx hb hts hinX11 tyX11 tyX11_ok nmX11 hown hK hw h0 rfl 0 (by decide) (hts (.fieldLink RX11 69 "BetMakerModel" "fault" "I") (by decide +kernel)) (fun _ h9 => h9) rfl (by decide +kernel) rfl rfl (Nat.le_of_ble_eq_true rfl) rfl dX11_at_2 (fun H locs hw => ?_)
  obtain ⟨ct_1, ect_1⟩ : ∃ z, z = kw_up ct 200 (.inr (11, [.int 0, .int tr, .int (nI N), .int b, .ref (ad 201), .long g, .int cm, .int da, .int (nI nt), .ref (ad 202), .ref (ad 203), .ref (ad 204), .ref (ad 205), .ref (ad 206), .ref (ad 207), .ref (ad 208), .ref (ad 209), .int (nI no), .ref (ad 210), .ref (ad 211), .ref (ad 212), .ref (ad 213), .ref (ad 214), .int bs, .int (nI nf), .ref (ad 215), .ref (ad 216)])) := ⟨_, rfl⟩
  rw [← ect_1] at hw
  have h_2 : ct_1 200 = some (.inr (11, [.int 0, .int tr, .int (nI N), .int b, .ref (ad 201), .long g, .int cm, .int da, .int (nI nt), .ref (ad 202), .ref (ad 203), .ref (ad 204), .ref (ad 205), .ref (ad 206), .ref (ad 207), .ref (ad 208), .ref (ad 209), .int (nI no), .ref (ad 210), .ref (ad 211), .ref (ad 212), .ref (ad 213), .ref (ad 214), .int bs, .int (nI nf), .ref (ad 215), .ref (ad 216)])) := by rw [ect_1]; exact kw_up_s
  have hfr_3 : ∀ j, j ≠ 200 → ct_1 j = ct j := fun j a0 => by rw [ect_1]; exact (kw_up_n a0).trans (hfr j a0)
  refine lv_iload_n hx hb dX11_at_5 rfl (lv_at hl 1 rfl) ?_
  refine lv_i2l (v := k.toInt64) hx hb dX11_at_6 rfl ?_
  refine lv_lconst (v := 0) hx hb dX11_at_7 (by decide) ?_
  refine lv_ldc2 (v := 3) hx hb hown (hts (.constantLong RX11 165 (3)) (by decide +kernel)) dX11_at_8 ?_
  refine kc_s (As := [.long k.toInt64, .long 0, .long 3]) (rest := []) S0 (c_X11_within l D tc s.heap.size ad ct_1 ) (va_cwS 3 hts gX11_at_X11_within rfl rfl rfl (by decide +kernel) ⟨Nat.le_of_ble_eq_true rfl, Nat.le_of_ble_eq_true rfl⟩) hK hw rfl hl.1 rfl (Nat.le_of_ble_eq_true rfl) dX11_at_11 ⟨Nat.le_of_ble_eq_true rfl, (Nat.le_of_ble_eq_true rfl)⟩ ?_
  refine kb_ifeq (tgt := 29) hx hb dX11_at_14 (by decide) (fun c_4 => ?_) (fun c_4 => ?_)
  · refine lv_ldc2 (v := (-9223372036854775808)) hx hb hown (hts (.constantLong RX11 72 (-9223372036854775808)) (by decide +kernel)) dX11_at_29 ?_
    have hq_5 := h_2
    have hend := kw_eq1 hq_5 hfr_3
    rw [hend] at hw
    exact W.lret hx hb hr (fun t ht _ => ⟨rfl, by rw [ht]; exact hw.1, hw.2.2.1, hw.2.1.F ht, by rw [ht]; exact hw.2.2.2⟩) hw.2.1.2.2 dX11_at_32
  · refine lv_iload_n hx hb dX11_at_17 rfl (lv_at hl 3 rfl) ?_
    refine lv_i2l (v := lane.toInt64) hx hb dX11_at_18 rfl ?_
    refine lv_lconst (v := 0) hx hb dX11_at_19 (by decide) ?_
    refine lv_ldc2 (v := 2) hx hb hown (hts (.constantLong RX11 76 (2)) (by decide +kernel)) dX11_at_20 ?_
    refine kc_s (As := [.long lane.toInt64, .long 0, .long 2]) (rest := []) S0 (c_X11_within l D tc s.heap.size ad ct_1 ) (va_cwS 3 hts gX11_at_X11_within rfl rfl rfl (by decide +kernel) ⟨Nat.le_of_ble_eq_true rfl, Nat.le_of_ble_eq_true rfl⟩) hK hw rfl hl.1 rfl (Nat.le_of_ble_eq_true rfl) dX11_at_23 ⟨Nat.le_of_ble_eq_true rfl, (Nat.le_of_ble_eq_true rfl)⟩ ?_
    refine kb_ifne (tgt := 33) hx hb dX11_at_26 (by decide) (fun c_6 => ?_) (fun c_6 => ?_)
    · exact absurd ⟨c_4, c_6⟩ hbad
    · refine lv_ldc2 (v := (-9223372036854775808)) hx hb hown (hts (.constantLong RX11 72 (-9223372036854775808)) (by decide +kernel)) dX11_at_29 ?_
      have hq_7 := h_2
      have hend := kw_eq1 hq_7 hfr_3
      rw [hend] at hw
      exact W.lret hx hb hr (fun t ht _ => ⟨rfl, by rw [ht]; exact hw.1, hw.2.2.1, hw.2.1.F ht, by rw [ht]; exact hw.2.2.2⟩) hw.2.1.2.2 dX11_at_32
set_option maxHeartbeats 4000000 in
set_option maxRecDepth 100000 in
theorem c_X11_at_c (l : Launch) (D : va_G) (tc : Nat → ClassId) (sz : Nat) (ad : Nat → Nat) (ct : Nat → Option va_E) {N nt no nf : Nat} {ft tr b cm da bs : Int32} {g : Int64}       {la : Nat → Int32}          {k : Nat} {i lane : Int32} (h0 : ct 200 = some (.inr (11, [.int ft, .int tr, .int (nI N), .int b, .ref (ad 201), .long g, .int cm, .int da, .int (nI nt), .ref (ad 202), .ref (ad 203), .ref (ad 204), .ref (ad 205), .ref (ad 206), .ref (ad 207), .ref (ad 208), .ref (ad 209), .int (nI no), .ref (ad 210), .ref (ad 211), .ref (ad 212), .ref (ad 213), .ref (ad 214), .int bs, .int (nI nf), .ref (ad 215), .ref (ad 216)]))) (h207 : ct 207 = some (eI tc 4 la)) (hk4 : k < 4) (hL : 0 ≤ lane.toInt64 ∧ lane.toInt64 ≤ 2) (ha1 : ¬ (la k = (-9))) (ha2 : ¬ (la k = lane)) : Met l yX11_at wsX11_at ({ frames := 1, cells := 0, slots := 0, locals := 29 }) (va_Pc [.ref (ad 200), .int (nI k), .int i, .int lane] (kw_B D tc sz ad ct)) (kw_Q D ad (kw_A ad ct sz) (some (.long (-9223372036854775808))) (kw_up ct 200 (.inr (11, [.int 2, .int tr, .int (nI N), .int b, .ref (ad 201), .long g, .int cm, .int da, .int (nI nt), .ref (ad 202), .ref (ad 203), .ref (ad 204), .ref (ad 205), .ref (ad 206), .ref (ad 207), .ref (ad 208), .ref (ad 209), .int (nI no), .ref (ad 210), .ref (ad 211), .ref (ad 212), .ref (ad 213), .ref (ad 214), .int bs, .int (nI nf), .ref (ad 215), .ref (ad 216)]))) 0) 0 0 (kw_A ad ct sz) := by
  refine Met.ofW (cc := cX11_at) (maxL := 4) (ret := (some .long)) (by decide) rfl ?_
  intro pg en s m args below meth cod s₁ B hml hv
  obtain ⟨rfl, hsz, hP0, hK⟩ := hv
  have hx := B.exec
  have hb := B.bytes
  have hr := B.returns
  have hts := atoms_spec (ws := wsX11_at) B.pre
  have hown : s.vm.findClass RX11 = some m.cls := findClass_of_methodNamed B.named
  have hlocks := B.notSynchronized
  subst hsz
  have hw := kw_H.start hP0
  generalize hAe : kw_A ad ct s.heap.size = A at hw ⊢
  have hA : ∀ q, s.heap.size ≤ q → A q := fun q h => by rw [← hAe]; exact Or.inr h
  have hinX11 : ∀ w ∈ wsX110, w ∈ wsX11_at := by decide +kernel
  have hl := lv_entry ([.ref (ad 200), .int (nI k), .int i, .int lane]) (n := 4) (Nat.le_of_ble_eq_true rfl)
  rw [lg_entry_eq]
  generalize (lg_sl ([.ref (ad 200), .int (nI k), .int i, .int lane]) ++ List.replicate (4 - (lg_sl ([.ref (ad 200), .int (nI k), .int i, .int lane])).length) Slot.unset).toArray = ls at hl ⊢
  have hl : lv_has ls 4 [(0, .ref (ad 200)), (1, .int (nI k)), (2, .int i), (3, .int lane)] := hl
  have S0 : CallFix pg m cod cX11_at 4 s _ wsX11_at RX11 := ⟨hx, hb, hml, hown, hts⟩
  have hfr : ∀ j, j ≠ 200 → ct j = ct j := fun _ _ => rfl
  have kK : 0 ≤ (nI k).toInt64 ∧ (nI k).toInt64 ≤ 3 := kwl k 3 (by omega) (by omega)
  refine lv_aload_n hx hb dX11_at_0 rfl (lv_at hl 0 rfl) ?_
  refine lv_iconst (v := 0) hx hb dX11_at_1 (by decide) ?_
  refine kg_put (v := .int 0) (ty := .int) (C := RX11) (T := TX11) (N := 27) (fs' := [.int 0, .int tr, .int (nI N), .int b, .ref (ad 201), .long g, .int cm, .int da, .int (nI nt), .ref (ad 202), .ref (ad 203), .ref (ad 204), .ref (ad 205), .ref (ad 206), .ref (ad 207), .ref (ad 208), .ref (ad 209), .int (nI no), .ref (ad 210), .ref (ad 211), .ref (ad 212), .ref (ad 213), .ref (ad 214), .int bs, .int (nI nf), .ref (ad 215), .ref (ad 216)]) hx hb hts hinX11 tyX11 tyX11_ok nmX11 hown hK hw h0 rfl 0 (by decide) (hts (.fieldLink RX11 69 "BetMakerModel" "fault" "I") (by decide +kernel)) (fun _ h9 => h9) rfl (by decide +kernel) rfl rfl (Nat.le_of_ble_eq_true rfl) rfl dX11_at_2 (fun H locs hw => ?_)
  obtain ⟨ct_1, ect_1⟩ : ∃ z, z = kw_up ct 200 (.inr (11, [.int 0, .int tr, .int (nI N), .int b, .ref (ad 201), .long g, .int cm, .int da, .int (nI nt), .ref (ad 202), .ref (ad 203), .ref (ad 204), .ref (ad 205), .ref (ad 206), .ref (ad 207), .ref (ad 208), .ref (ad 209), .int (nI no), .ref (ad 210), .ref (ad 211), .ref (ad 212), .ref (ad 213), .ref (ad 214), .int bs, .int (nI nf), .ref (ad 215), .ref (ad 216)])) := ⟨_, rfl⟩
  rw [← ect_1] at hw
  have h_2 : ct_1 207 = some (eI tc 4 la) := by rw [ect_1, kw_up_n (by decide)]; exact h207
  have h_3 : ct_1 200 = some (.inr (11, [.int 0, .int tr, .int (nI N), .int b, .ref (ad 201), .long g, .int cm, .int da, .int (nI nt), .ref (ad 202), .ref (ad 203), .ref (ad 204), .ref (ad 205), .ref (ad 206), .ref (ad 207), .ref (ad 208), .ref (ad 209), .int (nI no), .ref (ad 210), .ref (ad 211), .ref (ad 212), .ref (ad 213), .ref (ad 214), .int bs, .int (nI nf), .ref (ad 215), .ref (ad 216)])) := by rw [ect_1]; exact kw_up_s
  have hfr_4 : ∀ j, j ≠ 200 → ct_1 j = ct j := fun j a0 => by rw [ect_1]; exact (kw_up_n a0).trans (hfr j a0)
  refine lv_iload_n hx hb dX11_at_5 rfl (lv_at hl 1 rfl) ?_
  refine lv_i2l (v := (nI k).toInt64) hx hb dX11_at_6 rfl ?_
  refine lv_lconst (v := 0) hx hb dX11_at_7 (by decide) ?_
  refine lv_ldc2 (v := 3) hx hb hown (hts (.constantLong RX11 165 (3)) (by decide +kernel)) dX11_at_8 ?_
  refine kc_s (As := [.long ((nI k).toInt64), .long 0, .long 3]) (rest := []) S0 (c_X11_within l D tc s.heap.size ad ct_1 ) (va_cwS 3 hts gX11_at_X11_within rfl rfl rfl (by decide +kernel) ⟨Nat.le_of_ble_eq_true rfl, Nat.le_of_ble_eq_true rfl⟩) hK hw rfl hl.1 rfl (Nat.le_of_ble_eq_true rfl) dX11_at_11 ⟨Nat.le_of_ble_eq_true rfl, (Nat.le_of_ble_eq_true rfl)⟩ ?_
  refine kb_ifeq (tgt := 29) hx hb dX11_at_14 (by decide) (fun c_5 => ?_) (fun c_5 => ?_)
  · exact absurd kK c_5
  · refine lv_iload_n hx hb dX11_at_17 rfl (lv_at hl 3 rfl) ?_
    refine lv_i2l (v := lane.toInt64) hx hb dX11_at_18 rfl ?_
    refine lv_lconst (v := 0) hx hb dX11_at_19 (by decide) ?_
    refine lv_ldc2 (v := 2) hx hb hown (hts (.constantLong RX11 76 (2)) (by decide +kernel)) dX11_at_20 ?_
    refine kc_s (As := [.long lane.toInt64, .long 0, .long 2]) (rest := []) S0 (c_X11_within l D tc s.heap.size ad ct_1 ) (va_cwS 3 hts gX11_at_X11_within rfl rfl rfl (by decide +kernel) ⟨Nat.le_of_ble_eq_true rfl, Nat.le_of_ble_eq_true rfl⟩) hK hw rfl hl.1 rfl (Nat.le_of_ble_eq_true rfl) dX11_at_23 ⟨Nat.le_of_ble_eq_true rfl, (Nat.le_of_ble_eq_true rfl)⟩ ?_
    refine kb_ifne (tgt := 33) hx hb dX11_at_26 (by decide) (fun c_6 => ?_) (fun c_6 => ?_)
    · refine lv_aload_n hx hb dX11_at_33 rfl (lv_at hl 0 rfl) ?_
      refine kg_get (v := .ref (ad 207)) (C := RX11) (T := TX11) (N := 27) hx hb hts hinX11 hown hK hw h_3 rfl 14 (by decide) (hts (.fieldLink RX11 39 "BetMakerModel" "lanes" "[I") (by decide +kernel)) (fun _ h9 => h9) rfl dX11_at_34 ?_
      refine lv_iload_n hx hb dX11_at_37 rfl (lv_at hl 1 rfl) ?_
      refine kg_iald hx hb hK hw h_2 k rfl (by omega) (by omega) dX11_at_38 ?_
      refine lv_bipush (v := (-9)) hx hb dX11_at_39 (by decide) ?_
      refine lv_icmp_eq (tgt := 60) hx hb dX11_at_41 (by decide) (fun c_7 => ?_) (fun c_7 => ?_)
      · exact absurd c_7 ha1
      · refine lv_aload_n hx hb dX11_at_44 rfl (lv_at hl 0 rfl) ?_
        refine kg_get (v := .ref (ad 207)) (C := RX11) (T := TX11) (N := 27) hx hb hts hinX11 hown hK hw h_3 rfl 14 (by decide) (hts (.fieldLink RX11 39 "BetMakerModel" "lanes" "[I") (by decide +kernel)) (fun _ h9 => h9) rfl dX11_at_45 ?_
        refine lv_iload_n hx hb dX11_at_48 rfl (lv_at hl 1 rfl) ?_
        refine kg_iald hx hb hK hw h_2 k rfl (by omega) (by omega) dX11_at_49 ?_
        refine lv_iload_n hx hb dX11_at_50 rfl (lv_at hl 3 rfl) ?_
        refine lv_icmp_eq (tgt := 60) hx hb dX11_at_51 (by decide) (fun c_8 => ?_) (fun c_8 => ?_)
        · exact absurd c_8 ha2
        · refine lv_aload_n hx hb dX11_at_54 rfl (lv_at hl 0 rfl) ?_
          refine lv_iconst (v := 2) hx hb dX11_at_55 (by decide) ?_
          refine kc_vu (As := [.int 2]) (rest := []) S0 (c_X11_lost l D tc s.heap.size ad ct_1 (N := N) (nt := nt) (no := no) (nf := nf) h_3) (cwV 1 hts gX11_at_X11_lost rfl rfl rfl (by decide +kernel) ⟨Nat.le_of_ble_eq_true rfl, Nat.le_of_ble_eq_true rfl⟩) hK hw hA h_3 rfl rfl hl.1 rfl (Nat.le_of_ble_eq_true rfl) dX11_at_56 ⟨Nat.le_of_ble_eq_true rfl, (Nat.le_of_ble_eq_true rfl)⟩ (fun H locs hw => ?_)
          obtain ⟨ct_9, ect_9⟩ : ∃ z, z = kw_up ct_1 200 (.inr (11, [.int 2, .int tr, .int (nI N), .int b, .ref (ad 201), .long g, .int cm, .int da, .int (nI nt), .ref (ad 202), .ref (ad 203), .ref (ad 204), .ref (ad 205), .ref (ad 206), .ref (ad 207), .ref (ad 208), .ref (ad 209), .int (nI no), .ref (ad 210), .ref (ad 211), .ref (ad 212), .ref (ad 213), .ref (ad 214), .int bs, .int (nI nf), .ref (ad 215), .ref (ad 216)])) := ⟨_, rfl⟩
          rw [← ect_9] at hw
          have h_10 : ct_9 207 = some (eI tc 4 la) := by rw [ect_9, kw_up_n (by decide)]; exact h_2
          have h_11 : ct_9 200 = some (.inr (11, [.int 2, .int tr, .int (nI N), .int b, .ref (ad 201), .long g, .int cm, .int da, .int (nI nt), .ref (ad 202), .ref (ad 203), .ref (ad 204), .ref (ad 205), .ref (ad 206), .ref (ad 207), .ref (ad 208), .ref (ad 209), .int (nI no), .ref (ad 210), .ref (ad 211), .ref (ad 212), .ref (ad 213), .ref (ad 214), .int bs, .int (nI nf), .ref (ad 215), .ref (ad 216)])) := by rw [ect_9]; exact kw_up_s
          have hfr_12 : ∀ j, j ≠ 200 → ct_9 j = ct j := fun j a0 => by rw [ect_9]; exact (kw_up_n a0).trans (hfr_4 j a0)
          have hq_13 := h_11
          have hend := kw_eq1 hq_13 hfr_12
          rw [hend] at hw
          exact W.lret hx hb hr (fun t ht _ => ⟨rfl, by rw [ht]; exact hw.1, hw.2.2.1, hw.2.1.F ht, by rw [ht]; exact hw.2.2.2⟩) hw.2.1.2.2 dX11_at_59
    · exact absurd hL c_6
set_option maxHeartbeats 4000000 in
set_option maxRecDepth 100000 in
theorem c_X11_at_n (l : Launch) (D : va_G) (tc : Nat → ClassId) (sz : Nat) (ad : Nat → Nat) (ct : Nat → Option va_E) {N nt no nf : Nat} {ft tr b cm da bs : Int32} {g : Int64}       {la : Nat → Int32}          {k : Nat} {i lane : Int32} (h0 : ct 200 = some (.inr (11, [.int ft, .int tr, .int (nI N), .int b, .ref (ad 201), .long g, .int cm, .int da, .int (nI nt), .ref (ad 202), .ref (ad 203), .ref (ad 204), .ref (ad 205), .ref (ad 206), .ref (ad 207), .ref (ad 208), .ref (ad 209), .int (nI no), .ref (ad 210), .ref (ad 211), .ref (ad 212), .ref (ad 213), .ref (ad 214), .int bs, .int (nI nf), .ref (ad 215), .ref (ad 216)]))) (h207 : ct 207 = some (eI tc 4 la)) (hk4 : k < 4) (hL : 0 ≤ lane.toInt64 ∧ lane.toInt64 ≤ 2) (ha1 : la k = (-9)) : Met l yX11_at wsX11_at ({ frames := 1, cells := 0, slots := 0, locals := 29 }) (va_Pc [.ref (ad 200), .int (nI k), .int i, .int lane] (kw_B D tc sz ad ct)) (kw_Q D ad (kw_A ad ct sz) (some (.long (-9223372036854775808))) (kw_up ct 200 (.inr (11, [.int 1, .int tr, .int (nI N), .int b, .ref (ad 201), .long g, .int cm, .int da, .int (nI nt), .ref (ad 202), .ref (ad 203), .ref (ad 204), .ref (ad 205), .ref (ad 206), .ref (ad 207), .ref (ad 208), .ref (ad 209), .int (nI no), .ref (ad 210), .ref (ad 211), .ref (ad 212), .ref (ad 213), .ref (ad 214), .int bs, .int (nI nf), .ref (ad 215), .ref (ad 216)]))) 0) 0 0 (kw_A ad ct sz) := by
  refine Met.ofW (cc := cX11_at) (maxL := 4) (ret := (some .long)) (by decide) rfl ?_
  intro pg en s m args below meth cod s₁ B hml hv
  obtain ⟨rfl, hsz, hP0, hK⟩ := hv
  have hx := B.exec
  have hb := B.bytes
  have hr := B.returns
  have hts := atoms_spec (ws := wsX11_at) B.pre
  have hown : s.vm.findClass RX11 = some m.cls := findClass_of_methodNamed B.named
  have hlocks := B.notSynchronized
  subst hsz
  have hw := kw_H.start hP0
  generalize hAe : kw_A ad ct s.heap.size = A at hw ⊢
  have hA : ∀ q, s.heap.size ≤ q → A q := fun q h => by rw [← hAe]; exact Or.inr h
  have hinX11 : ∀ w ∈ wsX110, w ∈ wsX11_at := by decide +kernel
  have hl := lv_entry ([.ref (ad 200), .int (nI k), .int i, .int lane]) (n := 4) (Nat.le_of_ble_eq_true rfl)
  rw [lg_entry_eq]
  generalize (lg_sl ([.ref (ad 200), .int (nI k), .int i, .int lane]) ++ List.replicate (4 - (lg_sl ([.ref (ad 200), .int (nI k), .int i, .int lane])).length) Slot.unset).toArray = ls at hl ⊢
  have hl : lv_has ls 4 [(0, .ref (ad 200)), (1, .int (nI k)), (2, .int i), (3, .int lane)] := hl
  have S0 : CallFix pg m cod cX11_at 4 s _ wsX11_at RX11 := ⟨hx, hb, hml, hown, hts⟩
  have hfr : ∀ j, j ≠ 200 → ct j = ct j := fun _ _ => rfl
  have kK : 0 ≤ (nI k).toInt64 ∧ (nI k).toInt64 ≤ 3 := kwl k 3 (by omega) (by omega)
  refine lv_aload_n hx hb dX11_at_0 rfl (lv_at hl 0 rfl) ?_
  refine lv_iconst (v := 0) hx hb dX11_at_1 (by decide) ?_
  refine kg_put (v := .int 0) (ty := .int) (C := RX11) (T := TX11) (N := 27) (fs' := [.int 0, .int tr, .int (nI N), .int b, .ref (ad 201), .long g, .int cm, .int da, .int (nI nt), .ref (ad 202), .ref (ad 203), .ref (ad 204), .ref (ad 205), .ref (ad 206), .ref (ad 207), .ref (ad 208), .ref (ad 209), .int (nI no), .ref (ad 210), .ref (ad 211), .ref (ad 212), .ref (ad 213), .ref (ad 214), .int bs, .int (nI nf), .ref (ad 215), .ref (ad 216)]) hx hb hts hinX11 tyX11 tyX11_ok nmX11 hown hK hw h0 rfl 0 (by decide) (hts (.fieldLink RX11 69 "BetMakerModel" "fault" "I") (by decide +kernel)) (fun _ h9 => h9) rfl (by decide +kernel) rfl rfl (Nat.le_of_ble_eq_true rfl) rfl dX11_at_2 (fun H locs hw => ?_)
  obtain ⟨ct_1, ect_1⟩ : ∃ z, z = kw_up ct 200 (.inr (11, [.int 0, .int tr, .int (nI N), .int b, .ref (ad 201), .long g, .int cm, .int da, .int (nI nt), .ref (ad 202), .ref (ad 203), .ref (ad 204), .ref (ad 205), .ref (ad 206), .ref (ad 207), .ref (ad 208), .ref (ad 209), .int (nI no), .ref (ad 210), .ref (ad 211), .ref (ad 212), .ref (ad 213), .ref (ad 214), .int bs, .int (nI nf), .ref (ad 215), .ref (ad 216)])) := ⟨_, rfl⟩
  rw [← ect_1] at hw
  have h_2 : ct_1 207 = some (eI tc 4 la) := by rw [ect_1, kw_up_n (by decide)]; exact h207
  have h_3 : ct_1 200 = some (.inr (11, [.int 0, .int tr, .int (nI N), .int b, .ref (ad 201), .long g, .int cm, .int da, .int (nI nt), .ref (ad 202), .ref (ad 203), .ref (ad 204), .ref (ad 205), .ref (ad 206), .ref (ad 207), .ref (ad 208), .ref (ad 209), .int (nI no), .ref (ad 210), .ref (ad 211), .ref (ad 212), .ref (ad 213), .ref (ad 214), .int bs, .int (nI nf), .ref (ad 215), .ref (ad 216)])) := by rw [ect_1]; exact kw_up_s
  have hfr_4 : ∀ j, j ≠ 200 → ct_1 j = ct j := fun j a0 => by rw [ect_1]; exact (kw_up_n a0).trans (hfr j a0)
  refine lv_iload_n hx hb dX11_at_5 rfl (lv_at hl 1 rfl) ?_
  refine lv_i2l (v := (nI k).toInt64) hx hb dX11_at_6 rfl ?_
  refine lv_lconst (v := 0) hx hb dX11_at_7 (by decide) ?_
  refine lv_ldc2 (v := 3) hx hb hown (hts (.constantLong RX11 165 (3)) (by decide +kernel)) dX11_at_8 ?_
  refine kc_s (As := [.long ((nI k).toInt64), .long 0, .long 3]) (rest := []) S0 (c_X11_within l D tc s.heap.size ad ct_1 ) (va_cwS 3 hts gX11_at_X11_within rfl rfl rfl (by decide +kernel) ⟨Nat.le_of_ble_eq_true rfl, Nat.le_of_ble_eq_true rfl⟩) hK hw rfl hl.1 rfl (Nat.le_of_ble_eq_true rfl) dX11_at_11 ⟨Nat.le_of_ble_eq_true rfl, (Nat.le_of_ble_eq_true rfl)⟩ ?_
  refine kb_ifeq (tgt := 29) hx hb dX11_at_14 (by decide) (fun c_5 => ?_) (fun c_5 => ?_)
  · exact absurd kK c_5
  · refine lv_iload_n hx hb dX11_at_17 rfl (lv_at hl 3 rfl) ?_
    refine lv_i2l (v := lane.toInt64) hx hb dX11_at_18 rfl ?_
    refine lv_lconst (v := 0) hx hb dX11_at_19 (by decide) ?_
    refine lv_ldc2 (v := 2) hx hb hown (hts (.constantLong RX11 76 (2)) (by decide +kernel)) dX11_at_20 ?_
    refine kc_s (As := [.long lane.toInt64, .long 0, .long 2]) (rest := []) S0 (c_X11_within l D tc s.heap.size ad ct_1 ) (va_cwS 3 hts gX11_at_X11_within rfl rfl rfl (by decide +kernel) ⟨Nat.le_of_ble_eq_true rfl, Nat.le_of_ble_eq_true rfl⟩) hK hw rfl hl.1 rfl (Nat.le_of_ble_eq_true rfl) dX11_at_23 ⟨Nat.le_of_ble_eq_true rfl, (Nat.le_of_ble_eq_true rfl)⟩ ?_
    refine kb_ifne (tgt := 33) hx hb dX11_at_26 (by decide) (fun c_6 => ?_) (fun c_6 => ?_)
    · refine lv_aload_n hx hb dX11_at_33 rfl (lv_at hl 0 rfl) ?_
      refine kg_get (v := .ref (ad 207)) (C := RX11) (T := TX11) (N := 27) hx hb hts hinX11 hown hK hw h_3 rfl 14 (by decide) (hts (.fieldLink RX11 39 "BetMakerModel" "lanes" "[I") (by decide +kernel)) (fun _ h9 => h9) rfl dX11_at_34 ?_
      refine lv_iload_n hx hb dX11_at_37 rfl (lv_at hl 1 rfl) ?_
      refine kg_iald hx hb hK hw h_2 k rfl (by omega) (by omega) dX11_at_38 ?_
      refine lv_bipush (v := (-9)) hx hb dX11_at_39 (by decide) ?_
      refine lv_icmp_eq (tgt := 60) hx hb dX11_at_41 (by decide) (fun c_7 => ?_) (fun c_7 => ?_)
      · refine lv_aload_n hx hb dX11_at_60 rfl (lv_at hl 0 rfl) ?_
        refine kg_get (v := .ref (ad 207)) (C := RX11) (T := TX11) (N := 27) hx hb hts hinX11 hown hK hw h_3 rfl 14 (by decide) (hts (.fieldLink RX11 39 "BetMakerModel" "lanes" "[I") (by decide +kernel)) (fun _ h9 => h9) rfl dX11_at_61 ?_
        refine lv_iload_n hx hb dX11_at_64 rfl (lv_at hl 1 rfl) ?_
        refine kg_iald hx hb hK hw h_2 k rfl (by omega) (by omega) dX11_at_65 ?_
        refine lv_bipush (v := (-9)) hx hb dX11_at_66 (by decide) ?_
        refine lv_icmp_ne (tgt := 77) hx hb dX11_at_68 (by decide) (fun c_8 => ?_) (fun c_8 => ?_)
        · exact absurd ha1 c_8
        · refine lv_aload_n hx hb dX11_at_71 rfl (lv_at hl 0 rfl) ?_
          refine lv_iconst (v := 1) hx hb dX11_at_72 (by decide) ?_
          refine kc_vu (As := [.int 1]) (rest := []) S0 (c_X11_lost l D tc s.heap.size ad ct_1 (N := N) (nt := nt) (no := no) (nf := nf) h_3) (cwV 1 hts gX11_at_X11_lost rfl rfl rfl (by decide +kernel) ⟨Nat.le_of_ble_eq_true rfl, Nat.le_of_ble_eq_true rfl⟩) hK hw hA h_3 rfl rfl hl.1 rfl (Nat.le_of_ble_eq_true rfl) dX11_at_73 ⟨Nat.le_of_ble_eq_true rfl, (Nat.le_of_ble_eq_true rfl)⟩ (fun H locs hw => ?_)
          obtain ⟨ct_9, ect_9⟩ : ∃ z, z = kw_up ct_1 200 (.inr (11, [.int 1, .int tr, .int (nI N), .int b, .ref (ad 201), .long g, .int cm, .int da, .int (nI nt), .ref (ad 202), .ref (ad 203), .ref (ad 204), .ref (ad 205), .ref (ad 206), .ref (ad 207), .ref (ad 208), .ref (ad 209), .int (nI no), .ref (ad 210), .ref (ad 211), .ref (ad 212), .ref (ad 213), .ref (ad 214), .int bs, .int (nI nf), .ref (ad 215), .ref (ad 216)])) := ⟨_, rfl⟩
          rw [← ect_9] at hw
          have h_10 : ct_9 207 = some (eI tc 4 la) := by rw [ect_9, kw_up_n (by decide)]; exact h_2
          have h_11 : ct_9 200 = some (.inr (11, [.int 1, .int tr, .int (nI N), .int b, .ref (ad 201), .long g, .int cm, .int da, .int (nI nt), .ref (ad 202), .ref (ad 203), .ref (ad 204), .ref (ad 205), .ref (ad 206), .ref (ad 207), .ref (ad 208), .ref (ad 209), .int (nI no), .ref (ad 210), .ref (ad 211), .ref (ad 212), .ref (ad 213), .ref (ad 214), .int bs, .int (nI nf), .ref (ad 215), .ref (ad 216)])) := by rw [ect_9]; exact kw_up_s
          have hfr_12 : ∀ j, j ≠ 200 → ct_9 j = ct j := fun j a0 => by rw [ect_9]; exact (kw_up_n a0).trans (hfr_4 j a0)
          have hq_13 := h_11
          have hend := kw_eq1 hq_13 hfr_12
          rw [hend] at hw
          exact W.lret hx hb hr (fun t ht _ => ⟨rfl, by rw [ht]; exact hw.1, hw.2.2.1, hw.2.1.F ht, by rw [ht]; exact hw.2.2.2⟩) hw.2.1.2.2 dX11_at_76
      · exact absurd ha1 c_7
    · exact absurd hL c_6
set_option maxHeartbeats 4000000 in
set_option maxRecDepth 100000 in
theorem c_X11_at_x (l : Launch) (D : va_G) (tc : Nat → ClassId) (sz : Nat) (ad : Nat → Nat) (ct : Nat → Option va_E) {N nt no nf : Nat} {ft tr b cm da bs : Int32} {g : Int64}       {la : Nat → Int32} {sl : Nat → Int32}         {k : Nat} {i lane : Int32} (h0 : ct 200 = some (.inr (11, [.int ft, .int tr, .int (nI N), .int b, .ref (ad 201), .long g, .int cm, .int da, .int (nI nt), .ref (ad 202), .ref (ad 203), .ref (ad 204), .ref (ad 205), .ref (ad 206), .ref (ad 207), .ref (ad 208), .ref (ad 209), .int (nI no), .ref (ad 210), .ref (ad 211), .ref (ad 212), .ref (ad 213), .ref (ad 214), .int bs, .int (nI nf), .ref (ad 215), .ref (ad 216)]))) (h207 : ct 207 = some (eI tc 4 la)) (h208 : ct 208 = some (eI tc 4 sl)) (hk4 : k < 4) (hL : 0 ≤ lane.toInt64 ∧ lane.toInt64 ≤ 2) (ha1 : ¬ (la k = (-9))) (ha2 : la k = lane) (hix : ¬ (0 ≤ i.toInt64 ∧ i.toInt64 ≤ (sl k).toInt64 - 1)) : Met l yX11_at wsX11_at ({ frames := 1, cells := 0, slots := 0, locals := 29 }) (va_Pc [.ref (ad 200), .int (nI k), .int i, .int lane] (kw_B D tc sz ad ct)) (kw_Q D ad (kw_A ad ct sz) (some (.long (-9223372036854775808))) (kw_up ct 200 (.inr (11, [.int 3, .int tr, .int (nI N), .int b, .ref (ad 201), .long g, .int cm, .int da, .int (nI nt), .ref (ad 202), .ref (ad 203), .ref (ad 204), .ref (ad 205), .ref (ad 206), .ref (ad 207), .ref (ad 208), .ref (ad 209), .int (nI no), .ref (ad 210), .ref (ad 211), .ref (ad 212), .ref (ad 213), .ref (ad 214), .int bs, .int (nI nf), .ref (ad 215), .ref (ad 216)]))) 0) 0 0 (kw_A ad ct sz) := by
  refine Met.ofW (cc := cX11_at) (maxL := 4) (ret := (some .long)) (by decide) rfl ?_
  intro pg en s m args below meth cod s₁ B hml hv
  obtain ⟨rfl, hsz, hP0, hK⟩ := hv
  have hx := B.exec
  have hb := B.bytes
  have hr := B.returns
  have hts := atoms_spec (ws := wsX11_at) B.pre
  have hown : s.vm.findClass RX11 = some m.cls := findClass_of_methodNamed B.named
  have hlocks := B.notSynchronized
  subst hsz
  have hw := kw_H.start hP0
  generalize hAe : kw_A ad ct s.heap.size = A at hw ⊢
  have hA : ∀ q, s.heap.size ≤ q → A q := fun q h => by rw [← hAe]; exact Or.inr h
  have hinX11 : ∀ w ∈ wsX110, w ∈ wsX11_at := by decide +kernel
  have hl := lv_entry ([.ref (ad 200), .int (nI k), .int i, .int lane]) (n := 4) (Nat.le_of_ble_eq_true rfl)
  rw [lg_entry_eq]
  generalize (lg_sl ([.ref (ad 200), .int (nI k), .int i, .int lane]) ++ List.replicate (4 - (lg_sl ([.ref (ad 200), .int (nI k), .int i, .int lane])).length) Slot.unset).toArray = ls at hl ⊢
  have hl : lv_has ls 4 [(0, .ref (ad 200)), (1, .int (nI k)), (2, .int i), (3, .int lane)] := hl
  have S0 : CallFix pg m cod cX11_at 4 s _ wsX11_at RX11 := ⟨hx, hb, hml, hown, hts⟩
  have hfr : ∀ j, j ≠ 200 → ct j = ct j := fun _ _ => rfl
  have kK : 0 ≤ (nI k).toInt64 ∧ (nI k).toInt64 ≤ 3 := kwl k 3 (by omega) (by omega)
  refine lv_aload_n hx hb dX11_at_0 rfl (lv_at hl 0 rfl) ?_
  refine lv_iconst (v := 0) hx hb dX11_at_1 (by decide) ?_
  refine kg_put (v := .int 0) (ty := .int) (C := RX11) (T := TX11) (N := 27) (fs' := [.int 0, .int tr, .int (nI N), .int b, .ref (ad 201), .long g, .int cm, .int da, .int (nI nt), .ref (ad 202), .ref (ad 203), .ref (ad 204), .ref (ad 205), .ref (ad 206), .ref (ad 207), .ref (ad 208), .ref (ad 209), .int (nI no), .ref (ad 210), .ref (ad 211), .ref (ad 212), .ref (ad 213), .ref (ad 214), .int bs, .int (nI nf), .ref (ad 215), .ref (ad 216)]) hx hb hts hinX11 tyX11 tyX11_ok nmX11 hown hK hw h0 rfl 0 (by decide) (hts (.fieldLink RX11 69 "BetMakerModel" "fault" "I") (by decide +kernel)) (fun _ h9 => h9) rfl (by decide +kernel) rfl rfl (Nat.le_of_ble_eq_true rfl) rfl dX11_at_2 (fun H locs hw => ?_)
  obtain ⟨ct_1, ect_1⟩ : ∃ z, z = kw_up ct 200 (.inr (11, [.int 0, .int tr, .int (nI N), .int b, .ref (ad 201), .long g, .int cm, .int da, .int (nI nt), .ref (ad 202), .ref (ad 203), .ref (ad 204), .ref (ad 205), .ref (ad 206), .ref (ad 207), .ref (ad 208), .ref (ad 209), .int (nI no), .ref (ad 210), .ref (ad 211), .ref (ad 212), .ref (ad 213), .ref (ad 214), .int bs, .int (nI nf), .ref (ad 215), .ref (ad 216)])) := ⟨_, rfl⟩
  rw [← ect_1] at hw
  have h_2 : ct_1 207 = some (eI tc 4 la) := by rw [ect_1, kw_up_n (by decide)]; exact h207
  have h_3 : ct_1 208 = some (eI tc 4 sl) := by rw [ect_1, kw_up_n (by decide)]; exact h208
  have h_4 : ct_1 200 = some (.inr (11, [.int 0, .int tr, .int (nI N), .int b, .ref (ad 201), .long g, .int cm, .int da, .int (nI nt), .ref (ad 202), .ref (ad 203), .ref (ad 204), .ref (ad 205), .ref (ad 206), .ref (ad 207), .ref (ad 208), .ref (ad 209), .int (nI no), .ref (ad 210), .ref (ad 211), .ref (ad 212), .ref (ad 213), .ref (ad 214), .int bs, .int (nI nf), .ref (ad 215), .ref (ad 216)])) := by rw [ect_1]; exact kw_up_s
  have hfr_5 : ∀ j, j ≠ 200 → ct_1 j = ct j := fun j a0 => by rw [ect_1]; exact (kw_up_n a0).trans (hfr j a0)
  refine lv_iload_n hx hb dX11_at_5 rfl (lv_at hl 1 rfl) ?_
  refine lv_i2l (v := (nI k).toInt64) hx hb dX11_at_6 rfl ?_
  refine lv_lconst (v := 0) hx hb dX11_at_7 (by decide) ?_
  refine lv_ldc2 (v := 3) hx hb hown (hts (.constantLong RX11 165 (3)) (by decide +kernel)) dX11_at_8 ?_
  refine kc_s (As := [.long ((nI k).toInt64), .long 0, .long 3]) (rest := []) S0 (c_X11_within l D tc s.heap.size ad ct_1 ) (va_cwS 3 hts gX11_at_X11_within rfl rfl rfl (by decide +kernel) ⟨Nat.le_of_ble_eq_true rfl, Nat.le_of_ble_eq_true rfl⟩) hK hw rfl hl.1 rfl (Nat.le_of_ble_eq_true rfl) dX11_at_11 ⟨Nat.le_of_ble_eq_true rfl, (Nat.le_of_ble_eq_true rfl)⟩ ?_
  refine kb_ifeq (tgt := 29) hx hb dX11_at_14 (by decide) (fun c_6 => ?_) (fun c_6 => ?_)
  · exact absurd kK c_6
  · refine lv_iload_n hx hb dX11_at_17 rfl (lv_at hl 3 rfl) ?_
    refine lv_i2l (v := lane.toInt64) hx hb dX11_at_18 rfl ?_
    refine lv_lconst (v := 0) hx hb dX11_at_19 (by decide) ?_
    refine lv_ldc2 (v := 2) hx hb hown (hts (.constantLong RX11 76 (2)) (by decide +kernel)) dX11_at_20 ?_
    refine kc_s (As := [.long lane.toInt64, .long 0, .long 2]) (rest := []) S0 (c_X11_within l D tc s.heap.size ad ct_1 ) (va_cwS 3 hts gX11_at_X11_within rfl rfl rfl (by decide +kernel) ⟨Nat.le_of_ble_eq_true rfl, Nat.le_of_ble_eq_true rfl⟩) hK hw rfl hl.1 rfl (Nat.le_of_ble_eq_true rfl) dX11_at_23 ⟨Nat.le_of_ble_eq_true rfl, (Nat.le_of_ble_eq_true rfl)⟩ ?_
    refine kb_ifne (tgt := 33) hx hb dX11_at_26 (by decide) (fun c_7 => ?_) (fun c_7 => ?_)
    · refine lv_aload_n hx hb dX11_at_33 rfl (lv_at hl 0 rfl) ?_
      refine kg_get (v := .ref (ad 207)) (C := RX11) (T := TX11) (N := 27) hx hb hts hinX11 hown hK hw h_4 rfl 14 (by decide) (hts (.fieldLink RX11 39 "BetMakerModel" "lanes" "[I") (by decide +kernel)) (fun _ h9 => h9) rfl dX11_at_34 ?_
      refine lv_iload_n hx hb dX11_at_37 rfl (lv_at hl 1 rfl) ?_
      refine kg_iald hx hb hK hw h_2 k rfl (by omega) (by omega) dX11_at_38 ?_
      refine lv_bipush (v := (-9)) hx hb dX11_at_39 (by decide) ?_
      refine lv_icmp_eq (tgt := 60) hx hb dX11_at_41 (by decide) (fun c_8 => ?_) (fun c_8 => ?_)
      · exact absurd c_8 ha1
      · refine lv_aload_n hx hb dX11_at_44 rfl (lv_at hl 0 rfl) ?_
        refine kg_get (v := .ref (ad 207)) (C := RX11) (T := TX11) (N := 27) hx hb hts hinX11 hown hK hw h_4 rfl 14 (by decide) (hts (.fieldLink RX11 39 "BetMakerModel" "lanes" "[I") (by decide +kernel)) (fun _ h9 => h9) rfl dX11_at_45 ?_
        refine lv_iload_n hx hb dX11_at_48 rfl (lv_at hl 1 rfl) ?_
        refine kg_iald hx hb hK hw h_2 k rfl (by omega) (by omega) dX11_at_49 ?_
        refine lv_iload_n hx hb dX11_at_50 rfl (lv_at hl 3 rfl) ?_
        refine lv_icmp_eq (tgt := 60) hx hb dX11_at_51 (by decide) (fun c_9 => ?_) (fun c_9 => ?_)
        · refine lv_aload_n hx hb dX11_at_60 rfl (lv_at hl 0 rfl) ?_
          refine kg_get (v := .ref (ad 207)) (C := RX11) (T := TX11) (N := 27) hx hb hts hinX11 hown hK hw h_4 rfl 14 (by decide) (hts (.fieldLink RX11 39 "BetMakerModel" "lanes" "[I") (by decide +kernel)) (fun _ h9 => h9) rfl dX11_at_61 ?_
          refine lv_iload_n hx hb dX11_at_64 rfl (lv_at hl 1 rfl) ?_
          refine kg_iald hx hb hK hw h_2 k rfl (by omega) (by omega) dX11_at_65 ?_
          refine lv_bipush (v := (-9)) hx hb dX11_at_66 (by decide) ?_
          refine lv_icmp_ne (tgt := 77) hx hb dX11_at_68 (by decide) (fun c_10 => ?_) (fun c_10 => ?_)
          · refine lv_iload_n hx hb dX11_at_77 rfl (lv_at hl 2 rfl) ?_
            refine lv_i2l (v := i.toInt64) hx hb dX11_at_78 rfl ?_
            refine lv_lconst (v := 0) hx hb dX11_at_79 (by decide) ?_
            refine lv_aload_n hx hb dX11_at_80 rfl (lv_at hl 0 rfl) ?_
            refine kg_get (v := .ref (ad 208)) (C := RX11) (T := TX11) (N := 27) hx hb hts hinX11 hown hK hw h_4 rfl 15 (by decide) (hts (.fieldLink RX11 42 "BetMakerModel" "sheetLong" "[I") (by decide +kernel)) (fun _ h9 => h9) rfl dX11_at_81 ?_
            refine lv_iload_n hx hb dX11_at_84 rfl (lv_at hl 1 rfl) ?_
            refine kg_iald hx hb hK hw h_3 k rfl (by omega) (by omega) dX11_at_85 ?_
            refine lv_i2l (v := (sl k).toInt64) hx hb dX11_at_86 rfl ?_
            refine lv_lconst (v := 1) hx hb dX11_at_87 (by decide) ?_
            refine lv_lsub hx hb dX11_at_88 ?_
            refine kc_s (As := [.long i.toInt64, .long 0, .long (((sl k).toInt64) - 1)]) (rest := []) S0 (c_X11_within l D tc s.heap.size ad ct_1 ) (va_cwS 3 hts gX11_at_X11_within rfl rfl rfl (by decide +kernel) ⟨Nat.le_of_ble_eq_true rfl, Nat.le_of_ble_eq_true rfl⟩) hK hw rfl hl.1 rfl (Nat.le_of_ble_eq_true rfl) dX11_at_89 ⟨Nat.le_of_ble_eq_true rfl, (Nat.le_of_ble_eq_true rfl)⟩ ?_
            refine kb_ifne (tgt := 101) hx hb dX11_at_92 (by decide) (fun c_11 => ?_) (fun c_11 => ?_)
            · exact absurd c_11 hix
            · refine lv_aload_n hx hb dX11_at_95 rfl (lv_at hl 0 rfl) ?_
              refine lv_iconst (v := 3) hx hb dX11_at_96 (by decide) ?_
              refine kc_vu (As := [.int 3]) (rest := []) S0 (c_X11_lost l D tc s.heap.size ad ct_1 (N := N) (nt := nt) (no := no) (nf := nf) h_4) (cwV 1 hts gX11_at_X11_lost rfl rfl rfl (by decide +kernel) ⟨Nat.le_of_ble_eq_true rfl, Nat.le_of_ble_eq_true rfl⟩) hK hw hA h_4 rfl rfl hl.1 rfl (Nat.le_of_ble_eq_true rfl) dX11_at_97 ⟨Nat.le_of_ble_eq_true rfl, (Nat.le_of_ble_eq_true rfl)⟩ (fun H locs hw => ?_)
              obtain ⟨ct_12, ect_12⟩ : ∃ z, z = kw_up ct_1 200 (.inr (11, [.int 3, .int tr, .int (nI N), .int b, .ref (ad 201), .long g, .int cm, .int da, .int (nI nt), .ref (ad 202), .ref (ad 203), .ref (ad 204), .ref (ad 205), .ref (ad 206), .ref (ad 207), .ref (ad 208), .ref (ad 209), .int (nI no), .ref (ad 210), .ref (ad 211), .ref (ad 212), .ref (ad 213), .ref (ad 214), .int bs, .int (nI nf), .ref (ad 215), .ref (ad 216)])) := ⟨_, rfl⟩
              rw [← ect_12] at hw
              have h_13 : ct_12 207 = some (eI tc 4 la) := by rw [ect_12, kw_up_n (by decide)]; exact h_2
              have h_14 : ct_12 208 = some (eI tc 4 sl) := by rw [ect_12, kw_up_n (by decide)]; exact h_3
              have h_15 : ct_12 200 = some (.inr (11, [.int 3, .int tr, .int (nI N), .int b, .ref (ad 201), .long g, .int cm, .int da, .int (nI nt), .ref (ad 202), .ref (ad 203), .ref (ad 204), .ref (ad 205), .ref (ad 206), .ref (ad 207), .ref (ad 208), .ref (ad 209), .int (nI no), .ref (ad 210), .ref (ad 211), .ref (ad 212), .ref (ad 213), .ref (ad 214), .int bs, .int (nI nf), .ref (ad 215), .ref (ad 216)])) := by rw [ect_12]; exact kw_up_s
              have hfr_16 : ∀ j, j ≠ 200 → ct_12 j = ct j := fun j a0 => by rw [ect_12]; exact (kw_up_n a0).trans (hfr_5 j a0)
              have hq_17 := h_15
              have hend := kw_eq1 hq_17 hfr_16
              rw [hend] at hw
              exact W.lret hx hb hr (fun t ht _ => ⟨rfl, by rw [ht]; exact hw.1, hw.2.2.1, hw.2.1.F ht, by rw [ht]; exact hw.2.2.2⟩) hw.2.1.2.2 dX11_at_100
          · exact absurd c_10 ha1
        · exact absurd ha2 c_9
    · exact absurd hL c_7
set_option maxHeartbeats 4000000 in
set_option maxRecDepth 100000 in
theorem c_X11_at (l : Launch) (D : va_G) (tc : Nat → ClassId) (sz : Nat) (ad : Nat → Nat) (ct : Nat → Option va_E) {N nt no nf : Nat} {ft tr b cm da bs : Int32} {g : Int64}       {la : Nat → Int32} {sl : Nat → Int32} {ce : Nat → Int32}        {k i n : Nat} {lane : Int32} (h0 : ct 200 = some (.inr (11, [.int ft, .int tr, .int (nI N), .int b, .ref (ad 201), .long g, .int cm, .int da, .int (nI nt), .ref (ad 202), .ref (ad 203), .ref (ad 204), .ref (ad 205), .ref (ad 206), .ref (ad 207), .ref (ad 208), .ref (ad 209), .int (nI no), .ref (ad 210), .ref (ad 211), .ref (ad 212), .ref (ad 213), .ref (ad 214), .int bs, .int (nI nf), .ref (ad 215), .ref (ad 216)]))) (h207 : ct 207 = some (eI tc 4 la)) (h208 : ct 208 = some (eI tc 4 sl)) (h209 : ct 209 = some (eI tc 96 ce)) (hk4 : k < 4) (hL : 0 ≤ lane.toInt64 ∧ lane.toInt64 ≤ 2) (ha1 : ¬ (la k = (-9))) (ha2 : la k = lane) (hi : i < n) (hn24 : n ≤ 24) (hsl : sl k = nI n) : Met l yX11_at wsX11_at ({ frames := 1, cells := 0, slots := 0, locals := 29 }) (va_Pc [.ref (ad 200), .int (nI k), .int (nI i), .int lane] (kw_B D tc sz ad ct)) (kw_Q D ad (kw_A ad ct sz) (some (.long ((ce (24 * k + i)).toInt64))) (kw_up ct 200 (.inr (11, [.int 0, .int tr, .int (nI N), .int b, .ref (ad 201), .long g, .int cm, .int da, .int (nI nt), .ref (ad 202), .ref (ad 203), .ref (ad 204), .ref (ad 205), .ref (ad 206), .ref (ad 207), .ref (ad 208), .ref (ad 209), .int (nI no), .ref (ad 210), .ref (ad 211), .ref (ad 212), .ref (ad 213), .ref (ad 214), .int bs, .int (nI nf), .ref (ad 215), .ref (ad 216)]))) 0) 0 0 (kw_A ad ct sz) := by
  refine Met.ofW (cc := cX11_at) (maxL := 4) (ret := (some .long)) (by decide) rfl ?_
  intro pg en s m args below meth cod s₁ B hml hv
  obtain ⟨rfl, hsz, hP0, hK⟩ := hv
  have hx := B.exec
  have hb := B.bytes
  have hr := B.returns
  have hts := atoms_spec (ws := wsX11_at) B.pre
  have hown : s.vm.findClass RX11 = some m.cls := findClass_of_methodNamed B.named
  have hlocks := B.notSynchronized
  subst hsz
  have hw := kw_H.start hP0
  generalize hAe : kw_A ad ct s.heap.size = A at hw ⊢
  have hA : ∀ q, s.heap.size ≤ q → A q := fun q h => by rw [← hAe]; exact Or.inr h
  have hinX11 : ∀ w ∈ wsX110, w ∈ wsX11_at := by decide +kernel
  have hl := lv_entry ([.ref (ad 200), .int (nI k), .int (nI i), .int lane]) (n := 4) (Nat.le_of_ble_eq_true rfl)
  rw [lg_entry_eq]
  generalize (lg_sl ([.ref (ad 200), .int (nI k), .int (nI i), .int lane]) ++ List.replicate (4 - (lg_sl ([.ref (ad 200), .int (nI k), .int (nI i), .int lane])).length) Slot.unset).toArray = ls at hl ⊢
  have hl : lv_has ls 4 [(0, .ref (ad 200)), (1, .int (nI k)), (2, .int (nI i)), (3, .int lane)] := hl
  have S0 : CallFix pg m cod cX11_at 4 s _ wsX11_at RX11 := ⟨hx, hb, hml, hown, hts⟩
  have hfr : ∀ j, j ≠ 200 → ct j = ct j := fun _ _ => rfl
  have kK : 0 ≤ (nI k).toInt64 ∧ (nI k).toInt64 ≤ 3 := kwl k 3 (by omega) (by omega)
  have kI : 0 ≤ (nI i).toInt64 ∧ (nI i).toInt64 ≤ (sl k).toInt64 - 1 := by rw [hsl]; exact kput hi (by omega)
  refine lv_aload_n hx hb dX11_at_0 rfl (lv_at hl 0 rfl) ?_
  refine lv_iconst (v := 0) hx hb dX11_at_1 (by decide) ?_
  refine kg_put (v := .int 0) (ty := .int) (C := RX11) (T := TX11) (N := 27) (fs' := [.int 0, .int tr, .int (nI N), .int b, .ref (ad 201), .long g, .int cm, .int da, .int (nI nt), .ref (ad 202), .ref (ad 203), .ref (ad 204), .ref (ad 205), .ref (ad 206), .ref (ad 207), .ref (ad 208), .ref (ad 209), .int (nI no), .ref (ad 210), .ref (ad 211), .ref (ad 212), .ref (ad 213), .ref (ad 214), .int bs, .int (nI nf), .ref (ad 215), .ref (ad 216)]) hx hb hts hinX11 tyX11 tyX11_ok nmX11 hown hK hw h0 rfl 0 (by decide) (hts (.fieldLink RX11 69 "BetMakerModel" "fault" "I") (by decide +kernel)) (fun _ h9 => h9) rfl (by decide +kernel) rfl rfl (Nat.le_of_ble_eq_true rfl) rfl dX11_at_2 (fun H locs hw => ?_)
  obtain ⟨ct_1, ect_1⟩ : ∃ z, z = kw_up ct 200 (.inr (11, [.int 0, .int tr, .int (nI N), .int b, .ref (ad 201), .long g, .int cm, .int da, .int (nI nt), .ref (ad 202), .ref (ad 203), .ref (ad 204), .ref (ad 205), .ref (ad 206), .ref (ad 207), .ref (ad 208), .ref (ad 209), .int (nI no), .ref (ad 210), .ref (ad 211), .ref (ad 212), .ref (ad 213), .ref (ad 214), .int bs, .int (nI nf), .ref (ad 215), .ref (ad 216)])) := ⟨_, rfl⟩
  rw [← ect_1] at hw
  have h_2 : ct_1 207 = some (eI tc 4 la) := by rw [ect_1, kw_up_n (by decide)]; exact h207
  have h_3 : ct_1 208 = some (eI tc 4 sl) := by rw [ect_1, kw_up_n (by decide)]; exact h208
  have h_4 : ct_1 209 = some (eI tc 96 ce) := by rw [ect_1, kw_up_n (by decide)]; exact h209
  have h_5 : ct_1 200 = some (.inr (11, [.int 0, .int tr, .int (nI N), .int b, .ref (ad 201), .long g, .int cm, .int da, .int (nI nt), .ref (ad 202), .ref (ad 203), .ref (ad 204), .ref (ad 205), .ref (ad 206), .ref (ad 207), .ref (ad 208), .ref (ad 209), .int (nI no), .ref (ad 210), .ref (ad 211), .ref (ad 212), .ref (ad 213), .ref (ad 214), .int bs, .int (nI nf), .ref (ad 215), .ref (ad 216)])) := by rw [ect_1]; exact kw_up_s
  have hfr_6 : ∀ j, j ≠ 200 → ct_1 j = ct j := fun j a0 => by rw [ect_1]; exact (kw_up_n a0).trans (hfr j a0)
  refine lv_iload_n hx hb dX11_at_5 rfl (lv_at hl 1 rfl) ?_
  refine lv_i2l (v := (nI k).toInt64) hx hb dX11_at_6 rfl ?_
  refine lv_lconst (v := 0) hx hb dX11_at_7 (by decide) ?_
  refine lv_ldc2 (v := 3) hx hb hown (hts (.constantLong RX11 165 (3)) (by decide +kernel)) dX11_at_8 ?_
  refine kc_s (As := [.long ((nI k).toInt64), .long 0, .long 3]) (rest := []) S0 (c_X11_within l D tc s.heap.size ad ct_1 ) (va_cwS 3 hts gX11_at_X11_within rfl rfl rfl (by decide +kernel) ⟨Nat.le_of_ble_eq_true rfl, Nat.le_of_ble_eq_true rfl⟩) hK hw rfl hl.1 rfl (Nat.le_of_ble_eq_true rfl) dX11_at_11 ⟨Nat.le_of_ble_eq_true rfl, (Nat.le_of_ble_eq_true rfl)⟩ ?_
  refine kb_ifeq (tgt := 29) hx hb dX11_at_14 (by decide) (fun c_7 => ?_) (fun c_7 => ?_)
  · exact absurd kK c_7
  · refine lv_iload_n hx hb dX11_at_17 rfl (lv_at hl 3 rfl) ?_
    refine lv_i2l (v := lane.toInt64) hx hb dX11_at_18 rfl ?_
    refine lv_lconst (v := 0) hx hb dX11_at_19 (by decide) ?_
    refine lv_ldc2 (v := 2) hx hb hown (hts (.constantLong RX11 76 (2)) (by decide +kernel)) dX11_at_20 ?_
    refine kc_s (As := [.long lane.toInt64, .long 0, .long 2]) (rest := []) S0 (c_X11_within l D tc s.heap.size ad ct_1 ) (va_cwS 3 hts gX11_at_X11_within rfl rfl rfl (by decide +kernel) ⟨Nat.le_of_ble_eq_true rfl, Nat.le_of_ble_eq_true rfl⟩) hK hw rfl hl.1 rfl (Nat.le_of_ble_eq_true rfl) dX11_at_23 ⟨Nat.le_of_ble_eq_true rfl, (Nat.le_of_ble_eq_true rfl)⟩ ?_
    refine kb_ifne (tgt := 33) hx hb dX11_at_26 (by decide) (fun c_8 => ?_) (fun c_8 => ?_)
    · refine lv_aload_n hx hb dX11_at_33 rfl (lv_at hl 0 rfl) ?_
      refine kg_get (v := .ref (ad 207)) (C := RX11) (T := TX11) (N := 27) hx hb hts hinX11 hown hK hw h_5 rfl 14 (by decide) (hts (.fieldLink RX11 39 "BetMakerModel" "lanes" "[I") (by decide +kernel)) (fun _ h9 => h9) rfl dX11_at_34 ?_
      refine lv_iload_n hx hb dX11_at_37 rfl (lv_at hl 1 rfl) ?_
      refine kg_iald hx hb hK hw h_2 k rfl (by omega) (by omega) dX11_at_38 ?_
      refine lv_bipush (v := (-9)) hx hb dX11_at_39 (by decide) ?_
      refine lv_icmp_eq (tgt := 60) hx hb dX11_at_41 (by decide) (fun c_9 => ?_) (fun c_9 => ?_)
      · exact absurd c_9 ha1
      · refine lv_aload_n hx hb dX11_at_44 rfl (lv_at hl 0 rfl) ?_
        refine kg_get (v := .ref (ad 207)) (C := RX11) (T := TX11) (N := 27) hx hb hts hinX11 hown hK hw h_5 rfl 14 (by decide) (hts (.fieldLink RX11 39 "BetMakerModel" "lanes" "[I") (by decide +kernel)) (fun _ h9 => h9) rfl dX11_at_45 ?_
        refine lv_iload_n hx hb dX11_at_48 rfl (lv_at hl 1 rfl) ?_
        refine kg_iald hx hb hK hw h_2 k rfl (by omega) (by omega) dX11_at_49 ?_
        refine lv_iload_n hx hb dX11_at_50 rfl (lv_at hl 3 rfl) ?_
        refine lv_icmp_eq (tgt := 60) hx hb dX11_at_51 (by decide) (fun c_10 => ?_) (fun c_10 => ?_)
        · refine lv_aload_n hx hb dX11_at_60 rfl (lv_at hl 0 rfl) ?_
          refine kg_get (v := .ref (ad 207)) (C := RX11) (T := TX11) (N := 27) hx hb hts hinX11 hown hK hw h_5 rfl 14 (by decide) (hts (.fieldLink RX11 39 "BetMakerModel" "lanes" "[I") (by decide +kernel)) (fun _ h9 => h9) rfl dX11_at_61 ?_
          refine lv_iload_n hx hb dX11_at_64 rfl (lv_at hl 1 rfl) ?_
          refine kg_iald hx hb hK hw h_2 k rfl (by omega) (by omega) dX11_at_65 ?_
          refine lv_bipush (v := (-9)) hx hb dX11_at_66 (by decide) ?_
          refine lv_icmp_ne (tgt := 77) hx hb dX11_at_68 (by decide) (fun c_11 => ?_) (fun c_11 => ?_)
          · refine lv_iload_n hx hb dX11_at_77 rfl (lv_at hl 2 rfl) ?_
            refine lv_i2l (v := (nI i).toInt64) hx hb dX11_at_78 rfl ?_
            refine lv_lconst (v := 0) hx hb dX11_at_79 (by decide) ?_
            refine lv_aload_n hx hb dX11_at_80 rfl (lv_at hl 0 rfl) ?_
            refine kg_get (v := .ref (ad 208)) (C := RX11) (T := TX11) (N := 27) hx hb hts hinX11 hown hK hw h_5 rfl 15 (by decide) (hts (.fieldLink RX11 42 "BetMakerModel" "sheetLong" "[I") (by decide +kernel)) (fun _ h9 => h9) rfl dX11_at_81 ?_
            refine lv_iload_n hx hb dX11_at_84 rfl (lv_at hl 1 rfl) ?_
            refine kg_iald hx hb hK hw h_3 k rfl (by omega) (by omega) dX11_at_85 ?_
            refine lv_i2l (v := (sl k).toInt64) hx hb dX11_at_86 rfl ?_
            refine lv_lconst (v := 1) hx hb dX11_at_87 (by decide) ?_
            refine lv_lsub hx hb dX11_at_88 ?_
            refine kc_s (As := [.long ((nI i).toInt64), .long 0, .long (((sl k).toInt64) - 1)]) (rest := []) S0 (c_X11_within l D tc s.heap.size ad ct_1 ) (va_cwS 3 hts gX11_at_X11_within rfl rfl rfl (by decide +kernel) ⟨Nat.le_of_ble_eq_true rfl, Nat.le_of_ble_eq_true rfl⟩) hK hw rfl hl.1 rfl (Nat.le_of_ble_eq_true rfl) dX11_at_89 ⟨Nat.le_of_ble_eq_true rfl, (Nat.le_of_ble_eq_true rfl)⟩ ?_
            refine kb_ifne (tgt := 101) hx hb dX11_at_92 (by decide) (fun c_12 => ?_) (fun c_12 => ?_)
            · refine lv_aload_n hx hb dX11_at_101 rfl (lv_at hl 0 rfl) ?_
              refine kg_get (v := .ref (ad 209)) (C := RX11) (T := TX11) (N := 27) hx hb hts hinX11 hown hK hw h_5 rfl 16 (by decide) (hts (.fieldLink RX11 45 "BetMakerModel" "cells" "[I") (by decide +kernel)) (fun _ h9 => h9) rfl dX11_at_102 ?_
              refine lv_bipush (v := 24) hx hb dX11_at_105 (by decide) ?_
              refine lv_iload_n hx hb dX11_at_107 rfl (lv_at hl 1 rfl) ?_
              refine lv_imul hx hb dX11_at_108 ?_
              refine lv_iload_n hx hb dX11_at_109 rfl (lv_at hl 2 rfl) ?_
              refine lv_iadd hx hb dX11_at_110 ?_
              refine kg_iald hx hb hK hw h_4 ((24 * k) + i) (by simp only [kn_lit, nI_add, pk_mul, nI_1]) (by omega) (by omega) dX11_at_111 ?_
              refine lv_i2l (v := (ce ((24 * k) + i)).toInt64) hx hb dX11_at_112 rfl ?_
              refine W.eq (congrArg (fun z => F0 m 113 ls [.long z]) (show ((ce ((24 * k) + i)).toInt64) = ((ce (24 * k + i)).toInt64) from by rfl)) ?_
              have hq_13 := h_5
              have hend := kw_eq1 hq_13 hfr_6
              rw [hend] at hw
              exact W.lret hx hb hr (fun t ht _ => ⟨rfl, by rw [ht]; exact hw.1, hw.2.2.1, hw.2.1.F ht, by rw [ht]; exact hw.2.2.2⟩) hw.2.1.2.2 dX11_at_113
            · exact absurd kI c_12
          · exact absurd c_11 ha1
        · exact absurd ha2 c_10
    · exact absurd hL c_8
set_option maxHeartbeats 4000000 in
set_option maxRecDepth 100000 in
theorem c_X11_begins (l : Launch) (D : va_G) (tc : Nat → ClassId) (sz : Nat) (ad : Nat → Nat) (ct : Nat → Option va_E) {N nt no nf : Nat} {ft tr b cm da bs : Int32} {g : Int64}                 {w : Int32} (h0 : ct 200 = some (.inr (11, [.int ft, .int tr, .int (nI N), .int b, .ref (ad 201), .long g, .int cm, .int da, .int (nI nt), .ref (ad 202), .ref (ad 203), .ref (ad 204), .ref (ad 205), .ref (ad 206), .ref (ad 207), .ref (ad 208), .ref (ad 209), .int (nI no), .ref (ad 210), .ref (ad 211), .ref (ad 212), .ref (ad 213), .ref (ad 214), .int bs, .int (nI nf), .ref (ad 215), .ref (ad 216)]))) : Met l yX11_begins wsX11_begins ({ frames := 0, cells := 0, slots := 0, locals := 0 }) (va_Pc [.ref (ad 200), .int w] (kw_B D tc sz ad ct)) (kw_Q D ad (kw_A ad ct sz) (none) (kw_up ct 200 (.inr (11, [.int ft, .int (31 * tr + w), .int (nI N), .int b, .ref (ad 201), .long g, .int cm, .int da, .int (nI nt), .ref (ad 202), .ref (ad 203), .ref (ad 204), .ref (ad 205), .ref (ad 206), .ref (ad 207), .ref (ad 208), .ref (ad 209), .int (nI no), .ref (ad 210), .ref (ad 211), .ref (ad 212), .ref (ad 213), .ref (ad 214), .int bs, .int (nI nf), .ref (ad 215), .ref (ad 216)]))) 0) 0 0 (kw_A ad ct sz) := by
  refine Met.ofW (cc := cX11_begins) (maxL := 2) (ret := none) (by decide) rfl ?_
  intro pg en s m args below meth cod s₁ B hml hv
  obtain ⟨rfl, hsz, hP0, hK⟩ := hv
  have hx := B.exec
  have hb := B.bytes
  have hr := B.returns
  have hts := atoms_spec (ws := wsX11_begins) B.pre
  have hown : s.vm.findClass RX11 = some m.cls := findClass_of_methodNamed B.named
  have hlocks := B.notSynchronized
  subst hsz
  have hw := kw_H.start hP0
  generalize hAe : kw_A ad ct s.heap.size = A at hw ⊢
  have hA : ∀ q, s.heap.size ≤ q → A q := fun q h => by rw [← hAe]; exact Or.inr h
  have hinX11 : ∀ w ∈ wsX110, w ∈ wsX11_begins := by decide +kernel
  have hl := lv_entry ([.ref (ad 200), .int w]) (n := 2) (Nat.le_of_ble_eq_true rfl)
  rw [lg_entry_eq]
  generalize (lg_sl ([.ref (ad 200), .int w]) ++ List.replicate (2 - (lg_sl ([.ref (ad 200), .int w])).length) Slot.unset).toArray = ls at hl ⊢
  have hl : lv_has ls 2 [(0, .ref (ad 200)), (1, .int w)] := hl
  have S0 : CallFix pg m cod cX11_begins 2 s _ wsX11_begins RX11 := ⟨hx, hb, hml, hown, hts⟩
  have hfr : ∀ j, j ≠ 200 → ct j = ct j := fun _ _ => rfl
  refine lv_aload_n hx hb dX11_begins_0 rfl (lv_at hl 0 rfl) ?_
  refine lv_bipush (v := 31) hx hb dX11_begins_1 (by decide) ?_
  refine lv_aload_n hx hb dX11_begins_3 rfl (lv_at hl 0 rfl) ?_
  refine kg_get (v := .int tr) (C := RX11) (T := TX11) (N := 27) hx hb hts hinX11 hown hK hw h0 rfl 1 (by decide) (hts (.fieldLink RX11 207 "BetMakerModel" "trace" "I") (by decide +kernel)) (fun _ h9 => h9) rfl dX11_begins_4 ?_
  refine lv_imul hx hb dX11_begins_7 ?_
  refine lv_iload_n hx hb dX11_begins_8 rfl (lv_at hl 1 rfl) ?_
  refine lv_iadd hx hb dX11_begins_9 ?_
  refine kg_put (v := .int ((31 * tr) + w)) (ty := .int) (C := RX11) (T := TX11) (N := 27) (fs' := [.int ft, .int ((31 * tr) + w), .int (nI N), .int b, .ref (ad 201), .long g, .int cm, .int da, .int (nI nt), .ref (ad 202), .ref (ad 203), .ref (ad 204), .ref (ad 205), .ref (ad 206), .ref (ad 207), .ref (ad 208), .ref (ad 209), .int (nI no), .ref (ad 210), .ref (ad 211), .ref (ad 212), .ref (ad 213), .ref (ad 214), .int bs, .int (nI nf), .ref (ad 215), .ref (ad 216)]) hx hb hts hinX11 tyX11 tyX11_ok nmX11 hown hK hw h0 rfl 1 (by decide) (hts (.fieldLink RX11 207 "BetMakerModel" "trace" "I") (by decide +kernel)) (fun _ h9 => h9) rfl (by decide +kernel) rfl rfl (Nat.le_of_ble_eq_true rfl) rfl dX11_begins_10 (fun H locs hw => ?_)
  obtain ⟨ct_1, ect_1⟩ : ∃ z, z = kw_up ct 200 (.inr (11, [.int ft, .int ((31 * tr) + w), .int (nI N), .int b, .ref (ad 201), .long g, .int cm, .int da, .int (nI nt), .ref (ad 202), .ref (ad 203), .ref (ad 204), .ref (ad 205), .ref (ad 206), .ref (ad 207), .ref (ad 208), .ref (ad 209), .int (nI no), .ref (ad 210), .ref (ad 211), .ref (ad 212), .ref (ad 213), .ref (ad 214), .int bs, .int (nI nf), .ref (ad 215), .ref (ad 216)])) := ⟨_, rfl⟩
  rw [← ect_1] at hw
  have h_2 : ct_1 200 = some (.inr (11, [.int ft, .int ((31 * tr) + w), .int (nI N), .int b, .ref (ad 201), .long g, .int cm, .int da, .int (nI nt), .ref (ad 202), .ref (ad 203), .ref (ad 204), .ref (ad 205), .ref (ad 206), .ref (ad 207), .ref (ad 208), .ref (ad 209), .int (nI no), .ref (ad 210), .ref (ad 211), .ref (ad 212), .ref (ad 213), .ref (ad 214), .int bs, .int (nI nf), .ref (ad 215), .ref (ad 216)])) := by rw [ect_1]; exact kw_up_s
  have hfr_3 : ∀ j, j ≠ 200 → ct_1 j = ct j := fun j a0 => by rw [ect_1]; exact (kw_up_n a0).trans (hfr j a0)
  have hq_4 : ct_1 200 = some (.inr (11, [.int ft, .int (31 * tr + w), .int (nI N), .int b, .ref (ad 201), .long g, .int cm, .int da, .int (nI nt), .ref (ad 202), .ref (ad 203), .ref (ad 204), .ref (ad 205), .ref (ad 206), .ref (ad 207), .ref (ad 208), .ref (ad 209), .int (nI no), .ref (ad 210), .ref (ad 211), .ref (ad 212), .ref (ad 213), .ref (ad 214), .int bs, .int (nI nf), .ref (ad 215), .ref (ad 216)])) := h_2.trans (congrArg some (show (.inr (11, [.int ft, .int ((31 * tr) + w), .int (nI N), .int b, .ref (ad 201), .long g, .int cm, .int da, .int (nI nt), .ref (ad 202), .ref (ad 203), .ref (ad 204), .ref (ad 205), .ref (ad 206), .ref (ad 207), .ref (ad 208), .ref (ad 209), .int (nI no), .ref (ad 210), .ref (ad 211), .ref (ad 212), .ref (ad 213), .ref (ad 214), .int bs, .int (nI nf), .ref (ad 215), .ref (ad 216)]) : va_E) = .inr (11, [.int ft, .int (31 * tr + w), .int (nI N), .int b, .ref (ad 201), .long g, .int cm, .int da, .int (nI nt), .ref (ad 202), .ref (ad 203), .ref (ad 204), .ref (ad 205), .ref (ad 206), .ref (ad 207), .ref (ad 208), .ref (ad 209), .int (nI no), .ref (ad 210), .ref (ad 211), .ref (ad 212), .ref (ad 213), .ref (ad 214), .int bs, .int (nI nf), .ref (ad 215), .ref (ad 216)]) from by rfl))
  have hend := kw_eq1 hq_4 hfr_3
  rw [hend] at hw
  exact W.vret hx hb hr (fun t ht _ => ⟨rfl, by rw [ht]; exact hw.1, hw.2.2.1, hw.2.1.F ht, by rw [ht]; exact hw.2.2.2⟩) hw.2.1.2.2 dX11_begins_13
set_option maxHeartbeats 4000000 in
set_option maxRecDepth 100000 in
theorem c_X11_tell_u (l : Launch) (D : va_G) (tc : Nat → ClassId) (sz : Nat) (ad : Nat → Nat) (ct : Nat → Option va_E) {N nt no nf : Nat} {ft tr b cm da bs : Int32} {g : Int64}                 {t : Int32} (h0 : ct 200 = some (.inr (11, [.int ft, .int tr, .int (nI N), .int b, .ref (ad 201), .long g, .int cm, .int da, .int (nI nt), .ref (ad 202), .ref (ad 203), .ref (ad 204), .ref (ad 205), .ref (ad 206), .ref (ad 207), .ref (ad 208), .ref (ad 209), .int (nI no), .ref (ad 210), .ref (ad 211), .ref (ad 212), .ref (ad 213), .ref (ad 214), .int bs, .int (nI nf), .ref (ad 215), .ref (ad 216)]))) (ht : ¬ (0 ≤ t ∧ t < nI nt)) : Met l yX11_tell wsX11_tell ({ frames := 1, cells := 0, slots := 0, locals := 25 }) (va_Pc [.ref (ad 200), .int t] (kw_B D tc sz ad ct)) (k2_QcV (.int (-1))) 0 0 (fun _ => False) := by
  refine Met.ofW (cc := cX11_tell) (maxL := 2) (ret := (some .int)) (by decide) rfl ?_
  intro pg en s m args below meth cod s₁ B hml hv
  obtain ⟨rfl, hsz, hP0, hK⟩ := hv
  have hx := B.exec
  have hb := B.bytes
  have hr := B.returns
  have hts := atoms_spec (ws := wsX11_tell) B.pre
  have hown : s.vm.findClass RX11 = some m.cls := findClass_of_methodNamed B.named
  have hlocks := B.notSynchronized
  subst hsz
  have hw := kw_H.start hP0
  generalize kw_A ad ct s.heap.size = A at hw
  have hinX11 : ∀ w ∈ wsX110, w ∈ wsX11_tell := by decide +kernel
  have hl := lv_entry ([.ref (ad 200), .int t]) (n := 2) (Nat.le_of_ble_eq_true rfl)
  rw [lg_entry_eq]
  generalize (lg_sl ([.ref (ad 200), .int t]) ++ List.replicate (2 - (lg_sl ([.ref (ad 200), .int t])).length) Slot.unset).toArray = ls at hl ⊢
  have hl : lv_has ls 2 [(0, .ref (ad 200)), (1, .int t)] := hl
  have S0 : CallFix pg m cod cX11_tell 2 s _ wsX11_tell RX11 := ⟨hx, hb, hml, hown, hts⟩
  refine lv_aload_n hx hb dX11_tell_0 rfl (lv_at hl 0 rfl) ?_
  refine lv_iload_n hx hb dX11_tell_1 rfl (lv_at hl 1 rfl) ?_
  refine kc_v (As := [.int t]) (rest := []) S0 (c_X11_isTrader l D tc s.heap.size ad ct (N := N) (nt := nt) (no := no) (nf := nf) h0) (cwV 1 hts gX11_tell_X11_isTrader rfl rfl rfl (by decide +kernel) ⟨Nat.le_of_ble_eq_true rfl, Nat.le_of_ble_eq_true rfl⟩) hK hw h0 rfl rfl hl.1 rfl (Nat.le_of_ble_eq_true rfl) dX11_tell_2 ⟨Nat.le_of_ble_eq_true rfl, (Nat.le_of_ble_eq_true rfl)⟩ ?_
  refine kb_ifne (tgt := 10) hx hb dX11_tell_5 (by decide) (fun c_1 => ?_) (fun c_1 => ?_)
  · exact absurd c_1 ht
  · refine lv_iconst (v := (-1)) hx hb dX11_tell_8 (by decide) ?_
    exact W.iret hx hb hr (fun t ht _ => ⟨rfl, ht⟩) (fun _ h => absurd h List.not_mem_nil) dX11_tell_9
set_option maxHeartbeats 4000000 in
set_option maxRecDepth 100000 in
theorem c_X11_tell_1 (l : Launch) (D : va_G) (tc : Nat → ClassId) (sz : Nat) (ad : Nat → Nat) (ct : Nat → Option va_E) {N nt no nf : Nat} {ft tr b cm da bs : Int32} {g : Int64}  {kd : Nat → Int32}  {de : Nat → Int32}             {t : Nat} (h0 : ct 200 = some (.inr (11, [.int ft, .int tr, .int (nI N), .int b, .ref (ad 201), .long g, .int cm, .int da, .int (nI nt), .ref (ad 202), .ref (ad 203), .ref (ad 204), .ref (ad 205), .ref (ad 206), .ref (ad 207), .ref (ad 208), .ref (ad 209), .int (nI no), .ref (ad 210), .ref (ad 211), .ref (ad 212), .ref (ad 213), .ref (ad 214), .int bs, .int (nI nf), .ref (ad 215), .ref (ad 216)]))) (h202 : ct 202 = some (eI tc 6 kd)) (h204 : ct 204 = some (eI tc 6 de)) (ht : t < nt) (hnt : nt ≤ 6) (hk1 : kd t = 1) : Met l yX11_tell wsX11_tell ({ frames := 1, cells := 0, slots := 0, locals := 25 }) (va_Pc [.ref (ad 200), .int (nI t)] (kw_B D tc sz ad ct)) (kw_Q D ad (kw_A ad ct sz) (some (.int (de t + 100))) (kw_up ct 200 (.inr (11, [.int ft, .int (31 * (31 * tr + 2) + 1), .int (nI N), .int b, .ref (ad 201), .long g, .int cm, .int da, .int (nI nt), .ref (ad 202), .ref (ad 203), .ref (ad 204), .ref (ad 205), .ref (ad 206), .ref (ad 207), .ref (ad 208), .ref (ad 209), .int (nI no), .ref (ad 210), .ref (ad 211), .ref (ad 212), .ref (ad 213), .ref (ad 214), .int bs, .int (nI nf), .ref (ad 215), .ref (ad 216)]))) 0) 0 0 (kw_A ad ct sz) := by
  refine Met.ofW (cc := cX11_tell) (maxL := 2) (ret := (some .int)) (by decide) rfl ?_
  intro pg en s m args below meth cod s₁ B hml hv
  obtain ⟨rfl, hsz, hP0, hK⟩ := hv
  have hx := B.exec
  have hb := B.bytes
  have hr := B.returns
  have hts := atoms_spec (ws := wsX11_tell) B.pre
  have hown : s.vm.findClass RX11 = some m.cls := findClass_of_methodNamed B.named
  have hlocks := B.notSynchronized
  subst hsz
  have hw := kw_H.start hP0
  generalize hAe : kw_A ad ct s.heap.size = A at hw ⊢
  have hA : ∀ q, s.heap.size ≤ q → A q := fun q h => by rw [← hAe]; exact Or.inr h
  have hinX11 : ∀ w ∈ wsX110, w ∈ wsX11_tell := by decide +kernel
  have hl := lv_entry ([.ref (ad 200), .int (nI t)]) (n := 2) (Nat.le_of_ble_eq_true rfl)
  rw [lg_entry_eq]
  generalize (lg_sl ([.ref (ad 200), .int (nI t)]) ++ List.replicate (2 - (lg_sl ([.ref (ad 200), .int (nI t)])).length) Slot.unset).toArray = ls at hl ⊢
  have hl : lv_has ls 2 [(0, .ref (ad 200)), (1, .int (nI t))] := hl
  have S0 : CallFix pg m cod cX11_tell 2 s _ wsX11_tell RX11 := ⟨hx, hb, hml, hown, hts⟩
  have hfr : ∀ j, j ≠ 200 → ct j = ct j := fun _ _ => rfl
  have kT : 0 ≤ nI t ∧ nI t < nI nt := ⟨nI_pos' (by omega), nI_lt ht (by omega)⟩
  refine lv_aload_n hx hb dX11_tell_0 rfl (lv_at hl 0 rfl) ?_
  refine lv_iload_n hx hb dX11_tell_1 rfl (lv_at hl 1 rfl) ?_
  refine kc_v (As := [.int (nI t)]) (rest := []) S0 (c_X11_isTrader l D tc s.heap.size ad ct (N := N) (nt := nt) (no := no) (nf := nf) h0) (cwV 1 hts gX11_tell_X11_isTrader rfl rfl rfl (by decide +kernel) ⟨Nat.le_of_ble_eq_true rfl, Nat.le_of_ble_eq_true rfl⟩) hK hw h0 rfl rfl hl.1 rfl (Nat.le_of_ble_eq_true rfl) dX11_tell_2 ⟨Nat.le_of_ble_eq_true rfl, (Nat.le_of_ble_eq_true rfl)⟩ ?_
  refine kb_ifne (tgt := 10) hx hb dX11_tell_5 (by decide) (fun c_1 => ?_) (fun c_1 => ?_)
  · refine lv_aload_n hx hb dX11_tell_10 rfl (lv_at hl 0 rfl) ?_
    refine kg_get (v := .ref (ad 202)) (C := RX11) (T := TX11) (N := 27) hx hb hts hinX11 hown hK hw h0 rfl 9 (by decide) (hts (.fieldLink RX11 23 "BetMakerModel" "kinds" "[I") (by decide +kernel)) (fun _ h9 => h9) rfl dX11_tell_11 ?_
    refine lv_iload_n hx hb dX11_tell_14 rfl (lv_at hl 1 rfl) ?_
    refine kg_iald hx hb hK hw h202 t rfl (by omega) (by omega) dX11_tell_15 ?_
    refine lv_lookup (off := 28) (tgt := 44) hx hb dX11_tell_16 (by decide) (by rw [hk1]; decide) (by decide) ?_
    refine lv_aload_n hx hb dX11_tell_44 rfl (lv_at hl 0 rfl) ?_
    refine lv_iconst (v := 2) hx hb dX11_tell_45 (by decide) ?_
    refine kc_vu (As := [.int 2]) (rest := []) S0 (c_X11_begins l D tc s.heap.size ad ct (N := N) (nt := nt) (no := no) (nf := nf) h0) (cwV 1 hts gX11_tell_X11_begins rfl rfl rfl (by decide +kernel) ⟨Nat.le_of_ble_eq_true rfl, Nat.le_of_ble_eq_true rfl⟩) hK hw hA h0 rfl rfl hl.1 rfl (Nat.le_of_ble_eq_true rfl) dX11_tell_46 ⟨Nat.le_of_ble_eq_true rfl, (Nat.le_of_ble_eq_true rfl)⟩ (fun H locs hw => ?_)
    obtain ⟨ct_3, ect_3⟩ : ∃ z, z = kw_up ct 200 (.inr (11, [.int ft, .int (31 * tr + 2), .int (nI N), .int b, .ref (ad 201), .long g, .int cm, .int da, .int (nI nt), .ref (ad 202), .ref (ad 203), .ref (ad 204), .ref (ad 205), .ref (ad 206), .ref (ad 207), .ref (ad 208), .ref (ad 209), .int (nI no), .ref (ad 210), .ref (ad 211), .ref (ad 212), .ref (ad 213), .ref (ad 214), .int bs, .int (nI nf), .ref (ad 215), .ref (ad 216)])) := ⟨_, rfl⟩
    rw [← ect_3] at hw
    have h_4 : ct_3 202 = some (eI tc 6 kd) := by rw [ect_3, kw_up_n (by decide)]; exact h202
    have h_5 : ct_3 204 = some (eI tc 6 de) := by rw [ect_3, kw_up_n (by decide)]; exact h204
    have h_6 : ct_3 200 = some (.inr (11, [.int ft, .int (31 * tr + 2), .int (nI N), .int b, .ref (ad 201), .long g, .int cm, .int da, .int (nI nt), .ref (ad 202), .ref (ad 203), .ref (ad 204), .ref (ad 205), .ref (ad 206), .ref (ad 207), .ref (ad 208), .ref (ad 209), .int (nI no), .ref (ad 210), .ref (ad 211), .ref (ad 212), .ref (ad 213), .ref (ad 214), .int bs, .int (nI nf), .ref (ad 215), .ref (ad 216)])) := by rw [ect_3]; exact kw_up_s
    have hfr_7 : ∀ j, j ≠ 200 → ct_3 j = ct j := fun j a0 => by rw [ect_3]; exact (kw_up_n a0).trans (hfr j a0)
    refine lv_aload_n hx hb dX11_tell_49 rfl (lv_at hl 0 rfl) ?_
    refine lv_iconst (v := 1) hx hb dX11_tell_50 (by decide) ?_
    refine kc_vu (As := [.int 1]) (rest := []) S0 (c_X11_begins l D tc s.heap.size ad ct_3 (N := N) (nt := nt) (no := no) (nf := nf) h_6) (cwV 1 hts gX11_tell_X11_begins rfl rfl rfl (by decide +kernel) ⟨Nat.le_of_ble_eq_true rfl, Nat.le_of_ble_eq_true rfl⟩) hK hw hA h_6 rfl rfl hl.1 rfl (Nat.le_of_ble_eq_true rfl) dX11_tell_51 ⟨Nat.le_of_ble_eq_true rfl, (Nat.le_of_ble_eq_true rfl)⟩ (fun H locs hw => ?_)
    obtain ⟨ct_8, ect_8⟩ : ∃ z, z = kw_up ct_3 200 (.inr (11, [.int ft, .int (31 * (31 * tr + 2) + 1), .int (nI N), .int b, .ref (ad 201), .long g, .int cm, .int da, .int (nI nt), .ref (ad 202), .ref (ad 203), .ref (ad 204), .ref (ad 205), .ref (ad 206), .ref (ad 207), .ref (ad 208), .ref (ad 209), .int (nI no), .ref (ad 210), .ref (ad 211), .ref (ad 212), .ref (ad 213), .ref (ad 214), .int bs, .int (nI nf), .ref (ad 215), .ref (ad 216)])) := ⟨_, rfl⟩
    rw [← ect_8] at hw
    have h_9 : ct_8 202 = some (eI tc 6 kd) := by rw [ect_8, kw_up_n (by decide)]; exact h_4
    have h_10 : ct_8 204 = some (eI tc 6 de) := by rw [ect_8, kw_up_n (by decide)]; exact h_5
    have h_11 : ct_8 200 = some (.inr (11, [.int ft, .int (31 * (31 * tr + 2) + 1), .int (nI N), .int b, .ref (ad 201), .long g, .int cm, .int da, .int (nI nt), .ref (ad 202), .ref (ad 203), .ref (ad 204), .ref (ad 205), .ref (ad 206), .ref (ad 207), .ref (ad 208), .ref (ad 209), .int (nI no), .ref (ad 210), .ref (ad 211), .ref (ad 212), .ref (ad 213), .ref (ad 214), .int bs, .int (nI nf), .ref (ad 215), .ref (ad 216)])) := by rw [ect_8]; exact kw_up_s
    have hfr_12 : ∀ j, j ≠ 200 → ct_8 j = ct j := fun j a0 => by rw [ect_8]; exact (kw_up_n a0).trans (hfr_7 j a0)
    refine lv_aload_n hx hb dX11_tell_54 rfl (lv_at hl 0 rfl) ?_
    refine kg_get (v := .ref (ad 204)) (C := RX11) (T := TX11) (N := 27) hx hb hts hinX11 hown hK hw h_11 rfl 11 (by decide) (hts (.fieldLink RX11 30 "BetMakerModel" "deals" "[I") (by decide +kernel)) (fun _ h9 => h9) rfl dX11_tell_55 ?_
    refine lv_iload_n hx hb dX11_tell_58 rfl (lv_at hl 1 rfl) ?_
    refine kg_iald hx hb hK hw h_10 t rfl (by omega) (by omega) dX11_tell_59 ?_
    refine lv_bipush (v := 100) hx hb dX11_tell_60 (by decide) ?_
    refine lv_iadd hx hb dX11_tell_62 ?_
    refine W.eq (congrArg (fun z => F0 m 63 ls [.int z]) (show ((de t) + 100) = (de t + 100) from by rfl)) ?_
    have hq_13 := h_11
    have hend := kw_eq1 hq_13 hfr_12
    rw [hend] at hw
    exact W.iret hx hb hr (fun t ht _ => ⟨rfl, by rw [ht]; exact hw.1, hw.2.2.1, hw.2.1.F ht, by rw [ht]; exact hw.2.2.2⟩) hw.2.1.2.2 dX11_tell_63
  · exact absurd kT c_1
set_option maxHeartbeats 4000000 in
set_option maxRecDepth 100000 in
theorem c_X11_tell_2 (l : Launch) (D : va_G) (tc : Nat → ClassId) (sz : Nat) (ad : Nat → Nat) (ct : Nat → Option va_E) {N nt no nf : Nat} {ft tr b cm da bs : Int32} {g : Int64}  {kd : Nat → Int32}  {de : Nat → Int32}             {t : Nat} (h0 : ct 200 = some (.inr (11, [.int ft, .int tr, .int (nI N), .int b, .ref (ad 201), .long g, .int cm, .int da, .int (nI nt), .ref (ad 202), .ref (ad 203), .ref (ad 204), .ref (ad 205), .ref (ad 206), .ref (ad 207), .ref (ad 208), .ref (ad 209), .int (nI no), .ref (ad 210), .ref (ad 211), .ref (ad 212), .ref (ad 213), .ref (ad 214), .int bs, .int (nI nf), .ref (ad 215), .ref (ad 216)]))) (h202 : ct 202 = some (eI tc 6 kd)) (h204 : ct 204 = some (eI tc 6 de)) (ht : t < nt) (hnt : nt ≤ 6) (hk2 : kd t = 2) : Met l yX11_tell wsX11_tell ({ frames := 1, cells := 0, slots := 0, locals := 25 }) (va_Pc [.ref (ad 200), .int (nI t)] (kw_B D tc sz ad ct)) (kw_Q D ad (kw_A ad ct sz) (some (.int (2 * de t + 100))) (kw_up ct 200 (.inr (11, [.int ft, .int (31 * (31 * (31 * (31 * tr + 3) + 2) + 1) + 1), .int (nI N), .int b, .ref (ad 201), .long g, .int cm, .int da, .int (nI nt), .ref (ad 202), .ref (ad 203), .ref (ad 204), .ref (ad 205), .ref (ad 206), .ref (ad 207), .ref (ad 208), .ref (ad 209), .int (nI no), .ref (ad 210), .ref (ad 211), .ref (ad 212), .ref (ad 213), .ref (ad 214), .int bs, .int (nI nf), .ref (ad 215), .ref (ad 216)]))) 0) 0 0 (kw_A ad ct sz) := by
  refine Met.ofW (cc := cX11_tell) (maxL := 2) (ret := (some .int)) (by decide) rfl ?_
  intro pg en s m args below meth cod s₁ B hml hv
  obtain ⟨rfl, hsz, hP0, hK⟩ := hv
  have hx := B.exec
  have hb := B.bytes
  have hr := B.returns
  have hts := atoms_spec (ws := wsX11_tell) B.pre
  have hown : s.vm.findClass RX11 = some m.cls := findClass_of_methodNamed B.named
  have hlocks := B.notSynchronized
  subst hsz
  have hw := kw_H.start hP0
  generalize hAe : kw_A ad ct s.heap.size = A at hw ⊢
  have hA : ∀ q, s.heap.size ≤ q → A q := fun q h => by rw [← hAe]; exact Or.inr h
  have hinX11 : ∀ w ∈ wsX110, w ∈ wsX11_tell := by decide +kernel
  have hl := lv_entry ([.ref (ad 200), .int (nI t)]) (n := 2) (Nat.le_of_ble_eq_true rfl)
  rw [lg_entry_eq]
  generalize (lg_sl ([.ref (ad 200), .int (nI t)]) ++ List.replicate (2 - (lg_sl ([.ref (ad 200), .int (nI t)])).length) Slot.unset).toArray = ls at hl ⊢
  have hl : lv_has ls 2 [(0, .ref (ad 200)), (1, .int (nI t))] := hl
  have S0 : CallFix pg m cod cX11_tell 2 s _ wsX11_tell RX11 := ⟨hx, hb, hml, hown, hts⟩
  have hfr : ∀ j, j ≠ 200 → ct j = ct j := fun _ _ => rfl
  have kT : 0 ≤ nI t ∧ nI t < nI nt := ⟨nI_pos' (by omega), nI_lt ht (by omega)⟩
  have hk1 : ¬ (kd t = 1) := by rw [hk2]; decide
  refine lv_aload_n hx hb dX11_tell_0 rfl (lv_at hl 0 rfl) ?_
  refine lv_iload_n hx hb dX11_tell_1 rfl (lv_at hl 1 rfl) ?_
  refine kc_v (As := [.int (nI t)]) (rest := []) S0 (c_X11_isTrader l D tc s.heap.size ad ct (N := N) (nt := nt) (no := no) (nf := nf) h0) (cwV 1 hts gX11_tell_X11_isTrader rfl rfl rfl (by decide +kernel) ⟨Nat.le_of_ble_eq_true rfl, Nat.le_of_ble_eq_true rfl⟩) hK hw h0 rfl rfl hl.1 rfl (Nat.le_of_ble_eq_true rfl) dX11_tell_2 ⟨Nat.le_of_ble_eq_true rfl, (Nat.le_of_ble_eq_true rfl)⟩ ?_
  refine kb_ifne (tgt := 10) hx hb dX11_tell_5 (by decide) (fun c_1 => ?_) (fun c_1 => ?_)
  · refine lv_aload_n hx hb dX11_tell_10 rfl (lv_at hl 0 rfl) ?_
    refine kg_get (v := .ref (ad 202)) (C := RX11) (T := TX11) (N := 27) hx hb hts hinX11 hown hK hw h0 rfl 9 (by decide) (hts (.fieldLink RX11 23 "BetMakerModel" "kinds" "[I") (by decide +kernel)) (fun _ h9 => h9) rfl dX11_tell_11 ?_
    refine lv_iload_n hx hb dX11_tell_14 rfl (lv_at hl 1 rfl) ?_
    refine kg_iald hx hb hK hw h202 t rfl (by omega) (by omega) dX11_tell_15 ?_
    refine lv_lookup (off := 48) (tgt := 64) hx hb dX11_tell_16 (by decide) (by rw [hk2]; decide) (by decide) ?_
    refine lv_aload_n hx hb dX11_tell_64 rfl (lv_at hl 0 rfl) ?_
    refine lv_iconst (v := 3) hx hb dX11_tell_65 (by decide) ?_
    refine kc_vu (As := [.int 3]) (rest := []) S0 (c_X11_begins l D tc s.heap.size ad ct (N := N) (nt := nt) (no := no) (nf := nf) h0) (cwV 1 hts gX11_tell_X11_begins rfl rfl rfl (by decide +kernel) ⟨Nat.le_of_ble_eq_true rfl, Nat.le_of_ble_eq_true rfl⟩) hK hw hA h0 rfl rfl hl.1 rfl (Nat.le_of_ble_eq_true rfl) dX11_tell_66 ⟨Nat.le_of_ble_eq_true rfl, (Nat.le_of_ble_eq_true rfl)⟩ (fun H locs hw => ?_)
    obtain ⟨ct_4, ect_4⟩ : ∃ z, z = kw_up ct 200 (.inr (11, [.int ft, .int (31 * tr + 3), .int (nI N), .int b, .ref (ad 201), .long g, .int cm, .int da, .int (nI nt), .ref (ad 202), .ref (ad 203), .ref (ad 204), .ref (ad 205), .ref (ad 206), .ref (ad 207), .ref (ad 208), .ref (ad 209), .int (nI no), .ref (ad 210), .ref (ad 211), .ref (ad 212), .ref (ad 213), .ref (ad 214), .int bs, .int (nI nf), .ref (ad 215), .ref (ad 216)])) := ⟨_, rfl⟩
    rw [← ect_4] at hw
    have h_5 : ct_4 202 = some (eI tc 6 kd) := by rw [ect_4, kw_up_n (by decide)]; exact h202
    have h_6 : ct_4 204 = some (eI tc 6 de) := by rw [ect_4, kw_up_n (by decide)]; exact h204
    have h_7 : ct_4 200 = some (.inr (11, [.int ft, .int (31 * tr + 3), .int (nI N), .int b, .ref (ad 201), .long g, .int cm, .int da, .int (nI nt), .ref (ad 202), .ref (ad 203), .ref (ad 204), .ref (ad 205), .ref (ad 206), .ref (ad 207), .ref (ad 208), .ref (ad 209), .int (nI no), .ref (ad 210), .ref (ad 211), .ref (ad 212), .ref (ad 213), .ref (ad 214), .int bs, .int (nI nf), .ref (ad 215), .ref (ad 216)])) := by rw [ect_4]; exact kw_up_s
    have hfr_8 : ∀ j, j ≠ 200 → ct_4 j = ct j := fun j a0 => by rw [ect_4]; exact (kw_up_n a0).trans (hfr j a0)
    refine lv_aload_n hx hb dX11_tell_69 rfl (lv_at hl 0 rfl) ?_
    refine lv_iconst (v := 2) hx hb dX11_tell_70 (by decide) ?_
    refine kc_vu (As := [.int 2]) (rest := []) S0 (c_X11_begins l D tc s.heap.size ad ct_4 (N := N) (nt := nt) (no := no) (nf := nf) h_7) (cwV 1 hts gX11_tell_X11_begins rfl rfl rfl (by decide +kernel) ⟨Nat.le_of_ble_eq_true rfl, Nat.le_of_ble_eq_true rfl⟩) hK hw hA h_7 rfl rfl hl.1 rfl (Nat.le_of_ble_eq_true rfl) dX11_tell_71 ⟨Nat.le_of_ble_eq_true rfl, (Nat.le_of_ble_eq_true rfl)⟩ (fun H locs hw => ?_)
    obtain ⟨ct_9, ect_9⟩ : ∃ z, z = kw_up ct_4 200 (.inr (11, [.int ft, .int (31 * (31 * tr + 3) + 2), .int (nI N), .int b, .ref (ad 201), .long g, .int cm, .int da, .int (nI nt), .ref (ad 202), .ref (ad 203), .ref (ad 204), .ref (ad 205), .ref (ad 206), .ref (ad 207), .ref (ad 208), .ref (ad 209), .int (nI no), .ref (ad 210), .ref (ad 211), .ref (ad 212), .ref (ad 213), .ref (ad 214), .int bs, .int (nI nf), .ref (ad 215), .ref (ad 216)])) := ⟨_, rfl⟩
    rw [← ect_9] at hw
    have h_10 : ct_9 202 = some (eI tc 6 kd) := by rw [ect_9, kw_up_n (by decide)]; exact h_5
    have h_11 : ct_9 204 = some (eI tc 6 de) := by rw [ect_9, kw_up_n (by decide)]; exact h_6
    have h_12 : ct_9 200 = some (.inr (11, [.int ft, .int (31 * (31 * tr + 3) + 2), .int (nI N), .int b, .ref (ad 201), .long g, .int cm, .int da, .int (nI nt), .ref (ad 202), .ref (ad 203), .ref (ad 204), .ref (ad 205), .ref (ad 206), .ref (ad 207), .ref (ad 208), .ref (ad 209), .int (nI no), .ref (ad 210), .ref (ad 211), .ref (ad 212), .ref (ad 213), .ref (ad 214), .int bs, .int (nI nf), .ref (ad 215), .ref (ad 216)])) := by rw [ect_9]; exact kw_up_s
    have hfr_13 : ∀ j, j ≠ 200 → ct_9 j = ct j := fun j a0 => by rw [ect_9]; exact (kw_up_n a0).trans (hfr_8 j a0)
    refine lv_aload_n hx hb dX11_tell_74 rfl (lv_at hl 0 rfl) ?_
    refine lv_iconst (v := 1) hx hb dX11_tell_75 (by decide) ?_
    refine kc_vu (As := [.int 1]) (rest := []) S0 (c_X11_begins l D tc s.heap.size ad ct_9 (N := N) (nt := nt) (no := no) (nf := nf) h_12) (cwV 1 hts gX11_tell_X11_begins rfl rfl rfl (by decide +kernel) ⟨Nat.le_of_ble_eq_true rfl, Nat.le_of_ble_eq_true rfl⟩) hK hw hA h_12 rfl rfl hl.1 rfl (Nat.le_of_ble_eq_true rfl) dX11_tell_76 ⟨Nat.le_of_ble_eq_true rfl, (Nat.le_of_ble_eq_true rfl)⟩ (fun H locs hw => ?_)
    obtain ⟨ct_14, ect_14⟩ : ∃ z, z = kw_up ct_9 200 (.inr (11, [.int ft, .int (31 * (31 * (31 * tr + 3) + 2) + 1), .int (nI N), .int b, .ref (ad 201), .long g, .int cm, .int da, .int (nI nt), .ref (ad 202), .ref (ad 203), .ref (ad 204), .ref (ad 205), .ref (ad 206), .ref (ad 207), .ref (ad 208), .ref (ad 209), .int (nI no), .ref (ad 210), .ref (ad 211), .ref (ad 212), .ref (ad 213), .ref (ad 214), .int bs, .int (nI nf), .ref (ad 215), .ref (ad 216)])) := ⟨_, rfl⟩
    rw [← ect_14] at hw
    have h_15 : ct_14 202 = some (eI tc 6 kd) := by rw [ect_14, kw_up_n (by decide)]; exact h_10
    have h_16 : ct_14 204 = some (eI tc 6 de) := by rw [ect_14, kw_up_n (by decide)]; exact h_11
    have h_17 : ct_14 200 = some (.inr (11, [.int ft, .int (31 * (31 * (31 * tr + 3) + 2) + 1), .int (nI N), .int b, .ref (ad 201), .long g, .int cm, .int da, .int (nI nt), .ref (ad 202), .ref (ad 203), .ref (ad 204), .ref (ad 205), .ref (ad 206), .ref (ad 207), .ref (ad 208), .ref (ad 209), .int (nI no), .ref (ad 210), .ref (ad 211), .ref (ad 212), .ref (ad 213), .ref (ad 214), .int bs, .int (nI nf), .ref (ad 215), .ref (ad 216)])) := by rw [ect_14]; exact kw_up_s
    have hfr_18 : ∀ j, j ≠ 200 → ct_14 j = ct j := fun j a0 => by rw [ect_14]; exact (kw_up_n a0).trans (hfr_13 j a0)
    refine lv_aload_n hx hb dX11_tell_79 rfl (lv_at hl 0 rfl) ?_
    refine lv_iconst (v := 1) hx hb dX11_tell_80 (by decide) ?_
    refine kc_vu (As := [.int 1]) (rest := []) S0 (c_X11_begins l D tc s.heap.size ad ct_14 (N := N) (nt := nt) (no := no) (nf := nf) h_17) (cwV 1 hts gX11_tell_X11_begins rfl rfl rfl (by decide +kernel) ⟨Nat.le_of_ble_eq_true rfl, Nat.le_of_ble_eq_true rfl⟩) hK hw hA h_17 rfl rfl hl.1 rfl (Nat.le_of_ble_eq_true rfl) dX11_tell_81 ⟨Nat.le_of_ble_eq_true rfl, (Nat.le_of_ble_eq_true rfl)⟩ (fun H locs hw => ?_)
    obtain ⟨ct_19, ect_19⟩ : ∃ z, z = kw_up ct_14 200 (.inr (11, [.int ft, .int (31 * (31 * (31 * (31 * tr + 3) + 2) + 1) + 1), .int (nI N), .int b, .ref (ad 201), .long g, .int cm, .int da, .int (nI nt), .ref (ad 202), .ref (ad 203), .ref (ad 204), .ref (ad 205), .ref (ad 206), .ref (ad 207), .ref (ad 208), .ref (ad 209), .int (nI no), .ref (ad 210), .ref (ad 211), .ref (ad 212), .ref (ad 213), .ref (ad 214), .int bs, .int (nI nf), .ref (ad 215), .ref (ad 216)])) := ⟨_, rfl⟩
    rw [← ect_19] at hw
    have h_20 : ct_19 202 = some (eI tc 6 kd) := by rw [ect_19, kw_up_n (by decide)]; exact h_15
    have h_21 : ct_19 204 = some (eI tc 6 de) := by rw [ect_19, kw_up_n (by decide)]; exact h_16
    have h_22 : ct_19 200 = some (.inr (11, [.int ft, .int (31 * (31 * (31 * (31 * tr + 3) + 2) + 1) + 1), .int (nI N), .int b, .ref (ad 201), .long g, .int cm, .int da, .int (nI nt), .ref (ad 202), .ref (ad 203), .ref (ad 204), .ref (ad 205), .ref (ad 206), .ref (ad 207), .ref (ad 208), .ref (ad 209), .int (nI no), .ref (ad 210), .ref (ad 211), .ref (ad 212), .ref (ad 213), .ref (ad 214), .int bs, .int (nI nf), .ref (ad 215), .ref (ad 216)])) := by rw [ect_19]; exact kw_up_s
    have hfr_23 : ∀ j, j ≠ 200 → ct_19 j = ct j := fun j a0 => by rw [ect_19]; exact (kw_up_n a0).trans (hfr_18 j a0)
    refine lv_iconst (v := 2) hx hb dX11_tell_84 (by decide) ?_
    refine lv_aload_n hx hb dX11_tell_85 rfl (lv_at hl 0 rfl) ?_
    refine kg_get (v := .ref (ad 204)) (C := RX11) (T := TX11) (N := 27) hx hb hts hinX11 hown hK hw h_22 rfl 11 (by decide) (hts (.fieldLink RX11 30 "BetMakerModel" "deals" "[I") (by decide +kernel)) (fun _ h9 => h9) rfl dX11_tell_86 ?_
    refine lv_iload_n hx hb dX11_tell_89 rfl (lv_at hl 1 rfl) ?_
    refine kg_iald hx hb hK hw h_21 t rfl (by omega) (by omega) dX11_tell_90 ?_
    refine lv_imul hx hb dX11_tell_91 ?_
    refine lv_bipush (v := 100) hx hb dX11_tell_92 (by decide) ?_
    refine lv_iadd hx hb dX11_tell_94 ?_
    refine W.eq (congrArg (fun z => F0 m 95 ls [.int z]) (show ((2 * (de t)) + 100) = (2 * de t + 100) from by rfl)) ?_
    have hq_24 := h_22
    have hend := kw_eq1 hq_24 hfr_23
    rw [hend] at hw
    exact W.iret hx hb hr (fun t ht _ => ⟨rfl, by rw [ht]; exact hw.1, hw.2.2.1, hw.2.1.F ht, by rw [ht]; exact hw.2.2.2⟩) hw.2.1.2.2 dX11_tell_95
  · exact absurd kT c_1
set_option maxHeartbeats 4000000 in
set_option maxRecDepth 100000 in
theorem c_X11_tell_0 (l : Launch) (D : va_G) (tc : Nat → ClassId) (sz : Nat) (ad : Nat → Nat) (ct : Nat → Option va_E) {N nt no nf : Nat} {ft tr b cm da bs : Int32} {g : Int64}  {kd : Nat → Int32}  {de : Nat → Int32}             {t : Nat} (h0 : ct 200 = some (.inr (11, [.int ft, .int tr, .int (nI N), .int b, .ref (ad 201), .long g, .int cm, .int da, .int (nI nt), .ref (ad 202), .ref (ad 203), .ref (ad 204), .ref (ad 205), .ref (ad 206), .ref (ad 207), .ref (ad 208), .ref (ad 209), .int (nI no), .ref (ad 210), .ref (ad 211), .ref (ad 212), .ref (ad 213), .ref (ad 214), .int bs, .int (nI nf), .ref (ad 215), .ref (ad 216)]))) (h202 : ct 202 = some (eI tc 6 kd)) (h204 : ct 204 = some (eI tc 6 de)) (ht : t < nt) (hnt : nt ≤ 6) (hk1 : ¬ (kd t = 1)) (hk2 : ¬ (kd t = 2)) : Met l yX11_tell wsX11_tell ({ frames := 1, cells := 0, slots := 0, locals := 25 }) (va_Pc [.ref (ad 200), .int (nI t)] (kw_B D tc sz ad ct)) (kw_Q D ad (kw_A ad ct sz) (some (.int (de t))) (kw_up ct 200 (.inr (11, [.int ft, .int (31 * tr + 1), .int (nI N), .int b, .ref (ad 201), .long g, .int cm, .int da, .int (nI nt), .ref (ad 202), .ref (ad 203), .ref (ad 204), .ref (ad 205), .ref (ad 206), .ref (ad 207), .ref (ad 208), .ref (ad 209), .int (nI no), .ref (ad 210), .ref (ad 211), .ref (ad 212), .ref (ad 213), .ref (ad 214), .int bs, .int (nI nf), .ref (ad 215), .ref (ad 216)]))) 0) 0 0 (kw_A ad ct sz) := by
  refine Met.ofW (cc := cX11_tell) (maxL := 2) (ret := (some .int)) (by decide) rfl ?_
  intro pg en s m args below meth cod s₁ B hml hv
  obtain ⟨rfl, hsz, hP0, hK⟩ := hv
  have hx := B.exec
  have hb := B.bytes
  have hr := B.returns
  have hts := atoms_spec (ws := wsX11_tell) B.pre
  have hown : s.vm.findClass RX11 = some m.cls := findClass_of_methodNamed B.named
  have hlocks := B.notSynchronized
  subst hsz
  have hw := kw_H.start hP0
  generalize hAe : kw_A ad ct s.heap.size = A at hw ⊢
  have hA : ∀ q, s.heap.size ≤ q → A q := fun q h => by rw [← hAe]; exact Or.inr h
  have hinX11 : ∀ w ∈ wsX110, w ∈ wsX11_tell := by decide +kernel
  have hl := lv_entry ([.ref (ad 200), .int (nI t)]) (n := 2) (Nat.le_of_ble_eq_true rfl)
  rw [lg_entry_eq]
  generalize (lg_sl ([.ref (ad 200), .int (nI t)]) ++ List.replicate (2 - (lg_sl ([.ref (ad 200), .int (nI t)])).length) Slot.unset).toArray = ls at hl ⊢
  have hl : lv_has ls 2 [(0, .ref (ad 200)), (1, .int (nI t))] := hl
  have S0 : CallFix pg m cod cX11_tell 2 s _ wsX11_tell RX11 := ⟨hx, hb, hml, hown, hts⟩
  have hfr : ∀ j, j ≠ 200 → ct j = ct j := fun _ _ => rfl
  have kT : 0 ≤ nI t ∧ nI t < nI nt := ⟨nI_pos' (by omega), nI_lt ht (by omega)⟩
  refine lv_aload_n hx hb dX11_tell_0 rfl (lv_at hl 0 rfl) ?_
  refine lv_iload_n hx hb dX11_tell_1 rfl (lv_at hl 1 rfl) ?_
  refine kc_v (As := [.int (nI t)]) (rest := []) S0 (c_X11_isTrader l D tc s.heap.size ad ct (N := N) (nt := nt) (no := no) (nf := nf) h0) (cwV 1 hts gX11_tell_X11_isTrader rfl rfl rfl (by decide +kernel) ⟨Nat.le_of_ble_eq_true rfl, Nat.le_of_ble_eq_true rfl⟩) hK hw h0 rfl rfl hl.1 rfl (Nat.le_of_ble_eq_true rfl) dX11_tell_2 ⟨Nat.le_of_ble_eq_true rfl, (Nat.le_of_ble_eq_true rfl)⟩ ?_
  refine kb_ifne (tgt := 10) hx hb dX11_tell_5 (by decide) (fun c_1 => ?_) (fun c_1 => ?_)
  · refine lv_aload_n hx hb dX11_tell_10 rfl (lv_at hl 0 rfl) ?_
    refine kg_get (v := .ref (ad 202)) (C := RX11) (T := TX11) (N := 27) hx hb hts hinX11 hown hK hw h0 rfl 9 (by decide) (hts (.fieldLink RX11 23 "BetMakerModel" "kinds" "[I") (by decide +kernel)) (fun _ h9 => h9) rfl dX11_tell_11 ?_
    refine lv_iload_n hx hb dX11_tell_14 rfl (lv_at hl 1 rfl) ?_
    refine kg_iald hx hb hK hw h202 t rfl (by omega) (by omega) dX11_tell_15 ?_
    refine lv_lookup (off := 80) (tgt := 96) hx hb dX11_tell_16 (by decide) (by rw [lv_osw hk1 (by decide), lv_osw hk2 (by decide)]; rfl) (by decide) ?_
    refine lv_aload_n hx hb dX11_tell_96 rfl (lv_at hl 0 rfl) ?_
    refine lv_iconst (v := 1) hx hb dX11_tell_97 (by decide) ?_
    refine kc_vu (As := [.int 1]) (rest := []) S0 (c_X11_begins l D tc s.heap.size ad ct (N := N) (nt := nt) (no := no) (nf := nf) h0) (cwV 1 hts gX11_tell_X11_begins rfl rfl rfl (by decide +kernel) ⟨Nat.le_of_ble_eq_true rfl, Nat.le_of_ble_eq_true rfl⟩) hK hw hA h0 rfl rfl hl.1 rfl (Nat.le_of_ble_eq_true rfl) dX11_tell_98 ⟨Nat.le_of_ble_eq_true rfl, (Nat.le_of_ble_eq_true rfl)⟩ (fun H locs hw => ?_)
    obtain ⟨ct_4, ect_4⟩ : ∃ z, z = kw_up ct 200 (.inr (11, [.int ft, .int (31 * tr + 1), .int (nI N), .int b, .ref (ad 201), .long g, .int cm, .int da, .int (nI nt), .ref (ad 202), .ref (ad 203), .ref (ad 204), .ref (ad 205), .ref (ad 206), .ref (ad 207), .ref (ad 208), .ref (ad 209), .int (nI no), .ref (ad 210), .ref (ad 211), .ref (ad 212), .ref (ad 213), .ref (ad 214), .int bs, .int (nI nf), .ref (ad 215), .ref (ad 216)])) := ⟨_, rfl⟩
    rw [← ect_4] at hw
    have h_5 : ct_4 202 = some (eI tc 6 kd) := by rw [ect_4, kw_up_n (by decide)]; exact h202
    have h_6 : ct_4 204 = some (eI tc 6 de) := by rw [ect_4, kw_up_n (by decide)]; exact h204
    have h_7 : ct_4 200 = some (.inr (11, [.int ft, .int (31 * tr + 1), .int (nI N), .int b, .ref (ad 201), .long g, .int cm, .int da, .int (nI nt), .ref (ad 202), .ref (ad 203), .ref (ad 204), .ref (ad 205), .ref (ad 206), .ref (ad 207), .ref (ad 208), .ref (ad 209), .int (nI no), .ref (ad 210), .ref (ad 211), .ref (ad 212), .ref (ad 213), .ref (ad 214), .int bs, .int (nI nf), .ref (ad 215), .ref (ad 216)])) := by rw [ect_4]; exact kw_up_s
    have hfr_8 : ∀ j, j ≠ 200 → ct_4 j = ct j := fun j a0 => by rw [ect_4]; exact (kw_up_n a0).trans (hfr j a0)
    refine lv_aload_n hx hb dX11_tell_101 rfl (lv_at hl 0 rfl) ?_
    refine kg_get (v := .ref (ad 204)) (C := RX11) (T := TX11) (N := 27) hx hb hts hinX11 hown hK hw h_7 rfl 11 (by decide) (hts (.fieldLink RX11 30 "BetMakerModel" "deals" "[I") (by decide +kernel)) (fun _ h9 => h9) rfl dX11_tell_102 ?_
    refine lv_iload_n hx hb dX11_tell_105 rfl (lv_at hl 1 rfl) ?_
    refine kg_iald hx hb hK hw h_6 t rfl (by omega) (by omega) dX11_tell_106 ?_
    have hq_9 := h_7
    have hend := kw_eq1 hq_9 hfr_8
    rw [hend] at hw
    exact W.iret hx hb hr (fun t ht _ => ⟨rfl, by rw [ht]; exact hw.1, hw.2.2.1, hw.2.1.F ht, by rw [ht]; exact hw.2.2.2⟩) hw.2.1.2.2 dX11_tell_107
  · exact absurd kT c_1
set_option maxHeartbeats 4000000 in
set_option maxRecDepth 100000 in
theorem c_X11_greet_u (l : Launch) (D : va_G) (tc : Nat → ClassId) (sz : Nat) (ad : Nat → Nat) (ct : Nat → Option va_E) {N nt no nf : Nat} {ft tr b cm da bs : Int32} {g : Int64}                 {t : Int32} (h0 : ct 200 = some (.inr (11, [.int ft, .int tr, .int (nI N), .int b, .ref (ad 201), .long g, .int cm, .int da, .int (nI nt), .ref (ad 202), .ref (ad 203), .ref (ad 204), .ref (ad 205), .ref (ad 206), .ref (ad 207), .ref (ad 208), .ref (ad 209), .int (nI no), .ref (ad 210), .ref (ad 211), .ref (ad 212), .ref (ad 213), .ref (ad 214), .int bs, .int (nI nf), .ref (ad 215), .ref (ad 216)]))) (ht : ¬ (0 ≤ t ∧ t < nI nt)) : Met l yX11_greet wsX11_greet ({ frames := 1, cells := 0, slots := 0, locals := 25 }) (va_Pc [.ref (ad 200), .int t] (kw_B D tc sz ad ct)) (k2_QcV (.int (-1))) 0 0 (fun _ => False) := by
  refine Met.ofW (cc := cX11_greet) (maxL := 2) (ret := (some .int)) (by decide) rfl ?_
  intro pg en s m args below meth cod s₁ B hml hv
  obtain ⟨rfl, hsz, hP0, hK⟩ := hv
  have hx := B.exec
  have hb := B.bytes
  have hr := B.returns
  have hts := atoms_spec (ws := wsX11_greet) B.pre
  have hown : s.vm.findClass RX11 = some m.cls := findClass_of_methodNamed B.named
  have hlocks := B.notSynchronized
  subst hsz
  have hw := kw_H.start hP0
  generalize kw_A ad ct s.heap.size = A at hw
  have hinX11 : ∀ w ∈ wsX110, w ∈ wsX11_greet := by decide +kernel
  have hl := lv_entry ([.ref (ad 200), .int t]) (n := 2) (Nat.le_of_ble_eq_true rfl)
  rw [lg_entry_eq]
  generalize (lg_sl ([.ref (ad 200), .int t]) ++ List.replicate (2 - (lg_sl ([.ref (ad 200), .int t])).length) Slot.unset).toArray = ls at hl ⊢
  have hl : lv_has ls 2 [(0, .ref (ad 200)), (1, .int t)] := hl
  have S0 : CallFix pg m cod cX11_greet 2 s _ wsX11_greet RX11 := ⟨hx, hb, hml, hown, hts⟩
  refine lv_aload_n hx hb dX11_greet_0 rfl (lv_at hl 0 rfl) ?_
  refine lv_iload_n hx hb dX11_greet_1 rfl (lv_at hl 1 rfl) ?_
  refine kc_v (As := [.int t]) (rest := []) S0 (c_X11_isTrader l D tc s.heap.size ad ct (N := N) (nt := nt) (no := no) (nf := nf) h0) (cwV 1 hts gX11_greet_X11_isTrader rfl rfl rfl (by decide +kernel) ⟨Nat.le_of_ble_eq_true rfl, Nat.le_of_ble_eq_true rfl⟩) hK hw h0 rfl rfl hl.1 rfl (Nat.le_of_ble_eq_true rfl) dX11_greet_2 ⟨Nat.le_of_ble_eq_true rfl, (Nat.le_of_ble_eq_true rfl)⟩ ?_
  refine kb_ifne (tgt := 10) hx hb dX11_greet_5 (by decide) (fun c_1 => ?_) (fun c_1 => ?_)
  · exact absurd c_1 ht
  · refine lv_iconst (v := (-1)) hx hb dX11_greet_8 (by decide) ?_
    exact W.iret hx hb hr (fun t ht _ => ⟨rfl, ht⟩) (fun _ h => absurd h List.not_mem_nil) dX11_greet_9
set_option maxHeartbeats 4000000 in
set_option maxRecDepth 100000 in
theorem c_X11_greet_2 (l : Launch) (D : va_G) (tc : Nat → ClassId) (sz : Nat) (ad : Nat → Nat) (ct : Nat → Option va_E) {N nt no nf : Nat} {ft tr b cm da bs : Int32} {g : Int64}  {kd : Nat → Int32}               {t : Nat} (h0 : ct 200 = some (.inr (11, [.int ft, .int tr, .int (nI N), .int b, .ref (ad 201), .long g, .int cm, .int da, .int (nI nt), .ref (ad 202), .ref (ad 203), .ref (ad 204), .ref (ad 205), .ref (ad 206), .ref (ad 207), .ref (ad 208), .ref (ad 209), .int (nI no), .ref (ad 210), .ref (ad 211), .ref (ad 212), .ref (ad 213), .ref (ad 214), .int bs, .int (nI nf), .ref (ad 215), .ref (ad 216)]))) (h202 : ct 202 = some (eI tc 6 kd)) (ht : t < nt) (hnt : nt ≤ 6) (hk2 : kd t = 2) : Met l yX11_greet wsX11_greet ({ frames := 1, cells := 0, slots := 0, locals := 25 }) (va_Pc [.ref (ad 200), .int (nI t)] (kw_B D tc sz ad ct)) (kw_Q D ad (kw_A ad ct sz) (some (.int 90)) (kw_up ct 200 (.inr (11, [.int ft, .int (31 * tr + 5), .int (nI N), .int b, .ref (ad 201), .long g, .int cm, .int da, .int (nI nt), .ref (ad 202), .ref (ad 203), .ref (ad 204), .ref (ad 205), .ref (ad 206), .ref (ad 207), .ref (ad 208), .ref (ad 209), .int (nI no), .ref (ad 210), .ref (ad 211), .ref (ad 212), .ref (ad 213), .ref (ad 214), .int bs, .int (nI nf), .ref (ad 215), .ref (ad 216)]))) 0) 0 0 (kw_A ad ct sz) := by
  refine Met.ofW (cc := cX11_greet) (maxL := 2) (ret := (some .int)) (by decide) rfl ?_
  intro pg en s m args below meth cod s₁ B hml hv
  obtain ⟨rfl, hsz, hP0, hK⟩ := hv
  have hx := B.exec
  have hb := B.bytes
  have hr := B.returns
  have hts := atoms_spec (ws := wsX11_greet) B.pre
  have hown : s.vm.findClass RX11 = some m.cls := findClass_of_methodNamed B.named
  have hlocks := B.notSynchronized
  subst hsz
  have hw := kw_H.start hP0
  generalize hAe : kw_A ad ct s.heap.size = A at hw ⊢
  have hA : ∀ q, s.heap.size ≤ q → A q := fun q h => by rw [← hAe]; exact Or.inr h
  have hinX11 : ∀ w ∈ wsX110, w ∈ wsX11_greet := by decide +kernel
  have hl := lv_entry ([.ref (ad 200), .int (nI t)]) (n := 2) (Nat.le_of_ble_eq_true rfl)
  rw [lg_entry_eq]
  generalize (lg_sl ([.ref (ad 200), .int (nI t)]) ++ List.replicate (2 - (lg_sl ([.ref (ad 200), .int (nI t)])).length) Slot.unset).toArray = ls at hl ⊢
  have hl : lv_has ls 2 [(0, .ref (ad 200)), (1, .int (nI t))] := hl
  have S0 : CallFix pg m cod cX11_greet 2 s _ wsX11_greet RX11 := ⟨hx, hb, hml, hown, hts⟩
  have hfr : ∀ j, j ≠ 200 → ct j = ct j := fun _ _ => rfl
  have kT : 0 ≤ nI t ∧ nI t < nI nt := ⟨nI_pos' (by omega), nI_lt ht (by omega)⟩
  refine lv_aload_n hx hb dX11_greet_0 rfl (lv_at hl 0 rfl) ?_
  refine lv_iload_n hx hb dX11_greet_1 rfl (lv_at hl 1 rfl) ?_
  refine kc_v (As := [.int (nI t)]) (rest := []) S0 (c_X11_isTrader l D tc s.heap.size ad ct (N := N) (nt := nt) (no := no) (nf := nf) h0) (cwV 1 hts gX11_greet_X11_isTrader rfl rfl rfl (by decide +kernel) ⟨Nat.le_of_ble_eq_true rfl, Nat.le_of_ble_eq_true rfl⟩) hK hw h0 rfl rfl hl.1 rfl (Nat.le_of_ble_eq_true rfl) dX11_greet_2 ⟨Nat.le_of_ble_eq_true rfl, (Nat.le_of_ble_eq_true rfl)⟩ ?_
  refine kb_ifne (tgt := 10) hx hb dX11_greet_5 (by decide) (fun c_1 => ?_) (fun c_1 => ?_)
  · refine lv_aload_n hx hb dX11_greet_10 rfl (lv_at hl 0 rfl) ?_
    refine lv_aload_n hx hb dX11_greet_11 rfl (lv_at hl 0 rfl) ?_
    refine kg_get (v := .ref (ad 202)) (C := RX11) (T := TX11) (N := 27) hx hb hts hinX11 hown hK hw h0 rfl 9 (by decide) (hts (.fieldLink RX11 23 "BetMakerModel" "kinds" "[I") (by decide +kernel)) (fun _ h9 => h9) rfl dX11_greet_12 ?_
    refine lv_iload_n hx hb dX11_greet_15 rfl (lv_at hl 1 rfl) ?_
    refine kg_iald hx hb hK hw h202 t rfl (by omega) (by omega) dX11_greet_16 ?_
    refine lv_iconst (v := 2) hx hb dX11_greet_17 (by decide) ?_
    refine lv_icmp_ne (tgt := 25) hx hb dX11_greet_18 (by decide) (fun c_2 => ?_) (fun c_2 => ?_)
    · exact absurd hk2 c_2
    · refine lv_iconst (v := 5) hx hb dX11_greet_21 (by decide) ?_
      refine lv_goto (tgt := 26) hx hb dX11_greet_22 (by decide) ?_
      refine kc_vu (As := [.int 5]) (rest := []) S0 (c_X11_begins l D tc s.heap.size ad ct (N := N) (nt := nt) (no := no) (nf := nf) h0) (cwV 1 hts gX11_greet_X11_begins rfl rfl rfl (by decide +kernel) ⟨Nat.le_of_ble_eq_true rfl, Nat.le_of_ble_eq_true rfl⟩) hK hw hA h0 rfl rfl hl.1 rfl (Nat.le_of_ble_eq_true rfl) dX11_greet_26 ⟨Nat.le_of_ble_eq_true rfl, (Nat.le_of_ble_eq_true rfl)⟩ (fun H locs hw => ?_)
      obtain ⟨ct_3, ect_3⟩ : ∃ z, z = kw_up ct 200 (.inr (11, [.int ft, .int (31 * tr + 5), .int (nI N), .int b, .ref (ad 201), .long g, .int cm, .int da, .int (nI nt), .ref (ad 202), .ref (ad 203), .ref (ad 204), .ref (ad 205), .ref (ad 206), .ref (ad 207), .ref (ad 208), .ref (ad 209), .int (nI no), .ref (ad 210), .ref (ad 211), .ref (ad 212), .ref (ad 213), .ref (ad 214), .int bs, .int (nI nf), .ref (ad 215), .ref (ad 216)])) := ⟨_, rfl⟩
      rw [← ect_3] at hw
      have h_4 : ct_3 202 = some (eI tc 6 kd) := by rw [ect_3, kw_up_n (by decide)]; exact h202
      have h_5 : ct_3 200 = some (.inr (11, [.int ft, .int (31 * tr + 5), .int (nI N), .int b, .ref (ad 201), .long g, .int cm, .int da, .int (nI nt), .ref (ad 202), .ref (ad 203), .ref (ad 204), .ref (ad 205), .ref (ad 206), .ref (ad 207), .ref (ad 208), .ref (ad 209), .int (nI no), .ref (ad 210), .ref (ad 211), .ref (ad 212), .ref (ad 213), .ref (ad 214), .int bs, .int (nI nf), .ref (ad 215), .ref (ad 216)])) := by rw [ect_3]; exact kw_up_s
      have hfr_6 : ∀ j, j ≠ 200 → ct_3 j = ct j := fun j a0 => by rw [ect_3]; exact (kw_up_n a0).trans (hfr j a0)
      refine lv_aload_n hx hb dX11_greet_29 rfl (lv_at hl 0 rfl) ?_
      refine kg_get (v := .ref (ad 202)) (C := RX11) (T := TX11) (N := 27) hx hb hts hinX11 hown hK hw h_5 rfl 9 (by decide) (hts (.fieldLink RX11 23 "BetMakerModel" "kinds" "[I") (by decide +kernel)) (fun _ h9 => h9) rfl dX11_greet_30 ?_
      refine lv_iload_n hx hb dX11_greet_33 rfl (lv_at hl 1 rfl) ?_
      refine kg_iald hx hb hK hw h_4 t rfl (by omega) (by omega) dX11_greet_34 ?_
      refine lv_iconst (v := 2) hx hb dX11_greet_35 (by decide) ?_
      refine lv_icmp_ne (tgt := 44) hx hb dX11_greet_36 (by decide) (fun c_7 => ?_) (fun c_7 => ?_)
      · exact absurd hk2 c_7
      · refine lv_bipush (v := 90) hx hb dX11_greet_39 (by decide) ?_
        refine lv_goto (tgt := 45) hx hb dX11_greet_41 (by decide) ?_
        have hq_8 := h_5
        have hend := kw_eq1 hq_8 hfr_6
        rw [hend] at hw
        exact W.iret hx hb hr (fun t ht _ => ⟨rfl, by rw [ht]; exact hw.1, hw.2.2.1, hw.2.1.F ht, by rw [ht]; exact hw.2.2.2⟩) hw.2.1.2.2 dX11_greet_45
  · exact absurd kT c_1
set_option maxHeartbeats 4000000 in
set_option maxRecDepth 100000 in
theorem c_X11_greet_0 (l : Launch) (D : va_G) (tc : Nat → ClassId) (sz : Nat) (ad : Nat → Nat) (ct : Nat → Option va_E) {N nt no nf : Nat} {ft tr b cm da bs : Int32} {g : Int64}  {kd : Nat → Int32}               {t : Nat} (h0 : ct 200 = some (.inr (11, [.int ft, .int tr, .int (nI N), .int b, .ref (ad 201), .long g, .int cm, .int da, .int (nI nt), .ref (ad 202), .ref (ad 203), .ref (ad 204), .ref (ad 205), .ref (ad 206), .ref (ad 207), .ref (ad 208), .ref (ad 209), .int (nI no), .ref (ad 210), .ref (ad 211), .ref (ad 212), .ref (ad 213), .ref (ad 214), .int bs, .int (nI nf), .ref (ad 215), .ref (ad 216)]))) (h202 : ct 202 = some (eI tc 6 kd)) (ht : t < nt) (hnt : nt ≤ 6) (hk2 : ¬ (kd t = 2)) : Met l yX11_greet wsX11_greet ({ frames := 1, cells := 0, slots := 0, locals := 25 }) (va_Pc [.ref (ad 200), .int (nI t)] (kw_B D tc sz ad ct)) (kw_Q D ad (kw_A ad ct sz) (some (.int (nI t))) (kw_up ct 200 (.inr (11, [.int ft, .int (31 * tr + 4), .int (nI N), .int b, .ref (ad 201), .long g, .int cm, .int da, .int (nI nt), .ref (ad 202), .ref (ad 203), .ref (ad 204), .ref (ad 205), .ref (ad 206), .ref (ad 207), .ref (ad 208), .ref (ad 209), .int (nI no), .ref (ad 210), .ref (ad 211), .ref (ad 212), .ref (ad 213), .ref (ad 214), .int bs, .int (nI nf), .ref (ad 215), .ref (ad 216)]))) 0) 0 0 (kw_A ad ct sz) := by
  refine Met.ofW (cc := cX11_greet) (maxL := 2) (ret := (some .int)) (by decide) rfl ?_
  intro pg en s m args below meth cod s₁ B hml hv
  obtain ⟨rfl, hsz, hP0, hK⟩ := hv
  have hx := B.exec
  have hb := B.bytes
  have hr := B.returns
  have hts := atoms_spec (ws := wsX11_greet) B.pre
  have hown : s.vm.findClass RX11 = some m.cls := findClass_of_methodNamed B.named
  have hlocks := B.notSynchronized
  subst hsz
  have hw := kw_H.start hP0
  generalize hAe : kw_A ad ct s.heap.size = A at hw ⊢
  have hA : ∀ q, s.heap.size ≤ q → A q := fun q h => by rw [← hAe]; exact Or.inr h
  have hinX11 : ∀ w ∈ wsX110, w ∈ wsX11_greet := by decide +kernel
  have hl := lv_entry ([.ref (ad 200), .int (nI t)]) (n := 2) (Nat.le_of_ble_eq_true rfl)
  rw [lg_entry_eq]
  generalize (lg_sl ([.ref (ad 200), .int (nI t)]) ++ List.replicate (2 - (lg_sl ([.ref (ad 200), .int (nI t)])).length) Slot.unset).toArray = ls at hl ⊢
  have hl : lv_has ls 2 [(0, .ref (ad 200)), (1, .int (nI t))] := hl
  have S0 : CallFix pg m cod cX11_greet 2 s _ wsX11_greet RX11 := ⟨hx, hb, hml, hown, hts⟩
  have hfr : ∀ j, j ≠ 200 → ct j = ct j := fun _ _ => rfl
  have kT : 0 ≤ nI t ∧ nI t < nI nt := ⟨nI_pos' (by omega), nI_lt ht (by omega)⟩
  refine lv_aload_n hx hb dX11_greet_0 rfl (lv_at hl 0 rfl) ?_
  refine lv_iload_n hx hb dX11_greet_1 rfl (lv_at hl 1 rfl) ?_
  refine kc_v (As := [.int (nI t)]) (rest := []) S0 (c_X11_isTrader l D tc s.heap.size ad ct (N := N) (nt := nt) (no := no) (nf := nf) h0) (cwV 1 hts gX11_greet_X11_isTrader rfl rfl rfl (by decide +kernel) ⟨Nat.le_of_ble_eq_true rfl, Nat.le_of_ble_eq_true rfl⟩) hK hw h0 rfl rfl hl.1 rfl (Nat.le_of_ble_eq_true rfl) dX11_greet_2 ⟨Nat.le_of_ble_eq_true rfl, (Nat.le_of_ble_eq_true rfl)⟩ ?_
  refine kb_ifne (tgt := 10) hx hb dX11_greet_5 (by decide) (fun c_1 => ?_) (fun c_1 => ?_)
  · refine lv_aload_n hx hb dX11_greet_10 rfl (lv_at hl 0 rfl) ?_
    refine lv_aload_n hx hb dX11_greet_11 rfl (lv_at hl 0 rfl) ?_
    refine kg_get (v := .ref (ad 202)) (C := RX11) (T := TX11) (N := 27) hx hb hts hinX11 hown hK hw h0 rfl 9 (by decide) (hts (.fieldLink RX11 23 "BetMakerModel" "kinds" "[I") (by decide +kernel)) (fun _ h9 => h9) rfl dX11_greet_12 ?_
    refine lv_iload_n hx hb dX11_greet_15 rfl (lv_at hl 1 rfl) ?_
    refine kg_iald hx hb hK hw h202 t rfl (by omega) (by omega) dX11_greet_16 ?_
    refine lv_iconst (v := 2) hx hb dX11_greet_17 (by decide) ?_
    refine lv_icmp_ne (tgt := 25) hx hb dX11_greet_18 (by decide) (fun c_2 => ?_) (fun c_2 => ?_)
    · refine lv_iconst (v := 4) hx hb dX11_greet_25 (by decide) ?_
      refine kc_vu (As := [.int 4]) (rest := []) S0 (c_X11_begins l D tc s.heap.size ad ct (N := N) (nt := nt) (no := no) (nf := nf) h0) (cwV 1 hts gX11_greet_X11_begins rfl rfl rfl (by decide +kernel) ⟨Nat.le_of_ble_eq_true rfl, Nat.le_of_ble_eq_true rfl⟩) hK hw hA h0 rfl rfl hl.1 rfl (Nat.le_of_ble_eq_true rfl) dX11_greet_26 ⟨Nat.le_of_ble_eq_true rfl, (Nat.le_of_ble_eq_true rfl)⟩ (fun H locs hw => ?_)
      obtain ⟨ct_3, ect_3⟩ : ∃ z, z = kw_up ct 200 (.inr (11, [.int ft, .int (31 * tr + 4), .int (nI N), .int b, .ref (ad 201), .long g, .int cm, .int da, .int (nI nt), .ref (ad 202), .ref (ad 203), .ref (ad 204), .ref (ad 205), .ref (ad 206), .ref (ad 207), .ref (ad 208), .ref (ad 209), .int (nI no), .ref (ad 210), .ref (ad 211), .ref (ad 212), .ref (ad 213), .ref (ad 214), .int bs, .int (nI nf), .ref (ad 215), .ref (ad 216)])) := ⟨_, rfl⟩
      rw [← ect_3] at hw
      have h_4 : ct_3 202 = some (eI tc 6 kd) := by rw [ect_3, kw_up_n (by decide)]; exact h202
      have h_5 : ct_3 200 = some (.inr (11, [.int ft, .int (31 * tr + 4), .int (nI N), .int b, .ref (ad 201), .long g, .int cm, .int da, .int (nI nt), .ref (ad 202), .ref (ad 203), .ref (ad 204), .ref (ad 205), .ref (ad 206), .ref (ad 207), .ref (ad 208), .ref (ad 209), .int (nI no), .ref (ad 210), .ref (ad 211), .ref (ad 212), .ref (ad 213), .ref (ad 214), .int bs, .int (nI nf), .ref (ad 215), .ref (ad 216)])) := by rw [ect_3]; exact kw_up_s
      have hfr_6 : ∀ j, j ≠ 200 → ct_3 j = ct j := fun j a0 => by rw [ect_3]; exact (kw_up_n a0).trans (hfr j a0)
      refine lv_aload_n hx hb dX11_greet_29 rfl (lv_at hl 0 rfl) ?_
      refine kg_get (v := .ref (ad 202)) (C := RX11) (T := TX11) (N := 27) hx hb hts hinX11 hown hK hw h_5 rfl 9 (by decide) (hts (.fieldLink RX11 23 "BetMakerModel" "kinds" "[I") (by decide +kernel)) (fun _ h9 => h9) rfl dX11_greet_30 ?_
      refine lv_iload_n hx hb dX11_greet_33 rfl (lv_at hl 1 rfl) ?_
      refine kg_iald hx hb hK hw h_4 t rfl (by omega) (by omega) dX11_greet_34 ?_
      refine lv_iconst (v := 2) hx hb dX11_greet_35 (by decide) ?_
      refine lv_icmp_ne (tgt := 44) hx hb dX11_greet_36 (by decide) (fun c_7 => ?_) (fun c_7 => ?_)
      · refine lv_iload_n hx hb dX11_greet_44 rfl (lv_at hl 1 rfl) ?_
        have hq_8 := h_5
        have hend := kw_eq1 hq_8 hfr_6
        rw [hend] at hw
        exact W.iret hx hb hr (fun t ht _ => ⟨rfl, by rw [ht]; exact hw.1, hw.2.2.1, hw.2.1.F ht, by rw [ht]; exact hw.2.2.2⟩) hw.2.1.2.2 dX11_greet_45
      · exact absurd c_7 hk2
    · exact absurd c_2 hk2
  · exact absurd kT c_1
set_option maxHeartbeats 4000000 in
set_option maxRecDepth 100000 in
theorem c_X11_as_u (l : Launch) (D : va_G) (tc : Nat → ClassId) (sz : Nat) (ad : Nat → Nat) (ct : Nat → Option va_E) {N nt no nf : Nat} {ft tr b cm da bs : Int32} {g : Int64}                 {t kind : Int32} (h0 : ct 200 = some (.inr (11, [.int ft, .int tr, .int (nI N), .int b, .ref (ad 201), .long g, .int cm, .int da, .int (nI nt), .ref (ad 202), .ref (ad 203), .ref (ad 204), .ref (ad 205), .ref (ad 206), .ref (ad 207), .ref (ad 208), .ref (ad 209), .int (nI no), .ref (ad 210), .ref (ad 211), .ref (ad 212), .ref (ad 213), .ref (ad 214), .int bs, .int (nI nf), .ref (ad 215), .ref (ad 216)]))) (ht : ¬ (0 ≤ t ∧ t < nI nt)) : Met l yX11_as wsX11_as ({ frames := 1, cells := 0, slots := 0, locals := 29 }) (va_Pc [.ref (ad 200), .int t, .int kind] (kw_B D tc sz ad ct)) (kw_Q D ad (kw_A ad ct sz) (some (.int (-1))) (kw_up ct 200 (.inr (11, [.int 0, .int tr, .int (nI N), .int b, .ref (ad 201), .long g, .int cm, .int da, .int (nI nt), .ref (ad 202), .ref (ad 203), .ref (ad 204), .ref (ad 205), .ref (ad 206), .ref (ad 207), .ref (ad 208), .ref (ad 209), .int (nI no), .ref (ad 210), .ref (ad 211), .ref (ad 212), .ref (ad 213), .ref (ad 214), .int bs, .int (nI nf), .ref (ad 215), .ref (ad 216)]))) 0) 0 0 (kw_A ad ct sz) := by
  refine Met.ofW (cc := cX11_as) (maxL := 3) (ret := (some .int)) (by decide) rfl ?_
  intro pg en s m args below meth cod s₁ B hml hv
  obtain ⟨rfl, hsz, hP0, hK⟩ := hv
  have hx := B.exec
  have hb := B.bytes
  have hr := B.returns
  have hts := atoms_spec (ws := wsX11_as) B.pre
  have hown : s.vm.findClass RX11 = some m.cls := findClass_of_methodNamed B.named
  have hlocks := B.notSynchronized
  subst hsz
  have hw := kw_H.start hP0
  generalize hAe : kw_A ad ct s.heap.size = A at hw ⊢
  have hA : ∀ q, s.heap.size ≤ q → A q := fun q h => by rw [← hAe]; exact Or.inr h
  have hinX11 : ∀ w ∈ wsX110, w ∈ wsX11_as := by decide +kernel
  have hl := lv_entry ([.ref (ad 200), .int t, .int kind]) (n := 3) (Nat.le_of_ble_eq_true rfl)
  rw [lg_entry_eq]
  generalize (lg_sl ([.ref (ad 200), .int t, .int kind]) ++ List.replicate (3 - (lg_sl ([.ref (ad 200), .int t, .int kind])).length) Slot.unset).toArray = ls at hl ⊢
  have hl : lv_has ls 3 [(0, .ref (ad 200)), (1, .int t), (2, .int kind)] := hl
  have S0 : CallFix pg m cod cX11_as 3 s _ wsX11_as RX11 := ⟨hx, hb, hml, hown, hts⟩
  have hfr : ∀ j, j ≠ 200 → ct j = ct j := fun _ _ => rfl
  refine lv_aload_n hx hb dX11_as_0 rfl (lv_at hl 0 rfl) ?_
  refine lv_iconst (v := 0) hx hb dX11_as_1 (by decide) ?_
  refine kg_put (v := .int 0) (ty := .int) (C := RX11) (T := TX11) (N := 27) (fs' := [.int 0, .int tr, .int (nI N), .int b, .ref (ad 201), .long g, .int cm, .int da, .int (nI nt), .ref (ad 202), .ref (ad 203), .ref (ad 204), .ref (ad 205), .ref (ad 206), .ref (ad 207), .ref (ad 208), .ref (ad 209), .int (nI no), .ref (ad 210), .ref (ad 211), .ref (ad 212), .ref (ad 213), .ref (ad 214), .int bs, .int (nI nf), .ref (ad 215), .ref (ad 216)]) hx hb hts hinX11 tyX11 tyX11_ok nmX11 hown hK hw h0 rfl 0 (by decide) (hts (.fieldLink RX11 69 "BetMakerModel" "fault" "I") (by decide +kernel)) (fun _ h9 => h9) rfl (by decide +kernel) rfl rfl (Nat.le_of_ble_eq_true rfl) rfl dX11_as_2 (fun H locs hw => ?_)
  obtain ⟨ct_1, ect_1⟩ : ∃ z, z = kw_up ct 200 (.inr (11, [.int 0, .int tr, .int (nI N), .int b, .ref (ad 201), .long g, .int cm, .int da, .int (nI nt), .ref (ad 202), .ref (ad 203), .ref (ad 204), .ref (ad 205), .ref (ad 206), .ref (ad 207), .ref (ad 208), .ref (ad 209), .int (nI no), .ref (ad 210), .ref (ad 211), .ref (ad 212), .ref (ad 213), .ref (ad 214), .int bs, .int (nI nf), .ref (ad 215), .ref (ad 216)])) := ⟨_, rfl⟩
  rw [← ect_1] at hw
  have h_2 : ct_1 200 = some (.inr (11, [.int 0, .int tr, .int (nI N), .int b, .ref (ad 201), .long g, .int cm, .int da, .int (nI nt), .ref (ad 202), .ref (ad 203), .ref (ad 204), .ref (ad 205), .ref (ad 206), .ref (ad 207), .ref (ad 208), .ref (ad 209), .int (nI no), .ref (ad 210), .ref (ad 211), .ref (ad 212), .ref (ad 213), .ref (ad 214), .int bs, .int (nI nf), .ref (ad 215), .ref (ad 216)])) := by rw [ect_1]; exact kw_up_s
  have hfr_3 : ∀ j, j ≠ 200 → ct_1 j = ct j := fun j a0 => by rw [ect_1]; exact (kw_up_n a0).trans (hfr j a0)
  refine lv_aload_n hx hb dX11_as_5 rfl (lv_at hl 0 rfl) ?_
  refine lv_iload_n hx hb dX11_as_6 rfl (lv_at hl 1 rfl) ?_
  refine kc_v (As := [.int t]) (rest := []) S0 (c_X11_isTrader l D tc s.heap.size ad ct_1 (N := N) (nt := nt) (no := no) (nf := nf) h_2) (cwV 1 hts gX11_as_X11_isTrader rfl rfl rfl (by decide +kernel) ⟨Nat.le_of_ble_eq_true rfl, Nat.le_of_ble_eq_true rfl⟩) hK hw h_2 rfl rfl hl.1 rfl (Nat.le_of_ble_eq_true rfl) dX11_as_7 ⟨Nat.le_of_ble_eq_true rfl, (Nat.le_of_ble_eq_true rfl)⟩ ?_
  refine kb_ifne (tgt := 15) hx hb dX11_as_10 (by decide) (fun c_4 => ?_) (fun c_4 => ?_)
  · exact absurd c_4 ht
  · refine lv_iconst (v := (-1)) hx hb dX11_as_13 (by decide) ?_
    have hq_5 := h_2
    have hend := kw_eq1 hq_5 hfr_3
    rw [hend] at hw
    exact W.iret hx hb hr (fun t ht _ => ⟨rfl, by rw [ht]; exact hw.1, hw.2.2.1, hw.2.1.F ht, by rw [ht]; exact hw.2.2.2⟩) hw.2.1.2.2 dX11_as_14
set_option maxHeartbeats 4000000 in
set_option maxRecDepth 100000 in
theorem c_X11_as_o (l : Launch) (D : va_G) (tc : Nat → ClassId) (sz : Nat) (ad : Nat → Nat) (ct : Nat → Option va_E) {N nt no nf : Nat} {ft tr b cm da bs : Int32} {g : Int64}                 {t kind : Int32} (h0 : ct 200 = some (.inr (11, [.int ft, .int tr, .int (nI N), .int b, .ref (ad 201), .long g, .int cm, .int da, .int (nI nt), .ref (ad 202), .ref (ad 203), .ref (ad 204), .ref (ad 205), .ref (ad 206), .ref (ad 207), .ref (ad 208), .ref (ad 209), .int (nI no), .ref (ad 210), .ref (ad 211), .ref (ad 212), .ref (ad 213), .ref (ad 214), .int bs, .int (nI nf), .ref (ad 215), .ref (ad 216)]))) (ht : 0 ≤ t ∧ t < nI nt) (hk : ¬ (0 ≤ kind.toInt64 ∧ kind.toInt64 ≤ 2)) : Met l yX11_as wsX11_as ({ frames := 1, cells := 0, slots := 0, locals := 29 }) (va_Pc [.ref (ad 200), .int t, .int kind] (kw_B D tc sz ad ct)) (kw_Q D ad (kw_A ad ct sz) (some (.int (-2))) (kw_up ct 200 (.inr (11, [.int 0, .int tr, .int (nI N), .int b, .ref (ad 201), .long g, .int cm, .int da, .int (nI nt), .ref (ad 202), .ref (ad 203), .ref (ad 204), .ref (ad 205), .ref (ad 206), .ref (ad 207), .ref (ad 208), .ref (ad 209), .int (nI no), .ref (ad 210), .ref (ad 211), .ref (ad 212), .ref (ad 213), .ref (ad 214), .int bs, .int (nI nf), .ref (ad 215), .ref (ad 216)]))) 0) 0 0 (kw_A ad ct sz) := by
  refine Met.ofW (cc := cX11_as) (maxL := 3) (ret := (some .int)) (by decide) rfl ?_
  intro pg en s m args below meth cod s₁ B hml hv
  obtain ⟨rfl, hsz, hP0, hK⟩ := hv
  have hx := B.exec
  have hb := B.bytes
  have hr := B.returns
  have hts := atoms_spec (ws := wsX11_as) B.pre
  have hown : s.vm.findClass RX11 = some m.cls := findClass_of_methodNamed B.named
  have hlocks := B.notSynchronized
  subst hsz
  have hw := kw_H.start hP0
  generalize hAe : kw_A ad ct s.heap.size = A at hw ⊢
  have hA : ∀ q, s.heap.size ≤ q → A q := fun q h => by rw [← hAe]; exact Or.inr h
  have hinX11 : ∀ w ∈ wsX110, w ∈ wsX11_as := by decide +kernel
  have hl := lv_entry ([.ref (ad 200), .int t, .int kind]) (n := 3) (Nat.le_of_ble_eq_true rfl)
  rw [lg_entry_eq]
  generalize (lg_sl ([.ref (ad 200), .int t, .int kind]) ++ List.replicate (3 - (lg_sl ([.ref (ad 200), .int t, .int kind])).length) Slot.unset).toArray = ls at hl ⊢
  have hl : lv_has ls 3 [(0, .ref (ad 200)), (1, .int t), (2, .int kind)] := hl
  have S0 : CallFix pg m cod cX11_as 3 s _ wsX11_as RX11 := ⟨hx, hb, hml, hown, hts⟩
  have hfr : ∀ j, j ≠ 200 → ct j = ct j := fun _ _ => rfl
  refine lv_aload_n hx hb dX11_as_0 rfl (lv_at hl 0 rfl) ?_
  refine lv_iconst (v := 0) hx hb dX11_as_1 (by decide) ?_
  refine kg_put (v := .int 0) (ty := .int) (C := RX11) (T := TX11) (N := 27) (fs' := [.int 0, .int tr, .int (nI N), .int b, .ref (ad 201), .long g, .int cm, .int da, .int (nI nt), .ref (ad 202), .ref (ad 203), .ref (ad 204), .ref (ad 205), .ref (ad 206), .ref (ad 207), .ref (ad 208), .ref (ad 209), .int (nI no), .ref (ad 210), .ref (ad 211), .ref (ad 212), .ref (ad 213), .ref (ad 214), .int bs, .int (nI nf), .ref (ad 215), .ref (ad 216)]) hx hb hts hinX11 tyX11 tyX11_ok nmX11 hown hK hw h0 rfl 0 (by decide) (hts (.fieldLink RX11 69 "BetMakerModel" "fault" "I") (by decide +kernel)) (fun _ h9 => h9) rfl (by decide +kernel) rfl rfl (Nat.le_of_ble_eq_true rfl) rfl dX11_as_2 (fun H locs hw => ?_)
  obtain ⟨ct_1, ect_1⟩ : ∃ z, z = kw_up ct 200 (.inr (11, [.int 0, .int tr, .int (nI N), .int b, .ref (ad 201), .long g, .int cm, .int da, .int (nI nt), .ref (ad 202), .ref (ad 203), .ref (ad 204), .ref (ad 205), .ref (ad 206), .ref (ad 207), .ref (ad 208), .ref (ad 209), .int (nI no), .ref (ad 210), .ref (ad 211), .ref (ad 212), .ref (ad 213), .ref (ad 214), .int bs, .int (nI nf), .ref (ad 215), .ref (ad 216)])) := ⟨_, rfl⟩
  rw [← ect_1] at hw
  have h_2 : ct_1 200 = some (.inr (11, [.int 0, .int tr, .int (nI N), .int b, .ref (ad 201), .long g, .int cm, .int da, .int (nI nt), .ref (ad 202), .ref (ad 203), .ref (ad 204), .ref (ad 205), .ref (ad 206), .ref (ad 207), .ref (ad 208), .ref (ad 209), .int (nI no), .ref (ad 210), .ref (ad 211), .ref (ad 212), .ref (ad 213), .ref (ad 214), .int bs, .int (nI nf), .ref (ad 215), .ref (ad 216)])) := by rw [ect_1]; exact kw_up_s
  have hfr_3 : ∀ j, j ≠ 200 → ct_1 j = ct j := fun j a0 => by rw [ect_1]; exact (kw_up_n a0).trans (hfr j a0)
  refine lv_aload_n hx hb dX11_as_5 rfl (lv_at hl 0 rfl) ?_
  refine lv_iload_n hx hb dX11_as_6 rfl (lv_at hl 1 rfl) ?_
  refine kc_v (As := [.int t]) (rest := []) S0 (c_X11_isTrader l D tc s.heap.size ad ct_1 (N := N) (nt := nt) (no := no) (nf := nf) h_2) (cwV 1 hts gX11_as_X11_isTrader rfl rfl rfl (by decide +kernel) ⟨Nat.le_of_ble_eq_true rfl, Nat.le_of_ble_eq_true rfl⟩) hK hw h_2 rfl rfl hl.1 rfl (Nat.le_of_ble_eq_true rfl) dX11_as_7 ⟨Nat.le_of_ble_eq_true rfl, (Nat.le_of_ble_eq_true rfl)⟩ ?_
  refine kb_ifne (tgt := 15) hx hb dX11_as_10 (by decide) (fun c_4 => ?_) (fun c_4 => ?_)
  · refine lv_iload_n hx hb dX11_as_15 rfl (lv_at hl 2 rfl) ?_
    refine lv_i2l (v := kind.toInt64) hx hb dX11_as_16 rfl ?_
    refine lv_lconst (v := 0) hx hb dX11_as_17 (by decide) ?_
    refine lv_ldc2 (v := 2) hx hb hown (hts (.constantLong RX11 76 (2)) (by decide +kernel)) dX11_as_18 ?_
    refine kc_s (As := [.long kind.toInt64, .long 0, .long 2]) (rest := []) S0 (c_X11_within l D tc s.heap.size ad ct_1 ) (va_cwS 3 hts gX11_as_X11_within rfl rfl rfl (by decide +kernel) ⟨Nat.le_of_ble_eq_true rfl, Nat.le_of_ble_eq_true rfl⟩) hK hw rfl hl.1 rfl (Nat.le_of_ble_eq_true rfl) dX11_as_21 ⟨Nat.le_of_ble_eq_true rfl, (Nat.le_of_ble_eq_true rfl)⟩ ?_
    refine kb_ifne (tgt := 30) hx hb dX11_as_24 (by decide) (fun c_5 => ?_) (fun c_5 => ?_)
    · exact absurd c_5 hk
    · refine lv_bipush (v := (-2)) hx hb dX11_as_27 (by decide) ?_
      have hq_6 := h_2
      have hend := kw_eq1 hq_6 hfr_3
      rw [hend] at hw
      exact W.iret hx hb hr (fun t ht _ => ⟨rfl, by rw [ht]; exact hw.1, hw.2.2.1, hw.2.1.F ht, by rw [ht]; exact hw.2.2.2⟩) hw.2.1.2.2 dX11_as_29
  · exact absurd ht c_4
set_option maxHeartbeats 4000000 in
set_option maxRecDepth 100000 in
theorem c_X11_as_c (l : Launch) (D : va_G) (tc : Nat → ClassId) (sz : Nat) (ad : Nat → Nat) (ct : Nat → Option va_E) {N nt no nf : Nat} {ft tr b cm da bs : Int32} {g : Int64}  {kd : Nat → Int32}               {t : Nat} {kind : Int32} (h0 : ct 200 = some (.inr (11, [.int ft, .int tr, .int (nI N), .int b, .ref (ad 201), .long g, .int cm, .int da, .int (nI nt), .ref (ad 202), .ref (ad 203), .ref (ad 204), .ref (ad 205), .ref (ad 206), .ref (ad 207), .ref (ad 208), .ref (ad 209), .int (nI no), .ref (ad 210), .ref (ad 211), .ref (ad 212), .ref (ad 213), .ref (ad 214), .int bs, .int (nI nf), .ref (ad 215), .ref (ad 216)]))) (h202 : ct 202 = some (eI tc 6 kd)) (ht : t < nt) (hnt : nt ≤ 6) (hk : 0 ≤ kind.toInt64 ∧ kind.toInt64 ≤ 2) (hlt : kd t < kind) : Met l yX11_as wsX11_as ({ frames := 1, cells := 0, slots := 0, locals := 29 }) (va_Pc [.ref (ad 200), .int (nI t), .int kind] (kw_B D tc sz ad ct)) (kw_Q D ad (kw_A ad ct sz) (some (.int ((-10) - 2))) (kw_up ct 200 (.inr (11, [.int 2, .int tr, .int (nI N), .int b, .ref (ad 201), .long g, .int cm, .int da, .int (nI nt), .ref (ad 202), .ref (ad 203), .ref (ad 204), .ref (ad 205), .ref (ad 206), .ref (ad 207), .ref (ad 208), .ref (ad 209), .int (nI no), .ref (ad 210), .ref (ad 211), .ref (ad 212), .ref (ad 213), .ref (ad 214), .int bs, .int (nI nf), .ref (ad 215), .ref (ad 216)]))) 0) 0 0 (kw_A ad ct sz) := by
  refine Met.ofW (cc := cX11_as) (maxL := 3) (ret := (some .int)) (by decide) rfl ?_
  intro pg en s m args below meth cod s₁ B hml hv
  obtain ⟨rfl, hsz, hP0, hK⟩ := hv
  have hx := B.exec
  have hb := B.bytes
  have hr := B.returns
  have hts := atoms_spec (ws := wsX11_as) B.pre
  have hown : s.vm.findClass RX11 = some m.cls := findClass_of_methodNamed B.named
  have hlocks := B.notSynchronized
  subst hsz
  have hw := kw_H.start hP0
  generalize hAe : kw_A ad ct s.heap.size = A at hw ⊢
  have hA : ∀ q, s.heap.size ≤ q → A q := fun q h => by rw [← hAe]; exact Or.inr h
  have hinX11 : ∀ w ∈ wsX110, w ∈ wsX11_as := by decide +kernel
  have hl := lv_entry ([.ref (ad 200), .int (nI t), .int kind]) (n := 3) (Nat.le_of_ble_eq_true rfl)
  rw [lg_entry_eq]
  generalize (lg_sl ([.ref (ad 200), .int (nI t), .int kind]) ++ List.replicate (3 - (lg_sl ([.ref (ad 200), .int (nI t), .int kind])).length) Slot.unset).toArray = ls at hl ⊢
  have hl : lv_has ls 3 [(0, .ref (ad 200)), (1, .int (nI t)), (2, .int kind)] := hl
  have S0 : CallFix pg m cod cX11_as 3 s _ wsX11_as RX11 := ⟨hx, hb, hml, hown, hts⟩
  have hfr : ∀ j, j ≠ 200 → ct j = ct j := fun _ _ => rfl
  have kT : 0 ≤ nI t ∧ nI t < nI nt := ⟨nI_pos' (by omega), nI_lt ht (by omega)⟩
  refine lv_aload_n hx hb dX11_as_0 rfl (lv_at hl 0 rfl) ?_
  refine lv_iconst (v := 0) hx hb dX11_as_1 (by decide) ?_
  refine kg_put (v := .int 0) (ty := .int) (C := RX11) (T := TX11) (N := 27) (fs' := [.int 0, .int tr, .int (nI N), .int b, .ref (ad 201), .long g, .int cm, .int da, .int (nI nt), .ref (ad 202), .ref (ad 203), .ref (ad 204), .ref (ad 205), .ref (ad 206), .ref (ad 207), .ref (ad 208), .ref (ad 209), .int (nI no), .ref (ad 210), .ref (ad 211), .ref (ad 212), .ref (ad 213), .ref (ad 214), .int bs, .int (nI nf), .ref (ad 215), .ref (ad 216)]) hx hb hts hinX11 tyX11 tyX11_ok nmX11 hown hK hw h0 rfl 0 (by decide) (hts (.fieldLink RX11 69 "BetMakerModel" "fault" "I") (by decide +kernel)) (fun _ h9 => h9) rfl (by decide +kernel) rfl rfl (Nat.le_of_ble_eq_true rfl) rfl dX11_as_2 (fun H locs hw => ?_)
  obtain ⟨ct_1, ect_1⟩ : ∃ z, z = kw_up ct 200 (.inr (11, [.int 0, .int tr, .int (nI N), .int b, .ref (ad 201), .long g, .int cm, .int da, .int (nI nt), .ref (ad 202), .ref (ad 203), .ref (ad 204), .ref (ad 205), .ref (ad 206), .ref (ad 207), .ref (ad 208), .ref (ad 209), .int (nI no), .ref (ad 210), .ref (ad 211), .ref (ad 212), .ref (ad 213), .ref (ad 214), .int bs, .int (nI nf), .ref (ad 215), .ref (ad 216)])) := ⟨_, rfl⟩
  rw [← ect_1] at hw
  have h_2 : ct_1 202 = some (eI tc 6 kd) := by rw [ect_1, kw_up_n (by decide)]; exact h202
  have h_3 : ct_1 200 = some (.inr (11, [.int 0, .int tr, .int (nI N), .int b, .ref (ad 201), .long g, .int cm, .int da, .int (nI nt), .ref (ad 202), .ref (ad 203), .ref (ad 204), .ref (ad 205), .ref (ad 206), .ref (ad 207), .ref (ad 208), .ref (ad 209), .int (nI no), .ref (ad 210), .ref (ad 211), .ref (ad 212), .ref (ad 213), .ref (ad 214), .int bs, .int (nI nf), .ref (ad 215), .ref (ad 216)])) := by rw [ect_1]; exact kw_up_s
  have hfr_4 : ∀ j, j ≠ 200 → ct_1 j = ct j := fun j a0 => by rw [ect_1]; exact (kw_up_n a0).trans (hfr j a0)
  refine lv_aload_n hx hb dX11_as_5 rfl (lv_at hl 0 rfl) ?_
  refine lv_iload_n hx hb dX11_as_6 rfl (lv_at hl 1 rfl) ?_
  refine kc_v (As := [.int (nI t)]) (rest := []) S0 (c_X11_isTrader l D tc s.heap.size ad ct_1 (N := N) (nt := nt) (no := no) (nf := nf) h_3) (cwV 1 hts gX11_as_X11_isTrader rfl rfl rfl (by decide +kernel) ⟨Nat.le_of_ble_eq_true rfl, Nat.le_of_ble_eq_true rfl⟩) hK hw h_3 rfl rfl hl.1 rfl (Nat.le_of_ble_eq_true rfl) dX11_as_7 ⟨Nat.le_of_ble_eq_true rfl, (Nat.le_of_ble_eq_true rfl)⟩ ?_
  refine kb_ifne (tgt := 15) hx hb dX11_as_10 (by decide) (fun c_5 => ?_) (fun c_5 => ?_)
  · refine lv_iload_n hx hb dX11_as_15 rfl (lv_at hl 2 rfl) ?_
    refine lv_i2l (v := kind.toInt64) hx hb dX11_as_16 rfl ?_
    refine lv_lconst (v := 0) hx hb dX11_as_17 (by decide) ?_
    refine lv_ldc2 (v := 2) hx hb hown (hts (.constantLong RX11 76 (2)) (by decide +kernel)) dX11_as_18 ?_
    refine kc_s (As := [.long kind.toInt64, .long 0, .long 2]) (rest := []) S0 (c_X11_within l D tc s.heap.size ad ct_1 ) (va_cwS 3 hts gX11_as_X11_within rfl rfl rfl (by decide +kernel) ⟨Nat.le_of_ble_eq_true rfl, Nat.le_of_ble_eq_true rfl⟩) hK hw rfl hl.1 rfl (Nat.le_of_ble_eq_true rfl) dX11_as_21 ⟨Nat.le_of_ble_eq_true rfl, (Nat.le_of_ble_eq_true rfl)⟩ ?_
    refine kb_ifne (tgt := 30) hx hb dX11_as_24 (by decide) (fun c_6 => ?_) (fun c_6 => ?_)
    · refine lv_aload_n hx hb dX11_as_30 rfl (lv_at hl 0 rfl) ?_
      refine kg_get (v := .ref (ad 202)) (C := RX11) (T := TX11) (N := 27) hx hb hts hinX11 hown hK hw h_3 rfl 9 (by decide) (hts (.fieldLink RX11 23 "BetMakerModel" "kinds" "[I") (by decide +kernel)) (fun _ h9 => h9) rfl dX11_as_31 ?_
      refine lv_iload_n hx hb dX11_as_34 rfl (lv_at hl 1 rfl) ?_
      refine kg_iald hx hb hK hw h_2 t rfl (by omega) (by omega) dX11_as_35 ?_
      refine lv_iload_n hx hb dX11_as_36 rfl (lv_at hl 2 rfl) ?_
      refine lv_icmp_lt (tgt := 44) hx hb dX11_as_37 (by decide) (fun c_7 => ?_) (fun c_7 => ?_)
      · refine lv_aload_n hx hb dX11_as_44 rfl (lv_at hl 0 rfl) ?_
        refine lv_iconst (v := 2) hx hb dX11_as_45 (by decide) ?_
        refine kc_vu (As := [.int 2]) (rest := []) S0 (c_X11_fails l D tc s.heap.size ad ct_1 (N := N) (nt := nt) (no := no) (nf := nf) h_3) (cwV 1 hts gX11_as_X11_fails rfl rfl rfl (by decide +kernel) ⟨Nat.le_of_ble_eq_true rfl, Nat.le_of_ble_eq_true rfl⟩) hK hw hA h_3 rfl rfl hl.1 rfl (Nat.le_of_ble_eq_true rfl) dX11_as_46 ⟨Nat.le_of_ble_eq_true rfl, (Nat.le_of_ble_eq_true rfl)⟩ (fun H locs hw => ?_)
        obtain ⟨ct_8, ect_8⟩ : ∃ z, z = kw_up ct_1 200 (.inr (11, [.int 2, .int tr, .int (nI N), .int b, .ref (ad 201), .long g, .int cm, .int da, .int (nI nt), .ref (ad 202), .ref (ad 203), .ref (ad 204), .ref (ad 205), .ref (ad 206), .ref (ad 207), .ref (ad 208), .ref (ad 209), .int (nI no), .ref (ad 210), .ref (ad 211), .ref (ad 212), .ref (ad 213), .ref (ad 214), .int bs, .int (nI nf), .ref (ad 215), .ref (ad 216)])) := ⟨_, rfl⟩
        rw [← ect_8] at hw
        have h_9 : ct_8 202 = some (eI tc 6 kd) := by rw [ect_8, kw_up_n (by decide)]; exact h_2
        have h_10 : ct_8 200 = some (.inr (11, [.int 2, .int tr, .int (nI N), .int b, .ref (ad 201), .long g, .int cm, .int da, .int (nI nt), .ref (ad 202), .ref (ad 203), .ref (ad 204), .ref (ad 205), .ref (ad 206), .ref (ad 207), .ref (ad 208), .ref (ad 209), .int (nI no), .ref (ad 210), .ref (ad 211), .ref (ad 212), .ref (ad 213), .ref (ad 214), .int bs, .int (nI nf), .ref (ad 215), .ref (ad 216)])) := by rw [ect_8]; exact kw_up_s
        have hfr_11 : ∀ j, j ≠ 200 → ct_8 j = ct j := fun j a0 => by rw [ect_8]; exact (kw_up_n a0).trans (hfr_4 j a0)
        have hq_12 := h_10
        have hend := kw_eq1 hq_12 hfr_11
        rw [hend] at hw
        exact W.iret hx hb hr (fun t ht _ => ⟨rfl, by rw [ht]; exact hw.1, hw.2.2.1, hw.2.1.F ht, by rw [ht]; exact hw.2.2.2⟩) hw.2.1.2.2 dX11_as_49
      · exact absurd hlt c_7
    · exact absurd hk c_6
  · exact absurd kT c_5
set_option maxHeartbeats 4000000 in
set_option maxRecDepth 100000 in
theorem c_X11_as (l : Launch) (D : va_G) (tc : Nat → ClassId) (sz : Nat) (ad : Nat → Nat) (ct : Nat → Option va_E) {N nt no nf : Nat} {ft tr b cm da bs : Int32} {g : Int64}  {kd : Nat → Int32}               {t : Nat} {kind : Int32} (h0 : ct 200 = some (.inr (11, [.int ft, .int tr, .int (nI N), .int b, .ref (ad 201), .long g, .int cm, .int da, .int (nI nt), .ref (ad 202), .ref (ad 203), .ref (ad 204), .ref (ad 205), .ref (ad 206), .ref (ad 207), .ref (ad 208), .ref (ad 209), .int (nI no), .ref (ad 210), .ref (ad 211), .ref (ad 212), .ref (ad 213), .ref (ad 214), .int bs, .int (nI nf), .ref (ad 215), .ref (ad 216)]))) (h202 : ct 202 = some (eI tc 6 kd)) (ht : t < nt) (hnt : nt ≤ 6) (hk : 0 ≤ kind.toInt64 ∧ kind.toInt64 ≤ 2) (hlt : ¬ (kd t < kind)) : Met l yX11_as wsX11_as ({ frames := 1, cells := 0, slots := 0, locals := 29 }) (va_Pc [.ref (ad 200), .int (nI t), .int kind] (kw_B D tc sz ad ct)) (kw_Q D ad (kw_A ad ct sz) (some (.int 1)) (kw_up ct 200 (.inr (11, [.int 0, .int tr, .int (nI N), .int b, .ref (ad 201), .long g, .int cm, .int da, .int (nI nt), .ref (ad 202), .ref (ad 203), .ref (ad 204), .ref (ad 205), .ref (ad 206), .ref (ad 207), .ref (ad 208), .ref (ad 209), .int (nI no), .ref (ad 210), .ref (ad 211), .ref (ad 212), .ref (ad 213), .ref (ad 214), .int bs, .int (nI nf), .ref (ad 215), .ref (ad 216)]))) 0) 0 0 (kw_A ad ct sz) := by
  refine Met.ofW (cc := cX11_as) (maxL := 3) (ret := (some .int)) (by decide) rfl ?_
  intro pg en s m args below meth cod s₁ B hml hv
  obtain ⟨rfl, hsz, hP0, hK⟩ := hv
  have hx := B.exec
  have hb := B.bytes
  have hr := B.returns
  have hts := atoms_spec (ws := wsX11_as) B.pre
  have hown : s.vm.findClass RX11 = some m.cls := findClass_of_methodNamed B.named
  have hlocks := B.notSynchronized
  subst hsz
  have hw := kw_H.start hP0
  generalize hAe : kw_A ad ct s.heap.size = A at hw ⊢
  have hA : ∀ q, s.heap.size ≤ q → A q := fun q h => by rw [← hAe]; exact Or.inr h
  have hinX11 : ∀ w ∈ wsX110, w ∈ wsX11_as := by decide +kernel
  have hl := lv_entry ([.ref (ad 200), .int (nI t), .int kind]) (n := 3) (Nat.le_of_ble_eq_true rfl)
  rw [lg_entry_eq]
  generalize (lg_sl ([.ref (ad 200), .int (nI t), .int kind]) ++ List.replicate (3 - (lg_sl ([.ref (ad 200), .int (nI t), .int kind])).length) Slot.unset).toArray = ls at hl ⊢
  have hl : lv_has ls 3 [(0, .ref (ad 200)), (1, .int (nI t)), (2, .int kind)] := hl
  have S0 : CallFix pg m cod cX11_as 3 s _ wsX11_as RX11 := ⟨hx, hb, hml, hown, hts⟩
  have hfr : ∀ j, j ≠ 200 → ct j = ct j := fun _ _ => rfl
  have kT : 0 ≤ nI t ∧ nI t < nI nt := ⟨nI_pos' (by omega), nI_lt ht (by omega)⟩
  refine lv_aload_n hx hb dX11_as_0 rfl (lv_at hl 0 rfl) ?_
  refine lv_iconst (v := 0) hx hb dX11_as_1 (by decide) ?_
  refine kg_put (v := .int 0) (ty := .int) (C := RX11) (T := TX11) (N := 27) (fs' := [.int 0, .int tr, .int (nI N), .int b, .ref (ad 201), .long g, .int cm, .int da, .int (nI nt), .ref (ad 202), .ref (ad 203), .ref (ad 204), .ref (ad 205), .ref (ad 206), .ref (ad 207), .ref (ad 208), .ref (ad 209), .int (nI no), .ref (ad 210), .ref (ad 211), .ref (ad 212), .ref (ad 213), .ref (ad 214), .int bs, .int (nI nf), .ref (ad 215), .ref (ad 216)]) hx hb hts hinX11 tyX11 tyX11_ok nmX11 hown hK hw h0 rfl 0 (by decide) (hts (.fieldLink RX11 69 "BetMakerModel" "fault" "I") (by decide +kernel)) (fun _ h9 => h9) rfl (by decide +kernel) rfl rfl (Nat.le_of_ble_eq_true rfl) rfl dX11_as_2 (fun H locs hw => ?_)
  obtain ⟨ct_1, ect_1⟩ : ∃ z, z = kw_up ct 200 (.inr (11, [.int 0, .int tr, .int (nI N), .int b, .ref (ad 201), .long g, .int cm, .int da, .int (nI nt), .ref (ad 202), .ref (ad 203), .ref (ad 204), .ref (ad 205), .ref (ad 206), .ref (ad 207), .ref (ad 208), .ref (ad 209), .int (nI no), .ref (ad 210), .ref (ad 211), .ref (ad 212), .ref (ad 213), .ref (ad 214), .int bs, .int (nI nf), .ref (ad 215), .ref (ad 216)])) := ⟨_, rfl⟩
  rw [← ect_1] at hw
  have h_2 : ct_1 202 = some (eI tc 6 kd) := by rw [ect_1, kw_up_n (by decide)]; exact h202
  have h_3 : ct_1 200 = some (.inr (11, [.int 0, .int tr, .int (nI N), .int b, .ref (ad 201), .long g, .int cm, .int da, .int (nI nt), .ref (ad 202), .ref (ad 203), .ref (ad 204), .ref (ad 205), .ref (ad 206), .ref (ad 207), .ref (ad 208), .ref (ad 209), .int (nI no), .ref (ad 210), .ref (ad 211), .ref (ad 212), .ref (ad 213), .ref (ad 214), .int bs, .int (nI nf), .ref (ad 215), .ref (ad 216)])) := by rw [ect_1]; exact kw_up_s
  have hfr_4 : ∀ j, j ≠ 200 → ct_1 j = ct j := fun j a0 => by rw [ect_1]; exact (kw_up_n a0).trans (hfr j a0)
  refine lv_aload_n hx hb dX11_as_5 rfl (lv_at hl 0 rfl) ?_
  refine lv_iload_n hx hb dX11_as_6 rfl (lv_at hl 1 rfl) ?_
  refine kc_v (As := [.int (nI t)]) (rest := []) S0 (c_X11_isTrader l D tc s.heap.size ad ct_1 (N := N) (nt := nt) (no := no) (nf := nf) h_3) (cwV 1 hts gX11_as_X11_isTrader rfl rfl rfl (by decide +kernel) ⟨Nat.le_of_ble_eq_true rfl, Nat.le_of_ble_eq_true rfl⟩) hK hw h_3 rfl rfl hl.1 rfl (Nat.le_of_ble_eq_true rfl) dX11_as_7 ⟨Nat.le_of_ble_eq_true rfl, (Nat.le_of_ble_eq_true rfl)⟩ ?_
  refine kb_ifne (tgt := 15) hx hb dX11_as_10 (by decide) (fun c_5 => ?_) (fun c_5 => ?_)
  · refine lv_iload_n hx hb dX11_as_15 rfl (lv_at hl 2 rfl) ?_
    refine lv_i2l (v := kind.toInt64) hx hb dX11_as_16 rfl ?_
    refine lv_lconst (v := 0) hx hb dX11_as_17 (by decide) ?_
    refine lv_ldc2 (v := 2) hx hb hown (hts (.constantLong RX11 76 (2)) (by decide +kernel)) dX11_as_18 ?_
    refine kc_s (As := [.long kind.toInt64, .long 0, .long 2]) (rest := []) S0 (c_X11_within l D tc s.heap.size ad ct_1 ) (va_cwS 3 hts gX11_as_X11_within rfl rfl rfl (by decide +kernel) ⟨Nat.le_of_ble_eq_true rfl, Nat.le_of_ble_eq_true rfl⟩) hK hw rfl hl.1 rfl (Nat.le_of_ble_eq_true rfl) dX11_as_21 ⟨Nat.le_of_ble_eq_true rfl, (Nat.le_of_ble_eq_true rfl)⟩ ?_
    refine kb_ifne (tgt := 30) hx hb dX11_as_24 (by decide) (fun c_6 => ?_) (fun c_6 => ?_)
    · refine lv_aload_n hx hb dX11_as_30 rfl (lv_at hl 0 rfl) ?_
      refine kg_get (v := .ref (ad 202)) (C := RX11) (T := TX11) (N := 27) hx hb hts hinX11 hown hK hw h_3 rfl 9 (by decide) (hts (.fieldLink RX11 23 "BetMakerModel" "kinds" "[I") (by decide +kernel)) (fun _ h9 => h9) rfl dX11_as_31 ?_
      refine lv_iload_n hx hb dX11_as_34 rfl (lv_at hl 1 rfl) ?_
      refine kg_iald hx hb hK hw h_2 t rfl (by omega) (by omega) dX11_as_35 ?_
      refine lv_iload_n hx hb dX11_as_36 rfl (lv_at hl 2 rfl) ?_
      refine lv_icmp_lt (tgt := 44) hx hb dX11_as_37 (by decide) (fun c_7 => ?_) (fun c_7 => ?_)
      · exact absurd c_7 hlt
      · refine lv_iconst (v := 1) hx hb dX11_as_40 (by decide) ?_
        refine lv_goto (tgt := 49) hx hb dX11_as_41 (by decide) ?_
        have hq_8 := h_3
        have hend := kw_eq1 hq_8 hfr_4
        rw [hend] at hw
        exact W.iret hx hb hr (fun t ht _ => ⟨rfl, by rw [ht]; exact hw.1, hw.2.2.1, hw.2.1.F ht, by rw [ht]; exact hw.2.2.2⟩) hw.2.1.2.2 dX11_as_49
    · exact absurd hk c_6
  · exact absurd kT c_5
set_option maxHeartbeats 4000000 in
set_option maxRecDepth 100000 in
theorem c_X11_trace (l : Launch) (D : va_G) (tc : Nat → ClassId) (sz : Nat) (ad : Nat → Nat) (ct : Nat → Option va_E) {N nt no nf : Nat} {ft tr b cm da bs : Int32} {g : Int64}                  (h0 : ct 200 = some (.inr (11, [.int ft, .int tr, .int (nI N), .int b, .ref (ad 201), .long g, .int cm, .int da, .int (nI nt), .ref (ad 202), .ref (ad 203), .ref (ad 204), .ref (ad 205), .ref (ad 206), .ref (ad 207), .ref (ad 208), .ref (ad 209), .int (nI no), .ref (ad 210), .ref (ad 211), .ref (ad 212), .ref (ad 213), .ref (ad 214), .int bs, .int (nI nf), .ref (ad 215), .ref (ad 216)]))) : Met l yX11_trace wsX11_trace ({ frames := 0, cells := 0, slots := 0, locals := 0 }) (va_Pc [.ref (ad 200)] (kw_B D tc sz ad ct)) (k2_QcV (.int tr)) 0 0 (fun _ => False) := by
  refine Met.ofW (cc := cX11_trace) (maxL := 1) (ret := (some .int)) (by decide) rfl ?_
  intro pg en s m args below meth cod s₁ B hml hv
  obtain ⟨rfl, hsz, hP0, hK⟩ := hv
  have hx := B.exec
  have hb := B.bytes
  have hr := B.returns
  have hts := atoms_spec (ws := wsX11_trace) B.pre
  have hown : s.vm.findClass RX11 = some m.cls := findClass_of_methodNamed B.named
  have hlocks := B.notSynchronized
  subst hsz
  have hw := kw_H.start hP0
  generalize kw_A ad ct s.heap.size = A at hw
  have hinX11 : ∀ w ∈ wsX110, w ∈ wsX11_trace := by decide +kernel
  have hl := lv_entry ([.ref (ad 200)]) (n := 1) (Nat.le_of_ble_eq_true rfl)
  rw [lg_entry_eq]
  generalize (lg_sl ([.ref (ad 200)]) ++ List.replicate (1 - (lg_sl ([.ref (ad 200)])).length) Slot.unset).toArray = ls at hl ⊢
  have hl : lv_has ls 1 [(0, .ref (ad 200))] := hl
  have S0 : CallFix pg m cod cX11_trace 1 s _ wsX11_trace RX11 := ⟨hx, hb, hml, hown, hts⟩
  refine lv_aload_n hx hb dX11_trace_0 rfl (lv_at hl 0 rfl) ?_
  refine kg_get (v := .int tr) (C := RX11) (T := TX11) (N := 27) hx hb hts hinX11 hown hK hw h0 rfl 1 (by decide) (hts (.fieldLink RX11 207 "BetMakerModel" "trace" "I") (by decide +kernel)) (fun _ h9 => h9) rfl dX11_trace_1 ?_
  exact W.iret hx hb hr (fun t ht _ => ⟨rfl, ht⟩) (fun _ h => absurd h List.not_mem_nil) dX11_trace_4
set_option maxHeartbeats 4000000 in
set_option maxRecDepth 100000 in
theorem c_X11_fault (l : Launch) (D : va_G) (tc : Nat → ClassId) (sz : Nat) (ad : Nat → Nat) (ct : Nat → Option va_E) {N nt no nf : Nat} {ft tr b cm da bs : Int32} {g : Int64}                  (h0 : ct 200 = some (.inr (11, [.int ft, .int tr, .int (nI N), .int b, .ref (ad 201), .long g, .int cm, .int da, .int (nI nt), .ref (ad 202), .ref (ad 203), .ref (ad 204), .ref (ad 205), .ref (ad 206), .ref (ad 207), .ref (ad 208), .ref (ad 209), .int (nI no), .ref (ad 210), .ref (ad 211), .ref (ad 212), .ref (ad 213), .ref (ad 214), .int bs, .int (nI nf), .ref (ad 215), .ref (ad 216)]))) : Met l yX11_fault wsX11_fault ({ frames := 0, cells := 0, slots := 0, locals := 0 }) (va_Pc [.ref (ad 200)] (kw_B D tc sz ad ct)) (k2_QcV (.int ft)) 0 0 (fun _ => False) := by
  refine Met.ofW (cc := cX11_fault) (maxL := 1) (ret := (some .int)) (by decide) rfl ?_
  intro pg en s m args below meth cod s₁ B hml hv
  obtain ⟨rfl, hsz, hP0, hK⟩ := hv
  have hx := B.exec
  have hb := B.bytes
  have hr := B.returns
  have hts := atoms_spec (ws := wsX11_fault) B.pre
  have hown : s.vm.findClass RX11 = some m.cls := findClass_of_methodNamed B.named
  have hlocks := B.notSynchronized
  subst hsz
  have hw := kw_H.start hP0
  generalize kw_A ad ct s.heap.size = A at hw
  have hinX11 : ∀ w ∈ wsX110, w ∈ wsX11_fault := by decide +kernel
  have hl := lv_entry ([.ref (ad 200)]) (n := 1) (Nat.le_of_ble_eq_true rfl)
  rw [lg_entry_eq]
  generalize (lg_sl ([.ref (ad 200)]) ++ List.replicate (1 - (lg_sl ([.ref (ad 200)])).length) Slot.unset).toArray = ls at hl ⊢
  have hl : lv_has ls 1 [(0, .ref (ad 200))] := hl
  have S0 : CallFix pg m cod cX11_fault 1 s _ wsX11_fault RX11 := ⟨hx, hb, hml, hown, hts⟩
  refine lv_aload_n hx hb dX11_fault_0 rfl (lv_at hl 0 rfl) ?_
  refine kg_get (v := .int ft) (C := RX11) (T := TX11) (N := 27) hx hb hts hinX11 hown hK hw h0 rfl 0 (by decide) (hts (.fieldLink RX11 69 "BetMakerModel" "fault" "I") (by decide +kernel)) (fun _ h9 => h9) rfl dX11_fault_1 ?_
  exact W.iret hx hb hr (fun t ht _ => ⟨rfl, ht⟩) (fun _ h => absurd h List.not_mem_nil) dX11_fault_4
set_option maxHeartbeats 4000000 in
set_option maxRecDepth 100000 in
theorem c_X11_told_0 (l : Launch) (D : va_G) (tc : Nat → ClassId) (sz : Nat) (ad : Nat → Nat) (ct : Nat → Option va_E) {N nt no nf : Nat} {ft tr b cm da bs : Int32} {g : Int64}                  (h0 : ct 200 = some (.inr (11, [.int ft, .int tr, .int (nI N), .int b, .ref (ad 201), .long g, .int cm, .int da, .int (nI nt), .ref (ad 202), .ref (ad 203), .ref (ad 204), .ref (ad 205), .ref (ad 206), .ref (ad 207), .ref (ad 208), .ref (ad 209), .int (nI no), .ref (ad 210), .ref (ad 211), .ref (ad 212), .ref (ad 213), .ref (ad 214), .int bs, .int (nI nf), .ref (ad 215), .ref (ad 216)]))) : Met l yX11_told wsX11_told ({ frames := 0, cells := 0, slots := 0, locals := 0 }) (va_Pc [.ref (ad 200), .int 0] (kw_B D tc sz ad ct)) (k2_QcV (.int (nI N))) 0 0 (fun _ => False) := by
  refine Met.ofW (cc := cX11_told) (maxL := 2) (ret := (some .int)) (by decide) rfl ?_
  intro pg en s m args below meth cod s₁ B hml hv
  obtain ⟨rfl, hsz, hP0, hK⟩ := hv
  have hx := B.exec
  have hb := B.bytes
  have hr := B.returns
  have hts := atoms_spec (ws := wsX11_told) B.pre
  have hown : s.vm.findClass RX11 = some m.cls := findClass_of_methodNamed B.named
  have hlocks := B.notSynchronized
  subst hsz
  have hw := kw_H.start hP0
  generalize kw_A ad ct s.heap.size = A at hw
  have hinX11 : ∀ w ∈ wsX110, w ∈ wsX11_told := by decide +kernel
  have hl := lv_entry ([.ref (ad 200), .int 0]) (n := 2) (Nat.le_of_ble_eq_true rfl)
  rw [lg_entry_eq]
  generalize (lg_sl ([.ref (ad 200), .int 0]) ++ List.replicate (2 - (lg_sl ([.ref (ad 200), .int 0])).length) Slot.unset).toArray = ls at hl ⊢
  have hl : lv_has ls 2 [(0, .ref (ad 200)), (1, .int 0)] := hl
  have S0 : CallFix pg m cod cX11_told 2 s _ wsX11_told RX11 := ⟨hx, hb, hml, hown, hts⟩
  refine lv_iload_n hx hb dX11_told_0 rfl (lv_at hl 1 rfl) ?_
  refine lv_tableIn (off := 39) (tgt := 40) hx hb dX11_told_1 (by decide) (by decide) (by decide) (by decide) ?_
  refine lv_aload_n hx hb dX11_told_40 rfl (lv_at hl 0 rfl) ?_
  refine kg_get (v := .int (nI N)) (C := RX11) (T := TX11) (N := 27) hx hb hts hinX11 hown hK hw h0 rfl 2 (by decide) (hts (.fieldLink RX11 7 "BetMakerModel" "cases" "I") (by decide +kernel)) (fun _ h9 => h9) rfl dX11_told_41 ?_
  exact W.iret hx hb hr (fun t ht _ => ⟨rfl, ht⟩) (fun _ h => absurd h List.not_mem_nil) dX11_told_44
set_option maxHeartbeats 4000000 in
set_option maxRecDepth 100000 in
theorem c_X11_told_1 (l : Launch) (D : va_G) (tc : Nat → ClassId) (sz : Nat) (ad : Nat → Nat) (ct : Nat → Option va_E) {N nt no nf : Nat} {ft tr b cm da bs : Int32} {g : Int64}                  (h0 : ct 200 = some (.inr (11, [.int ft, .int tr, .int (nI N), .int b, .ref (ad 201), .long g, .int cm, .int da, .int (nI nt), .ref (ad 202), .ref (ad 203), .ref (ad 204), .ref (ad 205), .ref (ad 206), .ref (ad 207), .ref (ad 208), .ref (ad 209), .int (nI no), .ref (ad 210), .ref (ad 211), .ref (ad 212), .ref (ad 213), .ref (ad 214), .int bs, .int (nI nf), .ref (ad 215), .ref (ad 216)]))) : Met l yX11_told wsX11_told ({ frames := 0, cells := 0, slots := 0, locals := 0 }) (va_Pc [.ref (ad 200), .int 1] (kw_B D tc sz ad ct)) (k2_QcV (.int b)) 0 0 (fun _ => False) := by
  refine Met.ofW (cc := cX11_told) (maxL := 2) (ret := (some .int)) (by decide) rfl ?_
  intro pg en s m args below meth cod s₁ B hml hv
  obtain ⟨rfl, hsz, hP0, hK⟩ := hv
  have hx := B.exec
  have hb := B.bytes
  have hr := B.returns
  have hts := atoms_spec (ws := wsX11_told) B.pre
  have hown : s.vm.findClass RX11 = some m.cls := findClass_of_methodNamed B.named
  have hlocks := B.notSynchronized
  subst hsz
  have hw := kw_H.start hP0
  generalize kw_A ad ct s.heap.size = A at hw
  have hinX11 : ∀ w ∈ wsX110, w ∈ wsX11_told := by decide +kernel
  have hl := lv_entry ([.ref (ad 200), .int 1]) (n := 2) (Nat.le_of_ble_eq_true rfl)
  rw [lg_entry_eq]
  generalize (lg_sl ([.ref (ad 200), .int 1]) ++ List.replicate (2 - (lg_sl ([.ref (ad 200), .int 1])).length) Slot.unset).toArray = ls at hl ⊢
  have hl : lv_has ls 2 [(0, .ref (ad 200)), (1, .int 1)] := hl
  have S0 : CallFix pg m cod cX11_told 2 s _ wsX11_told RX11 := ⟨hx, hb, hml, hown, hts⟩
  refine lv_iload_n hx hb dX11_told_0 rfl (lv_at hl 1 rfl) ?_
  refine lv_tableIn (off := 44) (tgt := 45) hx hb dX11_told_1 (by decide) (by decide) (by decide) (by decide) ?_
  refine lv_aload_n hx hb dX11_told_45 rfl (lv_at hl 0 rfl) ?_
  refine kg_get (v := .int b) (C := RX11) (T := TX11) (N := 27) hx hb hts hinX11 hown hK hw h0 rfl 3 (by decide) (hts (.fieldLink RX11 13 "BetMakerModel" "broad" "I") (by decide +kernel)) (fun _ h9 => h9) rfl dX11_told_46 ?_
  exact W.iret hx hb hr (fun t ht _ => ⟨rfl, ht⟩) (fun _ h => absurd h List.not_mem_nil) dX11_told_49
set_option maxHeartbeats 4000000 in
set_option maxRecDepth 100000 in
theorem c_X11_told_2 (l : Launch) (D : va_G) (tc : Nat → ClassId) (sz : Nat) (ad : Nat → Nat) (ct : Nat → Option va_E) {N nt no nf : Nat} {ft tr b cm da bs : Int32} {g : Int64}                  (h0 : ct 200 = some (.inr (11, [.int ft, .int tr, .int (nI N), .int b, .ref (ad 201), .long g, .int cm, .int da, .int (nI nt), .ref (ad 202), .ref (ad 203), .ref (ad 204), .ref (ad 205), .ref (ad 206), .ref (ad 207), .ref (ad 208), .ref (ad 209), .int (nI no), .ref (ad 210), .ref (ad 211), .ref (ad 212), .ref (ad 213), .ref (ad 214), .int bs, .int (nI nf), .ref (ad 215), .ref (ad 216)]))) : Met l yX11_told wsX11_told ({ frames := 0, cells := 0, slots := 0, locals := 0 }) (va_Pc [.ref (ad 200), .int 2] (kw_B D tc sz ad ct)) (k2_QcV (.int (nI nt))) 0 0 (fun _ => False) := by
  refine Met.ofW (cc := cX11_told) (maxL := 2) (ret := (some .int)) (by decide) rfl ?_
  intro pg en s m args below meth cod s₁ B hml hv
  obtain ⟨rfl, hsz, hP0, hK⟩ := hv
  have hx := B.exec
  have hb := B.bytes
  have hr := B.returns
  have hts := atoms_spec (ws := wsX11_told) B.pre
  have hown : s.vm.findClass RX11 = some m.cls := findClass_of_methodNamed B.named
  have hlocks := B.notSynchronized
  subst hsz
  have hw := kw_H.start hP0
  generalize kw_A ad ct s.heap.size = A at hw
  have hinX11 : ∀ w ∈ wsX110, w ∈ wsX11_told := by decide +kernel
  have hl := lv_entry ([.ref (ad 200), .int 2]) (n := 2) (Nat.le_of_ble_eq_true rfl)
  rw [lg_entry_eq]
  generalize (lg_sl ([.ref (ad 200), .int 2]) ++ List.replicate (2 - (lg_sl ([.ref (ad 200), .int 2])).length) Slot.unset).toArray = ls at hl ⊢
  have hl : lv_has ls 2 [(0, .ref (ad 200)), (1, .int 2)] := hl
  have S0 : CallFix pg m cod cX11_told 2 s _ wsX11_told RX11 := ⟨hx, hb, hml, hown, hts⟩
  refine lv_iload_n hx hb dX11_told_0 rfl (lv_at hl 1 rfl) ?_
  refine lv_tableIn (off := 49) (tgt := 50) hx hb dX11_told_1 (by decide) (by decide) (by decide) (by decide) ?_
  refine lv_aload_n hx hb dX11_told_50 rfl (lv_at hl 0 rfl) ?_
  refine kg_get (v := .int (nI nt)) (C := RX11) (T := TX11) (N := 27) hx hb hts hinX11 hown hK hw h0 rfl 8 (by decide) (hts (.fieldLink RX11 93 "BetMakerModel" "traders" "I") (by decide +kernel)) (fun _ h9 => h9) rfl dX11_told_51 ?_
  exact W.iret hx hb hr (fun t ht _ => ⟨rfl, ht⟩) (fun _ h => absurd h List.not_mem_nil) dX11_told_54
set_option maxHeartbeats 4000000 in
set_option maxRecDepth 100000 in
theorem c_X11_told_3 (l : Launch) (D : va_G) (tc : Nat → ClassId) (sz : Nat) (ad : Nat → Nat) (ct : Nat → Option va_E) {N nt no nf : Nat} {ft tr b cm da bs : Int32} {g : Int64}                  (h0 : ct 200 = some (.inr (11, [.int ft, .int tr, .int (nI N), .int b, .ref (ad 201), .long g, .int cm, .int da, .int (nI nt), .ref (ad 202), .ref (ad 203), .ref (ad 204), .ref (ad 205), .ref (ad 206), .ref (ad 207), .ref (ad 208), .ref (ad 209), .int (nI no), .ref (ad 210), .ref (ad 211), .ref (ad 212), .ref (ad 213), .ref (ad 214), .int bs, .int (nI nf), .ref (ad 215), .ref (ad 216)]))) : Met l yX11_told wsX11_told ({ frames := 0, cells := 0, slots := 0, locals := 0 }) (va_Pc [.ref (ad 200), .int 3] (kw_B D tc sz ad ct)) (k2_QcV (.int (nI no))) 0 0 (fun _ => False) := by
  refine Met.ofW (cc := cX11_told) (maxL := 2) (ret := (some .int)) (by decide) rfl ?_
  intro pg en s m args below meth cod s₁ B hml hv
  obtain ⟨rfl, hsz, hP0, hK⟩ := hv
  have hx := B.exec
  have hb := B.bytes
  have hr := B.returns
  have hts := atoms_spec (ws := wsX11_told) B.pre
  have hown : s.vm.findClass RX11 = some m.cls := findClass_of_methodNamed B.named
  have hlocks := B.notSynchronized
  subst hsz
  have hw := kw_H.start hP0
  generalize kw_A ad ct s.heap.size = A at hw
  have hinX11 : ∀ w ∈ wsX110, w ∈ wsX11_told := by decide +kernel
  have hl := lv_entry ([.ref (ad 200), .int 3]) (n := 2) (Nat.le_of_ble_eq_true rfl)
  rw [lg_entry_eq]
  generalize (lg_sl ([.ref (ad 200), .int 3]) ++ List.replicate (2 - (lg_sl ([.ref (ad 200), .int 3])).length) Slot.unset).toArray = ls at hl ⊢
  have hl : lv_has ls 2 [(0, .ref (ad 200)), (1, .int 3)] := hl
  have S0 : CallFix pg m cod cX11_told 2 s _ wsX11_told RX11 := ⟨hx, hb, hml, hown, hts⟩
  refine lv_iload_n hx hb dX11_told_0 rfl (lv_at hl 1 rfl) ?_
  refine lv_tableIn (off := 54) (tgt := 55) hx hb dX11_told_1 (by decide) (by decide) (by decide) (by decide) ?_
  refine lv_aload_n hx hb dX11_told_55 rfl (lv_at hl 0 rfl) ?_
  refine kg_get (v := .int (nI no)) (C := RX11) (T := TX11) (N := 27) hx hb hts hinX11 hown hK hw h0 rfl 17 (by decide) (hts (.fieldLink RX11 96 "BetMakerModel" "offers" "I") (by decide +kernel)) (fun _ h9 => h9) rfl dX11_told_56 ?_
  exact W.iret hx hb hr (fun t ht _ => ⟨rfl, ht⟩) (fun _ h => absurd h List.not_mem_nil) dX11_told_59
set_option maxHeartbeats 4000000 in
set_option maxRecDepth 100000 in
theorem c_X11_told_4 (l : Launch) (D : va_G) (tc : Nat → ClassId) (sz : Nat) (ad : Nat → Nat) (ct : Nat → Option va_E) {N nt no nf : Nat} {ft tr b cm da bs : Int32} {g : Int64}                  (h0 : ct 200 = some (.inr (11, [.int ft, .int tr, .int (nI N), .int b, .ref (ad 201), .long g, .int cm, .int da, .int (nI nt), .ref (ad 202), .ref (ad 203), .ref (ad 204), .ref (ad 205), .ref (ad 206), .ref (ad 207), .ref (ad 208), .ref (ad 209), .int (nI no), .ref (ad 210), .ref (ad 211), .ref (ad 212), .ref (ad 213), .ref (ad 214), .int bs, .int (nI nf), .ref (ad 215), .ref (ad 216)]))) : Met l yX11_told wsX11_told ({ frames := 0, cells := 0, slots := 0, locals := 0 }) (va_Pc [.ref (ad 200), .int 4] (kw_B D tc sz ad ct)) (k2_QcV (.int (nI nf))) 0 0 (fun _ => False) := by
  refine Met.ofW (cc := cX11_told) (maxL := 2) (ret := (some .int)) (by decide) rfl ?_
  intro pg en s m args below meth cod s₁ B hml hv
  obtain ⟨rfl, hsz, hP0, hK⟩ := hv
  have hx := B.exec
  have hb := B.bytes
  have hr := B.returns
  have hts := atoms_spec (ws := wsX11_told) B.pre
  have hown : s.vm.findClass RX11 = some m.cls := findClass_of_methodNamed B.named
  have hlocks := B.notSynchronized
  subst hsz
  have hw := kw_H.start hP0
  generalize kw_A ad ct s.heap.size = A at hw
  have hinX11 : ∀ w ∈ wsX110, w ∈ wsX11_told := by decide +kernel
  have hl := lv_entry ([.ref (ad 200), .int 4]) (n := 2) (Nat.le_of_ble_eq_true rfl)
  rw [lg_entry_eq]
  generalize (lg_sl ([.ref (ad 200), .int 4]) ++ List.replicate (2 - (lg_sl ([.ref (ad 200), .int 4])).length) Slot.unset).toArray = ls at hl ⊢
  have hl : lv_has ls 2 [(0, .ref (ad 200)), (1, .int 4)] := hl
  have S0 : CallFix pg m cod cX11_told 2 s _ wsX11_told RX11 := ⟨hx, hb, hml, hown, hts⟩
  refine lv_iload_n hx hb dX11_told_0 rfl (lv_at hl 1 rfl) ?_
  refine lv_tableIn (off := 59) (tgt := 60) hx hb dX11_told_1 (by decide) (by decide) (by decide) (by decide) ?_
  refine lv_aload_n hx hb dX11_told_60 rfl (lv_at hl 0 rfl) ?_
  refine kg_get (v := .int (nI nf)) (C := RX11) (T := TX11) (N := 27) hx hb hts hinX11 hown hK hw h0 rfl 24 (by decide) (hts (.fieldLink RX11 99 "BetMakerModel" "forecasts" "I") (by decide +kernel)) (fun _ h9 => h9) rfl dX11_told_61 ?_
  exact W.iret hx hb hr (fun t ht _ => ⟨rfl, ht⟩) (fun _ h => absurd h List.not_mem_nil) dX11_told_64
set_option maxHeartbeats 4000000 in
set_option maxRecDepth 100000 in
theorem c_X11_told_5 (l : Launch) (D : va_G) (tc : Nat → ClassId) (sz : Nat) (ad : Nat → Nat) (ct : Nat → Option va_E) {N nt no nf : Nat} {ft tr b cm da bs : Int32} {g : Int64}                  (h0 : ct 200 = some (.inr (11, [.int ft, .int tr, .int (nI N), .int b, .ref (ad 201), .long g, .int cm, .int da, .int (nI nt), .ref (ad 202), .ref (ad 203), .ref (ad 204), .ref (ad 205), .ref (ad 206), .ref (ad 207), .ref (ad 208), .ref (ad 209), .int (nI no), .ref (ad 210), .ref (ad 211), .ref (ad 212), .ref (ad 213), .ref (ad 214), .int bs, .int (nI nf), .ref (ad 215), .ref (ad 216)]))) : Met l yX11_told wsX11_told ({ frames := 0, cells := 0, slots := 0, locals := 0 }) (va_Pc [.ref (ad 200), .int 5] (kw_B D tc sz ad ct)) (k2_QcV (.int da)) 0 0 (fun _ => False) := by
  refine Met.ofW (cc := cX11_told) (maxL := 2) (ret := (some .int)) (by decide) rfl ?_
  intro pg en s m args below meth cod s₁ B hml hv
  obtain ⟨rfl, hsz, hP0, hK⟩ := hv
  have hx := B.exec
  have hb := B.bytes
  have hr := B.returns
  have hts := atoms_spec (ws := wsX11_told) B.pre
  have hown : s.vm.findClass RX11 = some m.cls := findClass_of_methodNamed B.named
  have hlocks := B.notSynchronized
  subst hsz
  have hw := kw_H.start hP0
  generalize kw_A ad ct s.heap.size = A at hw
  have hinX11 : ∀ w ∈ wsX110, w ∈ wsX11_told := by decide +kernel
  have hl := lv_entry ([.ref (ad 200), .int 5]) (n := 2) (Nat.le_of_ble_eq_true rfl)
  rw [lg_entry_eq]
  generalize (lg_sl ([.ref (ad 200), .int 5]) ++ List.replicate (2 - (lg_sl ([.ref (ad 200), .int 5])).length) Slot.unset).toArray = ls at hl ⊢
  have hl : lv_has ls 2 [(0, .ref (ad 200)), (1, .int 5)] := hl
  have S0 : CallFix pg m cod cX11_told 2 s _ wsX11_told RX11 := ⟨hx, hb, hml, hown, hts⟩
  refine lv_iload_n hx hb dX11_told_0 rfl (lv_at hl 1 rfl) ?_
  refine lv_tableIn (off := 64) (tgt := 65) hx hb dX11_told_1 (by decide) (by decide) (by decide) (by decide) ?_
  refine lv_aload_n hx hb dX11_told_65 rfl (lv_at hl 0 rfl) ?_
  refine kg_get (v := .int da) (C := RX11) (T := TX11) (N := 27) hx hb hts hinX11 hown hK hw h0 rfl 7 (by decide) (hts (.fieldLink RX11 90 "BetMakerModel" "dealsOfAll" "I") (by decide +kernel)) (fun _ h9 => h9) rfl dX11_told_66 ?_
  exact W.iret hx hb hr (fun t ht _ => ⟨rfl, ht⟩) (fun _ h => absurd h List.not_mem_nil) dX11_told_69
set_option maxHeartbeats 4000000 in
set_option maxRecDepth 100000 in
theorem c_X11_told_d (l : Launch) (D : va_G) (tc : Nat → ClassId) (sz : Nat) (ad : Nat → Nat) (ct : Nat → Option va_E) {N nt no nf : Nat} {ft tr b cm da bs : Int32} {g : Int64}                 {what : Int32} (h0 : ct 200 = some (.inr (11, [.int ft, .int tr, .int (nI N), .int b, .ref (ad 201), .long g, .int cm, .int da, .int (nI nt), .ref (ad 202), .ref (ad 203), .ref (ad 204), .ref (ad 205), .ref (ad 206), .ref (ad 207), .ref (ad 208), .ref (ad 209), .int (nI no), .ref (ad 210), .ref (ad 211), .ref (ad 212), .ref (ad 213), .ref (ad 214), .int bs, .int (nI nf), .ref (ad 215), .ref (ad 216)]))) (w0 : ¬ what = 0) (w1 : ¬ what = 1) (w2 : ¬ what = 2) (w3 : ¬ what = 3) (w4 : ¬ what = 4) (w5 : ¬ what = 5) : Met l yX11_told wsX11_told ({ frames := 0, cells := 0, slots := 0, locals := 0 }) (va_Pc [.ref (ad 200), .int what] (kw_B D tc sz ad ct)) (k2_QcV (.int (-2))) 0 0 (fun _ => False) := by
  refine Met.ofW (cc := cX11_told) (maxL := 2) (ret := (some .int)) (by decide) rfl ?_
  intro pg en s m args below meth cod s₁ B hml hv
  obtain ⟨rfl, hsz, hP0, hK⟩ := hv
  have hx := B.exec
  have hb := B.bytes
  have hr := B.returns
  have hts := atoms_spec (ws := wsX11_told) B.pre
  have hown : s.vm.findClass RX11 = some m.cls := findClass_of_methodNamed B.named
  have hlocks := B.notSynchronized
  subst hsz
  have hw := kw_H.start hP0
  generalize kw_A ad ct s.heap.size = A at hw
  have hinX11 : ∀ w ∈ wsX110, w ∈ wsX11_told := by decide +kernel
  have hl := lv_entry ([.ref (ad 200), .int what]) (n := 2) (Nat.le_of_ble_eq_true rfl)
  rw [lg_entry_eq]
  generalize (lg_sl ([.ref (ad 200), .int what]) ++ List.replicate (2 - (lg_sl ([.ref (ad 200), .int what])).length) Slot.unset).toArray = ls at hl ⊢
  have hl : lv_has ls 2 [(0, .ref (ad 200)), (1, .int what)] := hl
  have S0 : CallFix pg m cod cX11_told 2 s _ wsX11_told RX11 := ⟨hx, hb, hml, hown, hts⟩
  refine lv_iload_n hx hb dX11_told_0 rfl (lv_at hl 1 rfl) ?_
  refine lv_tableOut (tgt := 70) hx hb dX11_told_1 (by have q0 := lv_neT w0 (a := 0) (by decide); have q1 := lv_neT w1 (a := 1) (by decide); have q2 := lv_neT w2 (a := 2) (by decide); have q3 := lv_neT w3 (a := 3) (by decide); have q4 := lv_neT w4 (a := 4) (by decide); have q5 := lv_neT w5 (a := 5) (by decide); omega) (by decide) ?_
  refine lv_bipush (v := (-2)) hx hb dX11_told_70 (by decide) ?_
  exact W.iret hx hb hr (fun t ht _ => ⟨rfl, ht⟩) (fun _ h => absurd h List.not_mem_nil) dX11_told_72
set_option maxHeartbeats 4000000 in
set_option maxRecDepth 100000 in
theorem c_X11_init (l : Launch) (D : va_G) (tc : Nat → ClassId) (sz : Nat) (ad : Nat → Nat) (ct : Nat → Option va_E)                     (h0 : ct 200 = some (.inr (11, [.int 0, .int 0, .int 0, .int 0, .null, .long 0, .int 0, .int 0, .int 0, .null, .null, .null, .null, .null, .null, .null, .null, .int 0, .null, .null, .null, .null, .null, .int 0, .int 0, .null, .null]))) (hk201 : ct 201 = none) (hk201a : ad 201 = sz) (hk202 : ct 202 = none) (hk202a : ad 202 = sz + 1) (hk203 : ct 203 = none) (hk203a : ad 203 = sz + 2) (hk204 : ct 204 = none) (hk204a : ad 204 = sz + 3) (hk205 : ct 205 = none) (hk205a : ad 205 = sz + 4) (hk206 : ct 206 = none) (hk206a : ad 206 = sz + 5) (hk207 : ct 207 = none) (hk207a : ad 207 = sz + 6) (hk208 : ct 208 = none) (hk208a : ad 208 = sz + 7) (hk209 : ct 209 = none) (hk209a : ad 209 = sz + 8) (hk210 : ct 210 = none) (hk210a : ad 210 = sz + 9) (hk211 : ct 211 = none) (hk211a : ad 211 = sz + 10) (hk212 : ct 212 = none) (hk212a : ad 212 = sz + 11) (hk213 : ct 213 = none) (hk213a : ad 213 = sz + 12) (hk214 : ct 214 = none) (hk214a : ad 214 = sz + 13) (hk215 : ct 215 = none) (hk215a : ad 215 = sz + 14) (hk216 : ct 216 = none) (hk216a : ad 216 = sz + 15) : Met l yX11_init wsX11_init ({ frames := 1, cells := 16, slots := 616, locals := 40 }) (va_Pc [.ref (ad 200)] (kw_B D tc sz ad ct)) (kw_Q D ad (kw_A ad ct sz) (none) (kw_up (kw_up (kw_up (kw_up (kw_up (kw_up (kw_up (kw_up (kw_up (kw_up (kw_up (kw_up (kw_up (kw_up (kw_up (kw_up (kw_up ct 200 (.inr (11, [.int 0, .int 0, .int (nI 2), .int 100, .ref (ad 201), .long 0, .int (-9), .int 0, .int (nI 0), .ref (ad 202), .ref (ad 203), .ref (ad 204), .ref (ad 205), .ref (ad 206), .ref (ad 207), .ref (ad 208), .ref (ad 209), .int (nI 0), .ref (ad 210), .ref (ad 211), .ref (ad 212), .ref (ad 213), .ref (ad 214), .int 0, .int (nI 0), .ref (ad 215), .ref (ad 216)]))) 201 (eJ tc 8 (fun _ => 0))) 202 (eI tc 6 (fun _ => 0))) 203 (eJ tc 6 (fun _ => 0))) 204 (eI tc 6 (fun _ => 0))) 205 (eJ tc 48 (fun _ => 0))) 206 (eI tc 48 (fun _ => 0))) 207 (eI tc 4 (va_up (va_up (va_up (va_up (fun _ => 0) 0 (-9)) 1 (-9)) 2 (-9)) 3 (-9)))) 208 (eI tc 4 (fun _ => 0))) 209 (eI tc 96 (fun _ => 0))) 210 (eI tc 6 (fun _ => 0))) 211 (eI tc 6 (fun _ => 0))) 212 (eI tc 6 (fun _ => 0))) 213 (eI tc 6 (fun _ => 0))) 214 (eI tc 6 (fun _ => 0))) 215 (eI tc 320 (fun _ => 0))) 216 (eI tc 40 (fun _ => 0))) 16) 16 616 (kw_A ad ct sz) := by
  refine Met.ofW (cc := cX11_init) (maxL := 1) (ret := none) (by decide) rfl ?_
  intro pg en s m args below meth cod s₁ B hml hv
  obtain ⟨rfl, hsz, hP0, hK⟩ := hv
  have hx := B.exec
  have hb := B.bytes
  have hr := B.returns
  have hts := atoms_spec (ws := wsX11_init) B.pre
  have hown : s.vm.findClass RX11 = some m.cls := findClass_of_methodNamed B.named
  have hlocks := B.notSynchronized
  have hin2 : meth.name = "<init>" := (name_of_methodNamed B.named B.method).1
  subst hsz
  have hw := kw_H.start hP0
  generalize hAe : kw_A ad ct s.heap.size = A at hw ⊢
  have hA : ∀ q, s.heap.size ≤ q → A q := fun q h => by rw [← hAe]; exact Or.inr h
  have hinX11 : ∀ w ∈ wsX110, w ∈ wsX11_init := by decide +kernel
  have hl := lv_entry ([.ref (ad 200)]) (n := 1) (Nat.le_of_ble_eq_true rfl)
  rw [lg_entry_eq]
  generalize (lg_sl ([.ref (ad 200)]) ++ List.replicate (1 - (lg_sl ([.ref (ad 200)])).length) Slot.unset).toArray = ls at hl ⊢
  have hl : lv_has ls 1 [(0, .ref (ad 200))] := hl
  have S0 : CallFix pg m cod cX11_init 1 s _ wsX11_init RX11 := ⟨hx, hb, hml, hown, hts⟩
  have hfr : ∀ j, j ≠ 200 → j ≠ 201 → j ≠ 202 → j ≠ 203 → j ≠ 204 → j ≠ 205 → j ≠ 206 → j ≠ 207 → j ≠ 208 → j ≠ 209 → j ≠ 210 → j ≠ 211 → j ≠ 212 → j ≠ 213 → j ≠ 214 → j ≠ 215 → j ≠ 216 → ct j = ct j := fun _ _ _ _ _ _ _ _ _ _ _ _ _ _ _ _ _ _ => rfl
  refine lv_aload_n hx hb dX11_init_0 rfl (lv_at hl 0 rfl) ?_
  refine W.objInit hx hb hown (hts (.methodLink RX11 1 objectInit) (by decide +kernel)) (hts (.instanceMethod objectInit) (by decide +kernel)) (hts (.code objectInit ⟨#[0xb1]⟩ 1 none) (by decide +kernel)) rfl (by rw [hml]; exact hl.1) rfl dX11_init_1 (Nat.le_of_ble_eq_true rfl) (Nat.le_of_ble_eq_true rfl) ?_
  refine W.eq (g2 := F0 m 4 ls []) rfl ?_
  refine lv_aload_n hx hb dX11_init_4 rfl (lv_at hl 0 rfl) ?_
  refine lv_iconst (v := 2) hx hb dX11_init_5 (by decide) ?_
  refine kg_put (v := .int 2) (ty := .int) (C := RX11) (T := TX11) (N := 27) (fs' := [.int 0, .int 0, .int 2, .int 0, .null, .long 0, .int 0, .int 0, .int 0, .null, .null, .null, .null, .null, .null, .null, .null, .int 0, .null, .null, .null, .null, .null, .int 0, .int 0, .null, .null]) hx hb hts hinX11 tyX11 tyX11_ok nmX11 hown hK hw h0 rfl 2 (by decide) (hts (.fieldLink RX11 7 "BetMakerModel" "cases" "I") (by decide +kernel)) (fun _ h9 => h9) rfl (by decide +kernel) rfl rfl (Nat.le_of_ble_eq_true rfl) rfl dX11_init_6 (fun H locs hw => ?_)
  obtain ⟨ct_1, ect_1⟩ : ∃ z, z = kw_up ct 200 (.inr (11, [.int 0, .int 0, .int 2, .int 0, .null, .long 0, .int 0, .int 0, .int 0, .null, .null, .null, .null, .null, .null, .null, .null, .int 0, .null, .null, .null, .null, .null, .int 0, .int 0, .null, .null])) := ⟨_, rfl⟩
  rw [← ect_1] at hw
  have h_2 : ct_1 200 = some (.inr (11, [.int 0, .int 0, .int 2, .int 0, .null, .long 0, .int 0, .int 0, .int 0, .null, .null, .null, .null, .null, .null, .null, .null, .int 0, .null, .null, .null, .null, .null, .int 0, .int 0, .null, .null])) := by rw [ect_1]; exact kw_up_s
  have h_3 : ct_1 201 = none := by rw [ect_1, kw_up_n (by decide)]; exact hk201
  have h_4 : ct_1 202 = none := by rw [ect_1, kw_up_n (by decide)]; exact hk202
  have h_5 : ct_1 203 = none := by rw [ect_1, kw_up_n (by decide)]; exact hk203
  have h_6 : ct_1 204 = none := by rw [ect_1, kw_up_n (by decide)]; exact hk204
  have h_7 : ct_1 205 = none := by rw [ect_1, kw_up_n (by decide)]; exact hk205
  have h_8 : ct_1 206 = none := by rw [ect_1, kw_up_n (by decide)]; exact hk206
  have h_9 : ct_1 207 = none := by rw [ect_1, kw_up_n (by decide)]; exact hk207
  have h_10 : ct_1 208 = none := by rw [ect_1, kw_up_n (by decide)]; exact hk208
  have h_11 : ct_1 209 = none := by rw [ect_1, kw_up_n (by decide)]; exact hk209
  have h_12 : ct_1 210 = none := by rw [ect_1, kw_up_n (by decide)]; exact hk210
  have h_13 : ct_1 211 = none := by rw [ect_1, kw_up_n (by decide)]; exact hk211
  have h_14 : ct_1 212 = none := by rw [ect_1, kw_up_n (by decide)]; exact hk212
  have h_15 : ct_1 213 = none := by rw [ect_1, kw_up_n (by decide)]; exact hk213
  have h_16 : ct_1 214 = none := by rw [ect_1, kw_up_n (by decide)]; exact hk214
  have h_17 : ct_1 215 = none := by rw [ect_1, kw_up_n (by decide)]; exact hk215
  have h_18 : ct_1 216 = none := by rw [ect_1, kw_up_n (by decide)]; exact hk216
  have hfr_19 : ∀ j, j ≠ 200 → j ≠ 201 → j ≠ 202 → j ≠ 203 → j ≠ 204 → j ≠ 205 → j ≠ 206 → j ≠ 207 → j ≠ 208 → j ≠ 209 → j ≠ 210 → j ≠ 211 → j ≠ 212 → j ≠ 213 → j ≠ 214 → j ≠ 215 → j ≠ 216 → ct_1 j = ct j := fun j a0 a1 a2 a3 a4 a5 a6 a7 a8 a9 a10 a11 a12 a13 a14 a15 a16 => by rw [ect_1]; exact (kw_up_n a0).trans (hfr j a0 a1 a2 a3 a4 a5 a6 a7 a8 a9 a10 a11 a12 a13 a14 a15 a16)
  refine lv_aload_n hx hb dX11_init_9 rfl (lv_at hl 0 rfl) ?_
  refine lv_bipush (v := 100) hx hb dX11_init_10 (by decide) ?_
  refine kg_put (v := .int 100) (ty := .int) (C := RX11) (T := TX11) (N := 27) (fs' := [.int 0, .int 0, .int 2, .int 100, .null, .long 0, .int 0, .int 0, .int 0, .null, .null, .null, .null, .null, .null, .null, .null, .int 0, .null, .null, .null, .null, .null, .int 0, .int 0, .null, .null]) hx hb hts hinX11 tyX11 tyX11_ok nmX11 hown hK hw h_2 rfl 3 (by decide) (hts (.fieldLink RX11 13 "BetMakerModel" "broad" "I") (by decide +kernel)) (fun _ h9 => h9) rfl (by decide +kernel) rfl rfl (Nat.le_of_ble_eq_true rfl) rfl dX11_init_12 (fun H locs hw => ?_)
  obtain ⟨ct_20, ect_20⟩ : ∃ z, z = kw_up ct_1 200 (.inr (11, [.int 0, .int 0, .int 2, .int 100, .null, .long 0, .int 0, .int 0, .int 0, .null, .null, .null, .null, .null, .null, .null, .null, .int 0, .null, .null, .null, .null, .null, .int 0, .int 0, .null, .null])) := ⟨_, rfl⟩
  rw [← ect_20] at hw
  have h_21 : ct_20 200 = some (.inr (11, [.int 0, .int 0, .int 2, .int 100, .null, .long 0, .int 0, .int 0, .int 0, .null, .null, .null, .null, .null, .null, .null, .null, .int 0, .null, .null, .null, .null, .null, .int 0, .int 0, .null, .null])) := by rw [ect_20]; exact kw_up_s
  have h_22 : ct_20 201 = none := by rw [ect_20, kw_up_n (by decide)]; exact h_3
  have h_23 : ct_20 202 = none := by rw [ect_20, kw_up_n (by decide)]; exact h_4
  have h_24 : ct_20 203 = none := by rw [ect_20, kw_up_n (by decide)]; exact h_5
  have h_25 : ct_20 204 = none := by rw [ect_20, kw_up_n (by decide)]; exact h_6
  have h_26 : ct_20 205 = none := by rw [ect_20, kw_up_n (by decide)]; exact h_7
  have h_27 : ct_20 206 = none := by rw [ect_20, kw_up_n (by decide)]; exact h_8
  have h_28 : ct_20 207 = none := by rw [ect_20, kw_up_n (by decide)]; exact h_9
  have h_29 : ct_20 208 = none := by rw [ect_20, kw_up_n (by decide)]; exact h_10
  have h_30 : ct_20 209 = none := by rw [ect_20, kw_up_n (by decide)]; exact h_11
  have h_31 : ct_20 210 = none := by rw [ect_20, kw_up_n (by decide)]; exact h_12
  have h_32 : ct_20 211 = none := by rw [ect_20, kw_up_n (by decide)]; exact h_13
  have h_33 : ct_20 212 = none := by rw [ect_20, kw_up_n (by decide)]; exact h_14
  have h_34 : ct_20 213 = none := by rw [ect_20, kw_up_n (by decide)]; exact h_15
  have h_35 : ct_20 214 = none := by rw [ect_20, kw_up_n (by decide)]; exact h_16
  have h_36 : ct_20 215 = none := by rw [ect_20, kw_up_n (by decide)]; exact h_17
  have h_37 : ct_20 216 = none := by rw [ect_20, kw_up_n (by decide)]; exact h_18
  have hfr_38 : ∀ j, j ≠ 200 → j ≠ 201 → j ≠ 202 → j ≠ 203 → j ≠ 204 → j ≠ 205 → j ≠ 206 → j ≠ 207 → j ≠ 208 → j ≠ 209 → j ≠ 210 → j ≠ 211 → j ≠ 212 → j ≠ 213 → j ≠ 214 → j ≠ 215 → j ≠ 216 → ct_20 j = ct j := fun j a0 a1 a2 a3 a4 a5 a6 a7 a8 a9 a10 a11 a12 a13 a14 a15 a16 => by rw [ect_20]; exact (kw_up_n a0).trans (hfr_19 j a0 a1 a2 a3 a4 a5 a6 a7 a8 a9 a10 a11 a12 a13 a14 a15 a16)
  refine lv_aload_n hx hb dX11_init_15 rfl (lv_at hl 0 rfl) ?_
  refine lv_bipush (v := 8) hx hb dX11_init_16 (by decide) ?_
  refine kg_newl hx hb (hts (.arrayClass .long) (by decide +kernel)) hK hw hA 201 h_22 hk201a 8 rfl (by omega) (Nat.le_of_ble_eq_true rfl) (Nat.le_of_ble_eq_true rfl) dX11_init_18 (fun H hw => ?_)
  obtain ⟨ct_39, ect_39⟩ : ∃ z, z = kw_up ct_20 201 (eJ tc 8 (fun _ => 0)) := ⟨_, rfl⟩
  rw [← ect_39] at hw
  have h_40 : ct_39 200 = some (.inr (11, [.int 0, .int 0, .int 2, .int 100, .null, .long 0, .int 0, .int 0, .int 0, .null, .null, .null, .null, .null, .null, .null, .null, .int 0, .null, .null, .null, .null, .null, .int 0, .int 0, .null, .null])) := by rw [ect_39, kw_up_n (by decide)]; exact h_21
  have h_41 : ct_39 201 = some (eJ tc 8 (fun _ => 0)) := by rw [ect_39]; exact kw_up_s
  have h_42 : ct_39 202 = none := by rw [ect_39, kw_up_n (by decide)]; exact h_23
  have h_43 : ct_39 203 = none := by rw [ect_39, kw_up_n (by decide)]; exact h_24
  have h_44 : ct_39 204 = none := by rw [ect_39, kw_up_n (by decide)]; exact h_25
  have h_45 : ct_39 205 = none := by rw [ect_39, kw_up_n (by decide)]; exact h_26
  have h_46 : ct_39 206 = none := by rw [ect_39, kw_up_n (by decide)]; exact h_27
  have h_47 : ct_39 207 = none := by rw [ect_39, kw_up_n (by decide)]; exact h_28
  have h_48 : ct_39 208 = none := by rw [ect_39, kw_up_n (by decide)]; exact h_29
  have h_49 : ct_39 209 = none := by rw [ect_39, kw_up_n (by decide)]; exact h_30
  have h_50 : ct_39 210 = none := by rw [ect_39, kw_up_n (by decide)]; exact h_31
  have h_51 : ct_39 211 = none := by rw [ect_39, kw_up_n (by decide)]; exact h_32
  have h_52 : ct_39 212 = none := by rw [ect_39, kw_up_n (by decide)]; exact h_33
  have h_53 : ct_39 213 = none := by rw [ect_39, kw_up_n (by decide)]; exact h_34
  have h_54 : ct_39 214 = none := by rw [ect_39, kw_up_n (by decide)]; exact h_35
  have h_55 : ct_39 215 = none := by rw [ect_39, kw_up_n (by decide)]; exact h_36
  have h_56 : ct_39 216 = none := by rw [ect_39, kw_up_n (by decide)]; exact h_37
  have hfr_57 : ∀ j, j ≠ 200 → j ≠ 201 → j ≠ 202 → j ≠ 203 → j ≠ 204 → j ≠ 205 → j ≠ 206 → j ≠ 207 → j ≠ 208 → j ≠ 209 → j ≠ 210 → j ≠ 211 → j ≠ 212 → j ≠ 213 → j ≠ 214 → j ≠ 215 → j ≠ 216 → ct_39 j = ct j := fun j a0 a1 a2 a3 a4 a5 a6 a7 a8 a9 a10 a11 a12 a13 a14 a15 a16 => by rw [ect_39]; exact (kw_up_n a1).trans (hfr_38 j a0 a1 a2 a3 a4 a5 a6 a7 a8 a9 a10 a11 a12 a13 a14 a15 a16)
  refine kg_putF (v := .ref (ad 201)) (ty := .array .long) (C := RX11) (T := TX11) (N := 27) (fs' := [.int 0, .int 0, .int 2, .int 100, .ref (ad 201), .long 0, .int 0, .int 0, .int 0, .null, .null, .null, .null, .null, .null, .null, .null, .int 0, .null, .null, .null, .null, .null, .int 0, .int 0, .null, .null]) hx hb hts hinX11 tyX11 tyX11_ok nmX11 hown hK hw h_40 rfl 4 (by decide) (hts (.fieldLink RX11 16 "BetMakerModel" "sold" "[J") (by decide +kernel)) (fun _ h9 => h9) rfl hin2 rfl (by decide +kernel) rfl rfl (Nat.le_of_ble_eq_true rfl) rfl dX11_init_20 (fun H locs hw => ?_)
  obtain ⟨ct_58, ect_58⟩ : ∃ z, z = kw_up ct_39 200 (.inr (11, [.int 0, .int 0, .int 2, .int 100, .ref (ad 201), .long 0, .int 0, .int 0, .int 0, .null, .null, .null, .null, .null, .null, .null, .null, .int 0, .null, .null, .null, .null, .null, .int 0, .int 0, .null, .null])) := ⟨_, rfl⟩
  rw [← ect_58] at hw
  have h_59 : ct_58 201 = some (eJ tc 8 (fun _ => 0)) := by rw [ect_58, kw_up_n (by decide)]; exact h_41
  have h_60 : ct_58 200 = some (.inr (11, [.int 0, .int 0, .int 2, .int 100, .ref (ad 201), .long 0, .int 0, .int 0, .int 0, .null, .null, .null, .null, .null, .null, .null, .null, .int 0, .null, .null, .null, .null, .null, .int 0, .int 0, .null, .null])) := by rw [ect_58]; exact kw_up_s
  have h_61 : ct_58 202 = none := by rw [ect_58, kw_up_n (by decide)]; exact h_42
  have h_62 : ct_58 203 = none := by rw [ect_58, kw_up_n (by decide)]; exact h_43
  have h_63 : ct_58 204 = none := by rw [ect_58, kw_up_n (by decide)]; exact h_44
  have h_64 : ct_58 205 = none := by rw [ect_58, kw_up_n (by decide)]; exact h_45
  have h_65 : ct_58 206 = none := by rw [ect_58, kw_up_n (by decide)]; exact h_46
  have h_66 : ct_58 207 = none := by rw [ect_58, kw_up_n (by decide)]; exact h_47
  have h_67 : ct_58 208 = none := by rw [ect_58, kw_up_n (by decide)]; exact h_48
  have h_68 : ct_58 209 = none := by rw [ect_58, kw_up_n (by decide)]; exact h_49
  have h_69 : ct_58 210 = none := by rw [ect_58, kw_up_n (by decide)]; exact h_50
  have h_70 : ct_58 211 = none := by rw [ect_58, kw_up_n (by decide)]; exact h_51
  have h_71 : ct_58 212 = none := by rw [ect_58, kw_up_n (by decide)]; exact h_52
  have h_72 : ct_58 213 = none := by rw [ect_58, kw_up_n (by decide)]; exact h_53
  have h_73 : ct_58 214 = none := by rw [ect_58, kw_up_n (by decide)]; exact h_54
  have h_74 : ct_58 215 = none := by rw [ect_58, kw_up_n (by decide)]; exact h_55
  have h_75 : ct_58 216 = none := by rw [ect_58, kw_up_n (by decide)]; exact h_56
  have hfr_76 : ∀ j, j ≠ 200 → j ≠ 201 → j ≠ 202 → j ≠ 203 → j ≠ 204 → j ≠ 205 → j ≠ 206 → j ≠ 207 → j ≠ 208 → j ≠ 209 → j ≠ 210 → j ≠ 211 → j ≠ 212 → j ≠ 213 → j ≠ 214 → j ≠ 215 → j ≠ 216 → ct_58 j = ct j := fun j a0 a1 a2 a3 a4 a5 a6 a7 a8 a9 a10 a11 a12 a13 a14 a15 a16 => by rw [ect_58]; exact (kw_up_n a0).trans (hfr_57 j a0 a1 a2 a3 a4 a5 a6 a7 a8 a9 a10 a11 a12 a13 a14 a15 a16)
  refine lv_aload_n hx hb dX11_init_23 rfl (lv_at hl 0 rfl) ?_
  refine lv_bipush (v := (-9)) hx hb dX11_init_24 (by decide) ?_
  refine kg_put (v := .int (-9)) (ty := .int) (C := RX11) (T := TX11) (N := 27) (fs' := [.int 0, .int 0, .int 2, .int 100, .ref (ad 201), .long 0, .int (-9), .int 0, .int 0, .null, .null, .null, .null, .null, .null, .null, .null, .int 0, .null, .null, .null, .null, .null, .int 0, .int 0, .null, .null]) hx hb hts hinX11 tyX11 tyX11_ok nmX11 hown hK hw h_60 rfl 6 (by decide) (hts (.fieldLink RX11 20 "BetMakerModel" "came" "I") (by decide +kernel)) (fun _ h9 => h9) rfl (by decide +kernel) rfl rfl (Nat.le_of_ble_eq_true rfl) rfl dX11_init_26 (fun H locs hw => ?_)
  obtain ⟨ct_77, ect_77⟩ : ∃ z, z = kw_up ct_58 200 (.inr (11, [.int 0, .int 0, .int 2, .int 100, .ref (ad 201), .long 0, .int (-9), .int 0, .int 0, .null, .null, .null, .null, .null, .null, .null, .null, .int 0, .null, .null, .null, .null, .null, .int 0, .int 0, .null, .null])) := ⟨_, rfl⟩
  rw [← ect_77] at hw
  have h_78 : ct_77 201 = some (eJ tc 8 (fun _ => 0)) := by rw [ect_77, kw_up_n (by decide)]; exact h_59
  have h_79 : ct_77 200 = some (.inr (11, [.int 0, .int 0, .int 2, .int 100, .ref (ad 201), .long 0, .int (-9), .int 0, .int 0, .null, .null, .null, .null, .null, .null, .null, .null, .int 0, .null, .null, .null, .null, .null, .int 0, .int 0, .null, .null])) := by rw [ect_77]; exact kw_up_s
  have h_80 : ct_77 202 = none := by rw [ect_77, kw_up_n (by decide)]; exact h_61
  have h_81 : ct_77 203 = none := by rw [ect_77, kw_up_n (by decide)]; exact h_62
  have h_82 : ct_77 204 = none := by rw [ect_77, kw_up_n (by decide)]; exact h_63
  have h_83 : ct_77 205 = none := by rw [ect_77, kw_up_n (by decide)]; exact h_64
  have h_84 : ct_77 206 = none := by rw [ect_77, kw_up_n (by decide)]; exact h_65
  have h_85 : ct_77 207 = none := by rw [ect_77, kw_up_n (by decide)]; exact h_66
  have h_86 : ct_77 208 = none := by rw [ect_77, kw_up_n (by decide)]; exact h_67
  have h_87 : ct_77 209 = none := by rw [ect_77, kw_up_n (by decide)]; exact h_68
  have h_88 : ct_77 210 = none := by rw [ect_77, kw_up_n (by decide)]; exact h_69
  have h_89 : ct_77 211 = none := by rw [ect_77, kw_up_n (by decide)]; exact h_70
  have h_90 : ct_77 212 = none := by rw [ect_77, kw_up_n (by decide)]; exact h_71
  have h_91 : ct_77 213 = none := by rw [ect_77, kw_up_n (by decide)]; exact h_72
  have h_92 : ct_77 214 = none := by rw [ect_77, kw_up_n (by decide)]; exact h_73
  have h_93 : ct_77 215 = none := by rw [ect_77, kw_up_n (by decide)]; exact h_74
  have h_94 : ct_77 216 = none := by rw [ect_77, kw_up_n (by decide)]; exact h_75
  have hfr_95 : ∀ j, j ≠ 200 → j ≠ 201 → j ≠ 202 → j ≠ 203 → j ≠ 204 → j ≠ 205 → j ≠ 206 → j ≠ 207 → j ≠ 208 → j ≠ 209 → j ≠ 210 → j ≠ 211 → j ≠ 212 → j ≠ 213 → j ≠ 214 → j ≠ 215 → j ≠ 216 → ct_77 j = ct j := fun j a0 a1 a2 a3 a4 a5 a6 a7 a8 a9 a10 a11 a12 a13 a14 a15 a16 => by rw [ect_77]; exact (kw_up_n a0).trans (hfr_76 j a0 a1 a2 a3 a4 a5 a6 a7 a8 a9 a10 a11 a12 a13 a14 a15 a16)
  refine lv_aload_n hx hb dX11_init_29 rfl (lv_at hl 0 rfl) ?_
  refine lv_bipush (v := 6) hx hb dX11_init_30 (by decide) ?_
  refine kg_newi hx hb (hts (.arrayClass .int) (by decide +kernel)) hK hw hA 202 h_80 hk202a 6 rfl (by omega) (Nat.le_of_ble_eq_true rfl) (Nat.le_of_ble_eq_true rfl) dX11_init_32 (fun H hw => ?_)
  obtain ⟨ct_96, ect_96⟩ : ∃ z, z = kw_up ct_77 202 (eI tc 6 (fun _ => 0)) := ⟨_, rfl⟩
  rw [← ect_96] at hw
  have h_97 : ct_96 201 = some (eJ tc 8 (fun _ => 0)) := by rw [ect_96, kw_up_n (by decide)]; exact h_78
  have h_98 : ct_96 200 = some (.inr (11, [.int 0, .int 0, .int 2, .int 100, .ref (ad 201), .long 0, .int (-9), .int 0, .int 0, .null, .null, .null, .null, .null, .null, .null, .null, .int 0, .null, .null, .null, .null, .null, .int 0, .int 0, .null, .null])) := by rw [ect_96, kw_up_n (by decide)]; exact h_79
  have h_99 : ct_96 202 = some (eI tc 6 (fun _ => 0)) := by rw [ect_96]; exact kw_up_s
  have h_100 : ct_96 203 = none := by rw [ect_96, kw_up_n (by decide)]; exact h_81
  have h_101 : ct_96 204 = none := by rw [ect_96, kw_up_n (by decide)]; exact h_82
  have h_102 : ct_96 205 = none := by rw [ect_96, kw_up_n (by decide)]; exact h_83
  have h_103 : ct_96 206 = none := by rw [ect_96, kw_up_n (by decide)]; exact h_84
  have h_104 : ct_96 207 = none := by rw [ect_96, kw_up_n (by decide)]; exact h_85
  have h_105 : ct_96 208 = none := by rw [ect_96, kw_up_n (by decide)]; exact h_86
  have h_106 : ct_96 209 = none := by rw [ect_96, kw_up_n (by decide)]; exact h_87
  have h_107 : ct_96 210 = none := by rw [ect_96, kw_up_n (by decide)]; exact h_88
  have h_108 : ct_96 211 = none := by rw [ect_96, kw_up_n (by decide)]; exact h_89
  have h_109 : ct_96 212 = none := by rw [ect_96, kw_up_n (by decide)]; exact h_90
  have h_110 : ct_96 213 = none := by rw [ect_96, kw_up_n (by decide)]; exact h_91
  have h_111 : ct_96 214 = none := by rw [ect_96, kw_up_n (by decide)]; exact h_92
  have h_112 : ct_96 215 = none := by rw [ect_96, kw_up_n (by decide)]; exact h_93
  have h_113 : ct_96 216 = none := by rw [ect_96, kw_up_n (by decide)]; exact h_94
  have hfr_114 : ∀ j, j ≠ 200 → j ≠ 201 → j ≠ 202 → j ≠ 203 → j ≠ 204 → j ≠ 205 → j ≠ 206 → j ≠ 207 → j ≠ 208 → j ≠ 209 → j ≠ 210 → j ≠ 211 → j ≠ 212 → j ≠ 213 → j ≠ 214 → j ≠ 215 → j ≠ 216 → ct_96 j = ct j := fun j a0 a1 a2 a3 a4 a5 a6 a7 a8 a9 a10 a11 a12 a13 a14 a15 a16 => by rw [ect_96]; exact (kw_up_n a2).trans (hfr_95 j a0 a1 a2 a3 a4 a5 a6 a7 a8 a9 a10 a11 a12 a13 a14 a15 a16)
  refine kg_putF (v := .ref (ad 202)) (ty := .array .int) (C := RX11) (T := TX11) (N := 27) (fs' := [.int 0, .int 0, .int 2, .int 100, .ref (ad 201), .long 0, .int (-9), .int 0, .int 0, .ref (ad 202), .null, .null, .null, .null, .null, .null, .null, .int 0, .null, .null, .null, .null, .null, .int 0, .int 0, .null, .null]) hx hb hts hinX11 tyX11 tyX11_ok nmX11 hown hK hw h_98 rfl 9 (by decide) (hts (.fieldLink RX11 23 "BetMakerModel" "kinds" "[I") (by decide +kernel)) (fun _ h9 => h9) rfl hin2 rfl (by decide +kernel) rfl rfl (Nat.le_of_ble_eq_true rfl) rfl dX11_init_34 (fun H locs hw => ?_)
  obtain ⟨ct_115, ect_115⟩ : ∃ z, z = kw_up ct_96 200 (.inr (11, [.int 0, .int 0, .int 2, .int 100, .ref (ad 201), .long 0, .int (-9), .int 0, .int 0, .ref (ad 202), .null, .null, .null, .null, .null, .null, .null, .int 0, .null, .null, .null, .null, .null, .int 0, .int 0, .null, .null])) := ⟨_, rfl⟩
  rw [← ect_115] at hw
  have h_116 : ct_115 201 = some (eJ tc 8 (fun _ => 0)) := by rw [ect_115, kw_up_n (by decide)]; exact h_97
  have h_117 : ct_115 202 = some (eI tc 6 (fun _ => 0)) := by rw [ect_115, kw_up_n (by decide)]; exact h_99
  have h_118 : ct_115 200 = some (.inr (11, [.int 0, .int 0, .int 2, .int 100, .ref (ad 201), .long 0, .int (-9), .int 0, .int 0, .ref (ad 202), .null, .null, .null, .null, .null, .null, .null, .int 0, .null, .null, .null, .null, .null, .int 0, .int 0, .null, .null])) := by rw [ect_115]; exact kw_up_s
  have h_119 : ct_115 203 = none := by rw [ect_115, kw_up_n (by decide)]; exact h_100
  have h_120 : ct_115 204 = none := by rw [ect_115, kw_up_n (by decide)]; exact h_101
  have h_121 : ct_115 205 = none := by rw [ect_115, kw_up_n (by decide)]; exact h_102
  have h_122 : ct_115 206 = none := by rw [ect_115, kw_up_n (by decide)]; exact h_103
  have h_123 : ct_115 207 = none := by rw [ect_115, kw_up_n (by decide)]; exact h_104
  have h_124 : ct_115 208 = none := by rw [ect_115, kw_up_n (by decide)]; exact h_105
  have h_125 : ct_115 209 = none := by rw [ect_115, kw_up_n (by decide)]; exact h_106
  have h_126 : ct_115 210 = none := by rw [ect_115, kw_up_n (by decide)]; exact h_107
  have h_127 : ct_115 211 = none := by rw [ect_115, kw_up_n (by decide)]; exact h_108
  have h_128 : ct_115 212 = none := by rw [ect_115, kw_up_n (by decide)]; exact h_109
  have h_129 : ct_115 213 = none := by rw [ect_115, kw_up_n (by decide)]; exact h_110
  have h_130 : ct_115 214 = none := by rw [ect_115, kw_up_n (by decide)]; exact h_111
  have h_131 : ct_115 215 = none := by rw [ect_115, kw_up_n (by decide)]; exact h_112
  have h_132 : ct_115 216 = none := by rw [ect_115, kw_up_n (by decide)]; exact h_113
  have hfr_133 : ∀ j, j ≠ 200 → j ≠ 201 → j ≠ 202 → j ≠ 203 → j ≠ 204 → j ≠ 205 → j ≠ 206 → j ≠ 207 → j ≠ 208 → j ≠ 209 → j ≠ 210 → j ≠ 211 → j ≠ 212 → j ≠ 213 → j ≠ 214 → j ≠ 215 → j ≠ 216 → ct_115 j = ct j := fun j a0 a1 a2 a3 a4 a5 a6 a7 a8 a9 a10 a11 a12 a13 a14 a15 a16 => by rw [ect_115]; exact (kw_up_n a0).trans (hfr_114 j a0 a1 a2 a3 a4 a5 a6 a7 a8 a9 a10 a11 a12 a13 a14 a15 a16)
  refine lv_aload_n hx hb dX11_init_37 rfl (lv_at hl 0 rfl) ?_
  refine lv_bipush (v := 6) hx hb dX11_init_38 (by decide) ?_
  refine kg_newl hx hb (hts (.arrayClass .long) (by decide +kernel)) hK hw hA 203 h_119 hk203a 6 rfl (by omega) (Nat.le_of_ble_eq_true rfl) (Nat.le_of_ble_eq_true rfl) dX11_init_40 (fun H hw => ?_)
  obtain ⟨ct_134, ect_134⟩ : ∃ z, z = kw_up ct_115 203 (eJ tc 6 (fun _ => 0)) := ⟨_, rfl⟩
  rw [← ect_134] at hw
  have h_135 : ct_134 201 = some (eJ tc 8 (fun _ => 0)) := by rw [ect_134, kw_up_n (by decide)]; exact h_116
  have h_136 : ct_134 202 = some (eI tc 6 (fun _ => 0)) := by rw [ect_134, kw_up_n (by decide)]; exact h_117
  have h_137 : ct_134 200 = some (.inr (11, [.int 0, .int 0, .int 2, .int 100, .ref (ad 201), .long 0, .int (-9), .int 0, .int 0, .ref (ad 202), .null, .null, .null, .null, .null, .null, .null, .int 0, .null, .null, .null, .null, .null, .int 0, .int 0, .null, .null])) := by rw [ect_134, kw_up_n (by decide)]; exact h_118
  have h_138 : ct_134 203 = some (eJ tc 6 (fun _ => 0)) := by rw [ect_134]; exact kw_up_s
  have h_139 : ct_134 204 = none := by rw [ect_134, kw_up_n (by decide)]; exact h_120
  have h_140 : ct_134 205 = none := by rw [ect_134, kw_up_n (by decide)]; exact h_121
  have h_141 : ct_134 206 = none := by rw [ect_134, kw_up_n (by decide)]; exact h_122
  have h_142 : ct_134 207 = none := by rw [ect_134, kw_up_n (by decide)]; exact h_123
  have h_143 : ct_134 208 = none := by rw [ect_134, kw_up_n (by decide)]; exact h_124
  have h_144 : ct_134 209 = none := by rw [ect_134, kw_up_n (by decide)]; exact h_125
  have h_145 : ct_134 210 = none := by rw [ect_134, kw_up_n (by decide)]; exact h_126
  have h_146 : ct_134 211 = none := by rw [ect_134, kw_up_n (by decide)]; exact h_127
  have h_147 : ct_134 212 = none := by rw [ect_134, kw_up_n (by decide)]; exact h_128
  have h_148 : ct_134 213 = none := by rw [ect_134, kw_up_n (by decide)]; exact h_129
  have h_149 : ct_134 214 = none := by rw [ect_134, kw_up_n (by decide)]; exact h_130
  have h_150 : ct_134 215 = none := by rw [ect_134, kw_up_n (by decide)]; exact h_131
  have h_151 : ct_134 216 = none := by rw [ect_134, kw_up_n (by decide)]; exact h_132
  have hfr_152 : ∀ j, j ≠ 200 → j ≠ 201 → j ≠ 202 → j ≠ 203 → j ≠ 204 → j ≠ 205 → j ≠ 206 → j ≠ 207 → j ≠ 208 → j ≠ 209 → j ≠ 210 → j ≠ 211 → j ≠ 212 → j ≠ 213 → j ≠ 214 → j ≠ 215 → j ≠ 216 → ct_134 j = ct j := fun j a0 a1 a2 a3 a4 a5 a6 a7 a8 a9 a10 a11 a12 a13 a14 a15 a16 => by rw [ect_134]; exact (kw_up_n a3).trans (hfr_133 j a0 a1 a2 a3 a4 a5 a6 a7 a8 a9 a10 a11 a12 a13 a14 a15 a16)
  refine kg_putF (v := .ref (ad 203)) (ty := .array .long) (C := RX11) (T := TX11) (N := 27) (fs' := [.int 0, .int 0, .int 2, .int 100, .ref (ad 201), .long 0, .int (-9), .int 0, .int 0, .ref (ad 202), .ref (ad 203), .null, .null, .null, .null, .null, .null, .int 0, .null, .null, .null, .null, .null, .int 0, .int 0, .null, .null]) hx hb hts hinX11 tyX11 tyX11_ok nmX11 hown hK hw h_137 rfl 10 (by decide) (hts (.fieldLink RX11 27 "BetMakerModel" "purse" "[J") (by decide +kernel)) (fun _ h9 => h9) rfl hin2 rfl (by decide +kernel) rfl rfl (Nat.le_of_ble_eq_true rfl) rfl dX11_init_42 (fun H locs hw => ?_)
  obtain ⟨ct_153, ect_153⟩ : ∃ z, z = kw_up ct_134 200 (.inr (11, [.int 0, .int 0, .int 2, .int 100, .ref (ad 201), .long 0, .int (-9), .int 0, .int 0, .ref (ad 202), .ref (ad 203), .null, .null, .null, .null, .null, .null, .int 0, .null, .null, .null, .null, .null, .int 0, .int 0, .null, .null])) := ⟨_, rfl⟩
  rw [← ect_153] at hw
  have h_154 : ct_153 201 = some (eJ tc 8 (fun _ => 0)) := by rw [ect_153, kw_up_n (by decide)]; exact h_135
  have h_155 : ct_153 202 = some (eI tc 6 (fun _ => 0)) := by rw [ect_153, kw_up_n (by decide)]; exact h_136
  have h_156 : ct_153 203 = some (eJ tc 6 (fun _ => 0)) := by rw [ect_153, kw_up_n (by decide)]; exact h_138
  have h_157 : ct_153 200 = some (.inr (11, [.int 0, .int 0, .int 2, .int 100, .ref (ad 201), .long 0, .int (-9), .int 0, .int 0, .ref (ad 202), .ref (ad 203), .null, .null, .null, .null, .null, .null, .int 0, .null, .null, .null, .null, .null, .int 0, .int 0, .null, .null])) := by rw [ect_153]; exact kw_up_s
  have h_158 : ct_153 204 = none := by rw [ect_153, kw_up_n (by decide)]; exact h_139
  have h_159 : ct_153 205 = none := by rw [ect_153, kw_up_n (by decide)]; exact h_140
  have h_160 : ct_153 206 = none := by rw [ect_153, kw_up_n (by decide)]; exact h_141
  have h_161 : ct_153 207 = none := by rw [ect_153, kw_up_n (by decide)]; exact h_142
  have h_162 : ct_153 208 = none := by rw [ect_153, kw_up_n (by decide)]; exact h_143
  have h_163 : ct_153 209 = none := by rw [ect_153, kw_up_n (by decide)]; exact h_144
  have h_164 : ct_153 210 = none := by rw [ect_153, kw_up_n (by decide)]; exact h_145
  have h_165 : ct_153 211 = none := by rw [ect_153, kw_up_n (by decide)]; exact h_146
  have h_166 : ct_153 212 = none := by rw [ect_153, kw_up_n (by decide)]; exact h_147
  have h_167 : ct_153 213 = none := by rw [ect_153, kw_up_n (by decide)]; exact h_148
  have h_168 : ct_153 214 = none := by rw [ect_153, kw_up_n (by decide)]; exact h_149
  have h_169 : ct_153 215 = none := by rw [ect_153, kw_up_n (by decide)]; exact h_150
  have h_170 : ct_153 216 = none := by rw [ect_153, kw_up_n (by decide)]; exact h_151
  have hfr_171 : ∀ j, j ≠ 200 → j ≠ 201 → j ≠ 202 → j ≠ 203 → j ≠ 204 → j ≠ 205 → j ≠ 206 → j ≠ 207 → j ≠ 208 → j ≠ 209 → j ≠ 210 → j ≠ 211 → j ≠ 212 → j ≠ 213 → j ≠ 214 → j ≠ 215 → j ≠ 216 → ct_153 j = ct j := fun j a0 a1 a2 a3 a4 a5 a6 a7 a8 a9 a10 a11 a12 a13 a14 a15 a16 => by rw [ect_153]; exact (kw_up_n a0).trans (hfr_152 j a0 a1 a2 a3 a4 a5 a6 a7 a8 a9 a10 a11 a12 a13 a14 a15 a16)
  refine lv_aload_n hx hb dX11_init_45 rfl (lv_at hl 0 rfl) ?_
  refine lv_bipush (v := 6) hx hb dX11_init_46 (by decide) ?_
  refine kg_newi hx hb (hts (.arrayClass .int) (by decide +kernel)) hK hw hA 204 h_158 hk204a 6 rfl (by omega) (Nat.le_of_ble_eq_true rfl) (Nat.le_of_ble_eq_true rfl) dX11_init_48 (fun H hw => ?_)
  obtain ⟨ct_172, ect_172⟩ : ∃ z, z = kw_up ct_153 204 (eI tc 6 (fun _ => 0)) := ⟨_, rfl⟩
  rw [← ect_172] at hw
  have h_173 : ct_172 201 = some (eJ tc 8 (fun _ => 0)) := by rw [ect_172, kw_up_n (by decide)]; exact h_154
  have h_174 : ct_172 202 = some (eI tc 6 (fun _ => 0)) := by rw [ect_172, kw_up_n (by decide)]; exact h_155
  have h_175 : ct_172 203 = some (eJ tc 6 (fun _ => 0)) := by rw [ect_172, kw_up_n (by decide)]; exact h_156
  have h_176 : ct_172 200 = some (.inr (11, [.int 0, .int 0, .int 2, .int 100, .ref (ad 201), .long 0, .int (-9), .int 0, .int 0, .ref (ad 202), .ref (ad 203), .null, .null, .null, .null, .null, .null, .int 0, .null, .null, .null, .null, .null, .int 0, .int 0, .null, .null])) := by rw [ect_172, kw_up_n (by decide)]; exact h_157
  have h_177 : ct_172 204 = some (eI tc 6 (fun _ => 0)) := by rw [ect_172]; exact kw_up_s
  have h_178 : ct_172 205 = none := by rw [ect_172, kw_up_n (by decide)]; exact h_159
  have h_179 : ct_172 206 = none := by rw [ect_172, kw_up_n (by decide)]; exact h_160
  have h_180 : ct_172 207 = none := by rw [ect_172, kw_up_n (by decide)]; exact h_161
  have h_181 : ct_172 208 = none := by rw [ect_172, kw_up_n (by decide)]; exact h_162
  have h_182 : ct_172 209 = none := by rw [ect_172, kw_up_n (by decide)]; exact h_163
  have h_183 : ct_172 210 = none := by rw [ect_172, kw_up_n (by decide)]; exact h_164
  have h_184 : ct_172 211 = none := by rw [ect_172, kw_up_n (by decide)]; exact h_165
  have h_185 : ct_172 212 = none := by rw [ect_172, kw_up_n (by decide)]; exact h_166
  have h_186 : ct_172 213 = none := by rw [ect_172, kw_up_n (by decide)]; exact h_167
  have h_187 : ct_172 214 = none := by rw [ect_172, kw_up_n (by decide)]; exact h_168
  have h_188 : ct_172 215 = none := by rw [ect_172, kw_up_n (by decide)]; exact h_169
  have h_189 : ct_172 216 = none := by rw [ect_172, kw_up_n (by decide)]; exact h_170
  have hfr_190 : ∀ j, j ≠ 200 → j ≠ 201 → j ≠ 202 → j ≠ 203 → j ≠ 204 → j ≠ 205 → j ≠ 206 → j ≠ 207 → j ≠ 208 → j ≠ 209 → j ≠ 210 → j ≠ 211 → j ≠ 212 → j ≠ 213 → j ≠ 214 → j ≠ 215 → j ≠ 216 → ct_172 j = ct j := fun j a0 a1 a2 a3 a4 a5 a6 a7 a8 a9 a10 a11 a12 a13 a14 a15 a16 => by rw [ect_172]; exact (kw_up_n a4).trans (hfr_171 j a0 a1 a2 a3 a4 a5 a6 a7 a8 a9 a10 a11 a12 a13 a14 a15 a16)
  refine kg_putF (v := .ref (ad 204)) (ty := .array .int) (C := RX11) (T := TX11) (N := 27) (fs' := [.int 0, .int 0, .int 2, .int 100, .ref (ad 201), .long 0, .int (-9), .int 0, .int 0, .ref (ad 202), .ref (ad 203), .ref (ad 204), .null, .null, .null, .null, .null, .int 0, .null, .null, .null, .null, .null, .int 0, .int 0, .null, .null]) hx hb hts hinX11 tyX11 tyX11_ok nmX11 hown hK hw h_176 rfl 11 (by decide) (hts (.fieldLink RX11 30 "BetMakerModel" "deals" "[I") (by decide +kernel)) (fun _ h9 => h9) rfl hin2 rfl (by decide +kernel) rfl rfl (Nat.le_of_ble_eq_true rfl) rfl dX11_init_50 (fun H locs hw => ?_)
  obtain ⟨ct_191, ect_191⟩ : ∃ z, z = kw_up ct_172 200 (.inr (11, [.int 0, .int 0, .int 2, .int 100, .ref (ad 201), .long 0, .int (-9), .int 0, .int 0, .ref (ad 202), .ref (ad 203), .ref (ad 204), .null, .null, .null, .null, .null, .int 0, .null, .null, .null, .null, .null, .int 0, .int 0, .null, .null])) := ⟨_, rfl⟩
  rw [← ect_191] at hw
  have h_192 : ct_191 201 = some (eJ tc 8 (fun _ => 0)) := by rw [ect_191, kw_up_n (by decide)]; exact h_173
  have h_193 : ct_191 202 = some (eI tc 6 (fun _ => 0)) := by rw [ect_191, kw_up_n (by decide)]; exact h_174
  have h_194 : ct_191 203 = some (eJ tc 6 (fun _ => 0)) := by rw [ect_191, kw_up_n (by decide)]; exact h_175
  have h_195 : ct_191 204 = some (eI tc 6 (fun _ => 0)) := by rw [ect_191, kw_up_n (by decide)]; exact h_177
  have h_196 : ct_191 200 = some (.inr (11, [.int 0, .int 0, .int 2, .int 100, .ref (ad 201), .long 0, .int (-9), .int 0, .int 0, .ref (ad 202), .ref (ad 203), .ref (ad 204), .null, .null, .null, .null, .null, .int 0, .null, .null, .null, .null, .null, .int 0, .int 0, .null, .null])) := by rw [ect_191]; exact kw_up_s
  have h_197 : ct_191 205 = none := by rw [ect_191, kw_up_n (by decide)]; exact h_178
  have h_198 : ct_191 206 = none := by rw [ect_191, kw_up_n (by decide)]; exact h_179
  have h_199 : ct_191 207 = none := by rw [ect_191, kw_up_n (by decide)]; exact h_180
  have h_200 : ct_191 208 = none := by rw [ect_191, kw_up_n (by decide)]; exact h_181
  have h_201 : ct_191 209 = none := by rw [ect_191, kw_up_n (by decide)]; exact h_182
  have h_202 : ct_191 210 = none := by rw [ect_191, kw_up_n (by decide)]; exact h_183
  have h_203 : ct_191 211 = none := by rw [ect_191, kw_up_n (by decide)]; exact h_184
  have h_204 : ct_191 212 = none := by rw [ect_191, kw_up_n (by decide)]; exact h_185
  have h_205 : ct_191 213 = none := by rw [ect_191, kw_up_n (by decide)]; exact h_186
  have h_206 : ct_191 214 = none := by rw [ect_191, kw_up_n (by decide)]; exact h_187
  have h_207 : ct_191 215 = none := by rw [ect_191, kw_up_n (by decide)]; exact h_188
  have h_208 : ct_191 216 = none := by rw [ect_191, kw_up_n (by decide)]; exact h_189
  have hfr_209 : ∀ j, j ≠ 200 → j ≠ 201 → j ≠ 202 → j ≠ 203 → j ≠ 204 → j ≠ 205 → j ≠ 206 → j ≠ 207 → j ≠ 208 → j ≠ 209 → j ≠ 210 → j ≠ 211 → j ≠ 212 → j ≠ 213 → j ≠ 214 → j ≠ 215 → j ≠ 216 → ct_191 j = ct j := fun j a0 a1 a2 a3 a4 a5 a6 a7 a8 a9 a10 a11 a12 a13 a14 a15 a16 => by rw [ect_191]; exact (kw_up_n a0).trans (hfr_190 j a0 a1 a2 a3 a4 a5 a6 a7 a8 a9 a10 a11 a12 a13 a14 a15 a16)
  refine lv_aload_n hx hb dX11_init_53 rfl (lv_at hl 0 rfl) ?_
  refine lv_bipush (v := 48) hx hb dX11_init_54 (by decide) ?_
  refine kg_newl hx hb (hts (.arrayClass .long) (by decide +kernel)) hK hw hA 205 h_197 hk205a 48 rfl (by omega) (Nat.le_of_ble_eq_true rfl) (Nat.le_of_ble_eq_true rfl) dX11_init_56 (fun H hw => ?_)
  obtain ⟨ct_210, ect_210⟩ : ∃ z, z = kw_up ct_191 205 (eJ tc 48 (fun _ => 0)) := ⟨_, rfl⟩
  rw [← ect_210] at hw
  have h_211 : ct_210 201 = some (eJ tc 8 (fun _ => 0)) := by rw [ect_210, kw_up_n (by decide)]; exact h_192
  have h_212 : ct_210 202 = some (eI tc 6 (fun _ => 0)) := by rw [ect_210, kw_up_n (by decide)]; exact h_193
  have h_213 : ct_210 203 = some (eJ tc 6 (fun _ => 0)) := by rw [ect_210, kw_up_n (by decide)]; exact h_194
  have h_214 : ct_210 204 = some (eI tc 6 (fun _ => 0)) := by rw [ect_210, kw_up_n (by decide)]; exact h_195
  have h_215 : ct_210 200 = some (.inr (11, [.int 0, .int 0, .int 2, .int 100, .ref (ad 201), .long 0, .int (-9), .int 0, .int 0, .ref (ad 202), .ref (ad 203), .ref (ad 204), .null, .null, .null, .null, .null, .int 0, .null, .null, .null, .null, .null, .int 0, .int 0, .null, .null])) := by rw [ect_210, kw_up_n (by decide)]; exact h_196
  have h_216 : ct_210 205 = some (eJ tc 48 (fun _ => 0)) := by rw [ect_210]; exact kw_up_s
  have h_217 : ct_210 206 = none := by rw [ect_210, kw_up_n (by decide)]; exact h_198
  have h_218 : ct_210 207 = none := by rw [ect_210, kw_up_n (by decide)]; exact h_199
  have h_219 : ct_210 208 = none := by rw [ect_210, kw_up_n (by decide)]; exact h_200
  have h_220 : ct_210 209 = none := by rw [ect_210, kw_up_n (by decide)]; exact h_201
  have h_221 : ct_210 210 = none := by rw [ect_210, kw_up_n (by decide)]; exact h_202
  have h_222 : ct_210 211 = none := by rw [ect_210, kw_up_n (by decide)]; exact h_203
  have h_223 : ct_210 212 = none := by rw [ect_210, kw_up_n (by decide)]; exact h_204
  have h_224 : ct_210 213 = none := by rw [ect_210, kw_up_n (by decide)]; exact h_205
  have h_225 : ct_210 214 = none := by rw [ect_210, kw_up_n (by decide)]; exact h_206
  have h_226 : ct_210 215 = none := by rw [ect_210, kw_up_n (by decide)]; exact h_207
  have h_227 : ct_210 216 = none := by rw [ect_210, kw_up_n (by decide)]; exact h_208
  have hfr_228 : ∀ j, j ≠ 200 → j ≠ 201 → j ≠ 202 → j ≠ 203 → j ≠ 204 → j ≠ 205 → j ≠ 206 → j ≠ 207 → j ≠ 208 → j ≠ 209 → j ≠ 210 → j ≠ 211 → j ≠ 212 → j ≠ 213 → j ≠ 214 → j ≠ 215 → j ≠ 216 → ct_210 j = ct j := fun j a0 a1 a2 a3 a4 a5 a6 a7 a8 a9 a10 a11 a12 a13 a14 a15 a16 => by rw [ect_210]; exact (kw_up_n a5).trans (hfr_209 j a0 a1 a2 a3 a4 a5 a6 a7 a8 a9 a10 a11 a12 a13 a14 a15 a16)
  refine kg_putF (v := .ref (ad 205)) (ty := .array .long) (C := RX11) (T := TX11) (N := 27) (fs' := [.int 0, .int 0, .int 2, .int 100, .ref (ad 201), .long 0, .int (-9), .int 0, .int 0, .ref (ad 202), .ref (ad 203), .ref (ad 204), .ref (ad 205), .null, .null, .null, .null, .int 0, .null, .null, .null, .null, .null, .int 0, .int 0, .null, .null]) hx hb hts hinX11 tyX11 tyX11_ok nmX11 hown hK hw h_215 rfl 12 (by decide) (hts (.fieldLink RX11 33 "BetMakerModel" "holds" "[J") (by decide +kernel)) (fun _ h9 => h9) rfl hin2 rfl (by decide +kernel) rfl rfl (Nat.le_of_ble_eq_true rfl) rfl dX11_init_58 (fun H locs hw => ?_)
  obtain ⟨ct_229, ect_229⟩ : ∃ z, z = kw_up ct_210 200 (.inr (11, [.int 0, .int 0, .int 2, .int 100, .ref (ad 201), .long 0, .int (-9), .int 0, .int 0, .ref (ad 202), .ref (ad 203), .ref (ad 204), .ref (ad 205), .null, .null, .null, .null, .int 0, .null, .null, .null, .null, .null, .int 0, .int 0, .null, .null])) := ⟨_, rfl⟩
  rw [← ect_229] at hw
  have h_230 : ct_229 201 = some (eJ tc 8 (fun _ => 0)) := by rw [ect_229, kw_up_n (by decide)]; exact h_211
  have h_231 : ct_229 202 = some (eI tc 6 (fun _ => 0)) := by rw [ect_229, kw_up_n (by decide)]; exact h_212
  have h_232 : ct_229 203 = some (eJ tc 6 (fun _ => 0)) := by rw [ect_229, kw_up_n (by decide)]; exact h_213
  have h_233 : ct_229 204 = some (eI tc 6 (fun _ => 0)) := by rw [ect_229, kw_up_n (by decide)]; exact h_214
  have h_234 : ct_229 205 = some (eJ tc 48 (fun _ => 0)) := by rw [ect_229, kw_up_n (by decide)]; exact h_216
  have h_235 : ct_229 200 = some (.inr (11, [.int 0, .int 0, .int 2, .int 100, .ref (ad 201), .long 0, .int (-9), .int 0, .int 0, .ref (ad 202), .ref (ad 203), .ref (ad 204), .ref (ad 205), .null, .null, .null, .null, .int 0, .null, .null, .null, .null, .null, .int 0, .int 0, .null, .null])) := by rw [ect_229]; exact kw_up_s
  have h_236 : ct_229 206 = none := by rw [ect_229, kw_up_n (by decide)]; exact h_217
  have h_237 : ct_229 207 = none := by rw [ect_229, kw_up_n (by decide)]; exact h_218
  have h_238 : ct_229 208 = none := by rw [ect_229, kw_up_n (by decide)]; exact h_219
  have h_239 : ct_229 209 = none := by rw [ect_229, kw_up_n (by decide)]; exact h_220
  have h_240 : ct_229 210 = none := by rw [ect_229, kw_up_n (by decide)]; exact h_221
  have h_241 : ct_229 211 = none := by rw [ect_229, kw_up_n (by decide)]; exact h_222
  have h_242 : ct_229 212 = none := by rw [ect_229, kw_up_n (by decide)]; exact h_223
  have h_243 : ct_229 213 = none := by rw [ect_229, kw_up_n (by decide)]; exact h_224
  have h_244 : ct_229 214 = none := by rw [ect_229, kw_up_n (by decide)]; exact h_225
  have h_245 : ct_229 215 = none := by rw [ect_229, kw_up_n (by decide)]; exact h_226
  have h_246 : ct_229 216 = none := by rw [ect_229, kw_up_n (by decide)]; exact h_227
  have hfr_247 : ∀ j, j ≠ 200 → j ≠ 201 → j ≠ 202 → j ≠ 203 → j ≠ 204 → j ≠ 205 → j ≠ 206 → j ≠ 207 → j ≠ 208 → j ≠ 209 → j ≠ 210 → j ≠ 211 → j ≠ 212 → j ≠ 213 → j ≠ 214 → j ≠ 215 → j ≠ 216 → ct_229 j = ct j := fun j a0 a1 a2 a3 a4 a5 a6 a7 a8 a9 a10 a11 a12 a13 a14 a15 a16 => by rw [ect_229]; exact (kw_up_n a0).trans (hfr_228 j a0 a1 a2 a3 a4 a5 a6 a7 a8 a9 a10 a11 a12 a13 a14 a15 a16)
  refine lv_aload_n hx hb dX11_init_61 rfl (lv_at hl 0 rfl) ?_
  refine lv_bipush (v := 48) hx hb dX11_init_62 (by decide) ?_
  refine kg_newi hx hb (hts (.arrayClass .int) (by decide +kernel)) hK hw hA 206 h_236 hk206a 48 rfl (by omega) (Nat.le_of_ble_eq_true rfl) (Nat.le_of_ble_eq_true rfl) dX11_init_64 (fun H hw => ?_)
  obtain ⟨ct_248, ect_248⟩ : ∃ z, z = kw_up ct_229 206 (eI tc 48 (fun _ => 0)) := ⟨_, rfl⟩
  rw [← ect_248] at hw
  have h_249 : ct_248 201 = some (eJ tc 8 (fun _ => 0)) := by rw [ect_248, kw_up_n (by decide)]; exact h_230
  have h_250 : ct_248 202 = some (eI tc 6 (fun _ => 0)) := by rw [ect_248, kw_up_n (by decide)]; exact h_231
  have h_251 : ct_248 203 = some (eJ tc 6 (fun _ => 0)) := by rw [ect_248, kw_up_n (by decide)]; exact h_232
  have h_252 : ct_248 204 = some (eI tc 6 (fun _ => 0)) := by rw [ect_248, kw_up_n (by decide)]; exact h_233
  have h_253 : ct_248 205 = some (eJ tc 48 (fun _ => 0)) := by rw [ect_248, kw_up_n (by decide)]; exact h_234
  have h_254 : ct_248 200 = some (.inr (11, [.int 0, .int 0, .int 2, .int 100, .ref (ad 201), .long 0, .int (-9), .int 0, .int 0, .ref (ad 202), .ref (ad 203), .ref (ad 204), .ref (ad 205), .null, .null, .null, .null, .int 0, .null, .null, .null, .null, .null, .int 0, .int 0, .null, .null])) := by rw [ect_248, kw_up_n (by decide)]; exact h_235
  have h_255 : ct_248 206 = some (eI tc 48 (fun _ => 0)) := by rw [ect_248]; exact kw_up_s
  have h_256 : ct_248 207 = none := by rw [ect_248, kw_up_n (by decide)]; exact h_237
  have h_257 : ct_248 208 = none := by rw [ect_248, kw_up_n (by decide)]; exact h_238
  have h_258 : ct_248 209 = none := by rw [ect_248, kw_up_n (by decide)]; exact h_239
  have h_259 : ct_248 210 = none := by rw [ect_248, kw_up_n (by decide)]; exact h_240
  have h_260 : ct_248 211 = none := by rw [ect_248, kw_up_n (by decide)]; exact h_241
  have h_261 : ct_248 212 = none := by rw [ect_248, kw_up_n (by decide)]; exact h_242
  have h_262 : ct_248 213 = none := by rw [ect_248, kw_up_n (by decide)]; exact h_243
  have h_263 : ct_248 214 = none := by rw [ect_248, kw_up_n (by decide)]; exact h_244
  have h_264 : ct_248 215 = none := by rw [ect_248, kw_up_n (by decide)]; exact h_245
  have h_265 : ct_248 216 = none := by rw [ect_248, kw_up_n (by decide)]; exact h_246
  have hfr_266 : ∀ j, j ≠ 200 → j ≠ 201 → j ≠ 202 → j ≠ 203 → j ≠ 204 → j ≠ 205 → j ≠ 206 → j ≠ 207 → j ≠ 208 → j ≠ 209 → j ≠ 210 → j ≠ 211 → j ≠ 212 → j ≠ 213 → j ≠ 214 → j ≠ 215 → j ≠ 216 → ct_248 j = ct j := fun j a0 a1 a2 a3 a4 a5 a6 a7 a8 a9 a10 a11 a12 a13 a14 a15 a16 => by rw [ect_248]; exact (kw_up_n a6).trans (hfr_247 j a0 a1 a2 a3 a4 a5 a6 a7 a8 a9 a10 a11 a12 a13 a14 a15 a16)
  refine kg_putF (v := .ref (ad 206)) (ty := .array .int) (C := RX11) (T := TX11) (N := 27) (fs' := [.int 0, .int 0, .int 2, .int 100, .ref (ad 201), .long 0, .int (-9), .int 0, .int 0, .ref (ad 202), .ref (ad 203), .ref (ad 204), .ref (ad 205), .ref (ad 206), .null, .null, .null, .int 0, .null, .null, .null, .null, .null, .int 0, .int 0, .null, .null]) hx hb hts hinX11 tyX11 tyX11_ok nmX11 hown hK hw h_254 rfl 13 (by decide) (hts (.fieldLink RX11 36 "BetMakerModel" "weight" "[I") (by decide +kernel)) (fun _ h9 => h9) rfl hin2 rfl (by decide +kernel) rfl rfl (Nat.le_of_ble_eq_true rfl) rfl dX11_init_66 (fun H locs hw => ?_)
  obtain ⟨ct_267, ect_267⟩ : ∃ z, z = kw_up ct_248 200 (.inr (11, [.int 0, .int 0, .int 2, .int 100, .ref (ad 201), .long 0, .int (-9), .int 0, .int 0, .ref (ad 202), .ref (ad 203), .ref (ad 204), .ref (ad 205), .ref (ad 206), .null, .null, .null, .int 0, .null, .null, .null, .null, .null, .int 0, .int 0, .null, .null])) := ⟨_, rfl⟩
  rw [← ect_267] at hw
  have h_268 : ct_267 201 = some (eJ tc 8 (fun _ => 0)) := by rw [ect_267, kw_up_n (by decide)]; exact h_249
  have h_269 : ct_267 202 = some (eI tc 6 (fun _ => 0)) := by rw [ect_267, kw_up_n (by decide)]; exact h_250
  have h_270 : ct_267 203 = some (eJ tc 6 (fun _ => 0)) := by rw [ect_267, kw_up_n (by decide)]; exact h_251
  have h_271 : ct_267 204 = some (eI tc 6 (fun _ => 0)) := by rw [ect_267, kw_up_n (by decide)]; exact h_252
  have h_272 : ct_267 205 = some (eJ tc 48 (fun _ => 0)) := by rw [ect_267, kw_up_n (by decide)]; exact h_253
  have h_273 : ct_267 206 = some (eI tc 48 (fun _ => 0)) := by rw [ect_267, kw_up_n (by decide)]; exact h_255
  have h_274 : ct_267 200 = some (.inr (11, [.int 0, .int 0, .int 2, .int 100, .ref (ad 201), .long 0, .int (-9), .int 0, .int 0, .ref (ad 202), .ref (ad 203), .ref (ad 204), .ref (ad 205), .ref (ad 206), .null, .null, .null, .int 0, .null, .null, .null, .null, .null, .int 0, .int 0, .null, .null])) := by rw [ect_267]; exact kw_up_s
  have h_275 : ct_267 207 = none := by rw [ect_267, kw_up_n (by decide)]; exact h_256
  have h_276 : ct_267 208 = none := by rw [ect_267, kw_up_n (by decide)]; exact h_257
  have h_277 : ct_267 209 = none := by rw [ect_267, kw_up_n (by decide)]; exact h_258
  have h_278 : ct_267 210 = none := by rw [ect_267, kw_up_n (by decide)]; exact h_259
  have h_279 : ct_267 211 = none := by rw [ect_267, kw_up_n (by decide)]; exact h_260
  have h_280 : ct_267 212 = none := by rw [ect_267, kw_up_n (by decide)]; exact h_261
  have h_281 : ct_267 213 = none := by rw [ect_267, kw_up_n (by decide)]; exact h_262
  have h_282 : ct_267 214 = none := by rw [ect_267, kw_up_n (by decide)]; exact h_263
  have h_283 : ct_267 215 = none := by rw [ect_267, kw_up_n (by decide)]; exact h_264
  have h_284 : ct_267 216 = none := by rw [ect_267, kw_up_n (by decide)]; exact h_265
  have hfr_285 : ∀ j, j ≠ 200 → j ≠ 201 → j ≠ 202 → j ≠ 203 → j ≠ 204 → j ≠ 205 → j ≠ 206 → j ≠ 207 → j ≠ 208 → j ≠ 209 → j ≠ 210 → j ≠ 211 → j ≠ 212 → j ≠ 213 → j ≠ 214 → j ≠ 215 → j ≠ 216 → ct_267 j = ct j := fun j a0 a1 a2 a3 a4 a5 a6 a7 a8 a9 a10 a11 a12 a13 a14 a15 a16 => by rw [ect_267]; exact (kw_up_n a0).trans (hfr_266 j a0 a1 a2 a3 a4 a5 a6 a7 a8 a9 a10 a11 a12 a13 a14 a15 a16)
  refine lv_aload_n hx hb dX11_init_69 rfl (lv_at hl 0 rfl) ?_
  refine lv_iconst (v := 4) hx hb dX11_init_70 (by decide) ?_
  refine kg_newi hx hb (hts (.arrayClass .int) (by decide +kernel)) hK hw hA 207 h_275 hk207a 4 rfl (by omega) (Nat.le_of_ble_eq_true rfl) (Nat.le_of_ble_eq_true rfl) dX11_init_71 (fun H hw => ?_)
  obtain ⟨ct_286, ect_286⟩ : ∃ z, z = kw_up ct_267 207 (eI tc 4 (fun _ => 0)) := ⟨_, rfl⟩
  rw [← ect_286] at hw
  have h_287 : ct_286 201 = some (eJ tc 8 (fun _ => 0)) := by rw [ect_286, kw_up_n (by decide)]; exact h_268
  have h_288 : ct_286 202 = some (eI tc 6 (fun _ => 0)) := by rw [ect_286, kw_up_n (by decide)]; exact h_269
  have h_289 : ct_286 203 = some (eJ tc 6 (fun _ => 0)) := by rw [ect_286, kw_up_n (by decide)]; exact h_270
  have h_290 : ct_286 204 = some (eI tc 6 (fun _ => 0)) := by rw [ect_286, kw_up_n (by decide)]; exact h_271
  have h_291 : ct_286 205 = some (eJ tc 48 (fun _ => 0)) := by rw [ect_286, kw_up_n (by decide)]; exact h_272
  have h_292 : ct_286 206 = some (eI tc 48 (fun _ => 0)) := by rw [ect_286, kw_up_n (by decide)]; exact h_273
  have h_293 : ct_286 200 = some (.inr (11, [.int 0, .int 0, .int 2, .int 100, .ref (ad 201), .long 0, .int (-9), .int 0, .int 0, .ref (ad 202), .ref (ad 203), .ref (ad 204), .ref (ad 205), .ref (ad 206), .null, .null, .null, .int 0, .null, .null, .null, .null, .null, .int 0, .int 0, .null, .null])) := by rw [ect_286, kw_up_n (by decide)]; exact h_274
  have h_294 : ct_286 207 = some (eI tc 4 (fun _ => 0)) := by rw [ect_286]; exact kw_up_s
  have h_295 : ct_286 208 = none := by rw [ect_286, kw_up_n (by decide)]; exact h_276
  have h_296 : ct_286 209 = none := by rw [ect_286, kw_up_n (by decide)]; exact h_277
  have h_297 : ct_286 210 = none := by rw [ect_286, kw_up_n (by decide)]; exact h_278
  have h_298 : ct_286 211 = none := by rw [ect_286, kw_up_n (by decide)]; exact h_279
  have h_299 : ct_286 212 = none := by rw [ect_286, kw_up_n (by decide)]; exact h_280
  have h_300 : ct_286 213 = none := by rw [ect_286, kw_up_n (by decide)]; exact h_281
  have h_301 : ct_286 214 = none := by rw [ect_286, kw_up_n (by decide)]; exact h_282
  have h_302 : ct_286 215 = none := by rw [ect_286, kw_up_n (by decide)]; exact h_283
  have h_303 : ct_286 216 = none := by rw [ect_286, kw_up_n (by decide)]; exact h_284
  have hfr_304 : ∀ j, j ≠ 200 → j ≠ 201 → j ≠ 202 → j ≠ 203 → j ≠ 204 → j ≠ 205 → j ≠ 206 → j ≠ 207 → j ≠ 208 → j ≠ 209 → j ≠ 210 → j ≠ 211 → j ≠ 212 → j ≠ 213 → j ≠ 214 → j ≠ 215 → j ≠ 216 → ct_286 j = ct j := fun j a0 a1 a2 a3 a4 a5 a6 a7 a8 a9 a10 a11 a12 a13 a14 a15 a16 => by rw [ect_286]; exact (kw_up_n a7).trans (hfr_285 j a0 a1 a2 a3 a4 a5 a6 a7 a8 a9 a10 a11 a12 a13 a14 a15 a16)
  refine lv_dup hx hb dX11_init_73 rfl ?_
  refine lv_iconst (v := 0) hx hb dX11_init_74 (by decide) ?_
  refine lv_bipush (v := (-9)) hx hb dX11_init_75 (by decide) ?_
  refine kg_iast hx hb hK hw h_294 0 rfl (by omega) (by omega) dX11_init_77 (fun H locs hw => ?_)
  obtain ⟨ct_305, ect_305⟩ : ∃ z, z = kw_up ct_286 207 (eI tc 4 (va_up (fun _ => 0) 0 (-9))) := ⟨_, rfl⟩
  rw [← ect_305] at hw
  have h_306 : ct_305 201 = some (eJ tc 8 (fun _ => 0)) := by rw [ect_305, kw_up_n (by decide)]; exact h_287
  have h_307 : ct_305 202 = some (eI tc 6 (fun _ => 0)) := by rw [ect_305, kw_up_n (by decide)]; exact h_288
  have h_308 : ct_305 203 = some (eJ tc 6 (fun _ => 0)) := by rw [ect_305, kw_up_n (by decide)]; exact h_289
  have h_309 : ct_305 204 = some (eI tc 6 (fun _ => 0)) := by rw [ect_305, kw_up_n (by decide)]; exact h_290
  have h_310 : ct_305 205 = some (eJ tc 48 (fun _ => 0)) := by rw [ect_305, kw_up_n (by decide)]; exact h_291
  have h_311 : ct_305 206 = some (eI tc 48 (fun _ => 0)) := by rw [ect_305, kw_up_n (by decide)]; exact h_292
  have h_312 : ct_305 200 = some (.inr (11, [.int 0, .int 0, .int 2, .int 100, .ref (ad 201), .long 0, .int (-9), .int 0, .int 0, .ref (ad 202), .ref (ad 203), .ref (ad 204), .ref (ad 205), .ref (ad 206), .null, .null, .null, .int 0, .null, .null, .null, .null, .null, .int 0, .int 0, .null, .null])) := by rw [ect_305, kw_up_n (by decide)]; exact h_293
  have h_313 : ct_305 207 = some (eI tc 4 (va_up (fun _ => 0) 0 (-9))) := by rw [ect_305]; exact kw_up_s
  have h_314 : ct_305 208 = none := by rw [ect_305, kw_up_n (by decide)]; exact h_295
  have h_315 : ct_305 209 = none := by rw [ect_305, kw_up_n (by decide)]; exact h_296
  have h_316 : ct_305 210 = none := by rw [ect_305, kw_up_n (by decide)]; exact h_297
  have h_317 : ct_305 211 = none := by rw [ect_305, kw_up_n (by decide)]; exact h_298
  have h_318 : ct_305 212 = none := by rw [ect_305, kw_up_n (by decide)]; exact h_299
  have h_319 : ct_305 213 = none := by rw [ect_305, kw_up_n (by decide)]; exact h_300
  have h_320 : ct_305 214 = none := by rw [ect_305, kw_up_n (by decide)]; exact h_301
  have h_321 : ct_305 215 = none := by rw [ect_305, kw_up_n (by decide)]; exact h_302
  have h_322 : ct_305 216 = none := by rw [ect_305, kw_up_n (by decide)]; exact h_303
  have hfr_323 : ∀ j, j ≠ 200 → j ≠ 201 → j ≠ 202 → j ≠ 203 → j ≠ 204 → j ≠ 205 → j ≠ 206 → j ≠ 207 → j ≠ 208 → j ≠ 209 → j ≠ 210 → j ≠ 211 → j ≠ 212 → j ≠ 213 → j ≠ 214 → j ≠ 215 → j ≠ 216 → ct_305 j = ct j := fun j a0 a1 a2 a3 a4 a5 a6 a7 a8 a9 a10 a11 a12 a13 a14 a15 a16 => by rw [ect_305]; exact (kw_up_n a7).trans (hfr_304 j a0 a1 a2 a3 a4 a5 a6 a7 a8 a9 a10 a11 a12 a13 a14 a15 a16)
  refine lv_dup hx hb dX11_init_78 rfl ?_
  refine lv_iconst (v := 1) hx hb dX11_init_79 (by decide) ?_
  refine lv_bipush (v := (-9)) hx hb dX11_init_80 (by decide) ?_
  refine kg_iast hx hb hK hw h_313 1 rfl (by omega) (by omega) dX11_init_82 (fun H locs hw => ?_)
  obtain ⟨ct_324, ect_324⟩ : ∃ z, z = kw_up ct_305 207 (eI tc 4 (va_up (va_up (fun _ => 0) 0 (-9)) 1 (-9))) := ⟨_, rfl⟩
  rw [← ect_324] at hw
  have h_325 : ct_324 201 = some (eJ tc 8 (fun _ => 0)) := by rw [ect_324, kw_up_n (by decide)]; exact h_306
  have h_326 : ct_324 202 = some (eI tc 6 (fun _ => 0)) := by rw [ect_324, kw_up_n (by decide)]; exact h_307
  have h_327 : ct_324 203 = some (eJ tc 6 (fun _ => 0)) := by rw [ect_324, kw_up_n (by decide)]; exact h_308
  have h_328 : ct_324 204 = some (eI tc 6 (fun _ => 0)) := by rw [ect_324, kw_up_n (by decide)]; exact h_309
  have h_329 : ct_324 205 = some (eJ tc 48 (fun _ => 0)) := by rw [ect_324, kw_up_n (by decide)]; exact h_310
  have h_330 : ct_324 206 = some (eI tc 48 (fun _ => 0)) := by rw [ect_324, kw_up_n (by decide)]; exact h_311
  have h_331 : ct_324 200 = some (.inr (11, [.int 0, .int 0, .int 2, .int 100, .ref (ad 201), .long 0, .int (-9), .int 0, .int 0, .ref (ad 202), .ref (ad 203), .ref (ad 204), .ref (ad 205), .ref (ad 206), .null, .null, .null, .int 0, .null, .null, .null, .null, .null, .int 0, .int 0, .null, .null])) := by rw [ect_324, kw_up_n (by decide)]; exact h_312
  have h_332 : ct_324 207 = some (eI tc 4 (va_up (va_up (fun _ => 0) 0 (-9)) 1 (-9))) := by rw [ect_324]; exact kw_up_s
  have h_333 : ct_324 208 = none := by rw [ect_324, kw_up_n (by decide)]; exact h_314
  have h_334 : ct_324 209 = none := by rw [ect_324, kw_up_n (by decide)]; exact h_315
  have h_335 : ct_324 210 = none := by rw [ect_324, kw_up_n (by decide)]; exact h_316
  have h_336 : ct_324 211 = none := by rw [ect_324, kw_up_n (by decide)]; exact h_317
  have h_337 : ct_324 212 = none := by rw [ect_324, kw_up_n (by decide)]; exact h_318
  have h_338 : ct_324 213 = none := by rw [ect_324, kw_up_n (by decide)]; exact h_319
  have h_339 : ct_324 214 = none := by rw [ect_324, kw_up_n (by decide)]; exact h_320
  have h_340 : ct_324 215 = none := by rw [ect_324, kw_up_n (by decide)]; exact h_321
  have h_341 : ct_324 216 = none := by rw [ect_324, kw_up_n (by decide)]; exact h_322
  have hfr_342 : ∀ j, j ≠ 200 → j ≠ 201 → j ≠ 202 → j ≠ 203 → j ≠ 204 → j ≠ 205 → j ≠ 206 → j ≠ 207 → j ≠ 208 → j ≠ 209 → j ≠ 210 → j ≠ 211 → j ≠ 212 → j ≠ 213 → j ≠ 214 → j ≠ 215 → j ≠ 216 → ct_324 j = ct j := fun j a0 a1 a2 a3 a4 a5 a6 a7 a8 a9 a10 a11 a12 a13 a14 a15 a16 => by rw [ect_324]; exact (kw_up_n a7).trans (hfr_323 j a0 a1 a2 a3 a4 a5 a6 a7 a8 a9 a10 a11 a12 a13 a14 a15 a16)
  refine lv_dup hx hb dX11_init_83 rfl ?_
  refine lv_iconst (v := 2) hx hb dX11_init_84 (by decide) ?_
  refine lv_bipush (v := (-9)) hx hb dX11_init_85 (by decide) ?_
  refine kg_iast hx hb hK hw h_332 2 rfl (by omega) (by omega) dX11_init_87 (fun H locs hw => ?_)
  obtain ⟨ct_343, ect_343⟩ : ∃ z, z = kw_up ct_324 207 (eI tc 4 (va_up (va_up (va_up (fun _ => 0) 0 (-9)) 1 (-9)) 2 (-9))) := ⟨_, rfl⟩
  rw [← ect_343] at hw
  have h_344 : ct_343 201 = some (eJ tc 8 (fun _ => 0)) := by rw [ect_343, kw_up_n (by decide)]; exact h_325
  have h_345 : ct_343 202 = some (eI tc 6 (fun _ => 0)) := by rw [ect_343, kw_up_n (by decide)]; exact h_326
  have h_346 : ct_343 203 = some (eJ tc 6 (fun _ => 0)) := by rw [ect_343, kw_up_n (by decide)]; exact h_327
  have h_347 : ct_343 204 = some (eI tc 6 (fun _ => 0)) := by rw [ect_343, kw_up_n (by decide)]; exact h_328
  have h_348 : ct_343 205 = some (eJ tc 48 (fun _ => 0)) := by rw [ect_343, kw_up_n (by decide)]; exact h_329
  have h_349 : ct_343 206 = some (eI tc 48 (fun _ => 0)) := by rw [ect_343, kw_up_n (by decide)]; exact h_330
  have h_350 : ct_343 200 = some (.inr (11, [.int 0, .int 0, .int 2, .int 100, .ref (ad 201), .long 0, .int (-9), .int 0, .int 0, .ref (ad 202), .ref (ad 203), .ref (ad 204), .ref (ad 205), .ref (ad 206), .null, .null, .null, .int 0, .null, .null, .null, .null, .null, .int 0, .int 0, .null, .null])) := by rw [ect_343, kw_up_n (by decide)]; exact h_331
  have h_351 : ct_343 207 = some (eI tc 4 (va_up (va_up (va_up (fun _ => 0) 0 (-9)) 1 (-9)) 2 (-9))) := by rw [ect_343]; exact kw_up_s
  have h_352 : ct_343 208 = none := by rw [ect_343, kw_up_n (by decide)]; exact h_333
  have h_353 : ct_343 209 = none := by rw [ect_343, kw_up_n (by decide)]; exact h_334
  have h_354 : ct_343 210 = none := by rw [ect_343, kw_up_n (by decide)]; exact h_335
  have h_355 : ct_343 211 = none := by rw [ect_343, kw_up_n (by decide)]; exact h_336
  have h_356 : ct_343 212 = none := by rw [ect_343, kw_up_n (by decide)]; exact h_337
  have h_357 : ct_343 213 = none := by rw [ect_343, kw_up_n (by decide)]; exact h_338
  have h_358 : ct_343 214 = none := by rw [ect_343, kw_up_n (by decide)]; exact h_339
  have h_359 : ct_343 215 = none := by rw [ect_343, kw_up_n (by decide)]; exact h_340
  have h_360 : ct_343 216 = none := by rw [ect_343, kw_up_n (by decide)]; exact h_341
  have hfr_361 : ∀ j, j ≠ 200 → j ≠ 201 → j ≠ 202 → j ≠ 203 → j ≠ 204 → j ≠ 205 → j ≠ 206 → j ≠ 207 → j ≠ 208 → j ≠ 209 → j ≠ 210 → j ≠ 211 → j ≠ 212 → j ≠ 213 → j ≠ 214 → j ≠ 215 → j ≠ 216 → ct_343 j = ct j := fun j a0 a1 a2 a3 a4 a5 a6 a7 a8 a9 a10 a11 a12 a13 a14 a15 a16 => by rw [ect_343]; exact (kw_up_n a7).trans (hfr_342 j a0 a1 a2 a3 a4 a5 a6 a7 a8 a9 a10 a11 a12 a13 a14 a15 a16)
  refine lv_dup hx hb dX11_init_88 rfl ?_
  refine lv_iconst (v := 3) hx hb dX11_init_89 (by decide) ?_
  refine lv_bipush (v := (-9)) hx hb dX11_init_90 (by decide) ?_
  refine kg_iast hx hb hK hw h_351 3 rfl (by omega) (by omega) dX11_init_92 (fun H locs hw => ?_)
  obtain ⟨ct_362, ect_362⟩ : ∃ z, z = kw_up ct_343 207 (eI tc 4 (va_up (va_up (va_up (va_up (fun _ => 0) 0 (-9)) 1 (-9)) 2 (-9)) 3 (-9))) := ⟨_, rfl⟩
  rw [← ect_362] at hw
  have h_363 : ct_362 201 = some (eJ tc 8 (fun _ => 0)) := by rw [ect_362, kw_up_n (by decide)]; exact h_344
  have h_364 : ct_362 202 = some (eI tc 6 (fun _ => 0)) := by rw [ect_362, kw_up_n (by decide)]; exact h_345
  have h_365 : ct_362 203 = some (eJ tc 6 (fun _ => 0)) := by rw [ect_362, kw_up_n (by decide)]; exact h_346
  have h_366 : ct_362 204 = some (eI tc 6 (fun _ => 0)) := by rw [ect_362, kw_up_n (by decide)]; exact h_347
  have h_367 : ct_362 205 = some (eJ tc 48 (fun _ => 0)) := by rw [ect_362, kw_up_n (by decide)]; exact h_348
  have h_368 : ct_362 206 = some (eI tc 48 (fun _ => 0)) := by rw [ect_362, kw_up_n (by decide)]; exact h_349
  have h_369 : ct_362 200 = some (.inr (11, [.int 0, .int 0, .int 2, .int 100, .ref (ad 201), .long 0, .int (-9), .int 0, .int 0, .ref (ad 202), .ref (ad 203), .ref (ad 204), .ref (ad 205), .ref (ad 206), .null, .null, .null, .int 0, .null, .null, .null, .null, .null, .int 0, .int 0, .null, .null])) := by rw [ect_362, kw_up_n (by decide)]; exact h_350
  have h_370 : ct_362 207 = some (eI tc 4 (va_up (va_up (va_up (va_up (fun _ => 0) 0 (-9)) 1 (-9)) 2 (-9)) 3 (-9))) := by rw [ect_362]; exact kw_up_s
  have h_371 : ct_362 208 = none := by rw [ect_362, kw_up_n (by decide)]; exact h_352
  have h_372 : ct_362 209 = none := by rw [ect_362, kw_up_n (by decide)]; exact h_353
  have h_373 : ct_362 210 = none := by rw [ect_362, kw_up_n (by decide)]; exact h_354
  have h_374 : ct_362 211 = none := by rw [ect_362, kw_up_n (by decide)]; exact h_355
  have h_375 : ct_362 212 = none := by rw [ect_362, kw_up_n (by decide)]; exact h_356
  have h_376 : ct_362 213 = none := by rw [ect_362, kw_up_n (by decide)]; exact h_357
  have h_377 : ct_362 214 = none := by rw [ect_362, kw_up_n (by decide)]; exact h_358
  have h_378 : ct_362 215 = none := by rw [ect_362, kw_up_n (by decide)]; exact h_359
  have h_379 : ct_362 216 = none := by rw [ect_362, kw_up_n (by decide)]; exact h_360
  have hfr_380 : ∀ j, j ≠ 200 → j ≠ 201 → j ≠ 202 → j ≠ 203 → j ≠ 204 → j ≠ 205 → j ≠ 206 → j ≠ 207 → j ≠ 208 → j ≠ 209 → j ≠ 210 → j ≠ 211 → j ≠ 212 → j ≠ 213 → j ≠ 214 → j ≠ 215 → j ≠ 216 → ct_362 j = ct j := fun j a0 a1 a2 a3 a4 a5 a6 a7 a8 a9 a10 a11 a12 a13 a14 a15 a16 => by rw [ect_362]; exact (kw_up_n a7).trans (hfr_361 j a0 a1 a2 a3 a4 a5 a6 a7 a8 a9 a10 a11 a12 a13 a14 a15 a16)
  refine kg_putF (v := .ref (ad 207)) (ty := .array .int) (C := RX11) (T := TX11) (N := 27) (fs' := [.int 0, .int 0, .int 2, .int 100, .ref (ad 201), .long 0, .int (-9), .int 0, .int 0, .ref (ad 202), .ref (ad 203), .ref (ad 204), .ref (ad 205), .ref (ad 206), .ref (ad 207), .null, .null, .int 0, .null, .null, .null, .null, .null, .int 0, .int 0, .null, .null]) hx hb hts hinX11 tyX11 tyX11_ok nmX11 hown hK hw h_369 rfl 14 (by decide) (hts (.fieldLink RX11 39 "BetMakerModel" "lanes" "[I") (by decide +kernel)) (fun _ h9 => h9) rfl hin2 rfl (by decide +kernel) rfl rfl (Nat.le_of_ble_eq_true rfl) rfl dX11_init_93 (fun H locs hw => ?_)
  obtain ⟨ct_381, ect_381⟩ : ∃ z, z = kw_up ct_362 200 (.inr (11, [.int 0, .int 0, .int 2, .int 100, .ref (ad 201), .long 0, .int (-9), .int 0, .int 0, .ref (ad 202), .ref (ad 203), .ref (ad 204), .ref (ad 205), .ref (ad 206), .ref (ad 207), .null, .null, .int 0, .null, .null, .null, .null, .null, .int 0, .int 0, .null, .null])) := ⟨_, rfl⟩
  rw [← ect_381] at hw
  have h_382 : ct_381 201 = some (eJ tc 8 (fun _ => 0)) := by rw [ect_381, kw_up_n (by decide)]; exact h_363
  have h_383 : ct_381 202 = some (eI tc 6 (fun _ => 0)) := by rw [ect_381, kw_up_n (by decide)]; exact h_364
  have h_384 : ct_381 203 = some (eJ tc 6 (fun _ => 0)) := by rw [ect_381, kw_up_n (by decide)]; exact h_365
  have h_385 : ct_381 204 = some (eI tc 6 (fun _ => 0)) := by rw [ect_381, kw_up_n (by decide)]; exact h_366
  have h_386 : ct_381 205 = some (eJ tc 48 (fun _ => 0)) := by rw [ect_381, kw_up_n (by decide)]; exact h_367
  have h_387 : ct_381 206 = some (eI tc 48 (fun _ => 0)) := by rw [ect_381, kw_up_n (by decide)]; exact h_368
  have h_388 : ct_381 207 = some (eI tc 4 (va_up (va_up (va_up (va_up (fun _ => 0) 0 (-9)) 1 (-9)) 2 (-9)) 3 (-9))) := by rw [ect_381, kw_up_n (by decide)]; exact h_370
  have h_389 : ct_381 200 = some (.inr (11, [.int 0, .int 0, .int 2, .int 100, .ref (ad 201), .long 0, .int (-9), .int 0, .int 0, .ref (ad 202), .ref (ad 203), .ref (ad 204), .ref (ad 205), .ref (ad 206), .ref (ad 207), .null, .null, .int 0, .null, .null, .null, .null, .null, .int 0, .int 0, .null, .null])) := by rw [ect_381]; exact kw_up_s
  have h_390 : ct_381 208 = none := by rw [ect_381, kw_up_n (by decide)]; exact h_371
  have h_391 : ct_381 209 = none := by rw [ect_381, kw_up_n (by decide)]; exact h_372
  have h_392 : ct_381 210 = none := by rw [ect_381, kw_up_n (by decide)]; exact h_373
  have h_393 : ct_381 211 = none := by rw [ect_381, kw_up_n (by decide)]; exact h_374
  have h_394 : ct_381 212 = none := by rw [ect_381, kw_up_n (by decide)]; exact h_375
  have h_395 : ct_381 213 = none := by rw [ect_381, kw_up_n (by decide)]; exact h_376
  have h_396 : ct_381 214 = none := by rw [ect_381, kw_up_n (by decide)]; exact h_377
  have h_397 : ct_381 215 = none := by rw [ect_381, kw_up_n (by decide)]; exact h_378
  have h_398 : ct_381 216 = none := by rw [ect_381, kw_up_n (by decide)]; exact h_379
  have hfr_399 : ∀ j, j ≠ 200 → j ≠ 201 → j ≠ 202 → j ≠ 203 → j ≠ 204 → j ≠ 205 → j ≠ 206 → j ≠ 207 → j ≠ 208 → j ≠ 209 → j ≠ 210 → j ≠ 211 → j ≠ 212 → j ≠ 213 → j ≠ 214 → j ≠ 215 → j ≠ 216 → ct_381 j = ct j := fun j a0 a1 a2 a3 a4 a5 a6 a7 a8 a9 a10 a11 a12 a13 a14 a15 a16 => by rw [ect_381]; exact (kw_up_n a0).trans (hfr_380 j a0 a1 a2 a3 a4 a5 a6 a7 a8 a9 a10 a11 a12 a13 a14 a15 a16)
  refine lv_aload_n hx hb dX11_init_96 rfl (lv_at hl 0 rfl) ?_
  refine lv_iconst (v := 4) hx hb dX11_init_97 (by decide) ?_
  refine kg_newi hx hb (hts (.arrayClass .int) (by decide +kernel)) hK hw hA 208 h_390 hk208a 4 rfl (by omega) (Nat.le_of_ble_eq_true rfl) (Nat.le_of_ble_eq_true rfl) dX11_init_98 (fun H hw => ?_)
  obtain ⟨ct_400, ect_400⟩ : ∃ z, z = kw_up ct_381 208 (eI tc 4 (fun _ => 0)) := ⟨_, rfl⟩
  rw [← ect_400] at hw
  have h_401 : ct_400 201 = some (eJ tc 8 (fun _ => 0)) := by rw [ect_400, kw_up_n (by decide)]; exact h_382
  have h_402 : ct_400 202 = some (eI tc 6 (fun _ => 0)) := by rw [ect_400, kw_up_n (by decide)]; exact h_383
  have h_403 : ct_400 203 = some (eJ tc 6 (fun _ => 0)) := by rw [ect_400, kw_up_n (by decide)]; exact h_384
  have h_404 : ct_400 204 = some (eI tc 6 (fun _ => 0)) := by rw [ect_400, kw_up_n (by decide)]; exact h_385
  have h_405 : ct_400 205 = some (eJ tc 48 (fun _ => 0)) := by rw [ect_400, kw_up_n (by decide)]; exact h_386
  have h_406 : ct_400 206 = some (eI tc 48 (fun _ => 0)) := by rw [ect_400, kw_up_n (by decide)]; exact h_387
  have h_407 : ct_400 207 = some (eI tc 4 (va_up (va_up (va_up (va_up (fun _ => 0) 0 (-9)) 1 (-9)) 2 (-9)) 3 (-9))) := by rw [ect_400, kw_up_n (by decide)]; exact h_388
  have h_408 : ct_400 200 = some (.inr (11, [.int 0, .int 0, .int 2, .int 100, .ref (ad 201), .long 0, .int (-9), .int 0, .int 0, .ref (ad 202), .ref (ad 203), .ref (ad 204), .ref (ad 205), .ref (ad 206), .ref (ad 207), .null, .null, .int 0, .null, .null, .null, .null, .null, .int 0, .int 0, .null, .null])) := by rw [ect_400, kw_up_n (by decide)]; exact h_389
  have h_409 : ct_400 208 = some (eI tc 4 (fun _ => 0)) := by rw [ect_400]; exact kw_up_s
  have h_410 : ct_400 209 = none := by rw [ect_400, kw_up_n (by decide)]; exact h_391
  have h_411 : ct_400 210 = none := by rw [ect_400, kw_up_n (by decide)]; exact h_392
  have h_412 : ct_400 211 = none := by rw [ect_400, kw_up_n (by decide)]; exact h_393
  have h_413 : ct_400 212 = none := by rw [ect_400, kw_up_n (by decide)]; exact h_394
  have h_414 : ct_400 213 = none := by rw [ect_400, kw_up_n (by decide)]; exact h_395
  have h_415 : ct_400 214 = none := by rw [ect_400, kw_up_n (by decide)]; exact h_396
  have h_416 : ct_400 215 = none := by rw [ect_400, kw_up_n (by decide)]; exact h_397
  have h_417 : ct_400 216 = none := by rw [ect_400, kw_up_n (by decide)]; exact h_398
  have hfr_418 : ∀ j, j ≠ 200 → j ≠ 201 → j ≠ 202 → j ≠ 203 → j ≠ 204 → j ≠ 205 → j ≠ 206 → j ≠ 207 → j ≠ 208 → j ≠ 209 → j ≠ 210 → j ≠ 211 → j ≠ 212 → j ≠ 213 → j ≠ 214 → j ≠ 215 → j ≠ 216 → ct_400 j = ct j := fun j a0 a1 a2 a3 a4 a5 a6 a7 a8 a9 a10 a11 a12 a13 a14 a15 a16 => by rw [ect_400]; exact (kw_up_n a8).trans (hfr_399 j a0 a1 a2 a3 a4 a5 a6 a7 a8 a9 a10 a11 a12 a13 a14 a15 a16)
  refine kg_putF (v := .ref (ad 208)) (ty := .array .int) (C := RX11) (T := TX11) (N := 27) (fs' := [.int 0, .int 0, .int 2, .int 100, .ref (ad 201), .long 0, .int (-9), .int 0, .int 0, .ref (ad 202), .ref (ad 203), .ref (ad 204), .ref (ad 205), .ref (ad 206), .ref (ad 207), .ref (ad 208), .null, .int 0, .null, .null, .null, .null, .null, .int 0, .int 0, .null, .null]) hx hb hts hinX11 tyX11 tyX11_ok nmX11 hown hK hw h_408 rfl 15 (by decide) (hts (.fieldLink RX11 42 "BetMakerModel" "sheetLong" "[I") (by decide +kernel)) (fun _ h9 => h9) rfl hin2 rfl (by decide +kernel) rfl rfl (Nat.le_of_ble_eq_true rfl) rfl dX11_init_100 (fun H locs hw => ?_)
  obtain ⟨ct_419, ect_419⟩ : ∃ z, z = kw_up ct_400 200 (.inr (11, [.int 0, .int 0, .int 2, .int 100, .ref (ad 201), .long 0, .int (-9), .int 0, .int 0, .ref (ad 202), .ref (ad 203), .ref (ad 204), .ref (ad 205), .ref (ad 206), .ref (ad 207), .ref (ad 208), .null, .int 0, .null, .null, .null, .null, .null, .int 0, .int 0, .null, .null])) := ⟨_, rfl⟩
  rw [← ect_419] at hw
  have h_420 : ct_419 201 = some (eJ tc 8 (fun _ => 0)) := by rw [ect_419, kw_up_n (by decide)]; exact h_401
  have h_421 : ct_419 202 = some (eI tc 6 (fun _ => 0)) := by rw [ect_419, kw_up_n (by decide)]; exact h_402
  have h_422 : ct_419 203 = some (eJ tc 6 (fun _ => 0)) := by rw [ect_419, kw_up_n (by decide)]; exact h_403
  have h_423 : ct_419 204 = some (eI tc 6 (fun _ => 0)) := by rw [ect_419, kw_up_n (by decide)]; exact h_404
  have h_424 : ct_419 205 = some (eJ tc 48 (fun _ => 0)) := by rw [ect_419, kw_up_n (by decide)]; exact h_405
  have h_425 : ct_419 206 = some (eI tc 48 (fun _ => 0)) := by rw [ect_419, kw_up_n (by decide)]; exact h_406
  have h_426 : ct_419 207 = some (eI tc 4 (va_up (va_up (va_up (va_up (fun _ => 0) 0 (-9)) 1 (-9)) 2 (-9)) 3 (-9))) := by rw [ect_419, kw_up_n (by decide)]; exact h_407
  have h_427 : ct_419 208 = some (eI tc 4 (fun _ => 0)) := by rw [ect_419, kw_up_n (by decide)]; exact h_409
  have h_428 : ct_419 200 = some (.inr (11, [.int 0, .int 0, .int 2, .int 100, .ref (ad 201), .long 0, .int (-9), .int 0, .int 0, .ref (ad 202), .ref (ad 203), .ref (ad 204), .ref (ad 205), .ref (ad 206), .ref (ad 207), .ref (ad 208), .null, .int 0, .null, .null, .null, .null, .null, .int 0, .int 0, .null, .null])) := by rw [ect_419]; exact kw_up_s
  have h_429 : ct_419 209 = none := by rw [ect_419, kw_up_n (by decide)]; exact h_410
  have h_430 : ct_419 210 = none := by rw [ect_419, kw_up_n (by decide)]; exact h_411
  have h_431 : ct_419 211 = none := by rw [ect_419, kw_up_n (by decide)]; exact h_412
  have h_432 : ct_419 212 = none := by rw [ect_419, kw_up_n (by decide)]; exact h_413
  have h_433 : ct_419 213 = none := by rw [ect_419, kw_up_n (by decide)]; exact h_414
  have h_434 : ct_419 214 = none := by rw [ect_419, kw_up_n (by decide)]; exact h_415
  have h_435 : ct_419 215 = none := by rw [ect_419, kw_up_n (by decide)]; exact h_416
  have h_436 : ct_419 216 = none := by rw [ect_419, kw_up_n (by decide)]; exact h_417
  have hfr_437 : ∀ j, j ≠ 200 → j ≠ 201 → j ≠ 202 → j ≠ 203 → j ≠ 204 → j ≠ 205 → j ≠ 206 → j ≠ 207 → j ≠ 208 → j ≠ 209 → j ≠ 210 → j ≠ 211 → j ≠ 212 → j ≠ 213 → j ≠ 214 → j ≠ 215 → j ≠ 216 → ct_419 j = ct j := fun j a0 a1 a2 a3 a4 a5 a6 a7 a8 a9 a10 a11 a12 a13 a14 a15 a16 => by rw [ect_419]; exact (kw_up_n a0).trans (hfr_418 j a0 a1 a2 a3 a4 a5 a6 a7 a8 a9 a10 a11 a12 a13 a14 a15 a16)
  refine lv_aload_n hx hb dX11_init_103 rfl (lv_at hl 0 rfl) ?_
  refine lv_bipush (v := 96) hx hb dX11_init_104 (by decide) ?_
  refine kg_newi hx hb (hts (.arrayClass .int) (by decide +kernel)) hK hw hA 209 h_429 hk209a 96 rfl (by omega) (Nat.le_of_ble_eq_true rfl) (Nat.le_of_ble_eq_true rfl) dX11_init_106 (fun H hw => ?_)
  obtain ⟨ct_438, ect_438⟩ : ∃ z, z = kw_up ct_419 209 (eI tc 96 (fun _ => 0)) := ⟨_, rfl⟩
  rw [← ect_438] at hw
  have h_439 : ct_438 201 = some (eJ tc 8 (fun _ => 0)) := by rw [ect_438, kw_up_n (by decide)]; exact h_420
  have h_440 : ct_438 202 = some (eI tc 6 (fun _ => 0)) := by rw [ect_438, kw_up_n (by decide)]; exact h_421
  have h_441 : ct_438 203 = some (eJ tc 6 (fun _ => 0)) := by rw [ect_438, kw_up_n (by decide)]; exact h_422
  have h_442 : ct_438 204 = some (eI tc 6 (fun _ => 0)) := by rw [ect_438, kw_up_n (by decide)]; exact h_423
  have h_443 : ct_438 205 = some (eJ tc 48 (fun _ => 0)) := by rw [ect_438, kw_up_n (by decide)]; exact h_424
  have h_444 : ct_438 206 = some (eI tc 48 (fun _ => 0)) := by rw [ect_438, kw_up_n (by decide)]; exact h_425
  have h_445 : ct_438 207 = some (eI tc 4 (va_up (va_up (va_up (va_up (fun _ => 0) 0 (-9)) 1 (-9)) 2 (-9)) 3 (-9))) := by rw [ect_438, kw_up_n (by decide)]; exact h_426
  have h_446 : ct_438 208 = some (eI tc 4 (fun _ => 0)) := by rw [ect_438, kw_up_n (by decide)]; exact h_427
  have h_447 : ct_438 200 = some (.inr (11, [.int 0, .int 0, .int 2, .int 100, .ref (ad 201), .long 0, .int (-9), .int 0, .int 0, .ref (ad 202), .ref (ad 203), .ref (ad 204), .ref (ad 205), .ref (ad 206), .ref (ad 207), .ref (ad 208), .null, .int 0, .null, .null, .null, .null, .null, .int 0, .int 0, .null, .null])) := by rw [ect_438, kw_up_n (by decide)]; exact h_428
  have h_448 : ct_438 209 = some (eI tc 96 (fun _ => 0)) := by rw [ect_438]; exact kw_up_s
  have h_449 : ct_438 210 = none := by rw [ect_438, kw_up_n (by decide)]; exact h_430
  have h_450 : ct_438 211 = none := by rw [ect_438, kw_up_n (by decide)]; exact h_431
  have h_451 : ct_438 212 = none := by rw [ect_438, kw_up_n (by decide)]; exact h_432
  have h_452 : ct_438 213 = none := by rw [ect_438, kw_up_n (by decide)]; exact h_433
  have h_453 : ct_438 214 = none := by rw [ect_438, kw_up_n (by decide)]; exact h_434
  have h_454 : ct_438 215 = none := by rw [ect_438, kw_up_n (by decide)]; exact h_435
  have h_455 : ct_438 216 = none := by rw [ect_438, kw_up_n (by decide)]; exact h_436
  have hfr_456 : ∀ j, j ≠ 200 → j ≠ 201 → j ≠ 202 → j ≠ 203 → j ≠ 204 → j ≠ 205 → j ≠ 206 → j ≠ 207 → j ≠ 208 → j ≠ 209 → j ≠ 210 → j ≠ 211 → j ≠ 212 → j ≠ 213 → j ≠ 214 → j ≠ 215 → j ≠ 216 → ct_438 j = ct j := fun j a0 a1 a2 a3 a4 a5 a6 a7 a8 a9 a10 a11 a12 a13 a14 a15 a16 => by rw [ect_438]; exact (kw_up_n a9).trans (hfr_437 j a0 a1 a2 a3 a4 a5 a6 a7 a8 a9 a10 a11 a12 a13 a14 a15 a16)
  refine kg_putF (v := .ref (ad 209)) (ty := .array .int) (C := RX11) (T := TX11) (N := 27) (fs' := [.int 0, .int 0, .int 2, .int 100, .ref (ad 201), .long 0, .int (-9), .int 0, .int 0, .ref (ad 202), .ref (ad 203), .ref (ad 204), .ref (ad 205), .ref (ad 206), .ref (ad 207), .ref (ad 208), .ref (ad 209), .int 0, .null, .null, .null, .null, .null, .int 0, .int 0, .null, .null]) hx hb hts hinX11 tyX11 tyX11_ok nmX11 hown hK hw h_447 rfl 16 (by decide) (hts (.fieldLink RX11 45 "BetMakerModel" "cells" "[I") (by decide +kernel)) (fun _ h9 => h9) rfl hin2 rfl (by decide +kernel) rfl rfl (Nat.le_of_ble_eq_true rfl) rfl dX11_init_108 (fun H locs hw => ?_)
  obtain ⟨ct_457, ect_457⟩ : ∃ z, z = kw_up ct_438 200 (.inr (11, [.int 0, .int 0, .int 2, .int 100, .ref (ad 201), .long 0, .int (-9), .int 0, .int 0, .ref (ad 202), .ref (ad 203), .ref (ad 204), .ref (ad 205), .ref (ad 206), .ref (ad 207), .ref (ad 208), .ref (ad 209), .int 0, .null, .null, .null, .null, .null, .int 0, .int 0, .null, .null])) := ⟨_, rfl⟩
  rw [← ect_457] at hw
  have h_458 : ct_457 201 = some (eJ tc 8 (fun _ => 0)) := by rw [ect_457, kw_up_n (by decide)]; exact h_439
  have h_459 : ct_457 202 = some (eI tc 6 (fun _ => 0)) := by rw [ect_457, kw_up_n (by decide)]; exact h_440
  have h_460 : ct_457 203 = some (eJ tc 6 (fun _ => 0)) := by rw [ect_457, kw_up_n (by decide)]; exact h_441
  have h_461 : ct_457 204 = some (eI tc 6 (fun _ => 0)) := by rw [ect_457, kw_up_n (by decide)]; exact h_442
  have h_462 : ct_457 205 = some (eJ tc 48 (fun _ => 0)) := by rw [ect_457, kw_up_n (by decide)]; exact h_443
  have h_463 : ct_457 206 = some (eI tc 48 (fun _ => 0)) := by rw [ect_457, kw_up_n (by decide)]; exact h_444
  have h_464 : ct_457 207 = some (eI tc 4 (va_up (va_up (va_up (va_up (fun _ => 0) 0 (-9)) 1 (-9)) 2 (-9)) 3 (-9))) := by rw [ect_457, kw_up_n (by decide)]; exact h_445
  have h_465 : ct_457 208 = some (eI tc 4 (fun _ => 0)) := by rw [ect_457, kw_up_n (by decide)]; exact h_446
  have h_466 : ct_457 209 = some (eI tc 96 (fun _ => 0)) := by rw [ect_457, kw_up_n (by decide)]; exact h_448
  have h_467 : ct_457 200 = some (.inr (11, [.int 0, .int 0, .int 2, .int 100, .ref (ad 201), .long 0, .int (-9), .int 0, .int 0, .ref (ad 202), .ref (ad 203), .ref (ad 204), .ref (ad 205), .ref (ad 206), .ref (ad 207), .ref (ad 208), .ref (ad 209), .int 0, .null, .null, .null, .null, .null, .int 0, .int 0, .null, .null])) := by rw [ect_457]; exact kw_up_s
  have h_468 : ct_457 210 = none := by rw [ect_457, kw_up_n (by decide)]; exact h_449
  have h_469 : ct_457 211 = none := by rw [ect_457, kw_up_n (by decide)]; exact h_450
  have h_470 : ct_457 212 = none := by rw [ect_457, kw_up_n (by decide)]; exact h_451
  have h_471 : ct_457 213 = none := by rw [ect_457, kw_up_n (by decide)]; exact h_452
  have h_472 : ct_457 214 = none := by rw [ect_457, kw_up_n (by decide)]; exact h_453
  have h_473 : ct_457 215 = none := by rw [ect_457, kw_up_n (by decide)]; exact h_454
  have h_474 : ct_457 216 = none := by rw [ect_457, kw_up_n (by decide)]; exact h_455
  have hfr_475 : ∀ j, j ≠ 200 → j ≠ 201 → j ≠ 202 → j ≠ 203 → j ≠ 204 → j ≠ 205 → j ≠ 206 → j ≠ 207 → j ≠ 208 → j ≠ 209 → j ≠ 210 → j ≠ 211 → j ≠ 212 → j ≠ 213 → j ≠ 214 → j ≠ 215 → j ≠ 216 → ct_457 j = ct j := fun j a0 a1 a2 a3 a4 a5 a6 a7 a8 a9 a10 a11 a12 a13 a14 a15 a16 => by rw [ect_457]; exact (kw_up_n a0).trans (hfr_456 j a0 a1 a2 a3 a4 a5 a6 a7 a8 a9 a10 a11 a12 a13 a14 a15 a16)
  refine lv_aload_n hx hb dX11_init_111 rfl (lv_at hl 0 rfl) ?_
  refine lv_bipush (v := 6) hx hb dX11_init_112 (by decide) ?_
  refine kg_newi hx hb (hts (.arrayClass .int) (by decide +kernel)) hK hw hA 210 h_468 hk210a 6 rfl (by omega) (Nat.le_of_ble_eq_true rfl) (Nat.le_of_ble_eq_true rfl) dX11_init_114 (fun H hw => ?_)
  obtain ⟨ct_476, ect_476⟩ : ∃ z, z = kw_up ct_457 210 (eI tc 6 (fun _ => 0)) := ⟨_, rfl⟩
  rw [← ect_476] at hw
  have h_477 : ct_476 201 = some (eJ tc 8 (fun _ => 0)) := by rw [ect_476, kw_up_n (by decide)]; exact h_458
  have h_478 : ct_476 202 = some (eI tc 6 (fun _ => 0)) := by rw [ect_476, kw_up_n (by decide)]; exact h_459
  have h_479 : ct_476 203 = some (eJ tc 6 (fun _ => 0)) := by rw [ect_476, kw_up_n (by decide)]; exact h_460
  have h_480 : ct_476 204 = some (eI tc 6 (fun _ => 0)) := by rw [ect_476, kw_up_n (by decide)]; exact h_461
  have h_481 : ct_476 205 = some (eJ tc 48 (fun _ => 0)) := by rw [ect_476, kw_up_n (by decide)]; exact h_462
  have h_482 : ct_476 206 = some (eI tc 48 (fun _ => 0)) := by rw [ect_476, kw_up_n (by decide)]; exact h_463
  have h_483 : ct_476 207 = some (eI tc 4 (va_up (va_up (va_up (va_up (fun _ => 0) 0 (-9)) 1 (-9)) 2 (-9)) 3 (-9))) := by rw [ect_476, kw_up_n (by decide)]; exact h_464
  have h_484 : ct_476 208 = some (eI tc 4 (fun _ => 0)) := by rw [ect_476, kw_up_n (by decide)]; exact h_465
  have h_485 : ct_476 209 = some (eI tc 96 (fun _ => 0)) := by rw [ect_476, kw_up_n (by decide)]; exact h_466
  have h_486 : ct_476 200 = some (.inr (11, [.int 0, .int 0, .int 2, .int 100, .ref (ad 201), .long 0, .int (-9), .int 0, .int 0, .ref (ad 202), .ref (ad 203), .ref (ad 204), .ref (ad 205), .ref (ad 206), .ref (ad 207), .ref (ad 208), .ref (ad 209), .int 0, .null, .null, .null, .null, .null, .int 0, .int 0, .null, .null])) := by rw [ect_476, kw_up_n (by decide)]; exact h_467
  have h_487 : ct_476 210 = some (eI tc 6 (fun _ => 0)) := by rw [ect_476]; exact kw_up_s
  have h_488 : ct_476 211 = none := by rw [ect_476, kw_up_n (by decide)]; exact h_469
  have h_489 : ct_476 212 = none := by rw [ect_476, kw_up_n (by decide)]; exact h_470
  have h_490 : ct_476 213 = none := by rw [ect_476, kw_up_n (by decide)]; exact h_471
  have h_491 : ct_476 214 = none := by rw [ect_476, kw_up_n (by decide)]; exact h_472
  have h_492 : ct_476 215 = none := by rw [ect_476, kw_up_n (by decide)]; exact h_473
  have h_493 : ct_476 216 = none := by rw [ect_476, kw_up_n (by decide)]; exact h_474
  have hfr_494 : ∀ j, j ≠ 200 → j ≠ 201 → j ≠ 202 → j ≠ 203 → j ≠ 204 → j ≠ 205 → j ≠ 206 → j ≠ 207 → j ≠ 208 → j ≠ 209 → j ≠ 210 → j ≠ 211 → j ≠ 212 → j ≠ 213 → j ≠ 214 → j ≠ 215 → j ≠ 216 → ct_476 j = ct j := fun j a0 a1 a2 a3 a4 a5 a6 a7 a8 a9 a10 a11 a12 a13 a14 a15 a16 => by rw [ect_476]; exact (kw_up_n a10).trans (hfr_475 j a0 a1 a2 a3 a4 a5 a6 a7 a8 a9 a10 a11 a12 a13 a14 a15 a16)
  refine kg_putF (v := .ref (ad 210)) (ty := .array .int) (C := RX11) (T := TX11) (N := 27) (fs' := [.int 0, .int 0, .int 2, .int 100, .ref (ad 201), .long 0, .int (-9), .int 0, .int 0, .ref (ad 202), .ref (ad 203), .ref (ad 204), .ref (ad 205), .ref (ad 206), .ref (ad 207), .ref (ad 208), .ref (ad 209), .int 0, .ref (ad 210), .null, .null, .null, .null, .int 0, .int 0, .null, .null]) hx hb hts hinX11 tyX11 tyX11_ok nmX11 hown hK hw h_486 rfl 18 (by decide) (hts (.fieldLink RX11 48 "BetMakerModel" "offerSet" "[I") (by decide +kernel)) (fun _ h9 => h9) rfl hin2 rfl (by decide +kernel) rfl rfl (Nat.le_of_ble_eq_true rfl) rfl dX11_init_116 (fun H locs hw => ?_)
  obtain ⟨ct_495, ect_495⟩ : ∃ z, z = kw_up ct_476 200 (.inr (11, [.int 0, .int 0, .int 2, .int 100, .ref (ad 201), .long 0, .int (-9), .int 0, .int 0, .ref (ad 202), .ref (ad 203), .ref (ad 204), .ref (ad 205), .ref (ad 206), .ref (ad 207), .ref (ad 208), .ref (ad 209), .int 0, .ref (ad 210), .null, .null, .null, .null, .int 0, .int 0, .null, .null])) := ⟨_, rfl⟩
  rw [← ect_495] at hw
  have h_496 : ct_495 201 = some (eJ tc 8 (fun _ => 0)) := by rw [ect_495, kw_up_n (by decide)]; exact h_477
  have h_497 : ct_495 202 = some (eI tc 6 (fun _ => 0)) := by rw [ect_495, kw_up_n (by decide)]; exact h_478
  have h_498 : ct_495 203 = some (eJ tc 6 (fun _ => 0)) := by rw [ect_495, kw_up_n (by decide)]; exact h_479
  have h_499 : ct_495 204 = some (eI tc 6 (fun _ => 0)) := by rw [ect_495, kw_up_n (by decide)]; exact h_480
  have h_500 : ct_495 205 = some (eJ tc 48 (fun _ => 0)) := by rw [ect_495, kw_up_n (by decide)]; exact h_481
  have h_501 : ct_495 206 = some (eI tc 48 (fun _ => 0)) := by rw [ect_495, kw_up_n (by decide)]; exact h_482
  have h_502 : ct_495 207 = some (eI tc 4 (va_up (va_up (va_up (va_up (fun _ => 0) 0 (-9)) 1 (-9)) 2 (-9)) 3 (-9))) := by rw [ect_495, kw_up_n (by decide)]; exact h_483
  have h_503 : ct_495 208 = some (eI tc 4 (fun _ => 0)) := by rw [ect_495, kw_up_n (by decide)]; exact h_484
  have h_504 : ct_495 209 = some (eI tc 96 (fun _ => 0)) := by rw [ect_495, kw_up_n (by decide)]; exact h_485
  have h_505 : ct_495 210 = some (eI tc 6 (fun _ => 0)) := by rw [ect_495, kw_up_n (by decide)]; exact h_487
  have h_506 : ct_495 200 = some (.inr (11, [.int 0, .int 0, .int 2, .int 100, .ref (ad 201), .long 0, .int (-9), .int 0, .int 0, .ref (ad 202), .ref (ad 203), .ref (ad 204), .ref (ad 205), .ref (ad 206), .ref (ad 207), .ref (ad 208), .ref (ad 209), .int 0, .ref (ad 210), .null, .null, .null, .null, .int 0, .int 0, .null, .null])) := by rw [ect_495]; exact kw_up_s
  have h_507 : ct_495 211 = none := by rw [ect_495, kw_up_n (by decide)]; exact h_488
  have h_508 : ct_495 212 = none := by rw [ect_495, kw_up_n (by decide)]; exact h_489
  have h_509 : ct_495 213 = none := by rw [ect_495, kw_up_n (by decide)]; exact h_490
  have h_510 : ct_495 214 = none := by rw [ect_495, kw_up_n (by decide)]; exact h_491
  have h_511 : ct_495 215 = none := by rw [ect_495, kw_up_n (by decide)]; exact h_492
  have h_512 : ct_495 216 = none := by rw [ect_495, kw_up_n (by decide)]; exact h_493
  have hfr_513 : ∀ j, j ≠ 200 → j ≠ 201 → j ≠ 202 → j ≠ 203 → j ≠ 204 → j ≠ 205 → j ≠ 206 → j ≠ 207 → j ≠ 208 → j ≠ 209 → j ≠ 210 → j ≠ 211 → j ≠ 212 → j ≠ 213 → j ≠ 214 → j ≠ 215 → j ≠ 216 → ct_495 j = ct j := fun j a0 a1 a2 a3 a4 a5 a6 a7 a8 a9 a10 a11 a12 a13 a14 a15 a16 => by rw [ect_495]; exact (kw_up_n a0).trans (hfr_494 j a0 a1 a2 a3 a4 a5 a6 a7 a8 a9 a10 a11 a12 a13 a14 a15 a16)
  refine lv_aload_n hx hb dX11_init_119 rfl (lv_at hl 0 rfl) ?_
  refine lv_bipush (v := 6) hx hb dX11_init_120 (by decide) ?_
  refine kg_newi hx hb (hts (.arrayClass .int) (by decide +kernel)) hK hw hA 211 h_507 hk211a 6 rfl (by omega) (Nat.le_of_ble_eq_true rfl) (Nat.le_of_ble_eq_true rfl) dX11_init_122 (fun H hw => ?_)
  obtain ⟨ct_514, ect_514⟩ : ∃ z, z = kw_up ct_495 211 (eI tc 6 (fun _ => 0)) := ⟨_, rfl⟩
  rw [← ect_514] at hw
  have h_515 : ct_514 201 = some (eJ tc 8 (fun _ => 0)) := by rw [ect_514, kw_up_n (by decide)]; exact h_496
  have h_516 : ct_514 202 = some (eI tc 6 (fun _ => 0)) := by rw [ect_514, kw_up_n (by decide)]; exact h_497
  have h_517 : ct_514 203 = some (eJ tc 6 (fun _ => 0)) := by rw [ect_514, kw_up_n (by decide)]; exact h_498
  have h_518 : ct_514 204 = some (eI tc 6 (fun _ => 0)) := by rw [ect_514, kw_up_n (by decide)]; exact h_499
  have h_519 : ct_514 205 = some (eJ tc 48 (fun _ => 0)) := by rw [ect_514, kw_up_n (by decide)]; exact h_500
  have h_520 : ct_514 206 = some (eI tc 48 (fun _ => 0)) := by rw [ect_514, kw_up_n (by decide)]; exact h_501
  have h_521 : ct_514 207 = some (eI tc 4 (va_up (va_up (va_up (va_up (fun _ => 0) 0 (-9)) 1 (-9)) 2 (-9)) 3 (-9))) := by rw [ect_514, kw_up_n (by decide)]; exact h_502
  have h_522 : ct_514 208 = some (eI tc 4 (fun _ => 0)) := by rw [ect_514, kw_up_n (by decide)]; exact h_503
  have h_523 : ct_514 209 = some (eI tc 96 (fun _ => 0)) := by rw [ect_514, kw_up_n (by decide)]; exact h_504
  have h_524 : ct_514 210 = some (eI tc 6 (fun _ => 0)) := by rw [ect_514, kw_up_n (by decide)]; exact h_505
  have h_525 : ct_514 200 = some (.inr (11, [.int 0, .int 0, .int 2, .int 100, .ref (ad 201), .long 0, .int (-9), .int 0, .int 0, .ref (ad 202), .ref (ad 203), .ref (ad 204), .ref (ad 205), .ref (ad 206), .ref (ad 207), .ref (ad 208), .ref (ad 209), .int 0, .ref (ad 210), .null, .null, .null, .null, .int 0, .int 0, .null, .null])) := by rw [ect_514, kw_up_n (by decide)]; exact h_506
  have h_526 : ct_514 211 = some (eI tc 6 (fun _ => 0)) := by rw [ect_514]; exact kw_up_s
  have h_527 : ct_514 212 = none := by rw [ect_514, kw_up_n (by decide)]; exact h_508
  have h_528 : ct_514 213 = none := by rw [ect_514, kw_up_n (by decide)]; exact h_509
  have h_529 : ct_514 214 = none := by rw [ect_514, kw_up_n (by decide)]; exact h_510
  have h_530 : ct_514 215 = none := by rw [ect_514, kw_up_n (by decide)]; exact h_511
  have h_531 : ct_514 216 = none := by rw [ect_514, kw_up_n (by decide)]; exact h_512
  have hfr_532 : ∀ j, j ≠ 200 → j ≠ 201 → j ≠ 202 → j ≠ 203 → j ≠ 204 → j ≠ 205 → j ≠ 206 → j ≠ 207 → j ≠ 208 → j ≠ 209 → j ≠ 210 → j ≠ 211 → j ≠ 212 → j ≠ 213 → j ≠ 214 → j ≠ 215 → j ≠ 216 → ct_514 j = ct j := fun j a0 a1 a2 a3 a4 a5 a6 a7 a8 a9 a10 a11 a12 a13 a14 a15 a16 => by rw [ect_514]; exact (kw_up_n a11).trans (hfr_513 j a0 a1 a2 a3 a4 a5 a6 a7 a8 a9 a10 a11 a12 a13 a14 a15 a16)
  refine kg_putF (v := .ref (ad 211)) (ty := .array .int) (C := RX11) (T := TX11) (N := 27) (fs' := [.int 0, .int 0, .int 2, .int 100, .ref (ad 201), .long 0, .int (-9), .int 0, .int 0, .ref (ad 202), .ref (ad 203), .ref (ad 204), .ref (ad 205), .ref (ad 206), .ref (ad 207), .ref (ad 208), .ref (ad 209), .int 0, .ref (ad 210), .ref (ad 211), .null, .null, .null, .int 0, .int 0, .null, .null]) hx hb hts hinX11 tyX11 tyX11_ok nmX11 hown hK hw h_525 rfl 19 (by decide) (hts (.fieldLink RX11 51 "BetMakerModel" "offerAt" "[I") (by decide +kernel)) (fun _ h9 => h9) rfl hin2 rfl (by decide +kernel) rfl rfl (Nat.le_of_ble_eq_true rfl) rfl dX11_init_124 (fun H locs hw => ?_)
  obtain ⟨ct_533, ect_533⟩ : ∃ z, z = kw_up ct_514 200 (.inr (11, [.int 0, .int 0, .int 2, .int 100, .ref (ad 201), .long 0, .int (-9), .int 0, .int 0, .ref (ad 202), .ref (ad 203), .ref (ad 204), .ref (ad 205), .ref (ad 206), .ref (ad 207), .ref (ad 208), .ref (ad 209), .int 0, .ref (ad 210), .ref (ad 211), .null, .null, .null, .int 0, .int 0, .null, .null])) := ⟨_, rfl⟩
  rw [← ect_533] at hw
  have h_534 : ct_533 201 = some (eJ tc 8 (fun _ => 0)) := by rw [ect_533, kw_up_n (by decide)]; exact h_515
  have h_535 : ct_533 202 = some (eI tc 6 (fun _ => 0)) := by rw [ect_533, kw_up_n (by decide)]; exact h_516
  have h_536 : ct_533 203 = some (eJ tc 6 (fun _ => 0)) := by rw [ect_533, kw_up_n (by decide)]; exact h_517
  have h_537 : ct_533 204 = some (eI tc 6 (fun _ => 0)) := by rw [ect_533, kw_up_n (by decide)]; exact h_518
  have h_538 : ct_533 205 = some (eJ tc 48 (fun _ => 0)) := by rw [ect_533, kw_up_n (by decide)]; exact h_519
  have h_539 : ct_533 206 = some (eI tc 48 (fun _ => 0)) := by rw [ect_533, kw_up_n (by decide)]; exact h_520
  have h_540 : ct_533 207 = some (eI tc 4 (va_up (va_up (va_up (va_up (fun _ => 0) 0 (-9)) 1 (-9)) 2 (-9)) 3 (-9))) := by rw [ect_533, kw_up_n (by decide)]; exact h_521
  have h_541 : ct_533 208 = some (eI tc 4 (fun _ => 0)) := by rw [ect_533, kw_up_n (by decide)]; exact h_522
  have h_542 : ct_533 209 = some (eI tc 96 (fun _ => 0)) := by rw [ect_533, kw_up_n (by decide)]; exact h_523
  have h_543 : ct_533 210 = some (eI tc 6 (fun _ => 0)) := by rw [ect_533, kw_up_n (by decide)]; exact h_524
  have h_544 : ct_533 211 = some (eI tc 6 (fun _ => 0)) := by rw [ect_533, kw_up_n (by decide)]; exact h_526
  have h_545 : ct_533 200 = some (.inr (11, [.int 0, .int 0, .int 2, .int 100, .ref (ad 201), .long 0, .int (-9), .int 0, .int 0, .ref (ad 202), .ref (ad 203), .ref (ad 204), .ref (ad 205), .ref (ad 206), .ref (ad 207), .ref (ad 208), .ref (ad 209), .int 0, .ref (ad 210), .ref (ad 211), .null, .null, .null, .int 0, .int 0, .null, .null])) := by rw [ect_533]; exact kw_up_s
  have h_546 : ct_533 212 = none := by rw [ect_533, kw_up_n (by decide)]; exact h_527
  have h_547 : ct_533 213 = none := by rw [ect_533, kw_up_n (by decide)]; exact h_528
  have h_548 : ct_533 214 = none := by rw [ect_533, kw_up_n (by decide)]; exact h_529
  have h_549 : ct_533 215 = none := by rw [ect_533, kw_up_n (by decide)]; exact h_530
  have h_550 : ct_533 216 = none := by rw [ect_533, kw_up_n (by decide)]; exact h_531
  have hfr_551 : ∀ j, j ≠ 200 → j ≠ 201 → j ≠ 202 → j ≠ 203 → j ≠ 204 → j ≠ 205 → j ≠ 206 → j ≠ 207 → j ≠ 208 → j ≠ 209 → j ≠ 210 → j ≠ 211 → j ≠ 212 → j ≠ 213 → j ≠ 214 → j ≠ 215 → j ≠ 216 → ct_533 j = ct j := fun j a0 a1 a2 a3 a4 a5 a6 a7 a8 a9 a10 a11 a12 a13 a14 a15 a16 => by rw [ect_533]; exact (kw_up_n a0).trans (hfr_532 j a0 a1 a2 a3 a4 a5 a6 a7 a8 a9 a10 a11 a12 a13 a14 a15 a16)
  refine lv_aload_n hx hb dX11_init_127 rfl (lv_at hl 0 rfl) ?_
  refine lv_bipush (v := 6) hx hb dX11_init_128 (by decide) ?_
  refine kg_newi hx hb (hts (.arrayClass .int) (by decide +kernel)) hK hw hA 212 h_546 hk212a 6 rfl (by omega) (Nat.le_of_ble_eq_true rfl) (Nat.le_of_ble_eq_true rfl) dX11_init_130 (fun H hw => ?_)
  obtain ⟨ct_552, ect_552⟩ : ∃ z, z = kw_up ct_533 212 (eI tc 6 (fun _ => 0)) := ⟨_, rfl⟩
  rw [← ect_552] at hw
  have h_553 : ct_552 201 = some (eJ tc 8 (fun _ => 0)) := by rw [ect_552, kw_up_n (by decide)]; exact h_534
  have h_554 : ct_552 202 = some (eI tc 6 (fun _ => 0)) := by rw [ect_552, kw_up_n (by decide)]; exact h_535
  have h_555 : ct_552 203 = some (eJ tc 6 (fun _ => 0)) := by rw [ect_552, kw_up_n (by decide)]; exact h_536
  have h_556 : ct_552 204 = some (eI tc 6 (fun _ => 0)) := by rw [ect_552, kw_up_n (by decide)]; exact h_537
  have h_557 : ct_552 205 = some (eJ tc 48 (fun _ => 0)) := by rw [ect_552, kw_up_n (by decide)]; exact h_538
  have h_558 : ct_552 206 = some (eI tc 48 (fun _ => 0)) := by rw [ect_552, kw_up_n (by decide)]; exact h_539
  have h_559 : ct_552 207 = some (eI tc 4 (va_up (va_up (va_up (va_up (fun _ => 0) 0 (-9)) 1 (-9)) 2 (-9)) 3 (-9))) := by rw [ect_552, kw_up_n (by decide)]; exact h_540
  have h_560 : ct_552 208 = some (eI tc 4 (fun _ => 0)) := by rw [ect_552, kw_up_n (by decide)]; exact h_541
  have h_561 : ct_552 209 = some (eI tc 96 (fun _ => 0)) := by rw [ect_552, kw_up_n (by decide)]; exact h_542
  have h_562 : ct_552 210 = some (eI tc 6 (fun _ => 0)) := by rw [ect_552, kw_up_n (by decide)]; exact h_543
  have h_563 : ct_552 211 = some (eI tc 6 (fun _ => 0)) := by rw [ect_552, kw_up_n (by decide)]; exact h_544
  have h_564 : ct_552 200 = some (.inr (11, [.int 0, .int 0, .int 2, .int 100, .ref (ad 201), .long 0, .int (-9), .int 0, .int 0, .ref (ad 202), .ref (ad 203), .ref (ad 204), .ref (ad 205), .ref (ad 206), .ref (ad 207), .ref (ad 208), .ref (ad 209), .int 0, .ref (ad 210), .ref (ad 211), .null, .null, .null, .int 0, .int 0, .null, .null])) := by rw [ect_552, kw_up_n (by decide)]; exact h_545
  have h_565 : ct_552 212 = some (eI tc 6 (fun _ => 0)) := by rw [ect_552]; exact kw_up_s
  have h_566 : ct_552 213 = none := by rw [ect_552, kw_up_n (by decide)]; exact h_547
  have h_567 : ct_552 214 = none := by rw [ect_552, kw_up_n (by decide)]; exact h_548
  have h_568 : ct_552 215 = none := by rw [ect_552, kw_up_n (by decide)]; exact h_549
  have h_569 : ct_552 216 = none := by rw [ect_552, kw_up_n (by decide)]; exact h_550
  have hfr_570 : ∀ j, j ≠ 200 → j ≠ 201 → j ≠ 202 → j ≠ 203 → j ≠ 204 → j ≠ 205 → j ≠ 206 → j ≠ 207 → j ≠ 208 → j ≠ 209 → j ≠ 210 → j ≠ 211 → j ≠ 212 → j ≠ 213 → j ≠ 214 → j ≠ 215 → j ≠ 216 → ct_552 j = ct j := fun j a0 a1 a2 a3 a4 a5 a6 a7 a8 a9 a10 a11 a12 a13 a14 a15 a16 => by rw [ect_552]; exact (kw_up_n a12).trans (hfr_551 j a0 a1 a2 a3 a4 a5 a6 a7 a8 a9 a10 a11 a12 a13 a14 a15 a16)
  refine kg_putF (v := .ref (ad 212)) (ty := .array .int) (C := RX11) (T := TX11) (N := 27) (fs' := [.int 0, .int 0, .int 2, .int 100, .ref (ad 201), .long 0, .int (-9), .int 0, .int 0, .ref (ad 202), .ref (ad 203), .ref (ad 204), .ref (ad 205), .ref (ad 206), .ref (ad 207), .ref (ad 208), .ref (ad 209), .int 0, .ref (ad 210), .ref (ad 211), .ref (ad 212), .null, .null, .int 0, .int 0, .null, .null]) hx hb hts hinX11 tyX11 tyX11_ok nmX11 hown hK hw h_564 rfl 20 (by decide) (hts (.fieldLink RX11 54 "BetMakerModel" "offerMost" "[I") (by decide +kernel)) (fun _ h9 => h9) rfl hin2 rfl (by decide +kernel) rfl rfl (Nat.le_of_ble_eq_true rfl) rfl dX11_init_132 (fun H locs hw => ?_)
  obtain ⟨ct_571, ect_571⟩ : ∃ z, z = kw_up ct_552 200 (.inr (11, [.int 0, .int 0, .int 2, .int 100, .ref (ad 201), .long 0, .int (-9), .int 0, .int 0, .ref (ad 202), .ref (ad 203), .ref (ad 204), .ref (ad 205), .ref (ad 206), .ref (ad 207), .ref (ad 208), .ref (ad 209), .int 0, .ref (ad 210), .ref (ad 211), .ref (ad 212), .null, .null, .int 0, .int 0, .null, .null])) := ⟨_, rfl⟩
  rw [← ect_571] at hw
  have h_572 : ct_571 201 = some (eJ tc 8 (fun _ => 0)) := by rw [ect_571, kw_up_n (by decide)]; exact h_553
  have h_573 : ct_571 202 = some (eI tc 6 (fun _ => 0)) := by rw [ect_571, kw_up_n (by decide)]; exact h_554
  have h_574 : ct_571 203 = some (eJ tc 6 (fun _ => 0)) := by rw [ect_571, kw_up_n (by decide)]; exact h_555
  have h_575 : ct_571 204 = some (eI tc 6 (fun _ => 0)) := by rw [ect_571, kw_up_n (by decide)]; exact h_556
  have h_576 : ct_571 205 = some (eJ tc 48 (fun _ => 0)) := by rw [ect_571, kw_up_n (by decide)]; exact h_557
  have h_577 : ct_571 206 = some (eI tc 48 (fun _ => 0)) := by rw [ect_571, kw_up_n (by decide)]; exact h_558
  have h_578 : ct_571 207 = some (eI tc 4 (va_up (va_up (va_up (va_up (fun _ => 0) 0 (-9)) 1 (-9)) 2 (-9)) 3 (-9))) := by rw [ect_571, kw_up_n (by decide)]; exact h_559
  have h_579 : ct_571 208 = some (eI tc 4 (fun _ => 0)) := by rw [ect_571, kw_up_n (by decide)]; exact h_560
  have h_580 : ct_571 209 = some (eI tc 96 (fun _ => 0)) := by rw [ect_571, kw_up_n (by decide)]; exact h_561
  have h_581 : ct_571 210 = some (eI tc 6 (fun _ => 0)) := by rw [ect_571, kw_up_n (by decide)]; exact h_562
  have h_582 : ct_571 211 = some (eI tc 6 (fun _ => 0)) := by rw [ect_571, kw_up_n (by decide)]; exact h_563
  have h_583 : ct_571 212 = some (eI tc 6 (fun _ => 0)) := by rw [ect_571, kw_up_n (by decide)]; exact h_565
  have h_584 : ct_571 200 = some (.inr (11, [.int 0, .int 0, .int 2, .int 100, .ref (ad 201), .long 0, .int (-9), .int 0, .int 0, .ref (ad 202), .ref (ad 203), .ref (ad 204), .ref (ad 205), .ref (ad 206), .ref (ad 207), .ref (ad 208), .ref (ad 209), .int 0, .ref (ad 210), .ref (ad 211), .ref (ad 212), .null, .null, .int 0, .int 0, .null, .null])) := by rw [ect_571]; exact kw_up_s
  have h_585 : ct_571 213 = none := by rw [ect_571, kw_up_n (by decide)]; exact h_566
  have h_586 : ct_571 214 = none := by rw [ect_571, kw_up_n (by decide)]; exact h_567
  have h_587 : ct_571 215 = none := by rw [ect_571, kw_up_n (by decide)]; exact h_568
  have h_588 : ct_571 216 = none := by rw [ect_571, kw_up_n (by decide)]; exact h_569
  have hfr_589 : ∀ j, j ≠ 200 → j ≠ 201 → j ≠ 202 → j ≠ 203 → j ≠ 204 → j ≠ 205 → j ≠ 206 → j ≠ 207 → j ≠ 208 → j ≠ 209 → j ≠ 210 → j ≠ 211 → j ≠ 212 → j ≠ 213 → j ≠ 214 → j ≠ 215 → j ≠ 216 → ct_571 j = ct j := fun j a0 a1 a2 a3 a4 a5 a6 a7 a8 a9 a10 a11 a12 a13 a14 a15 a16 => by rw [ect_571]; exact (kw_up_n a0).trans (hfr_570 j a0 a1 a2 a3 a4 a5 a6 a7 a8 a9 a10 a11 a12 a13 a14 a15 a16)
  refine lv_aload_n hx hb dX11_init_135 rfl (lv_at hl 0 rfl) ?_
  refine lv_bipush (v := 6) hx hb dX11_init_136 (by decide) ?_
  refine kg_newi hx hb (hts (.arrayClass .int) (by decide +kernel)) hK hw hA 213 h_585 hk213a 6 rfl (by omega) (Nat.le_of_ble_eq_true rfl) (Nat.le_of_ble_eq_true rfl) dX11_init_138 (fun H hw => ?_)
  obtain ⟨ct_590, ect_590⟩ : ∃ z, z = kw_up ct_571 213 (eI tc 6 (fun _ => 0)) := ⟨_, rfl⟩
  rw [← ect_590] at hw
  have h_591 : ct_590 201 = some (eJ tc 8 (fun _ => 0)) := by rw [ect_590, kw_up_n (by decide)]; exact h_572
  have h_592 : ct_590 202 = some (eI tc 6 (fun _ => 0)) := by rw [ect_590, kw_up_n (by decide)]; exact h_573
  have h_593 : ct_590 203 = some (eJ tc 6 (fun _ => 0)) := by rw [ect_590, kw_up_n (by decide)]; exact h_574
  have h_594 : ct_590 204 = some (eI tc 6 (fun _ => 0)) := by rw [ect_590, kw_up_n (by decide)]; exact h_575
  have h_595 : ct_590 205 = some (eJ tc 48 (fun _ => 0)) := by rw [ect_590, kw_up_n (by decide)]; exact h_576
  have h_596 : ct_590 206 = some (eI tc 48 (fun _ => 0)) := by rw [ect_590, kw_up_n (by decide)]; exact h_577
  have h_597 : ct_590 207 = some (eI tc 4 (va_up (va_up (va_up (va_up (fun _ => 0) 0 (-9)) 1 (-9)) 2 (-9)) 3 (-9))) := by rw [ect_590, kw_up_n (by decide)]; exact h_578
  have h_598 : ct_590 208 = some (eI tc 4 (fun _ => 0)) := by rw [ect_590, kw_up_n (by decide)]; exact h_579
  have h_599 : ct_590 209 = some (eI tc 96 (fun _ => 0)) := by rw [ect_590, kw_up_n (by decide)]; exact h_580
  have h_600 : ct_590 210 = some (eI tc 6 (fun _ => 0)) := by rw [ect_590, kw_up_n (by decide)]; exact h_581
  have h_601 : ct_590 211 = some (eI tc 6 (fun _ => 0)) := by rw [ect_590, kw_up_n (by decide)]; exact h_582
  have h_602 : ct_590 212 = some (eI tc 6 (fun _ => 0)) := by rw [ect_590, kw_up_n (by decide)]; exact h_583
  have h_603 : ct_590 200 = some (.inr (11, [.int 0, .int 0, .int 2, .int 100, .ref (ad 201), .long 0, .int (-9), .int 0, .int 0, .ref (ad 202), .ref (ad 203), .ref (ad 204), .ref (ad 205), .ref (ad 206), .ref (ad 207), .ref (ad 208), .ref (ad 209), .int 0, .ref (ad 210), .ref (ad 211), .ref (ad 212), .null, .null, .int 0, .int 0, .null, .null])) := by rw [ect_590, kw_up_n (by decide)]; exact h_584
  have h_604 : ct_590 213 = some (eI tc 6 (fun _ => 0)) := by rw [ect_590]; exact kw_up_s
  have h_605 : ct_590 214 = none := by rw [ect_590, kw_up_n (by decide)]; exact h_586
  have h_606 : ct_590 215 = none := by rw [ect_590, kw_up_n (by decide)]; exact h_587
  have h_607 : ct_590 216 = none := by rw [ect_590, kw_up_n (by decide)]; exact h_588
  have hfr_608 : ∀ j, j ≠ 200 → j ≠ 201 → j ≠ 202 → j ≠ 203 → j ≠ 204 → j ≠ 205 → j ≠ 206 → j ≠ 207 → j ≠ 208 → j ≠ 209 → j ≠ 210 → j ≠ 211 → j ≠ 212 → j ≠ 213 → j ≠ 214 → j ≠ 215 → j ≠ 216 → ct_590 j = ct j := fun j a0 a1 a2 a3 a4 a5 a6 a7 a8 a9 a10 a11 a12 a13 a14 a15 a16 => by rw [ect_590]; exact (kw_up_n a13).trans (hfr_589 j a0 a1 a2 a3 a4 a5 a6 a7 a8 a9 a10 a11 a12 a13 a14 a15 a16)
  refine kg_putF (v := .ref (ad 213)) (ty := .array .int) (C := RX11) (T := TX11) (N := 27) (fs' := [.int 0, .int 0, .int 2, .int 100, .ref (ad 201), .long 0, .int (-9), .int 0, .int 0, .ref (ad 202), .ref (ad 203), .ref (ad 204), .ref (ad 205), .ref (ad 206), .ref (ad 207), .ref (ad 208), .ref (ad 209), .int 0, .ref (ad 210), .ref (ad 211), .ref (ad 212), .ref (ad 213), .null, .int 0, .int 0, .null, .null]) hx hb hts hinX11 tyX11 tyX11_ok nmX11 hown hK hw h_603 rfl 21 (by decide) (hts (.fieldLink RX11 57 "BetMakerModel" "now" "[I") (by decide +kernel)) (fun _ h9 => h9) rfl hin2 rfl (by decide +kernel) rfl rfl (Nat.le_of_ble_eq_true rfl) rfl dX11_init_140 (fun H locs hw => ?_)
  obtain ⟨ct_609, ect_609⟩ : ∃ z, z = kw_up ct_590 200 (.inr (11, [.int 0, .int 0, .int 2, .int 100, .ref (ad 201), .long 0, .int (-9), .int 0, .int 0, .ref (ad 202), .ref (ad 203), .ref (ad 204), .ref (ad 205), .ref (ad 206), .ref (ad 207), .ref (ad 208), .ref (ad 209), .int 0, .ref (ad 210), .ref (ad 211), .ref (ad 212), .ref (ad 213), .null, .int 0, .int 0, .null, .null])) := ⟨_, rfl⟩
  rw [← ect_609] at hw
  have h_610 : ct_609 201 = some (eJ tc 8 (fun _ => 0)) := by rw [ect_609, kw_up_n (by decide)]; exact h_591
  have h_611 : ct_609 202 = some (eI tc 6 (fun _ => 0)) := by rw [ect_609, kw_up_n (by decide)]; exact h_592
  have h_612 : ct_609 203 = some (eJ tc 6 (fun _ => 0)) := by rw [ect_609, kw_up_n (by decide)]; exact h_593
  have h_613 : ct_609 204 = some (eI tc 6 (fun _ => 0)) := by rw [ect_609, kw_up_n (by decide)]; exact h_594
  have h_614 : ct_609 205 = some (eJ tc 48 (fun _ => 0)) := by rw [ect_609, kw_up_n (by decide)]; exact h_595
  have h_615 : ct_609 206 = some (eI tc 48 (fun _ => 0)) := by rw [ect_609, kw_up_n (by decide)]; exact h_596
  have h_616 : ct_609 207 = some (eI tc 4 (va_up (va_up (va_up (va_up (fun _ => 0) 0 (-9)) 1 (-9)) 2 (-9)) 3 (-9))) := by rw [ect_609, kw_up_n (by decide)]; exact h_597
  have h_617 : ct_609 208 = some (eI tc 4 (fun _ => 0)) := by rw [ect_609, kw_up_n (by decide)]; exact h_598
  have h_618 : ct_609 209 = some (eI tc 96 (fun _ => 0)) := by rw [ect_609, kw_up_n (by decide)]; exact h_599
  have h_619 : ct_609 210 = some (eI tc 6 (fun _ => 0)) := by rw [ect_609, kw_up_n (by decide)]; exact h_600
  have h_620 : ct_609 211 = some (eI tc 6 (fun _ => 0)) := by rw [ect_609, kw_up_n (by decide)]; exact h_601
  have h_621 : ct_609 212 = some (eI tc 6 (fun _ => 0)) := by rw [ect_609, kw_up_n (by decide)]; exact h_602
  have h_622 : ct_609 213 = some (eI tc 6 (fun _ => 0)) := by rw [ect_609, kw_up_n (by decide)]; exact h_604
  have h_623 : ct_609 200 = some (.inr (11, [.int 0, .int 0, .int 2, .int 100, .ref (ad 201), .long 0, .int (-9), .int 0, .int 0, .ref (ad 202), .ref (ad 203), .ref (ad 204), .ref (ad 205), .ref (ad 206), .ref (ad 207), .ref (ad 208), .ref (ad 209), .int 0, .ref (ad 210), .ref (ad 211), .ref (ad 212), .ref (ad 213), .null, .int 0, .int 0, .null, .null])) := by rw [ect_609]; exact kw_up_s
  have h_624 : ct_609 214 = none := by rw [ect_609, kw_up_n (by decide)]; exact h_605
  have h_625 : ct_609 215 = none := by rw [ect_609, kw_up_n (by decide)]; exact h_606
  have h_626 : ct_609 216 = none := by rw [ect_609, kw_up_n (by decide)]; exact h_607
  have hfr_627 : ∀ j, j ≠ 200 → j ≠ 201 → j ≠ 202 → j ≠ 203 → j ≠ 204 → j ≠ 205 → j ≠ 206 → j ≠ 207 → j ≠ 208 → j ≠ 209 → j ≠ 210 → j ≠ 211 → j ≠ 212 → j ≠ 213 → j ≠ 214 → j ≠ 215 → j ≠ 216 → ct_609 j = ct j := fun j a0 a1 a2 a3 a4 a5 a6 a7 a8 a9 a10 a11 a12 a13 a14 a15 a16 => by rw [ect_609]; exact (kw_up_n a0).trans (hfr_608 j a0 a1 a2 a3 a4 a5 a6 a7 a8 a9 a10 a11 a12 a13 a14 a15 a16)
  refine lv_aload_n hx hb dX11_init_143 rfl (lv_at hl 0 rfl) ?_
  refine lv_bipush (v := 6) hx hb dX11_init_144 (by decide) ?_
  refine kg_newi hx hb (hts (.arrayClass .int) (by decide +kernel)) hK hw hA 214 h_624 hk214a 6 rfl (by omega) (Nat.le_of_ble_eq_true rfl) (Nat.le_of_ble_eq_true rfl) dX11_init_146 (fun H hw => ?_)
  obtain ⟨ct_628, ect_628⟩ : ∃ z, z = kw_up ct_609 214 (eI tc 6 (fun _ => 0)) := ⟨_, rfl⟩
  rw [← ect_628] at hw
  have h_629 : ct_628 201 = some (eJ tc 8 (fun _ => 0)) := by rw [ect_628, kw_up_n (by decide)]; exact h_610
  have h_630 : ct_628 202 = some (eI tc 6 (fun _ => 0)) := by rw [ect_628, kw_up_n (by decide)]; exact h_611
  have h_631 : ct_628 203 = some (eJ tc 6 (fun _ => 0)) := by rw [ect_628, kw_up_n (by decide)]; exact h_612
  have h_632 : ct_628 204 = some (eI tc 6 (fun _ => 0)) := by rw [ect_628, kw_up_n (by decide)]; exact h_613
  have h_633 : ct_628 205 = some (eJ tc 48 (fun _ => 0)) := by rw [ect_628, kw_up_n (by decide)]; exact h_614
  have h_634 : ct_628 206 = some (eI tc 48 (fun _ => 0)) := by rw [ect_628, kw_up_n (by decide)]; exact h_615
  have h_635 : ct_628 207 = some (eI tc 4 (va_up (va_up (va_up (va_up (fun _ => 0) 0 (-9)) 1 (-9)) 2 (-9)) 3 (-9))) := by rw [ect_628, kw_up_n (by decide)]; exact h_616
  have h_636 : ct_628 208 = some (eI tc 4 (fun _ => 0)) := by rw [ect_628, kw_up_n (by decide)]; exact h_617
  have h_637 : ct_628 209 = some (eI tc 96 (fun _ => 0)) := by rw [ect_628, kw_up_n (by decide)]; exact h_618
  have h_638 : ct_628 210 = some (eI tc 6 (fun _ => 0)) := by rw [ect_628, kw_up_n (by decide)]; exact h_619
  have h_639 : ct_628 211 = some (eI tc 6 (fun _ => 0)) := by rw [ect_628, kw_up_n (by decide)]; exact h_620
  have h_640 : ct_628 212 = some (eI tc 6 (fun _ => 0)) := by rw [ect_628, kw_up_n (by decide)]; exact h_621
  have h_641 : ct_628 213 = some (eI tc 6 (fun _ => 0)) := by rw [ect_628, kw_up_n (by decide)]; exact h_622
  have h_642 : ct_628 200 = some (.inr (11, [.int 0, .int 0, .int 2, .int 100, .ref (ad 201), .long 0, .int (-9), .int 0, .int 0, .ref (ad 202), .ref (ad 203), .ref (ad 204), .ref (ad 205), .ref (ad 206), .ref (ad 207), .ref (ad 208), .ref (ad 209), .int 0, .ref (ad 210), .ref (ad 211), .ref (ad 212), .ref (ad 213), .null, .int 0, .int 0, .null, .null])) := by rw [ect_628, kw_up_n (by decide)]; exact h_623
  have h_643 : ct_628 214 = some (eI tc 6 (fun _ => 0)) := by rw [ect_628]; exact kw_up_s
  have h_644 : ct_628 215 = none := by rw [ect_628, kw_up_n (by decide)]; exact h_625
  have h_645 : ct_628 216 = none := by rw [ect_628, kw_up_n (by decide)]; exact h_626
  have hfr_646 : ∀ j, j ≠ 200 → j ≠ 201 → j ≠ 202 → j ≠ 203 → j ≠ 204 → j ≠ 205 → j ≠ 206 → j ≠ 207 → j ≠ 208 → j ≠ 209 → j ≠ 210 → j ≠ 211 → j ≠ 212 → j ≠ 213 → j ≠ 214 → j ≠ 215 → j ≠ 216 → ct_628 j = ct j := fun j a0 a1 a2 a3 a4 a5 a6 a7 a8 a9 a10 a11 a12 a13 a14 a15 a16 => by rw [ect_628]; exact (kw_up_n a14).trans (hfr_627 j a0 a1 a2 a3 a4 a5 a6 a7 a8 a9 a10 a11 a12 a13 a14 a15 a16)
  refine kg_putF (v := .ref (ad 214)) (ty := .array .int) (C := RX11) (T := TX11) (N := 27) (fs' := [.int 0, .int 0, .int 2, .int 100, .ref (ad 201), .long 0, .int (-9), .int 0, .int 0, .ref (ad 202), .ref (ad 203), .ref (ad 204), .ref (ad 205), .ref (ad 206), .ref (ad 207), .ref (ad 208), .ref (ad 209), .int 0, .ref (ad 210), .ref (ad 211), .ref (ad 212), .ref (ad 213), .ref (ad 214), .int 0, .int 0, .null, .null]) hx hb hts hinX11 tyX11 tyX11_ok nmX11 hown hK hw h_642 rfl 22 (by decide) (hts (.fieldLink RX11 60 "BetMakerModel" "bestRow" "[I") (by decide +kernel)) (fun _ h9 => h9) rfl hin2 rfl (by decide +kernel) rfl rfl (Nat.le_of_ble_eq_true rfl) rfl dX11_init_148 (fun H locs hw => ?_)
  obtain ⟨ct_647, ect_647⟩ : ∃ z, z = kw_up ct_628 200 (.inr (11, [.int 0, .int 0, .int 2, .int 100, .ref (ad 201), .long 0, .int (-9), .int 0, .int 0, .ref (ad 202), .ref (ad 203), .ref (ad 204), .ref (ad 205), .ref (ad 206), .ref (ad 207), .ref (ad 208), .ref (ad 209), .int 0, .ref (ad 210), .ref (ad 211), .ref (ad 212), .ref (ad 213), .ref (ad 214), .int 0, .int 0, .null, .null])) := ⟨_, rfl⟩
  rw [← ect_647] at hw
  have h_648 : ct_647 201 = some (eJ tc 8 (fun _ => 0)) := by rw [ect_647, kw_up_n (by decide)]; exact h_629
  have h_649 : ct_647 202 = some (eI tc 6 (fun _ => 0)) := by rw [ect_647, kw_up_n (by decide)]; exact h_630
  have h_650 : ct_647 203 = some (eJ tc 6 (fun _ => 0)) := by rw [ect_647, kw_up_n (by decide)]; exact h_631
  have h_651 : ct_647 204 = some (eI tc 6 (fun _ => 0)) := by rw [ect_647, kw_up_n (by decide)]; exact h_632
  have h_652 : ct_647 205 = some (eJ tc 48 (fun _ => 0)) := by rw [ect_647, kw_up_n (by decide)]; exact h_633
  have h_653 : ct_647 206 = some (eI tc 48 (fun _ => 0)) := by rw [ect_647, kw_up_n (by decide)]; exact h_634
  have h_654 : ct_647 207 = some (eI tc 4 (va_up (va_up (va_up (va_up (fun _ => 0) 0 (-9)) 1 (-9)) 2 (-9)) 3 (-9))) := by rw [ect_647, kw_up_n (by decide)]; exact h_635
  have h_655 : ct_647 208 = some (eI tc 4 (fun _ => 0)) := by rw [ect_647, kw_up_n (by decide)]; exact h_636
  have h_656 : ct_647 209 = some (eI tc 96 (fun _ => 0)) := by rw [ect_647, kw_up_n (by decide)]; exact h_637
  have h_657 : ct_647 210 = some (eI tc 6 (fun _ => 0)) := by rw [ect_647, kw_up_n (by decide)]; exact h_638
  have h_658 : ct_647 211 = some (eI tc 6 (fun _ => 0)) := by rw [ect_647, kw_up_n (by decide)]; exact h_639
  have h_659 : ct_647 212 = some (eI tc 6 (fun _ => 0)) := by rw [ect_647, kw_up_n (by decide)]; exact h_640
  have h_660 : ct_647 213 = some (eI tc 6 (fun _ => 0)) := by rw [ect_647, kw_up_n (by decide)]; exact h_641
  have h_661 : ct_647 214 = some (eI tc 6 (fun _ => 0)) := by rw [ect_647, kw_up_n (by decide)]; exact h_643
  have h_662 : ct_647 200 = some (.inr (11, [.int 0, .int 0, .int 2, .int 100, .ref (ad 201), .long 0, .int (-9), .int 0, .int 0, .ref (ad 202), .ref (ad 203), .ref (ad 204), .ref (ad 205), .ref (ad 206), .ref (ad 207), .ref (ad 208), .ref (ad 209), .int 0, .ref (ad 210), .ref (ad 211), .ref (ad 212), .ref (ad 213), .ref (ad 214), .int 0, .int 0, .null, .null])) := by rw [ect_647]; exact kw_up_s
  have h_663 : ct_647 215 = none := by rw [ect_647, kw_up_n (by decide)]; exact h_644
  have h_664 : ct_647 216 = none := by rw [ect_647, kw_up_n (by decide)]; exact h_645
  have hfr_665 : ∀ j, j ≠ 200 → j ≠ 201 → j ≠ 202 → j ≠ 203 → j ≠ 204 → j ≠ 205 → j ≠ 206 → j ≠ 207 → j ≠ 208 → j ≠ 209 → j ≠ 210 → j ≠ 211 → j ≠ 212 → j ≠ 213 → j ≠ 214 → j ≠ 215 → j ≠ 216 → ct_647 j = ct j := fun j a0 a1 a2 a3 a4 a5 a6 a7 a8 a9 a10 a11 a12 a13 a14 a15 a16 => by rw [ect_647]; exact (kw_up_n a0).trans (hfr_646 j a0 a1 a2 a3 a4 a5 a6 a7 a8 a9 a10 a11 a12 a13 a14 a15 a16)
  refine lv_aload_n hx hb dX11_init_151 rfl (lv_at hl 0 rfl) ?_
  refine lv_sipush (v := 320) hx hb dX11_init_152 (by decide) ?_
  refine kg_newi hx hb (hts (.arrayClass .int) (by decide +kernel)) hK hw hA 215 h_663 hk215a 320 rfl (by omega) (Nat.le_of_ble_eq_true rfl) (Nat.le_of_ble_eq_true rfl) dX11_init_155 (fun H hw => ?_)
  obtain ⟨ct_666, ect_666⟩ : ∃ z, z = kw_up ct_647 215 (eI tc 320 (fun _ => 0)) := ⟨_, rfl⟩
  rw [← ect_666] at hw
  have h_667 : ct_666 201 = some (eJ tc 8 (fun _ => 0)) := by rw [ect_666, kw_up_n (by decide)]; exact h_648
  have h_668 : ct_666 202 = some (eI tc 6 (fun _ => 0)) := by rw [ect_666, kw_up_n (by decide)]; exact h_649
  have h_669 : ct_666 203 = some (eJ tc 6 (fun _ => 0)) := by rw [ect_666, kw_up_n (by decide)]; exact h_650
  have h_670 : ct_666 204 = some (eI tc 6 (fun _ => 0)) := by rw [ect_666, kw_up_n (by decide)]; exact h_651
  have h_671 : ct_666 205 = some (eJ tc 48 (fun _ => 0)) := by rw [ect_666, kw_up_n (by decide)]; exact h_652
  have h_672 : ct_666 206 = some (eI tc 48 (fun _ => 0)) := by rw [ect_666, kw_up_n (by decide)]; exact h_653
  have h_673 : ct_666 207 = some (eI tc 4 (va_up (va_up (va_up (va_up (fun _ => 0) 0 (-9)) 1 (-9)) 2 (-9)) 3 (-9))) := by rw [ect_666, kw_up_n (by decide)]; exact h_654
  have h_674 : ct_666 208 = some (eI tc 4 (fun _ => 0)) := by rw [ect_666, kw_up_n (by decide)]; exact h_655
  have h_675 : ct_666 209 = some (eI tc 96 (fun _ => 0)) := by rw [ect_666, kw_up_n (by decide)]; exact h_656
  have h_676 : ct_666 210 = some (eI tc 6 (fun _ => 0)) := by rw [ect_666, kw_up_n (by decide)]; exact h_657
  have h_677 : ct_666 211 = some (eI tc 6 (fun _ => 0)) := by rw [ect_666, kw_up_n (by decide)]; exact h_658
  have h_678 : ct_666 212 = some (eI tc 6 (fun _ => 0)) := by rw [ect_666, kw_up_n (by decide)]; exact h_659
  have h_679 : ct_666 213 = some (eI tc 6 (fun _ => 0)) := by rw [ect_666, kw_up_n (by decide)]; exact h_660
  have h_680 : ct_666 214 = some (eI tc 6 (fun _ => 0)) := by rw [ect_666, kw_up_n (by decide)]; exact h_661
  have h_681 : ct_666 200 = some (.inr (11, [.int 0, .int 0, .int 2, .int 100, .ref (ad 201), .long 0, .int (-9), .int 0, .int 0, .ref (ad 202), .ref (ad 203), .ref (ad 204), .ref (ad 205), .ref (ad 206), .ref (ad 207), .ref (ad 208), .ref (ad 209), .int 0, .ref (ad 210), .ref (ad 211), .ref (ad 212), .ref (ad 213), .ref (ad 214), .int 0, .int 0, .null, .null])) := by rw [ect_666, kw_up_n (by decide)]; exact h_662
  have h_682 : ct_666 215 = some (eI tc 320 (fun _ => 0)) := by rw [ect_666]; exact kw_up_s
  have h_683 : ct_666 216 = none := by rw [ect_666, kw_up_n (by decide)]; exact h_664
  have hfr_684 : ∀ j, j ≠ 200 → j ≠ 201 → j ≠ 202 → j ≠ 203 → j ≠ 204 → j ≠ 205 → j ≠ 206 → j ≠ 207 → j ≠ 208 → j ≠ 209 → j ≠ 210 → j ≠ 211 → j ≠ 212 → j ≠ 213 → j ≠ 214 → j ≠ 215 → j ≠ 216 → ct_666 j = ct j := fun j a0 a1 a2 a3 a4 a5 a6 a7 a8 a9 a10 a11 a12 a13 a14 a15 a16 => by rw [ect_666]; exact (kw_up_n a15).trans (hfr_665 j a0 a1 a2 a3 a4 a5 a6 a7 a8 a9 a10 a11 a12 a13 a14 a15 a16)
  refine kg_putF (v := .ref (ad 215)) (ty := .array .int) (C := RX11) (T := TX11) (N := 27) (fs' := [.int 0, .int 0, .int 2, .int 100, .ref (ad 201), .long 0, .int (-9), .int 0, .int 0, .ref (ad 202), .ref (ad 203), .ref (ad 204), .ref (ad 205), .ref (ad 206), .ref (ad 207), .ref (ad 208), .ref (ad 209), .int 0, .ref (ad 210), .ref (ad 211), .ref (ad 212), .ref (ad 213), .ref (ad 214), .int 0, .int 0, .ref (ad 215), .null]) hx hb hts hinX11 tyX11 tyX11_ok nmX11 hown hK hw h_681 rfl 25 (by decide) (hts (.fieldLink RX11 63 "BetMakerModel" "told" "[I") (by decide +kernel)) (fun _ h9 => h9) rfl hin2 rfl (by decide +kernel) rfl rfl (Nat.le_of_ble_eq_true rfl) rfl dX11_init_157 (fun H locs hw => ?_)
  obtain ⟨ct_685, ect_685⟩ : ∃ z, z = kw_up ct_666 200 (.inr (11, [.int 0, .int 0, .int 2, .int 100, .ref (ad 201), .long 0, .int (-9), .int 0, .int 0, .ref (ad 202), .ref (ad 203), .ref (ad 204), .ref (ad 205), .ref (ad 206), .ref (ad 207), .ref (ad 208), .ref (ad 209), .int 0, .ref (ad 210), .ref (ad 211), .ref (ad 212), .ref (ad 213), .ref (ad 214), .int 0, .int 0, .ref (ad 215), .null])) := ⟨_, rfl⟩
  rw [← ect_685] at hw
  have h_686 : ct_685 201 = some (eJ tc 8 (fun _ => 0)) := by rw [ect_685, kw_up_n (by decide)]; exact h_667
  have h_687 : ct_685 202 = some (eI tc 6 (fun _ => 0)) := by rw [ect_685, kw_up_n (by decide)]; exact h_668
  have h_688 : ct_685 203 = some (eJ tc 6 (fun _ => 0)) := by rw [ect_685, kw_up_n (by decide)]; exact h_669
  have h_689 : ct_685 204 = some (eI tc 6 (fun _ => 0)) := by rw [ect_685, kw_up_n (by decide)]; exact h_670
  have h_690 : ct_685 205 = some (eJ tc 48 (fun _ => 0)) := by rw [ect_685, kw_up_n (by decide)]; exact h_671
  have h_691 : ct_685 206 = some (eI tc 48 (fun _ => 0)) := by rw [ect_685, kw_up_n (by decide)]; exact h_672
  have h_692 : ct_685 207 = some (eI tc 4 (va_up (va_up (va_up (va_up (fun _ => 0) 0 (-9)) 1 (-9)) 2 (-9)) 3 (-9))) := by rw [ect_685, kw_up_n (by decide)]; exact h_673
  have h_693 : ct_685 208 = some (eI tc 4 (fun _ => 0)) := by rw [ect_685, kw_up_n (by decide)]; exact h_674
  have h_694 : ct_685 209 = some (eI tc 96 (fun _ => 0)) := by rw [ect_685, kw_up_n (by decide)]; exact h_675
  have h_695 : ct_685 210 = some (eI tc 6 (fun _ => 0)) := by rw [ect_685, kw_up_n (by decide)]; exact h_676
  have h_696 : ct_685 211 = some (eI tc 6 (fun _ => 0)) := by rw [ect_685, kw_up_n (by decide)]; exact h_677
  have h_697 : ct_685 212 = some (eI tc 6 (fun _ => 0)) := by rw [ect_685, kw_up_n (by decide)]; exact h_678
  have h_698 : ct_685 213 = some (eI tc 6 (fun _ => 0)) := by rw [ect_685, kw_up_n (by decide)]; exact h_679
  have h_699 : ct_685 214 = some (eI tc 6 (fun _ => 0)) := by rw [ect_685, kw_up_n (by decide)]; exact h_680
  have h_700 : ct_685 215 = some (eI tc 320 (fun _ => 0)) := by rw [ect_685, kw_up_n (by decide)]; exact h_682
  have h_701 : ct_685 200 = some (.inr (11, [.int 0, .int 0, .int 2, .int 100, .ref (ad 201), .long 0, .int (-9), .int 0, .int 0, .ref (ad 202), .ref (ad 203), .ref (ad 204), .ref (ad 205), .ref (ad 206), .ref (ad 207), .ref (ad 208), .ref (ad 209), .int 0, .ref (ad 210), .ref (ad 211), .ref (ad 212), .ref (ad 213), .ref (ad 214), .int 0, .int 0, .ref (ad 215), .null])) := by rw [ect_685]; exact kw_up_s
  have h_702 : ct_685 216 = none := by rw [ect_685, kw_up_n (by decide)]; exact h_683
  have hfr_703 : ∀ j, j ≠ 200 → j ≠ 201 → j ≠ 202 → j ≠ 203 → j ≠ 204 → j ≠ 205 → j ≠ 206 → j ≠ 207 → j ≠ 208 → j ≠ 209 → j ≠ 210 → j ≠ 211 → j ≠ 212 → j ≠ 213 → j ≠ 214 → j ≠ 215 → j ≠ 216 → ct_685 j = ct j := fun j a0 a1 a2 a3 a4 a5 a6 a7 a8 a9 a10 a11 a12 a13 a14 a15 a16 => by rw [ect_685]; exact (kw_up_n a0).trans (hfr_684 j a0 a1 a2 a3 a4 a5 a6 a7 a8 a9 a10 a11 a12 a13 a14 a15 a16)
  refine lv_aload_n hx hb dX11_init_160 rfl (lv_at hl 0 rfl) ?_
  refine lv_bipush (v := 40) hx hb dX11_init_161 (by decide) ?_
  refine kg_newi hx hb (hts (.arrayClass .int) (by decide +kernel)) hK hw hA 216 h_702 hk216a 40 rfl (by omega) (Nat.le_of_ble_eq_true rfl) (Nat.le_of_ble_eq_true rfl) dX11_init_163 (fun H hw => ?_)
  obtain ⟨ct_704, ect_704⟩ : ∃ z, z = kw_up ct_685 216 (eI tc 40 (fun _ => 0)) := ⟨_, rfl⟩
  rw [← ect_704] at hw
  have h_705 : ct_704 201 = some (eJ tc 8 (fun _ => 0)) := by rw [ect_704, kw_up_n (by decide)]; exact h_686
  have h_706 : ct_704 202 = some (eI tc 6 (fun _ => 0)) := by rw [ect_704, kw_up_n (by decide)]; exact h_687
  have h_707 : ct_704 203 = some (eJ tc 6 (fun _ => 0)) := by rw [ect_704, kw_up_n (by decide)]; exact h_688
  have h_708 : ct_704 204 = some (eI tc 6 (fun _ => 0)) := by rw [ect_704, kw_up_n (by decide)]; exact h_689
  have h_709 : ct_704 205 = some (eJ tc 48 (fun _ => 0)) := by rw [ect_704, kw_up_n (by decide)]; exact h_690
  have h_710 : ct_704 206 = some (eI tc 48 (fun _ => 0)) := by rw [ect_704, kw_up_n (by decide)]; exact h_691
  have h_711 : ct_704 207 = some (eI tc 4 (va_up (va_up (va_up (va_up (fun _ => 0) 0 (-9)) 1 (-9)) 2 (-9)) 3 (-9))) := by rw [ect_704, kw_up_n (by decide)]; exact h_692
  have h_712 : ct_704 208 = some (eI tc 4 (fun _ => 0)) := by rw [ect_704, kw_up_n (by decide)]; exact h_693
  have h_713 : ct_704 209 = some (eI tc 96 (fun _ => 0)) := by rw [ect_704, kw_up_n (by decide)]; exact h_694
  have h_714 : ct_704 210 = some (eI tc 6 (fun _ => 0)) := by rw [ect_704, kw_up_n (by decide)]; exact h_695
  have h_715 : ct_704 211 = some (eI tc 6 (fun _ => 0)) := by rw [ect_704, kw_up_n (by decide)]; exact h_696
  have h_716 : ct_704 212 = some (eI tc 6 (fun _ => 0)) := by rw [ect_704, kw_up_n (by decide)]; exact h_697
  have h_717 : ct_704 213 = some (eI tc 6 (fun _ => 0)) := by rw [ect_704, kw_up_n (by decide)]; exact h_698
  have h_718 : ct_704 214 = some (eI tc 6 (fun _ => 0)) := by rw [ect_704, kw_up_n (by decide)]; exact h_699
  have h_719 : ct_704 215 = some (eI tc 320 (fun _ => 0)) := by rw [ect_704, kw_up_n (by decide)]; exact h_700
  have h_720 : ct_704 200 = some (.inr (11, [.int 0, .int 0, .int 2, .int 100, .ref (ad 201), .long 0, .int (-9), .int 0, .int 0, .ref (ad 202), .ref (ad 203), .ref (ad 204), .ref (ad 205), .ref (ad 206), .ref (ad 207), .ref (ad 208), .ref (ad 209), .int 0, .ref (ad 210), .ref (ad 211), .ref (ad 212), .ref (ad 213), .ref (ad 214), .int 0, .int 0, .ref (ad 215), .null])) := by rw [ect_704, kw_up_n (by decide)]; exact h_701
  have h_721 : ct_704 216 = some (eI tc 40 (fun _ => 0)) := by rw [ect_704]; exact kw_up_s
  have hfr_722 : ∀ j, j ≠ 200 → j ≠ 201 → j ≠ 202 → j ≠ 203 → j ≠ 204 → j ≠ 205 → j ≠ 206 → j ≠ 207 → j ≠ 208 → j ≠ 209 → j ≠ 210 → j ≠ 211 → j ≠ 212 → j ≠ 213 → j ≠ 214 → j ≠ 215 → j ≠ 216 → ct_704 j = ct j := fun j a0 a1 a2 a3 a4 a5 a6 a7 a8 a9 a10 a11 a12 a13 a14 a15 a16 => by rw [ect_704]; exact (kw_up_n a16).trans (hfr_703 j a0 a1 a2 a3 a4 a5 a6 a7 a8 a9 a10 a11 a12 a13 a14 a15 a16)
  refine kg_putF (v := .ref (ad 216)) (ty := .array .int) (C := RX11) (T := TX11) (N := 27) (fs' := [.int 0, .int 0, .int 2, .int 100, .ref (ad 201), .long 0, .int (-9), .int 0, .int 0, .ref (ad 202), .ref (ad 203), .ref (ad 204), .ref (ad 205), .ref (ad 206), .ref (ad 207), .ref (ad 208), .ref (ad 209), .int 0, .ref (ad 210), .ref (ad 211), .ref (ad 212), .ref (ad 213), .ref (ad 214), .int 0, .int 0, .ref (ad 215), .ref (ad 216)]) hx hb hts hinX11 tyX11 tyX11_ok nmX11 hown hK hw h_720 rfl 26 (by decide) (hts (.fieldLink RX11 66 "BetMakerModel" "cameThen" "[I") (by decide +kernel)) (fun _ h9 => h9) rfl hin2 rfl (by decide +kernel) rfl rfl (Nat.le_of_ble_eq_true rfl) rfl dX11_init_165 (fun H locs hw => ?_)
  obtain ⟨ct_723, ect_723⟩ : ∃ z, z = kw_up ct_704 200 (.inr (11, [.int 0, .int 0, .int 2, .int 100, .ref (ad 201), .long 0, .int (-9), .int 0, .int 0, .ref (ad 202), .ref (ad 203), .ref (ad 204), .ref (ad 205), .ref (ad 206), .ref (ad 207), .ref (ad 208), .ref (ad 209), .int 0, .ref (ad 210), .ref (ad 211), .ref (ad 212), .ref (ad 213), .ref (ad 214), .int 0, .int 0, .ref (ad 215), .ref (ad 216)])) := ⟨_, rfl⟩
  rw [← ect_723] at hw
  have h_724 : ct_723 201 = some (eJ tc 8 (fun _ => 0)) := by rw [ect_723, kw_up_n (by decide)]; exact h_705
  have h_725 : ct_723 202 = some (eI tc 6 (fun _ => 0)) := by rw [ect_723, kw_up_n (by decide)]; exact h_706
  have h_726 : ct_723 203 = some (eJ tc 6 (fun _ => 0)) := by rw [ect_723, kw_up_n (by decide)]; exact h_707
  have h_727 : ct_723 204 = some (eI tc 6 (fun _ => 0)) := by rw [ect_723, kw_up_n (by decide)]; exact h_708
  have h_728 : ct_723 205 = some (eJ tc 48 (fun _ => 0)) := by rw [ect_723, kw_up_n (by decide)]; exact h_709
  have h_729 : ct_723 206 = some (eI tc 48 (fun _ => 0)) := by rw [ect_723, kw_up_n (by decide)]; exact h_710
  have h_730 : ct_723 207 = some (eI tc 4 (va_up (va_up (va_up (va_up (fun _ => 0) 0 (-9)) 1 (-9)) 2 (-9)) 3 (-9))) := by rw [ect_723, kw_up_n (by decide)]; exact h_711
  have h_731 : ct_723 208 = some (eI tc 4 (fun _ => 0)) := by rw [ect_723, kw_up_n (by decide)]; exact h_712
  have h_732 : ct_723 209 = some (eI tc 96 (fun _ => 0)) := by rw [ect_723, kw_up_n (by decide)]; exact h_713
  have h_733 : ct_723 210 = some (eI tc 6 (fun _ => 0)) := by rw [ect_723, kw_up_n (by decide)]; exact h_714
  have h_734 : ct_723 211 = some (eI tc 6 (fun _ => 0)) := by rw [ect_723, kw_up_n (by decide)]; exact h_715
  have h_735 : ct_723 212 = some (eI tc 6 (fun _ => 0)) := by rw [ect_723, kw_up_n (by decide)]; exact h_716
  have h_736 : ct_723 213 = some (eI tc 6 (fun _ => 0)) := by rw [ect_723, kw_up_n (by decide)]; exact h_717
  have h_737 : ct_723 214 = some (eI tc 6 (fun _ => 0)) := by rw [ect_723, kw_up_n (by decide)]; exact h_718
  have h_738 : ct_723 215 = some (eI tc 320 (fun _ => 0)) := by rw [ect_723, kw_up_n (by decide)]; exact h_719
  have h_739 : ct_723 216 = some (eI tc 40 (fun _ => 0)) := by rw [ect_723, kw_up_n (by decide)]; exact h_721
  have h_740 : ct_723 200 = some (.inr (11, [.int 0, .int 0, .int 2, .int 100, .ref (ad 201), .long 0, .int (-9), .int 0, .int 0, .ref (ad 202), .ref (ad 203), .ref (ad 204), .ref (ad 205), .ref (ad 206), .ref (ad 207), .ref (ad 208), .ref (ad 209), .int 0, .ref (ad 210), .ref (ad 211), .ref (ad 212), .ref (ad 213), .ref (ad 214), .int 0, .int 0, .ref (ad 215), .ref (ad 216)])) := by rw [ect_723]; exact kw_up_s
  have hfr_741 : ∀ j, j ≠ 200 → j ≠ 201 → j ≠ 202 → j ≠ 203 → j ≠ 204 → j ≠ 205 → j ≠ 206 → j ≠ 207 → j ≠ 208 → j ≠ 209 → j ≠ 210 → j ≠ 211 → j ≠ 212 → j ≠ 213 → j ≠ 214 → j ≠ 215 → j ≠ 216 → ct_723 j = ct j := fun j a0 a1 a2 a3 a4 a5 a6 a7 a8 a9 a10 a11 a12 a13 a14 a15 a16 => by rw [ect_723]; exact (kw_up_n a0).trans (hfr_722 j a0 a1 a2 a3 a4 a5 a6 a7 a8 a9 a10 a11 a12 a13 a14 a15 a16)
  have hq_742 : ct_723 200 = some (.inr (11, [.int 0, .int 0, .int (nI 2), .int 100, .ref (ad 201), .long 0, .int (-9), .int 0, .int (nI 0), .ref (ad 202), .ref (ad 203), .ref (ad 204), .ref (ad 205), .ref (ad 206), .ref (ad 207), .ref (ad 208), .ref (ad 209), .int (nI 0), .ref (ad 210), .ref (ad 211), .ref (ad 212), .ref (ad 213), .ref (ad 214), .int 0, .int (nI 0), .ref (ad 215), .ref (ad 216)])) := h_740.trans (congrArg some (show (.inr (11, [.int 0, .int 0, .int 2, .int 100, .ref (ad 201), .long 0, .int (-9), .int 0, .int 0, .ref (ad 202), .ref (ad 203), .ref (ad 204), .ref (ad 205), .ref (ad 206), .ref (ad 207), .ref (ad 208), .ref (ad 209), .int 0, .ref (ad 210), .ref (ad 211), .ref (ad 212), .ref (ad 213), .ref (ad 214), .int 0, .int 0, .ref (ad 215), .ref (ad 216)]) : va_E) = .inr (11, [.int 0, .int 0, .int (nI 2), .int 100, .ref (ad 201), .long 0, .int (-9), .int 0, .int (nI 0), .ref (ad 202), .ref (ad 203), .ref (ad 204), .ref (ad 205), .ref (ad 206), .ref (ad 207), .ref (ad 208), .ref (ad 209), .int (nI 0), .ref (ad 210), .ref (ad 211), .ref (ad 212), .ref (ad 213), .ref (ad 214), .int 0, .int (nI 0), .ref (ad 215), .ref (ad 216)]) from by rfl))
  have hq_743 := h_724
  have hq_744 := h_725
  have hq_745 := h_726
  have hq_746 := h_727
  have hq_747 := h_728
  have hq_748 := h_729
  have hq_749 := h_730
  have hq_750 := h_731
  have hq_751 := h_732
  have hq_752 := h_733
  have hq_753 := h_734
  have hq_754 := h_735
  have hq_755 := h_736
  have hq_756 := h_737
  have hq_757 := h_738
  have hq_758 := h_739
  have hend := kw_eq17 hq_742 hq_743 hq_744 hq_745 hq_746 hq_747 hq_748 hq_749 hq_750 hq_751 hq_752 hq_753 hq_754 hq_755 hq_756 hq_757 hq_758 hfr_741
  rw [hend] at hw
  refine W.widen (k := 16) (n := 616) (Nat.le_of_ble_eq_true rfl) (Nat.le_of_ble_eq_true rfl) ?_
  exact W.vret hx hb hr (fun t ht _ => ⟨rfl, by rw [ht]; exact hw.1, hw.2.2.1, hw.2.1.F ht, by rw [ht]; exact hw.2.2.2⟩) hw.2.1.2.2 dX11_init_168
