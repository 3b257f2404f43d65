theorem ki_X0 : ∀ w ∈ u_ws RX0 TX0 8, w ∈ lw_tbl := by decide +kernel
theorem ki_X1 : ∀ w ∈ u_ws RX1 TX1 4, w ∈ lw_tbl := by decide +kernel
theorem ki_X2 : ∀ w ∈ u_ws RX2 TX2 2, w ∈ lw_tbl := by decide +kernel
theorem ki_X3 : ∀ w ∈ u_ws RX3 TX3 6, w ∈ lw_tbl := by decide +kernel
theorem ki_X4 : ∀ w ∈ u_ws RX4 TX4 3, w ∈ lw_tbl := by decide +kernel
theorem ki_X5 : ∀ w ∈ u_ws RX5 TX5 5, w ∈ lw_tbl := by decide +kernel
theorem ki_X6 : ∀ w ∈ u_ws RX6 TX6 4, w ∈ lw_tbl := by decide +kernel
theorem ki_X7 : ∀ w ∈ u_ws RX7 TX7 5, w ∈ lw_tbl := by decide +kernel
theorem ki_X8 : ∀ w ∈ u_ws RX8 TX8 1, w ∈ lw_tbl := by decide +kernel
theorem ki_X9 : ∀ w ∈ u_ws RX9 TX9 5, w ∈ lw_tbl := by decide +kernel
theorem ki_X10 : ∀ w ∈ u_ws RX10 TX10 9, w ∈ lw_tbl := by decide +kernel
theorem ki_X11 : ∀ w ∈ u_ws RX11 TX11 27, w ∈ lw_tbl := by decide +kernel
def kA0 (z j : Nat) : Nat := z + (if j ≤ 13 then j else if j < 24 then 14 + 2 * (j - 20) else if j < 28 then 15 + 2 * (j - 24) else j - 178)
theorem kt_p {args : Array Value} {s : State} {t : FieldType} (h : (Cond.arrayClass t).before args s = true) : ∃ c k comp, s.vm.findClass ("[" ++ t.toString) = some c ∧ s.vm.classes[c]? = some k ∧ k.kind = .array comp t := Cond.arrayClass_spec h
theorem kt_i {args : Array Value} {s : State} (h : (Cond.arrayClass .int).before args s = true) : ∃ c, ArrOfT s c .int ∧ va_RA s c .int := by
  obtain ⟨c, k, comp, h1, h2, h3⟩ := kt_p h
  exact ⟨c, fun n z => ⟨(fun k h => by cases h), k, h2, comp, h3⟩, h1⟩
theorem kt_l {args : Array Value} {s : State} (h : (Cond.arrayClass .long).before args s = true) : ∃ c, ArrOfT s c .long ∧ va_RA s c .long := by
  obtain ⟨c, k, comp, h1, h2, h3⟩ := kt_p h
  exact ⟨c, fun n z => ⟨(fun k h => by cases h), k, h2, comp, h3⟩, h1⟩
theorem kt_q {args : Array Value} {s : State} {C : String} (h : (Cond.arrayOver (.object C)).before args s = true) : ∃ c, ArrOfT s c (.object C) ∧ va_RA s c (.object C) := by
  obtain ⟨comp, c, k, h1, h2, h3, h4, h5⟩ := Cond.arrayOver_spec h
  exact ⟨c, fun n z => ⟨(fun k h => by cases h), k, h3, comp, h4⟩, k, comp, h3, h4, h1, h5⟩
set_option maxHeartbeats 4000000 in
theorem kK_start {args : Array Value} {s : State} (htb : ∀ w ∈ lw_tbl, w.before args s = true) (hgv : (Jvm.Cond.and given_1 narrow_1).before args s = true) : ∃ (D : va_G) (tc : Nat → ClassId), kw_K D tc s := by
  obtain ⟨c0, i0, k0⟩ := u_known (C := RX0) (T := TX0) (N := 8) (n := 8) htb ki_X0 (htb (.instantiable RX0 8) (by decide +kernel))
  obtain ⟨c1, i1, k1⟩ := u_known (C := RX1) (T := TX1) (N := 4) (n := 4) htb ki_X1 (htb (.instantiable RX1 4) (by decide +kernel))
  obtain ⟨c2, i2, k2⟩ := u_known (C := RX2) (T := TX2) (N := 2) (n := 2) htb ki_X2 (htb (.instantiable RX2 2) (by decide +kernel))
  obtain ⟨c3, i3, k3⟩ := u_known (C := RX3) (T := TX3) (N := 6) (n := 6) htb ki_X3 (htb (.instantiable RX3 6) (by decide +kernel))
  obtain ⟨c4, i4, k4⟩ := u_known (C := RX4) (T := TX4) (N := 3) (n := 3) htb ki_X4 (htb (.instantiable RX4 3) (by decide +kernel))
  obtain ⟨c5, i5, k5⟩ := u_known (C := RX5) (T := TX5) (N := 5) (n := 5) htb ki_X5 (htb (.instantiable RX5 5) (by decide +kernel))
  obtain ⟨c6, i6, k6⟩ := u_known (C := RX6) (T := TX6) (N := 4) (n := 4) htb ki_X6 (htb (.instantiable RX6 4) (by decide +kernel))
  obtain ⟨c7, i7, k7⟩ := u_known (C := RX7) (T := TX7) (N := 5) (n := 5) htb ki_X7 (htb (.instantiable RX7 5) (by decide +kernel))
  obtain ⟨c8, i8, k8⟩ := u_known (C := RX8) (T := TX8) (N := 1) (n := 1) htb ki_X8 (htb (.instantiable RX8 1) (by decide +kernel))
  obtain ⟨c9, i9, k9⟩ := u_known (C := RX9) (T := TX9) (N := 5) (n := 5) htb ki_X9 (htb (.instantiable RX9 5) (by decide +kernel))
  obtain ⟨c10, i10, k10⟩ := u_known (C := RX10) (T := TX10) (N := 9) (n := 9) htb ki_X10 (htb (.instantiable RX10 9) (by decide +kernel))
  obtain ⟨c11, i11, k11⟩ := u_known (C := RX11) (T := TX11) (N := 27) (n := 27) htb ki_X11 (htb (.instantiable RX11 27) (by decide +kernel))
  obtain ⟨t0, a0⟩ := kt_i (htb (.arrayClass .int) (by decide +kernel))
  obtain ⟨t1, a1⟩ := kt_l (htb (.arrayClass .long) (by decide +kernel))
  have v2 := htb (.arrayOver (.object RX1)) (by decide +kernel)
  obtain ⟨t2, a2⟩ := kt_q v2
  have v3 := htb (.arrayOver (.object RX4)) (by decide +kernel)
  obtain ⟨t3, a3⟩ := kt_q v3
  have v4 := htb (.arrayOver (.object RX5)) (by decide +kernel)
  obtain ⟨t4, a4⟩ := kt_q v4
  have v5 := htb (.arrayOver (.object RX6)) (by decide +kernel)
  obtain ⟨t5, a5⟩ := kt_q v5
  have hg := flat_of_before _ hgv
  refine ⟨(fun k => [c0, c1, c2, c3, c4, c5, c6, c7, c8, c9, c10, c11].getD k c0, fun k => [i0, i1, i2, i3, i4, i5, i6, i7, i8, i9, i10, i11].getD k i0), fun k => [t0, t1, t2, t3, t4, t5].getD k t0, ⟨?_, ?_⟩, ?_, ?_, ?_, ⟨?_, ?_, ?_, ?_⟩⟩
  · intro k q hq
    match k, hq with
    | 0, hq => cases hq; exact k0
    | 1, hq => cases hq; exact k1
    | 2, hq => cases hq; exact k2
    | 3, hq => cases hq; exact k3
    | 4, hq => cases hq; exact k4
    | 5, hq => cases hq; exact k5
    | 6, hq => cases hq; exact k6
    | 7, hq => cases hq; exact k7
    | 8, hq => cases hq; exact k8
    | 9, hq => cases hq; exact k9
    | 10, hq => cases hq; exact k10
    | 11, hq => cases hq; exact k11
    | k + 12, hq => simp [vwCl] at hq
  · intro k q hq
    match k, hq with
    | 0, hq => cases hq; exact a0
    | 1, hq => cases hq; exact a1
    | 2, hq => cases hq; exact a2
    | 3, hq => cases hq; exact a3
    | 4, hq => cases hq; exact a4
    | 5, hq => cases hq; exact a5
    | k + 6, hq => simp [kw_t] at hq
  · exact va_Nw.of rfl (htb (.methodLinkNest RX0 91 yX10_isIn RX10) (by decide +kernel))
  · exact va_Nw.of rfl (htb (.methodLinkNest RX3 50 yX10_isIn RX10) (by decide +kernel))
  · exact va_Nw.of rfl (htb (.methodLinkNest RX5 36 yX10_isIn RX10) (by decide +kernel))
  · exact ⟨va_AO.of v2, va_AO.of v3, va_AO.of v4, va_AO.of v5⟩
  · exact ⟨va_Nw.of rfl (htb (.castable RX9 RX5) (by decide +kernel)), va_Nw.of rfl (htb (.castable RX7 RX5) (by decide +kernel)), va_Nw.of rfl (htb (.castable RX7 RX9) (by decide +kernel))⟩
  · exact ⟨va_Nc.of (hg (.not (.castable RX5 RX9)) (by decide +kernel)), va_Nc.of (hg (.not (.castable RX5 RX7)) (by decide +kernel)), va_Nc.of (hg (.not (.castable RX9 RX7)) (by decide +kernel))⟩
  · exact va_Nw.of rfl (htb (.castable "[I" "java/lang/Cloneable") (by decide +kernel))
