def kGi (s x d : Nat) : Prop := (s = 0 ∧ x * d ≤ 2 ^ 60) ∨ (1 ≤ s ∧ d < x ∧ x * d * 2 ^ (s - 1) ≤ 2 ^ 60)
theorem kGi_s {s x d : Nat} (h : kGi s x d) (hd : 0 < d) : kGi (s + 1) d (x % d) := by
  refine Or.inr ⟨by omega, Nat.mod_lt _ hd, ?_⟩
  rcases h with ⟨h1, h2⟩ | ⟨h1, h2, h3⟩
  · subst h1
    show d * (x % d) * 2 ^ 0 ≤ 2 ^ 60
    rw [Nat.pow_zero, Nat.mul_one]
    exact Nat.le_trans (Nat.mul_le_mul_left d (Nat.mod_le x d)) (by rw [Nat.mul_comm]; exact h2)
  · have hx : 2 * (x % d) ≤ x := by
      have e := Nat.div_add_mod x d
      have q : 1 ≤ x / d := (Nat.one_le_div_iff hd).mpr (Nat.le_of_lt h2)
      have r := Nat.mul_le_mul_left d q
      have m := Nat.mod_lt x hd
      omega
    obtain ⟨j, rfl⟩ : ∃ j, s = j + 1 := ⟨s - 1, by omega⟩
    show d * (x % d) * 2 ^ (j + 1) ≤ 2 ^ 60
    rw [Nat.add_sub_cancel] at h3
    refine Nat.le_trans ?_ h3
    rw [Nat.pow_succ, Nat.mul_comm (2 ^ j) 2, ← Nat.mul_assoc]
    refine Nat.mul_le_mul_right _ ?_
    rw [Nat.mul_assoc, Nat.mul_comm (x % d) 2, Nat.mul_comm x d]
    exact Nat.mul_le_mul_left d hx
theorem kGi_e {x d : Nat} (h : kGi 100 x d) : d = 0 := by
  rcases h with ⟨h1, -⟩ | ⟨-, h2, h3⟩
  · exact absurd h1 (by decide)
  · rcases Nat.eq_zero_or_pos d with q | q
    · exact q
    · exfalso
      have a : 1 ≤ x * d := Nat.mul_pos (by omega) q
      have b := Nat.mul_le_mul_right (2 ^ (100 - 1)) a
      have e : (1 : Nat) * 2 ^ (100 - 1) ≤ 2 ^ 60 := Nat.le_trans b h3
      exact absurd e (by decide)
theorem kGi_r1 {s x d u e : Nat} (h : kGi s x d) (hs : s = 100) (hg : Nat.gcd x d = Nat.gcd u e) : x = Nat.gcd u e := by
  subst hs
  have ez := kGi_e h
  subst ez
  rw [← hg, Nat.gcd_zero_right]
def kHc (t : Int32) (h n : Nat) : Nat → Int64
  | 0 => 0
  | j + 1 => if j < h then kHc t h n j else kHc t h n j + kWs n j * kPw t.toInt64 j * kPw (10 - t).toInt64 (n - j)
set_option maxHeartbeats 4000000 in
set_option maxRecDepth 100000 in
theorem c_X10_greatestDivisor (l : Launch) (D : va_G) (tc : Nat → ClassId) (sz : Nat) (ad : Nat → Nat) (ct : Nat → Option va_E)        {aa bb : Int64} {u d : Nat} (hd9 : 0 < d) (haa : aa = lN u) (hbb : bb = lN d) (hu3 : u < 2 ^ 30) (hd3 : d < 2 ^ 30) : Met l yX10_greatestDivisor wsX10_greatestDivisor ({ frames := 0, cells := 0, slots := 0, locals := 0 }) (va_Pc [.long aa, .long bb] (kw_B D tc sz ad ct)) (k2_QcV (.long (lN (Nat.gcd u d)))) 0 0 (fun _ => False) := by
  refine Met.ofW (cc := cX10_greatestDivisor) (maxL := 7) (ret := (some .long)) (by decide) rfl ?_
  intro pg en s m args below meth cod s₁ B hml hv
  obtain ⟨rfl, hsz, hP0, hK⟩ := hv
  have hx := B.exec
  have hb := B.bytes
  have hr := B.returns
  have hts := atoms_spec (ws := wsX10_greatestDivisor) B.pre
  have hown : s.vm.findClass RX10 = some m.cls := findClass_of_methodNamed B.named
  have hlocks := B.notSynchronized
  subst hsz
  have hw := kw_H.start hP0
  generalize kw_A ad ct s.heap.size = A at hw
  have hl := lv_entry ([.long aa, .long bb]) (n := 7) (Nat.le_of_ble_eq_true rfl)
  rw [lg_entry_eq]
  generalize (lg_sl ([.long aa, .long bb]) ++ List.replicate (7 - (lg_sl ([.long aa, .long bb])).length) Slot.unset).toArray = ls at hl ⊢
  have hl : lv_has ls 7 [(0, .long aa), (2, .long bb)] := hl
  have S0 : CallFix pg m cod cX10_greatestDivisor 7 s _ wsX10_greatestDivisor RX10 := ⟨hx, hb, hml, hown, hts⟩
  refine lv_iconst (v := 0) hx hb dX10_greatestDivisor_0 (by decide) ?_
  refine lv_istore (lv' := [(4, .int 0), (0, .long aa), (2, .long bb)]) hx hb dX10_greatestDivisor_1 hl (by decide) rfl (fun ls hl => ?_)
  suffices lp3 : ∀ (nfu : Nat) (s1 x1 d1 : Nat) (ls : Array Slot), 100 - s1 < nfu → s1 ≤ 100 → Nat.gcd x1 d1 = Nat.gcd u d → x1 < 2 ^ 30 → d1 < 2 ^ 30 → kGi s1 x1 d1 → lv_has ls 7 [(0, .long (lN x1)), (2, .long (lN d1)), (4, .int (nI s1))] → W pg l en (headSpec wsX10_greatestDivisor ({ frames := 0, cells := 0, slots := 0, locals := 0 })).room s m (([.long aa, .long bb] : List Value).toArray) below meth cod s.heap [] 0 0 (MQ below (k2_QcV (.long (lN (Nat.gcd u d)))) (([.long aa, .long bb] : List Value).toArray) s 0 0 (fun _ => False)) (F0 m 3 ls []) by
    exact lp3 (100 - 0 + 1) 0 u d ls (by omega) (by omega) (by rfl) (by omega) (by omega) (by exact Or.inl ⟨rfl, Nat.le_trans (Nat.mul_le_mul (Nat.le_of_lt hu3) (Nat.le_of_lt hd3)) (by decide)⟩) (by have hl9 := lv_sub hl (l' := [(0, .long aa), (2, .long bb), (4, .int 0)]) [1, 2, 0] rfl; rw [← haa, ← hbb]; exact hl9)
  intro n3
  induction n3 with
  | zero => intro s1 x1 d1 ls hfu; exact absurd hfu (Nat.not_lt_zero _)
  | succ n3 ih3 =>
    intro s1 x1 d1 ls hfu3 hs1 hgc hxb hdb hgi hl
    refine lv_iload hx hb dX10_greatestDivisor_3 (lv_at hl 2 rfl) ?_
    refine lv_bipush (v := 100) hx hb dX10_greatestDivisor_5 (by decide) ?_
    refine kn_ge s1 100 rfl rfl (by omega) (by omega) (tgt := 32) hx hb dX10_greatestDivisor_7 (by decide) (fun c_1 => ?_) (fun c_1 => ?_)
    · refine lv_lload_n hx hb dX10_greatestDivisor_32 rfl (lv_at hl 0 rfl) ?_
      refine W.eq (congrArg (fun z => F0 m 33 ls [.long z]) (show (lN x1) = (lN (Nat.gcd u d)) from by exact congrArg lN (kGi_r1 hgi (by omega) hgc) /- c_1 -/)) ?_
      exact W.lret hx hb hr (fun t ht _ => ⟨rfl, ht⟩) (fun _ h => absurd h List.not_mem_nil) dX10_greatestDivisor_33
    · refine lv_lload_n hx hb dX10_greatestDivisor_10 rfl (lv_at hl 1 rfl) ?_
      refine lv_lconst (v := 0) hx hb dX10_greatestDivisor_11 (by decide) ?_
      refine W.lcmp hx hb dX10_greatestDivisor_12 ?_
      refine kl_eq (tgt := 32) hx hb dX10_greatestDivisor_13 (by decide) (fun c_2 => ?_) (fun c_2 => ?_)
      · refine lv_lload_n hx hb dX10_greatestDivisor_32 rfl (lv_at hl 0 rfl) ?_
        refine W.eq (congrArg (fun z => F0 m 33 ls [.long z]) (show (lN x1) = (lN (Nat.gcd u d)) from by exact congrArg lN (kpd hgc c_2 (by omega) (by omega) hd9).1)) ?_
        exact W.lret hx hb hr (fun t ht _ => ⟨rfl, ht⟩) (fun _ h => absurd h List.not_mem_nil) dX10_greatestDivisor_33
      · have hdp := kpd_p c_2
        have hml2 := Nat.mod_lt x1 hdp
        refine lv_lload_n hx hb dX10_greatestDivisor_16 rfl (lv_at hl 0 rfl) ?_
        refine lv_lload_n hx hb dX10_greatestDivisor_17 rfl (lv_at hl 1 rfl) ?_
        refine lv_lrem hx hb dX10_greatestDivisor_18 c_2 ?_
        refine lv_lstore (lv' := [(5, .long ((lN x1) - (lN x1) / (lN d1) * (lN d1))), (0, .long (lN x1)), (2, .long (lN d1)), (4, .int (nI s1))]) hx hb dX10_greatestDivisor_19 hl (by decide) rfl (fun ls hl => ?_)
        refine lv_lload_n hx hb dX10_greatestDivisor_21 rfl (lv_at hl 2 rfl) ?_
        refine lv_lstore_n (lv' := [(0, .long (lN d1)), (5, .long ((lN x1) - (lN x1) / (lN d1) * (lN d1))), (2, .long (lN d1)), (4, .int (nI s1))]) hx hb dX10_greatestDivisor_22 rfl hl (by decide) rfl (fun ls hl => ?_)
        refine lv_lload hx hb dX10_greatestDivisor_23 (lv_at hl 1 rfl) ?_
        refine lv_lstore_n (lv' := [(2, .long ((lN x1) - (lN x1) / (lN d1) * (lN d1))), (0, .long (lN d1)), (5, .long ((lN x1) - (lN x1) / (lN d1) * (lN d1))), (4, .int (nI s1))]) hx hb dX10_greatestDivisor_25 rfl hl (by decide) rfl (fun ls hl => ?_)
        refine lv_iinc (v := (nI (s1 + 1))) (lv' := [(4, .int (nI (s1 + 1))), (2, .long ((lN x1) - (lN x1) / (lN d1) * (lN d1))), (0, .long (lN d1)), (5, .long ((lN x1) - (lN x1) / (lN d1) * (lN d1)))]) hx hb dX10_greatestDivisor_26 hl (k := 3) rfl (nI_1 s1) (by decide) rfl (fun ls hl => ?_)
        refine lv_goto (tgt := 3) hx hb dX10_greatestDivisor_29 (by decide) ?_
        exact ih3 (s1 + 1) d1 (x1 % d1) ls (by omega) (by omega) (by exact kpd_s hgc) (by omega) (by exact Nat.lt_trans (Nat.mod_lt _ (kpd_p c_2)) hdb) (by exact kGi_s hgi (kpd_p c_2)) (by have hl9 := lv_sub hl (l' := [(0, .long (lN d1)), (2, .long ((lN x1) - (lN x1) / (lN d1) * (lN d1))), (4, .int (nI (s1 + 1)))]) [2, 1, 0] rfl; rw [pk_lRem (by omega) (kpd_p c_2) (by omega)] at hl9; exact hl9)
set_option maxHeartbeats 4000000 in
set_option maxRecDepth 100000 in
theorem c_X10_leastTerms (l : Launch) (D : va_G) (tc : Nat → ClassId) (sz : Nat) (ad : Nat → Nat) (ct : Nat → Option va_E)        {up dn : Int64} {which : Int32} {u d : Nat} (hdd : dn = lN d) (hd0 : 0 < d) (hd3 : d < 2 ^ 30) (huu : (if 0 < up then up else -up) = lN u) (hu3 : u < 2 ^ 30) : Met l yX10_leastTerms wsX10_leastTerms ({ frames := 1, cells := 0, slots := 0, locals := 30 }) (va_Pc [.long up, .long dn, .int which] (kw_B D tc sz ad ct)) (k2_QcV (.long (if which = 0 then up / lN (Nat.gcd u d) else dn / lN (Nat.gcd u d)))) 0 0 (fun _ => False) := by
  refine Met.ofW (cc := cX10_leastTerms) (maxL := 7) (ret := (some .long)) (by decide) rfl ?_
  intro pg en s m args below meth cod s₁ B hml hv
  obtain ⟨rfl, hsz, hP0, hK⟩ := hv
  have hx := B.exec
  have hb := B.bytes
  have hr := B.returns
  have hts := atoms_spec (ws := wsX10_leastTerms) B.pre
  have hown : s.vm.findClass RX10 = some m.cls := findClass_of_methodNamed B.named
  have hlocks := B.notSynchronized
  subst hsz
  have hw := kw_H.start hP0
  generalize kw_A ad ct s.heap.size = A at hw
  have hl := lv_entry ([.long up, .long dn, .int which]) (n := 7) (Nat.le_of_ble_eq_true rfl)
  rw [lg_entry_eq]
  generalize (lg_sl ([.long up, .long dn, .int which]) ++ List.replicate (7 - (lg_sl ([.long up, .long dn, .int which])).length) Slot.unset).toArray = ls at hl ⊢
  have hl : lv_has ls 7 [(0, .long up), (2, .long dn), (4, .int which)] := hl
  have S0 : CallFix pg m cod cX10_leastTerms 7 s _ wsX10_leastTerms RX10 := ⟨hx, hb, hml, hown, hts⟩
  have hg9 := Nat.gcd_pos_of_pos_right u hd0
  have hg8 := Nat.le_of_dvd hd0 (Nat.gcd_dvd_right u d)
  have hgz : ¬ lN (Nat.gcd u d) = 0 := fun q => absurd ((pk_lEQ (a := Nat.gcd u d) (b := 0) (by omega) (by omega)).mp q) (by omega)
  refine lv_lload_n hx hb dX10_leastTerms_0 rfl (lv_at hl 0 rfl) ?_
  refine va_mabs_long hx hb (by rw [hml]; exact hl.1.symm) hown (hts (.methodLink RX10 334 Lib.MathLoose.abs_long.x) (by decide +kernel)) (hts (.static Lib.MathLoose.abs_long.x) (by decide +kernel)) (hts (.initialized "java/lang/Math") (by decide +kernel)) (hts (.code Lib.MathLoose.abs_long.x Lib.MathLoose.abs_long.code 2 (some .long)) (by decide +kernel)) (Nat.le_of_ble_eq_true rfl) (Nat.le_of_ble_eq_true rfl) (Nat.le_of_ble_eq_true rfl) (Nat.le_of_ble_eq_true rfl) dX10_leastTerms_1 ?_
  refine lv_lload_n hx hb dX10_leastTerms_4 rfl (lv_at hl 1 rfl) ?_
  refine kc_s (As := [.long (if 0 < up then up else -up), .long dn]) (rest := []) S0 (c_X10_greatestDivisor l D tc s.heap.size ad ct hd0 huu hdd hu3 hd3) (va_cwS 2 hts gX10_leastTerms_X10_greatestDivisor rfl rfl rfl (by decide +kernel) ⟨Nat.le_of_ble_eq_true rfl, Nat.le_of_ble_eq_true rfl⟩) hK hw rfl hl.1 rfl (Nat.le_of_ble_eq_true rfl) dX10_leastTerms_5 ⟨Nat.le_of_ble_eq_true rfl, (Nat.le_of_ble_eq_true rfl)⟩ ?_
  refine lv_lstore (lv' := [(5, .long (lN (Nat.gcd u d))), (0, .long up), (2, .long dn), (4, .int which)]) hx hb dX10_leastTerms_8 hl (by decide) rfl (fun ls hl => ?_)
  refine lv_lload hx hb dX10_leastTerms_10 (lv_at hl 0 rfl) ?_
  refine lv_lconst (v := 0) hx hb dX10_leastTerms_12 (by decide) ?_
  refine W.lcmp hx hb dX10_leastTerms_13 ?_
  refine kl_ne (tgt := 21) hx hb dX10_leastTerms_14 (by decide) (fun c_1 => ?_) (fun c_1 => ?_)
  · refine lv_iload hx hb dX10_leastTerms_21 (lv_at hl 3 rfl) ?_
    refine lv_if_ne (tgt := 33) hx hb dX10_leastTerms_23 (by decide) (fun c_2 => ?_) (fun c_2 => ?_)
    · refine lv_lload_n hx hb dX10_leastTerms_33 rfl (lv_at hl 2 rfl) ?_
      refine lv_lload hx hb dX10_leastTerms_34 (lv_at hl 0 rfl) ?_
      refine lv_ldiv hx hb dX10_leastTerms_36 hgz ?_
      refine W.eq (congrArg (fun z => F0 m 37 ls [.long z]) (show (dn / (lN (Nat.gcd u d))) = (if which = 0 then up / lN (Nat.gcd u d) else dn / lN (Nat.gcd u d)) from by rw [if_neg c_2])) ?_
      exact W.lret hx hb hr (fun t ht _ => ⟨rfl, ht⟩) (fun _ h => absurd h List.not_mem_nil) dX10_leastTerms_37
    · refine lv_lload_n hx hb dX10_leastTerms_26 rfl (lv_at hl 1 rfl) ?_
      refine lv_lload hx hb dX10_leastTerms_27 (lv_at hl 0 rfl) ?_
      refine lv_ldiv hx hb dX10_leastTerms_29 hgz ?_
      refine lv_goto (tgt := 37) hx hb dX10_leastTerms_30 (by decide) ?_
      refine W.eq (congrArg (fun z => F0 m 37 ls [.long z]) (show (up / (lN (Nat.gcd u d))) = (if which = 0 then up / lN (Nat.gcd u d) else dn / lN (Nat.gcd u d)) from by rw [if_pos c_2])) ?_
      exact W.lret hx hb hr (fun t ht _ => ⟨rfl, ht⟩) (fun _ h => absurd h List.not_mem_nil) dX10_leastTerms_37
  · exact absurd c_1 hgz
set_option maxHeartbeats 4000000 in
set_option maxRecDepth 100000 in
theorem c_X10_power (l : Launch) (D : va_G) (tc : Nat → ClassId) (sz : Nat) (ad : Nat → Nat) (ct : Nat → Option va_E)        {v1 : Int32} {n0 : Nat} (hn : n0 < 2 ^ 30) : Met l yX10_power wsX10_power ({ frames := 0, cells := 0, slots := 0, locals := 0 }) (va_Pc [.int v1, .int (nI n0)] (kw_B D tc sz ad ct)) (k2_QcV (.long (kPw v1.toInt64 n0))) 0 0 (fun _ => False) := by
  refine Met.ofW (cc := cX10_power) (maxL := 5) (ret := (some .long)) (by decide) rfl ?_
  intro pg en s m args below meth cod s₁ B hml hv
  obtain ⟨rfl, hsz, hP0, hK⟩ := hv
  have hx := B.exec
  have hb := B.bytes
  have hr := B.returns
  have hts := atoms_spec (ws := wsX10_power) B.pre
  have hown : s.vm.findClass RX10 = some m.cls := findClass_of_methodNamed B.named
  have hlocks := B.notSynchronized
  subst hsz
  have hw := kw_H.start hP0
  generalize kw_A ad ct s.heap.size = A at hw
  have hl := lv_entry ([.int v1, .int (nI n0)]) (n := 5) (Nat.le_of_ble_eq_true rfl)
  rw [lg_entry_eq]
  generalize (lg_sl ([.int v1, .int (nI n0)]) ++ List.replicate (5 - (lg_sl ([.int v1, .int (nI n0)])).length) Slot.unset).toArray = ls at hl ⊢
  have hl : lv_has ls 5 [(0, .int v1), (1, .int (nI n0))] := hl
  have S0 : CallFix pg m cod cX10_power 5 s _ wsX10_power RX10 := ⟨hx, hb, hml, hown, hts⟩
  refine lv_lconst (v := 1) hx hb dX10_power_0 (by decide) ?_
  refine lv_lstore_n (lv' := [(2, .long 1), (0, .int v1), (1, .int (nI n0))]) hx hb dX10_power_1 rfl hl (by decide) rfl (fun ls hl => ?_)
  refine lv_iconst (v := 0) hx hb dX10_power_2 (by decide) ?_
  refine lv_istore (lv' := [(4, .int 0), (2, .long 1), (0, .int v1), (1, .int (nI n0))]) hx hb dX10_power_3 hl (by decide) rfl (fun ls hl => ?_)
  suffices lp5 : ∀ (nfu : Nat) (i : Nat) (acc : Int64) (ls : Array Slot), n0 - i < nfu → i ≤ n0 → acc = kPw v1.toInt64 i → lv_has ls 5 [(0, .int v1), (1, .int (nI n0)), (2, .long acc), (4, .int (nI i))] → W pg l en (headSpec wsX10_power ({ frames := 0, cells := 0, slots := 0, locals := 0 })).room s m (([.int v1, .int (nI n0)] : List Value).toArray) below meth cod s.heap [] 0 0 (MQ below (k2_QcV (.long (kPw v1.toInt64 n0))) (([.int v1, .int (nI n0)] : List Value).toArray) s 0 0 (fun _ => False)) (F0 m 5 ls []) by
    exact lp5 (n0 - 0 + 1) 0 1 ls (by omega) (by omega) (by rfl) (by have hl9 := lv_sub hl (l' := [(0, .int v1), (1, .int (nI n0)), (2, .long 1), (4, .int 0)]) [2, 3, 1, 0] rfl; exact hl9)
  intro n5
  induction n5 with
  | zero => intro i acc ls hfu; exact absurd hfu (Nat.not_lt_zero _)
  | succ n5 ih5 =>
    intro i acc ls hfu5 hi ha hl
    refine lv_iload hx hb dX10_power_5 (lv_at hl 3 rfl) ?_
    refine lv_iload_n hx hb dX10_power_7 rfl (lv_at hl 1 rfl) ?_
    refine kn_ge i n0 rfl rfl (by omega) (by omega) (tgt := 22) hx hb dX10_power_8 (by decide) (fun c_1 => ?_) (fun c_1 => ?_)
    · refine lv_lload_n hx hb dX10_power_22 rfl (lv_at hl 2 rfl) ?_
      refine W.eq (congrArg (fun z => F0 m 23 ls [.long z]) (show acc = (kPw v1.toInt64 n0) from by rw [ha, show i = n0 by omega])) ?_
      exact W.lret hx hb hr (fun t ht _ => ⟨rfl, ht⟩) (fun _ h => absurd h List.not_mem_nil) dX10_power_23
    · refine lv_lload_n hx hb dX10_power_11 rfl (lv_at hl 2 rfl) ?_
      refine lv_iload_n hx hb dX10_power_12 rfl (lv_at hl 0 rfl) ?_
      refine lv_i2l (v := v1.toInt64) hx hb dX10_power_13 rfl ?_
      refine lv_lmul hx hb dX10_power_14 ?_
      refine lv_lstore_n (lv' := [(2, .long (acc * v1.toInt64)), (0, .int v1), (1, .int (nI n0)), (4, .int (nI i))]) hx hb dX10_power_15 rfl hl (by decide) rfl (fun ls hl => ?_)
      refine lv_iinc (v := (nI (i + 1))) (lv' := [(4, .int (nI (i + 1))), (2, .long (acc * v1.toInt64)), (0, .int v1), (1, .int (nI n0))]) hx hb dX10_power_16 hl (k := 3) rfl (nI_1 i) (by decide) rfl (fun ls hl => ?_)
      refine lv_goto (tgt := 5) hx hb dX10_power_19 (by decide) ?_
      exact ih5 (i + 1) (acc * v1.toInt64) ls (by omega) (by omega) (by rw [ha]; rfl) (lv_sub hl [2, 3, 1, 0] rfl)
set_option maxHeartbeats 4000000 in
set_option maxRecDepth 100000 in
theorem c_X10_howLikely (l : Launch) (D : va_G) (tc : Nat → ClassId) (sz : Nat) (ad : Nat → Nat) (ct : Nat → Option va_E)        {a1 a2 : Nat} {t1 : Int32} (hn : a1 ≤ 15) (hn2 : a2 ≤ 40) : Met l yX10_howLikely wsX10_howLikely ({ frames := 1, cells := 0, slots := 0, locals := 28 }) (va_Pc [.int (nI a1), .int (nI a2), .int t1] (kw_B D tc sz ad ct)) (k2_QcV (.long (kHc t1 a2 a1 (a1 + 1)))) 0 0 (fun _ => False) := by
  refine Met.ofW (cc := cX10_howLikely) (maxL := 8) (ret := (some .long)) (by decide) rfl ?_
  intro pg en s m args below meth cod s₁ B hml hv
  obtain ⟨rfl, hsz, hP0, hK⟩ := hv
  have hx := B.exec
  have hb := B.bytes
  have hr := B.returns
  have hts := atoms_spec (ws := wsX10_howLikely) B.pre
  have hown : s.vm.findClass RX10 = some m.cls := findClass_of_methodNamed B.named
  have hlocks := B.notSynchronized
  subst hsz
  have hw := kw_H.start hP0
  generalize kw_A ad ct s.heap.size = A at hw
  have hl := lv_entry ([.int (nI a1), .int (nI a2), .int t1]) (n := 8) (Nat.le_of_ble_eq_true rfl)
  rw [lg_entry_eq]
  generalize (lg_sl ([.int (nI a1), .int (nI a2), .int t1]) ++ List.replicate (8 - (lg_sl ([.int (nI a1), .int (nI a2), .int t1])).length) Slot.unset).toArray = ls at hl ⊢
  have hl : lv_has ls 8 [(0, .int (nI a1)), (1, .int (nI a2)), (2, .int t1)] := hl
  have S0 : CallFix pg m cod cX10_howLikely 8 s _ wsX10_howLikely RX10 := ⟨hx, hb, hml, hown, hts⟩
  refine lv_lconst (v := 0) hx hb dX10_howLikely_0 (by decide) ?_
  refine lv_lstore_n (lv' := [(3, .long 0), (0, .int (nI a1)), (1, .int (nI a2)), (2, .int t1)]) hx hb dX10_howLikely_1 rfl hl (by decide) rfl (fun ls hl => ?_)
  refine lv_lconst (v := 1) hx hb dX10_howLikely_2 (by decide) ?_
  refine lv_lstore (lv' := [(5, .long 1), (3, .long 0), (0, .int (nI a1)), (1, .int (nI a2)), (2, .int t1)]) hx hb dX10_howLikely_3 hl (by decide) rfl (fun ls hl => ?_)
  refine lv_iconst (v := 0) hx hb dX10_howLikely_5 (by decide) ?_
  refine lv_istore (lv' := [(7, .int 0), (5, .long 1), (3, .long 0), (0, .int (nI a1)), (1, .int (nI a2)), (2, .int t1)]) hx hb dX10_howLikely_6 hl (by decide) rfl (fun ls hl => ?_)
  suffices lp8 : ∀ (nfu : Nat) (j : Nat) (s1 s2 : Int64) (ls : Array Slot), a1 + 1 - j < nfu → j ≤ a1 + 1 → s1 = kHc t1 a2 a1 j → s2 = kWs a1 j → lv_has ls 8 [(0, .int (nI a1)), (1, .int (nI a2)), (2, .int t1), (3, .long s1), (5, .long s2), (7, .int (nI j))] → W pg l en (headSpec wsX10_howLikely ({ frames := 1, cells := 0, slots := 0, locals := 28 })).room s m (([.int (nI a1), .int (nI a2), .int t1] : List Value).toArray) below meth cod s.heap [] 0 0 (MQ below (k2_QcV (.long (kHc t1 a2 a1 (a1 + 1)))) (([.int (nI a1), .int (nI a2), .int t1] : List Value).toArray) s 0 0 (fun _ => False)) (F0 m 8 ls []) by
    exact lp8 (a1 + 1 - 0 + 1) 0 0 1 ls (by omega) (by omega) (by rfl) (by rfl) (by have hl9 := lv_sub hl (l' := [(0, .int (nI a1)), (1, .int (nI a2)), (2, .int t1), (3, .long 0), (5, .long 1), (7, .int 0)]) [3, 4, 5, 2, 1, 0] rfl; exact hl9)
  intro n8
  induction n8 with
  | zero => intro j s1 s2 ls hfu; exact absurd hfu (Nat.not_lt_zero _)
  | succ n8 ih8 =>
    intro j s1 s2 ls hfu8 hj hs1 hs2 hl
    refine lv_iload hx hb dX10_howLikely_8 (lv_at hl 5 rfl) ?_
    refine lv_iload_n hx hb dX10_howLikely_10 rfl (lv_at hl 0 rfl) ?_
    refine kn_gt j a1 rfl rfl (by omega) (by omega) (tgt := 66) hx hb dX10_howLikely_11 (by decide) (fun c_1 => ?_) (fun c_1 => ?_)
    · refine lv_lload_n hx hb dX10_howLikely_66 rfl (lv_at hl 3 rfl) ?_
      refine W.eq (congrArg (fun z => F0 m 67 ls [.long z]) (show s1 = (kHc t1 a2 a1 (a1 + 1)) from by rw [hs1, show j = a1 + 1 by omega])) ?_
      exact W.lret hx hb hr (fun t ht _ => ⟨rfl, ht⟩) (fun _ h => absurd h List.not_mem_nil) dX10_howLikely_67
    · refine lv_iload hx hb dX10_howLikely_14 (lv_at hl 5 rfl) ?_
      refine lv_iload_n hx hb dX10_howLikely_16 rfl (lv_at hl 1 rfl) ?_
      refine kn_lt j a2 rfl rfl (by omega) (by omega) (tgt := 44) hx hb dX10_howLikely_17 (by decide) (fun c_2 => ?_) (fun c_2 => ?_)
      · refine lv_lload hx hb dX10_howLikely_44 (lv_at hl 4 rfl) ?_
        refine lv_iload_n hx hb dX10_howLikely_46 rfl (lv_at hl 0 rfl) ?_
        refine lv_iload hx hb dX10_howLikely_47 (lv_at hl 5 rfl) ?_
        refine lv_isub hx hb dX10_howLikely_49 ?_
        refine lv_i2l (v := ((nI a1) - (nI j)).toInt64) hx hb dX10_howLikely_50 rfl ?_
        refine lv_lmul hx hb dX10_howLikely_51 ?_
        refine lv_iload hx hb dX10_howLikely_52 (lv_at hl 5 rfl) ?_
        refine lv_iconst (v := 1) hx hb dX10_howLikely_54 (by decide) ?_
        refine lv_iadd hx hb dX10_howLikely_55 ?_
        refine lv_i2l (v := ((nI j) + 1).toInt64) hx hb dX10_howLikely_56 rfl ?_
        refine lv_ldiv hx hb dX10_howLikely_57 (kj_ne j (by omega)) ?_
        refine lv_lstore (lv' := [(5, .long ((s2 * (((nI a1) - (nI j)).toInt64)) / (((nI j) + 1).toInt64))), (0, .int (nI a1)), (1, .int (nI a2)), (2, .int t1), (3, .long s1), (7, .int (nI j))]) hx hb dX10_howLikely_58 hl (by decide) rfl (fun ls hl => ?_)
        refine lv_iinc (v := (nI (j + 1))) (lv' := [(7, .int (nI (j + 1))), (5, .long ((s2 * (((nI a1) - (nI j)).toInt64)) / (((nI j) + 1).toInt64))), (0, .int (nI a1)), (1, .int (nI a2)), (2, .int t1), (3, .long s1)]) hx hb dX10_howLikely_60 hl (k := 5) rfl (nI_1 j) (by decide) rfl (fun ls hl => ?_)
        refine lv_goto (tgt := 8) hx hb dX10_howLikely_63 (by decide) ?_
        exact ih8 (j + 1) s1 ((s2 * (((nI a1) - (nI j)).toInt64)) / (((nI j) + 1).toInt64)) ls (by omega) (by omega) (by rw [hs1, kHc, if_pos c_2]) (by rw [hs2]; rfl) (lv_sub hl [2, 3, 4, 5, 1, 0] rfl)
      · refine lv_lload_n hx hb dX10_howLikely_20 rfl (lv_at hl 3 rfl) ?_
        refine lv_lload hx hb dX10_howLikely_21 (lv_at hl 4 rfl) ?_
        refine lv_iload_n hx hb dX10_howLikely_23 rfl (lv_at hl 2 rfl) ?_
        refine lv_iload hx hb dX10_howLikely_24 (lv_at hl 5 rfl) ?_
        refine kc_s (As := [.int t1, .int (nI j)]) (rest := [.long s2, .long s1]) S0 (c_X10_power l D tc s.heap.size ad ct (n0 := j) (by omega)) (va_cwS 2 hts gX10_howLikely_X10_power rfl rfl rfl (by decide +kernel) ⟨Nat.le_of_ble_eq_true rfl, Nat.le_of_ble_eq_true rfl⟩) hK hw rfl hl.1 rfl (Nat.le_of_ble_eq_true rfl) dX10_howLikely_26 ⟨Nat.le_of_ble_eq_true rfl, (Nat.le_of_ble_eq_true rfl)⟩ ?_
        refine lv_lmul hx hb dX10_howLikely_29 ?_
        refine lv_bipush (v := 10) hx hb dX10_howLikely_30 (by decide) ?_
        refine lv_iload_n hx hb dX10_howLikely_32 rfl (lv_at hl 2 rfl) ?_
        refine lv_isub hx hb dX10_howLikely_33 ?_
        refine lv_iload_n hx hb dX10_howLikely_34 rfl (lv_at hl 0 rfl) ?_
        refine lv_iload hx hb dX10_howLikely_35 (lv_at hl 5 rfl) ?_
        refine lv_isub hx hb dX10_howLikely_37 ?_
        refine W.eq (congrArg (fun z => F0 m 38 ls (.int z :: .int (10 - t1) :: .long (s2 * (kPw t1.toInt64 j)) :: .long s1 :: [])) (show (nI a1) - (nI j) = nI (a1 - j) from by exact pk_sub (by omega))) ?_
        refine kc_s (As := [.int (10 - t1), .int (nI (a1 - j))]) (rest := [.long (s2 * (kPw t1.toInt64 j)), .long s1]) S0 (c_X10_power l D tc s.heap.size ad ct (n0 := (a1 - j)) (by omega)) (va_cwS 2 hts gX10_howLikely_X10_power rfl rfl rfl (by decide +kernel) ⟨Nat.le_of_ble_eq_true rfl, Nat.le_of_ble_eq_true rfl⟩) hK hw rfl hl.1 rfl (Nat.le_of_ble_eq_true rfl) dX10_howLikely_38 ⟨Nat.le_of_ble_eq_true rfl, (Nat.le_of_ble_eq_true rfl)⟩ ?_
        refine lv_lmul hx hb dX10_howLikely_41 ?_
        refine lv_ladd hx hb dX10_howLikely_42 ?_
        refine lv_lstore_n (lv' := [(3, .long (s1 + ((s2 * (kPw t1.toInt64 j)) * (kPw (10 - t1).toInt64 (a1 - j))))), (0, .int (nI a1)), (1, .int (nI a2)), (2, .int t1), (5, .long s2), (7, .int (nI j))]) hx hb dX10_howLikely_43 rfl hl (by decide) rfl (fun ls hl => ?_)
        refine lv_lload hx hb dX10_howLikely_44 (lv_at hl 4 rfl) ?_
        refine lv_iload_n hx hb dX10_howLikely_46 rfl (lv_at hl 1 rfl) ?_
        refine lv_iload hx hb dX10_howLikely_47 (lv_at hl 5 rfl) ?_
        refine lv_isub hx hb dX10_howLikely_49 ?_
        refine lv_i2l (v := ((nI a1) - (nI j)).toInt64) hx hb dX10_howLikely_50 rfl ?_
        refine lv_lmul hx hb dX10_howLikely_51 ?_
        refine lv_iload hx hb dX10_howLikely_52 (lv_at hl 5 rfl) ?_
        refine lv_iconst (v := 1) hx hb dX10_howLikely_54 (by decide) ?_
        refine lv_iadd hx hb dX10_howLikely_55 ?_
        refine lv_i2l (v := ((nI j) + 1).toInt64) hx hb dX10_howLikely_56 rfl ?_
        refine lv_ldiv hx hb dX10_howLikely_57 (kj_ne j (by omega)) ?_
        refine lv_lstore (lv' := [(5, .long ((s2 * (((nI a1) - (nI j)).toInt64)) / (((nI j) + 1).toInt64))), (3, .long (s1 + ((s2 * (kPw t1.toInt64 j)) * (kPw (10 - t1).toInt64 (a1 - j))))), (0, .int (nI a1)), (1, .int (nI a2)), (2, .int t1), (7, .int (nI j))]) hx hb dX10_howLikely_58 hl (by decide) rfl (fun ls hl => ?_)
        refine lv_iinc (v := (nI (j + 1))) (lv' := [(7, .int (nI (j + 1))), (5, .long ((s2 * (((nI a1) - (nI j)).toInt64)) / (((nI j) + 1).toInt64))), (3, .long (s1 + ((s2 * (kPw t1.toInt64 j)) * (kPw (10 - t1).toInt64 (a1 - j))))), (0, .int (nI a1)), (1, .int (nI a2)), (2, .int t1)]) hx hb dX10_howLikely_60 hl (k := 5) rfl (nI_1 j) (by decide) rfl (fun ls hl => ?_)
        refine lv_goto (tgt := 8) hx hb dX10_howLikely_63 (by decide) ?_
        exact ih8 (j + 1) (s1 + ((s2 * (kPw t1.toInt64 j)) * (kPw (10 - t1).toInt64 (a1 - j)))) ((s2 * (((nI a1) - (nI j)).toInt64)) / (((nI j) + 1).toInt64)) ls (by omega) (by omega) (by rw [hs1, hs2, kHc, if_neg (Nat.not_lt.mpr c_2)]) (by rw [hs2]; rfl) (lv_sub hl [3, 4, 5, 2, 1, 0] rfl)
set_option maxHeartbeats 4000000 in
set_option maxRecDepth 100000 in
theorem c_X10_score_n (l : Launch) (D : va_G) (tc : Nat → ClassId) (sz : Nat) (ad : Nat → Nat) (ct : Nat → Option va_E) {nt nf : Nat} {lf : Int32}      {f1 which : Int32} (h0 : ct 0 = some (.inr (10, [.ref (ad 1), .ref (ad 3), .int (nI nt), .ref (ad 4), .ref (ad 9), .ref (ad 11), .ref (ad 12), .ref (ad 13), .int lf]))) (h9 : ct 9 = some (.inr (2, [.ref (ad 10), .int (nI nf)]))) (hf : ¬ (0 ≤ f1 ∧ f1 < nI nf)) : Met l yX10_score wsX10_score ({ frames := 2, cells := 0, slots := 0, locals := 60 }) (va_Pc [.ref (ad 0), .int f1, .int which] (kw_B D tc sz ad ct)) (k2_QcV (.long (-9223372036854775808))) 0 0 (fun _ => False) := by
  refine Met.ofW (cc := cX10_score) (maxL := 4) (ret := (some .long)) (by decide) rfl ?_
  intro pg en s m args below meth cod s₁ B hml hv
  obtain ⟨rfl, hsz, hP0, hK⟩ := hv
  have hx := B.exec
  have hb := B.bytes
  have hr := B.returns
  have hts := atoms_spec (ws := wsX10_score) B.pre
  have hown : s.vm.findClass RX10 = some m.cls := findClass_of_methodNamed B.named
  have hlocks := B.notSynchronized
  subst hsz
  have hw := kw_H.start hP0
  generalize kw_A ad ct s.heap.size = A at hw
  have hinX10 : ∀ w ∈ wsX100, w ∈ wsX10_score := by decide +kernel
  have hl := lv_entry ([.ref (ad 0), .int f1, .int which]) (n := 4) (Nat.le_of_ble_eq_true rfl)
  rw [lg_entry_eq]
  generalize (lg_sl ([.ref (ad 0), .int f1, .int which]) ++ List.replicate (4 - (lg_sl ([.ref (ad 0), .int f1, .int which])).length) Slot.unset).toArray = ls at hl ⊢
  have hl : lv_has ls 4 [(0, .ref (ad 0)), (1, .int f1), (2, .int which)] := hl
  have S0 : CallFix pg m cod cX10_score 4 s _ wsX10_score RX10 := ⟨hx, hb, hml, hown, hts⟩
  refine lv_aload_n hx hb dX10_score_0 rfl (lv_at hl 0 rfl) ?_
  refine kg_get (v := .ref (ad 9)) (C := RX10) (T := TX10) (N := 9) hx hb hts hinX10 hown hK hw h0 rfl 4 (by decide) (hts (.fieldLink RX10 34 "BetMaker" "forecasts" "LBetMaker$Log;") (by decide +kernel)) (fun _ h9 => h9) rfl dX10_score_1 ?_
  refine lv_iload_n hx hb dX10_score_4 rfl (lv_at hl 1 rfl) ?_
  refine kc_v (As := [.int f1]) (rest := []) S0 (c_X2_find_n l D tc s.heap.size ad ct (nf := nf) h9 hf) (cwV 1 hts gX10_score_X2_find rfl rfl rfl (by decide +kernel) ⟨Nat.le_of_ble_eq_true rfl, Nat.le_of_ble_eq_true rfl⟩) hK hw h9 rfl rfl hl.1 rfl (Nat.le_of_ble_eq_true rfl) dX10_score_5 ⟨Nat.le_of_ble_eq_true rfl, (Nat.le_of_ble_eq_true rfl)⟩ ?_
  refine lv_astore_nN (lv' := [(3, .null), (0, .ref (ad 0)), (1, .int f1), (2, .int which)]) hx hb dX10_score_8 rfl hl (by decide) rfl (fun ls hl => ?_)
  refine lv_aload_nN hx hb dX10_score_9 rfl (lv_at hl 0 rfl) ?_
  refine lv_ifnullN (tgt := 22) hx hb dX10_score_10 (by decide) ?_
  refine lv_ldc2 (v := (-9223372036854775808)) hx hb hown (hts (.constantLong RX10 85 (-9223372036854775808)) (by decide +kernel)) dX10_score_22 ?_
  exact W.lret hx hb hr (fun t ht _ => ⟨rfl, ht⟩) (fun _ h => absurd h List.not_mem_nil) dX10_score_25
set_option maxHeartbeats 4000000 in
set_option maxRecDepth 100000 in
theorem c_X10_score_m (l : Launch) (D : va_G) (tc : Nat → ClassId) (sz : Nat) (ad : Nat → Nat) (ct : Nat → Option va_E) {nt nf cf fx : Nat} {lf : Int32} {sm sq : Int64}  {qf : Nat → Option Nat}   {which : Int32} (h0 : ct 0 = some (.inr (10, [.ref (ad 1), .ref (ad 3), .int (nI nt), .ref (ad 4), .ref (ad 9), .ref (ad 11), .ref (ad 12), .ref (ad 13), .int lf]))) (h9 : ct 9 = some (.inr (2, [.ref (ad 10), .int (nI nf)]))) (h10 : ct 10 = some (eQ tc 2 40 qf)) (h100 : ct (100 + fx) = some (.inr (1, [.ref (ad (140 + fx)), .int (nI cf), .long sm, .long sq]))) (hf : fx < nf) (hnf : nf ≤ 40) (hq : qf fx = some (ad (100 + fx))) (hbad : ¬ (0 ≤ which ∧ which ≤ 1)) : Met l yX10_score wsX10_score ({ frames := 2, cells := 0, slots := 0, locals := 60 }) (va_Pc [.ref (ad 0), .int (nI fx), .int which] (kw_B D tc sz ad ct)) (k2_QcV (.long (-9223372036854775808))) 0 0 (fun _ => False) := by
  refine Met.ofW (cc := cX10_score) (maxL := 4) (ret := (some .long)) (by decide) rfl ?_
  intro pg en s m args below meth cod s₁ B hml hv
  obtain ⟨rfl, hsz, hP0, hK⟩ := hv
  have hx := B.exec
  have hb := B.bytes
  have hr := B.returns
  have hts := atoms_spec (ws := wsX10_score) B.pre
  have hown : s.vm.findClass RX10 = some m.cls := findClass_of_methodNamed B.named
  have hlocks := B.notSynchronized
  subst hsz
  have hw := kw_H.start hP0
  generalize kw_A ad ct s.heap.size = A at hw
  have hinX10 : ∀ w ∈ wsX100, w ∈ wsX10_score := by decide +kernel
  have hl := lv_entry ([.ref (ad 0), .int (nI fx), .int which]) (n := 4) (Nat.le_of_ble_eq_true rfl)
  rw [lg_entry_eq]
  generalize (lg_sl ([.ref (ad 0), .int (nI fx), .int which]) ++ List.replicate (4 - (lg_sl ([.ref (ad 0), .int (nI fx), .int which])).length) Slot.unset).toArray = ls at hl ⊢
  have hl : lv_has ls 4 [(0, .ref (ad 0)), (1, .int (nI fx)), (2, .int which)] := hl
  have S0 : CallFix pg m cod cX10_score 4 s _ wsX10_score RX10 := ⟨hx, hb, hml, hown, hts⟩
  refine lv_aload_n hx hb dX10_score_0 rfl (lv_at hl 0 rfl) ?_
  refine kg_get (v := .ref (ad 9)) (C := RX10) (T := TX10) (N := 9) hx hb hts hinX10 hown hK hw h0 rfl 4 (by decide) (hts (.fieldLink RX10 34 "BetMaker" "forecasts" "LBetMaker$Log;") (by decide +kernel)) (fun _ h9 => h9) rfl dX10_score_1 ?_
  refine lv_iload_n hx hb dX10_score_4 rfl (lv_at hl 1 rfl) ?_
  refine kc_v (As := [.int (nI fx)]) (rest := []) S0 (c_X2_find l D tc s.heap.size ad ct (fx := fx) (nf := nf) h9 h10 (by omega) (by omega) hq) (cwV 1 hts gX10_score_X2_find rfl rfl rfl (by decide +kernel) ⟨Nat.le_of_ble_eq_true rfl, Nat.le_of_ble_eq_true rfl⟩) hK hw h9 rfl rfl hl.1 rfl (Nat.le_of_ble_eq_true rfl) dX10_score_5 ⟨Nat.le_of_ble_eq_true rfl, (Nat.le_of_ble_eq_true rfl)⟩ ?_
  refine lv_astore_n (lv' := [(3, .ref (ad (100 + fx))), (0, .ref (ad 0)), (1, .int (nI fx)), (2, .int which)]) hx hb dX10_score_8 rfl hl (by decide) rfl (fun ls hl => ?_)
  refine lv_aload_n hx hb dX10_score_9 rfl (lv_at hl 0 rfl) ?_
  refine lv_ifnull hx hb dX10_score_10 ?_
  refine lv_iload_n hx hb dX10_score_13 rfl (lv_at hl 3 rfl) ?_
  refine lv_if_lt (tgt := 22) hx hb dX10_score_14 (by decide) (fun c_1 => ?_) (fun c_1 => ?_)
  · refine lv_ldc2 (v := (-9223372036854775808)) hx hb hown (hts (.constantLong RX10 85 (-9223372036854775808)) (by decide +kernel)) dX10_score_22 ?_
    exact W.lret hx hb hr (fun t ht _ => ⟨rfl, ht⟩) (fun _ h => absurd h List.not_mem_nil) dX10_score_25
  · refine lv_iload_n hx hb dX10_score_17 rfl (lv_at hl 3 rfl) ?_
    refine lv_iconst (v := 1) hx hb dX10_score_18 (by decide) ?_
    refine lv_icmp_le (tgt := 26) hx hb dX10_score_19 (by decide) (fun c_2 => ?_) (fun c_2 => ?_)
    · exact absurd ⟨kq_1 c_1, c_2⟩ hbad
    · refine lv_ldc2 (v := (-9223372036854775808)) hx hb hown (hts (.constantLong RX10 85 (-9223372036854775808)) (by decide +kernel)) dX10_score_22 ?_
      exact W.lret hx hb hr (fun t ht _ => ⟨rfl, ht⟩) (fun _ h => absurd h List.not_mem_nil) dX10_score_25
set_option maxHeartbeats 4000000 in
set_option maxRecDepth 100000 in
theorem c_X10_score (l : Launch) (D : va_G) (tc : Nat → ClassId) (sz : Nat) (ad : Nat → Nat) (ct : Nat → Option va_E) {N nt nf cf fx : Nat} {lf : Int32} {sm sq : Int64}  {qf : Nat → Option Nat} {w : Nat → Int32}  {which : Int32} {u d : Nat} (h0 : ct 0 = some (.inr (10, [.ref (ad 1), .ref (ad 3), .int (nI nt), .ref (ad 4), .ref (ad 9), .ref (ad 11), .ref (ad 12), .ref (ad 13), .int lf]))) (h9 : ct 9 = some (.inr (2, [.ref (ad 10), .int (nI nf)]))) (h10 : ct 10 = some (eQ tc 2 40 qf)) (h100 : ct (100 + fx) = some (.inr (1, [.ref (ad (140 + fx)), .int (nI cf), .long sm, .long sq]))) (h140 : ct (140 + fx) = some (eI tc N w)) (hf : fx < nf) (hnf : nf ≤ 40) (hq : qf fx = some (ad (100 + fx))) (hN : N ≤ 8) (hcN : cf < N) (hwh : 0 ≤ which ∧ which ≤ 1) (hdd : sm * sm = lN d) (hd0 : 0 < d) (hd3 : d < 2 ^ 30) (huu : (if 0 < 2 * sm * (w cf).toInt64 - sq then 2 * sm * (w cf).toInt64 - sq else -(2 * sm * (w cf).toInt64 - sq)) = lN u) (hu3 : u < 2 ^ 30) : Met l yX10_score wsX10_score ({ frames := 2, cells := 0, slots := 0, locals := 60 }) (va_Pc [.ref (ad 0), .int (nI fx), .int which] (kw_B D tc sz ad ct)) (k2_QcV (.long (if which = 0 then (2 * sm * (w cf).toInt64 - sq) / lN (Nat.gcd u d) else (sm * sm) / lN (Nat.gcd u d)))) 0 0 (fun _ => False) := by
  refine Met.ofW (cc := cX10_score) (maxL := 4) (ret := (some .long)) (by decide) rfl ?_
  intro pg en s m args below meth cod s₁ B hml hv
  obtain ⟨rfl, hsz, hP0, hK⟩ := hv
  have hx := B.exec
  have hb := B.bytes
  have hr := B.returns
  have hts := atoms_spec (ws := wsX10_score) B.pre
  have hown : s.vm.findClass RX10 = some m.cls := findClass_of_methodNamed B.named
  have hlocks := B.notSynchronized
  subst hsz
  have hw := kw_H.start hP0
  generalize kw_A ad ct s.heap.size = A at hw
  have hinX10 : ∀ w ∈ wsX100, w ∈ wsX10_score := by decide +kernel
  have hl := lv_entry ([.ref (ad 0), .int (nI fx), .int which]) (n := 4) (Nat.le_of_ble_eq_true rfl)
  rw [lg_entry_eq]
  generalize (lg_sl ([.ref (ad 0), .int (nI fx), .int which]) ++ List.replicate (4 - (lg_sl ([.ref (ad 0), .int (nI fx), .int which])).length) Slot.unset).toArray = ls at hl ⊢
  have hl : lv_has ls 4 [(0, .ref (ad 0)), (1, .int (nI fx)), (2, .int which)] := hl
  have S0 : CallFix pg m cod cX10_score 4 s _ wsX10_score RX10 := ⟨hx, hb, hml, hown, hts⟩
  have hw2 : ¬ (which < 0) := kq_4 hwh.1
  have hw3 : which ≤ 1 := hwh.2
  refine lv_aload_n hx hb dX10_score_0 rfl (lv_at hl 0 rfl) ?_
  refine kg_get (v := .ref (ad 9)) (C := RX10) (T := TX10) (N := 9) hx hb hts hinX10 hown hK hw h0 rfl 4 (by decide) (hts (.fieldLink RX10 34 "BetMaker" "forecasts" "LBetMaker$Log;") (by decide +kernel)) (fun _ h9 => h9) rfl dX10_score_1 ?_
  refine lv_iload_n hx hb dX10_score_4 rfl (lv_at hl 1 rfl) ?_
  refine kc_v (As := [.int (nI fx)]) (rest := []) S0 (c_X2_find l D tc s.heap.size ad ct (fx := fx) (nf := nf) h9 h10 (by omega) (by omega) hq) (cwV 1 hts gX10_score_X2_find rfl rfl rfl (by decide +kernel) ⟨Nat.le_of_ble_eq_true rfl, Nat.le_of_ble_eq_true rfl⟩) hK hw h9 rfl rfl hl.1 rfl (Nat.le_of_ble_eq_true rfl) dX10_score_5 ⟨Nat.le_of_ble_eq_true rfl, (Nat.le_of_ble_eq_true rfl)⟩ ?_
  refine lv_astore_n (lv' := [(3, .ref (ad (100 + fx))), (0, .ref (ad 0)), (1, .int (nI fx)), (2, .int which)]) hx hb dX10_score_8 rfl hl (by decide) rfl (fun ls hl => ?_)
  refine lv_aload_n hx hb dX10_score_9 rfl (lv_at hl 0 rfl) ?_
  refine lv_ifnull hx hb dX10_score_10 ?_
  refine lv_iload_n hx hb dX10_score_13 rfl (lv_at hl 3 rfl) ?_
  refine lv_if_lt (tgt := 22) hx hb dX10_score_14 (by decide) (fun c_1 => ?_) (fun c_1 => ?_)
  · exact absurd c_1 hw2
  · refine lv_iload_n hx hb dX10_score_17 rfl (lv_at hl 3 rfl) ?_
    refine lv_iconst (v := 1) hx hb dX10_score_18 (by decide) ?_
    refine lv_icmp_le (tgt := 26) hx hb dX10_score_19 (by decide) (fun c_2 => ?_) (fun c_2 => ?_)
    · refine lv_aload_n hx hb dX10_score_26 rfl (lv_at hl 0 rfl) ?_
      refine lv_aload_n hx hb dX10_score_27 rfl (lv_at hl 0 rfl) ?_
      refine kc_v (As := []) (rest := [.ref (ad (100 + fx))]) S0 (c_X1_came l D tc s.heap.size ad ct (cf := cf) h100) (cwV 0 hts gX10_score_X1_came rfl rfl rfl (by decide +kernel) ⟨Nat.le_of_ble_eq_true rfl, Nat.le_of_ble_eq_true rfl⟩) hK hw h100 rfl rfl hl.1 rfl (Nat.le_of_ble_eq_true rfl) dX10_score_28 ⟨Nat.le_of_ble_eq_true rfl, (Nat.le_of_ble_eq_true rfl)⟩ ?_
      refine kc_v (As := [.int (nI cf)]) (rest := []) S0 (c_X1_scoreUpper l D tc s.heap.size ad ct (c := cf) (cf := cf) h100 h140 (by omega) (by omega)) (cwV 1 hts gX10_score_X1_scoreUpper rfl rfl rfl (by decide +kernel) ⟨Nat.le_of_ble_eq_true rfl, Nat.le_of_ble_eq_true rfl⟩) hK hw h100 rfl rfl hl.1 rfl (Nat.le_of_ble_eq_true rfl) dX10_score_31 ⟨Nat.le_of_ble_eq_true rfl, (Nat.le_of_ble_eq_true rfl)⟩ ?_
      refine lv_aload_n hx hb dX10_score_34 rfl (lv_at hl 0 rfl) ?_
      refine kc_v (As := []) (rest := [.long (2 * sm * (w cf).toInt64 - sq)]) S0 (c_X1_scoreLower l D tc s.heap.size ad ct (cf := cf) h100) (cwV 0 hts gX10_score_X1_scoreLower rfl rfl rfl (by decide +kernel) ⟨Nat.le_of_ble_eq_true rfl, Nat.le_of_ble_eq_true rfl⟩) hK hw h100 rfl rfl hl.1 rfl (Nat.le_of_ble_eq_true rfl) dX10_score_35 ⟨Nat.le_of_ble_eq_true rfl, (Nat.le_of_ble_eq_true rfl)⟩ ?_
      refine lv_iload_n hx hb dX10_score_38 rfl (lv_at hl 3 rfl) ?_
      refine kc_s (As := [.long (2 * sm * (w cf).toInt64 - sq), .long (sm * sm), .int which]) (rest := []) S0 (c_X10_leastTerms l D tc s.heap.size ad ct hdd hd0 hd3 huu hu3) (va_cwS 3 hts gX10_score_X10_leastTerms rfl rfl rfl (by decide +kernel) ⟨Nat.le_of_ble_eq_true rfl, Nat.le_of_ble_eq_true rfl⟩) hK hw rfl hl.1 rfl (Nat.le_of_ble_eq_true rfl) dX10_score_39 ⟨Nat.le_of_ble_eq_true rfl, (Nat.le_of_ble_eq_true rfl)⟩ ?_
      exact W.lret hx hb hr (fun t ht _ => ⟨rfl, ht⟩) (fun _ h => absurd h List.not_mem_nil) dX10_score_42
    · exact absurd hw3 c_2
set_option maxHeartbeats 4000000 in
set_option maxRecDepth 100000 in
theorem c_X10_honest_n1 (l : Launch) (D : va_G) (tc : Nat → ClassId) (sz : Nat) (ad : Nat → Nat) (ct : Nat → Option va_E) {nt nf : Nat} {lf : Int32}      {t1 f1 which : Int32} (h0 : ct 0 = some (.inr (10, [.ref (ad 1), .ref (ad 3), .int (nI nt), .ref (ad 4), .ref (ad 9), .ref (ad 11), .ref (ad 12), .ref (ad 13), .int lf]))) (h9 : ct 9 = some (.inr (2, [.ref (ad 10), .int (nI nf)]))) (ht : ¬ (0 ≤ t1 ∧ t1 < nI nt)) (hf : ¬ (0 ≤ f1 ∧ f1 < nI nf)) : Met l yX10_honest wsX10_honest ({ frames := 2, cells := 0, slots := 0, locals := 60 }) (va_Pc [.ref (ad 0), .int t1, .int f1, .int which] (kw_B D tc sz ad ct)) (k2_QcV (.long (-9223372036854775808))) 0 0 (fun _ => False) := by
  refine Met.ofW (cc := cX10_honest) (maxL := 9) (ret := (some .long)) (by decide) rfl ?_
  intro pg en s m args below meth cod s₁ B hml hv
  obtain ⟨rfl, hsz, hP0, hK⟩ := hv
  have hx := B.exec
  have hb := B.bytes
  have hr := B.returns
  have hts := atoms_spec (ws := wsX10_honest) B.pre
  have hown : s.vm.findClass RX10 = some m.cls := findClass_of_methodNamed B.named
  have hlocks := B.notSynchronized
  subst hsz
  have hw := kw_H.start hP0
  generalize kw_A ad ct s.heap.size = A at hw
  have hinX10 : ∀ w ∈ wsX100, w ∈ wsX10_honest := by decide +kernel
  have hl := lv_entry ([.ref (ad 0), .int t1, .int f1, .int which]) (n := 9) (Nat.le_of_ble_eq_true rfl)
  rw [lg_entry_eq]
  generalize (lg_sl ([.ref (ad 0), .int t1, .int f1, .int which]) ++ List.replicate (9 - (lg_sl ([.ref (ad 0), .int t1, .int f1, .int which])).length) Slot.unset).toArray = ls at hl ⊢
  have hl : lv_has ls 9 [(0, .ref (ad 0)), (1, .int t1), (2, .int f1), (3, .int which)] := hl
  have S0 : CallFix pg m cod cX10_honest 9 s _ wsX10_honest RX10 := ⟨hx, hb, hml, hown, hts⟩
  refine lv_aload_n hx hb dX10_honest_0 rfl (lv_at hl 0 rfl) ?_
  refine lv_iload_n hx hb dX10_honest_1 rfl (lv_at hl 1 rfl) ?_
  refine kc_v (As := [.int t1]) (rest := []) S0 (c_X10_findTrader_n l D tc s.heap.size ad ct (nt := nt) h0 ht) (cwV 1 hts gX10_honest_X10_findTrader rfl rfl rfl (by decide +kernel) ⟨Nat.le_of_ble_eq_true rfl, Nat.le_of_ble_eq_true rfl⟩) hK hw h0 rfl rfl hl.1 rfl (Nat.le_of_ble_eq_true rfl) dX10_honest_2 ⟨Nat.le_of_ble_eq_true rfl, (Nat.le_of_ble_eq_true rfl)⟩ ?_
  refine lv_astoreN (lv' := [(4, .null), (0, .ref (ad 0)), (1, .int t1), (2, .int f1), (3, .int which)]) hx hb dX10_honest_5 hl (by decide) rfl (fun ls hl => ?_)
  refine lv_aload_n hx hb dX10_honest_7 rfl (lv_at hl 1 rfl) ?_
  refine kg_get (v := .ref (ad 9)) (C := RX10) (T := TX10) (N := 9) hx hb hts hinX10 hown hK hw h0 rfl 4 (by decide) (hts (.fieldLink RX10 34 "BetMaker" "forecasts" "LBetMaker$Log;") (by decide +kernel)) (fun _ h9 => h9) rfl dX10_honest_8 ?_
  refine lv_iload_n hx hb dX10_honest_11 rfl (lv_at hl 3 rfl) ?_
  refine kc_v (As := [.int f1]) (rest := []) S0 (c_X2_find_n l D tc s.heap.size ad ct (nf := nf) h9 hf) (cwV 1 hts gX10_honest_X2_find rfl rfl rfl (by decide +kernel) ⟨Nat.le_of_ble_eq_true rfl, Nat.le_of_ble_eq_true rfl⟩) hK hw h9 rfl rfl hl.1 rfl (Nat.le_of_ble_eq_true rfl) dX10_honest_12 ⟨Nat.le_of_ble_eq_true rfl, (Nat.le_of_ble_eq_true rfl)⟩ ?_
  refine lv_astoreN (lv' := [(5, .null), (4, .null), (0, .ref (ad 0)), (1, .int t1), (2, .int f1), (3, .int which)]) hx hb dX10_honest_15 hl (by decide) rfl (fun ls hl => ?_)
  refine lv_aloadN hx hb dX10_honest_17 (lv_at hl 1 rfl) ?_
  refine lv_ifnullN (tgt := 36) hx hb dX10_honest_19 (by decide) ?_
  refine lv_ldc2 (v := (-9223372036854775808)) hx hb hown (hts (.constantLong RX10 85 (-9223372036854775808)) (by decide +kernel)) dX10_honest_36 ?_
  exact W.lret hx hb hr (fun t ht _ => ⟨rfl, ht⟩) (fun _ h => absurd h List.not_mem_nil) dX10_honest_39
set_option maxHeartbeats 4000000 in
set_option maxRecDepth 100000 in
theorem c_X10_honest_n2 (l : Launch) (D : va_G) (tc : Nat → ClassId) (sz : Nat) (ad : Nat → Nat) (ct : Nat → Option va_E) {nt nf fx : Nat} {lf : Int32}   {qf : Nat → Option Nat}   {t1 which : Int32} (h0 : ct 0 = some (.inr (10, [.ref (ad 1), .ref (ad 3), .int (nI nt), .ref (ad 4), .ref (ad 9), .ref (ad 11), .ref (ad 12), .ref (ad 13), .int lf]))) (h9 : ct 9 = some (.inr (2, [.ref (ad 10), .int (nI nf)]))) (h10 : ct 10 = some (eQ tc 2 40 qf)) (ht : ¬ (0 ≤ t1 ∧ t1 < nI nt)) (hf : fx < nf) (hnf : nf ≤ 40) (hq : qf fx = some (ad (100 + fx))) : Met l yX10_honest wsX10_honest ({ frames := 2, cells := 0, slots := 0, locals := 60 }) (va_Pc [.ref (ad 0), .int t1, .int (nI fx), .int which] (kw_B D tc sz ad ct)) (k2_QcV (.long (-9223372036854775808))) 0 0 (fun _ => False) := by
  refine Met.ofW (cc := cX10_honest) (maxL := 9) (ret := (some .long)) (by decide) rfl ?_
  intro pg en s m args below meth cod s₁ B hml hv
  obtain ⟨rfl, hsz, hP0, hK⟩ := hv
  have hx := B.exec
  have hb := B.bytes
  have hr := B.returns
  have hts := atoms_spec (ws := wsX10_honest) B.pre
  have hown : s.vm.findClass RX10 = some m.cls := findClass_of_methodNamed B.named
  have hlocks := B.notSynchronized
  subst hsz
  have hw := kw_H.start hP0
  generalize kw_A ad ct s.heap.size = A at hw
  have hinX10 : ∀ w ∈ wsX100, w ∈ wsX10_honest := by decide +kernel
  have hl := lv_entry ([.ref (ad 0), .int t1, .int (nI fx), .int which]) (n := 9) (Nat.le_of_ble_eq_true rfl)
  rw [lg_entry_eq]
  generalize (lg_sl ([.ref (ad 0), .int t1, .int (nI fx), .int which]) ++ List.replicate (9 - (lg_sl ([.ref (ad 0), .int t1, .int (nI fx), .int which])).length) Slot.unset).toArray = ls at hl ⊢
  have hl : lv_has ls 9 [(0, .ref (ad 0)), (1, .int t1), (2, .int (nI fx)), (3, .int which)] := hl
  have S0 : CallFix pg m cod cX10_honest 9 s _ wsX10_honest RX10 := ⟨hx, hb, hml, hown, hts⟩
  refine lv_aload_n hx hb dX10_honest_0 rfl (lv_at hl 0 rfl) ?_
  refine lv_iload_n hx hb dX10_honest_1 rfl (lv_at hl 1 rfl) ?_
  refine kc_v (As := [.int t1]) (rest := []) S0 (c_X10_findTrader_n l D tc s.heap.size ad ct (nt := nt) h0 ht) (cwV 1 hts gX10_honest_X10_findTrader rfl rfl rfl (by decide +kernel) ⟨Nat.le_of_ble_eq_true rfl, Nat.le_of_ble_eq_true rfl⟩) hK hw h0 rfl rfl hl.1 rfl (Nat.le_of_ble_eq_true rfl) dX10_honest_2 ⟨Nat.le_of_ble_eq_true rfl, (Nat.le_of_ble_eq_true rfl)⟩ ?_
  refine lv_astoreN (lv' := [(4, .null), (0, .ref (ad 0)), (1, .int t1), (2, .int (nI fx)), (3, .int which)]) hx hb dX10_honest_5 hl (by decide) rfl (fun ls hl => ?_)
  refine lv_aload_n hx hb dX10_honest_7 rfl (lv_at hl 1 rfl) ?_
  refine kg_get (v := .ref (ad 9)) (C := RX10) (T := TX10) (N := 9) hx hb hts hinX10 hown hK hw h0 rfl 4 (by decide) (hts (.fieldLink RX10 34 "BetMaker" "forecasts" "LBetMaker$Log;") (by decide +kernel)) (fun _ h9 => h9) rfl dX10_honest_8 ?_
  refine lv_iload_n hx hb dX10_honest_11 rfl (lv_at hl 3 rfl) ?_
  refine kc_v (As := [.int (nI fx)]) (rest := []) S0 (c_X2_find l D tc s.heap.size ad ct (fx := fx) (nf := nf) h9 h10 (by omega) (by omega) hq) (cwV 1 hts gX10_honest_X2_find rfl rfl rfl (by decide +kernel) ⟨Nat.le_of_ble_eq_true rfl, Nat.le_of_ble_eq_true rfl⟩) hK hw h9 rfl rfl hl.1 rfl (Nat.le_of_ble_eq_true rfl) dX10_honest_12 ⟨Nat.le_of_ble_eq_true rfl, (Nat.le_of_ble_eq_true rfl)⟩ ?_
  refine lv_astore (lv' := [(5, .ref (ad (100 + fx))), (4, .null), (0, .ref (ad 0)), (1, .int t1), (2, .int (nI fx)), (3, .int which)]) hx hb dX10_honest_15 hl (by decide) rfl (fun ls hl => ?_)
  refine lv_aloadN hx hb dX10_honest_17 (lv_at hl 1 rfl) ?_
  refine lv_ifnullN (tgt := 36) hx hb dX10_honest_19 (by decide) ?_
  refine lv_ldc2 (v := (-9223372036854775808)) hx hb hown (hts (.constantLong RX10 85 (-9223372036854775808)) (by decide +kernel)) dX10_honest_36 ?_
  exact W.lret hx hb hr (fun t ht _ => ⟨rfl, ht⟩) (fun _ h => absurd h List.not_mem_nil) dX10_honest_39
set_option maxHeartbeats 4000000 in
set_option maxRecDepth 100000 in
theorem c_X10_honest_n3 (l : Launch) (D : va_G) (tc : Nat → ClassId) (sz : Nat) (ad : Nat → Nat) (ct : Nat → Option va_E) {nt nf t : Nat} {lf : Int32}   {qt : Nat → Option Nat}   {f1 which : Int32} (h0 : ct 0 = some (.inr (10, [.ref (ad 1), .ref (ad 3), .int (nI nt), .ref (ad 4), .ref (ad 9), .ref (ad 11), .ref (ad 12), .ref (ad 13), .int lf]))) (h3 : ct 3 = some (eQ tc 4 6 qt)) (h9 : ct 9 = some (.inr (2, [.ref (ad 10), .int (nI nf)]))) (ht : t < nt) (hnt : nt ≤ 6) (hqt : qt t = some (ad (30 + t))) (hf : ¬ (0 ≤ f1 ∧ f1 < nI nf)) : Met l yX10_honest wsX10_honest ({ frames := 2, cells := 0, slots := 0, locals := 60 }) (va_Pc [.ref (ad 0), .int (nI t), .int f1, .int which] (kw_B D tc sz ad ct)) (k2_QcV (.long (-9223372036854775808))) 0 0 (fun _ => False) := by
  refine Met.ofW (cc := cX10_honest) (maxL := 9) (ret := (some .long)) (by decide) rfl ?_
  intro pg en s m args below meth cod s₁ B hml hv
  obtain ⟨rfl, hsz, hP0, hK⟩ := hv
  have hx := B.exec
  have hb := B.bytes
  have hr := B.returns
  have hts := atoms_spec (ws := wsX10_honest) B.pre
  have hown : s.vm.findClass RX10 = some m.cls := findClass_of_methodNamed B.named
  have hlocks := B.notSynchronized
  subst hsz
  have hw := kw_H.start hP0
  generalize kw_A ad ct s.heap.size = A at hw
  have hinX10 : ∀ w ∈ wsX100, w ∈ wsX10_honest := by decide +kernel
  have hl := lv_entry ([.ref (ad 0), .int (nI t), .int f1, .int which]) (n := 9) (Nat.le_of_ble_eq_true rfl)
  rw [lg_entry_eq]
  generalize (lg_sl ([.ref (ad 0), .int (nI t), .int f1, .int which]) ++ List.replicate (9 - (lg_sl ([.ref (ad 0), .int (nI t), .int f1, .int which])).length) Slot.unset).toArray = ls at hl ⊢
  have hl : lv_has ls 9 [(0, .ref (ad 0)), (1, .int (nI t)), (2, .int f1), (3, .int which)] := hl
  have S0 : CallFix pg m cod cX10_honest 9 s _ wsX10_honest RX10 := ⟨hx, hb, hml, hown, hts⟩
  refine lv_aload_n hx hb dX10_honest_0 rfl (lv_at hl 0 rfl) ?_
  refine lv_iload_n hx hb dX10_honest_1 rfl (lv_at hl 1 rfl) ?_
  refine kc_v (As := [.int (nI t)]) (rest := []) S0 (c_X10_findTrader l D tc s.heap.size ad ct (t := t) (nt := nt) h0 h3 (by omega) (by omega) hqt) (cwV 1 hts gX10_honest_X10_findTrader rfl rfl rfl (by decide +kernel) ⟨Nat.le_of_ble_eq_true rfl, Nat.le_of_ble_eq_true rfl⟩) hK hw h0 rfl rfl hl.1 rfl (Nat.le_of_ble_eq_true rfl) dX10_honest_2 ⟨Nat.le_of_ble_eq_true rfl, (Nat.le_of_ble_eq_true rfl)⟩ ?_
  refine lv_astore (lv' := [(4, .ref (ad (30 + t))), (0, .ref (ad 0)), (1, .int (nI t)), (2, .int f1), (3, .int which)]) hx hb dX10_honest_5 hl (by decide) rfl (fun ls hl => ?_)
  refine lv_aload_n hx hb dX10_honest_7 rfl (lv_at hl 1 rfl) ?_
  refine kg_get (v := .ref (ad 9)) (C := RX10) (T := TX10) (N := 9) hx hb hts hinX10 hown hK hw h0 rfl 4 (by decide) (hts (.fieldLink RX10 34 "BetMaker" "forecasts" "LBetMaker$Log;") (by decide +kernel)) (fun _ h9 => h9) rfl dX10_honest_8 ?_
  refine lv_iload_n hx hb dX10_honest_11 rfl (lv_at hl 3 rfl) ?_
  refine kc_v (As := [.int f1]) (rest := []) S0 (c_X2_find_n l D tc s.heap.size ad ct (nf := nf) h9 hf) (cwV 1 hts gX10_honest_X2_find rfl rfl rfl (by decide +kernel) ⟨Nat.le_of_ble_eq_true rfl, Nat.le_of_ble_eq_true rfl⟩) hK hw h9 rfl rfl hl.1 rfl (Nat.le_of_ble_eq_true rfl) dX10_honest_12 ⟨Nat.le_of_ble_eq_true rfl, (Nat.le_of_ble_eq_true rfl)⟩ ?_
  refine lv_astoreN (lv' := [(5, .null), (4, .ref (ad (30 + t))), (0, .ref (ad 0)), (1, .int (nI t)), (2, .int f1), (3, .int which)]) hx hb dX10_honest_15 hl (by decide) rfl (fun ls hl => ?_)
  refine lv_aload hx hb dX10_honest_17 (lv_at hl 1 rfl) ?_
  refine lv_ifnull hx hb dX10_honest_19 ?_
  refine lv_aloadN hx hb dX10_honest_22 (lv_at hl 0 rfl) ?_
  refine lv_ifnullN (tgt := 36) hx hb dX10_honest_24 (by decide) ?_
  refine lv_ldc2 (v := (-9223372036854775808)) hx hb hown (hts (.constantLong RX10 85 (-9223372036854775808)) (by decide +kernel)) dX10_honest_36 ?_
  exact W.lret hx hb hr (fun t ht _ => ⟨rfl, ht⟩) (fun _ h => absurd h List.not_mem_nil) dX10_honest_39
set_option maxHeartbeats 4000000 in
set_option maxRecDepth 100000 in
theorem c_X10_honest_m (l : Launch) (D : va_G) (tc : Nat → ClassId) (sz : Nat) (ad : Nat → Nat) (ct : Nat → Option va_E) {nt nf t fx : Nat} {lf : Int32}   {qt qf : Nat → Option Nat}   {which : Int32} (h0 : ct 0 = some (.inr (10, [.ref (ad 1), .ref (ad 3), .int (nI nt), .ref (ad 4), .ref (ad 9), .ref (ad 11), .ref (ad 12), .ref (ad 13), .int lf]))) (h3 : ct 3 = some (eQ tc 4 6 qt)) (h9 : ct 9 = some (.inr (2, [.ref (ad 10), .int (nI nf)]))) (h10 : ct 10 = some (eQ tc 2 40 qf)) (ht : t < nt) (hnt : nt ≤ 6) (hqt : qt t = some (ad (30 + t))) (hf : fx < nf) (hnf : nf ≤ 40) (hq : qf fx = some (ad (100 + fx))) (hbad : ¬ (0 ≤ which ∧ which ≤ 1)) : Met l yX10_honest wsX10_honest ({ frames := 2, cells := 0, slots := 0, locals := 60 }) (va_Pc [.ref (ad 0), .int (nI t), .int (nI fx), .int which] (kw_B D tc sz ad ct)) (k2_QcV (.long (-9223372036854775808))) 0 0 (fun _ => False) := by
  refine Met.ofW (cc := cX10_honest) (maxL := 9) (ret := (some .long)) (by decide) rfl ?_
  intro pg en s m args below meth cod s₁ B hml hv
  obtain ⟨rfl, hsz, hP0, hK⟩ := hv
  have hx := B.exec
  have hb := B.bytes
  have hr := B.returns
  have hts := atoms_spec (ws := wsX10_honest) B.pre
  have hown : s.vm.findClass RX10 = some m.cls := findClass_of_methodNamed B.named
  have hlocks := B.notSynchronized
  subst hsz
  have hw := kw_H.start hP0
  generalize kw_A ad ct s.heap.size = A at hw
  have hinX10 : ∀ w ∈ wsX100, w ∈ wsX10_honest := by decide +kernel
  have hl := lv_entry ([.ref (ad 0), .int (nI t), .int (nI fx), .int which]) (n := 9) (Nat.le_of_ble_eq_true rfl)
  rw [lg_entry_eq]
  generalize (lg_sl ([.ref (ad 0), .int (nI t), .int (nI fx), .int which]) ++ List.replicate (9 - (lg_sl ([.ref (ad 0), .int (nI t), .int (nI fx), .int which])).length) Slot.unset).toArray = ls at hl ⊢
  have hl : lv_has ls 9 [(0, .ref (ad 0)), (1, .int (nI t)), (2, .int (nI fx)), (3, .int which)] := hl
  have S0 : CallFix pg m cod cX10_honest 9 s _ wsX10_honest RX10 := ⟨hx, hb, hml, hown, hts⟩
  refine lv_aload_n hx hb dX10_honest_0 rfl (lv_at hl 0 rfl) ?_
  refine lv_iload_n hx hb dX10_honest_1 rfl (lv_at hl 1 rfl) ?_
  refine kc_v (As := [.int (nI t)]) (rest := []) S0 (c_X10_findTrader l D tc s.heap.size ad ct (t := t) (nt := nt) h0 h3 (by omega) (by omega) hqt) (cwV 1 hts gX10_honest_X10_findTrader rfl rfl rfl (by decide +kernel) ⟨Nat.le_of_ble_eq_true rfl, Nat.le_of_ble_eq_true rfl⟩) hK hw h0 rfl rfl hl.1 rfl (Nat.le_of_ble_eq_true rfl) dX10_honest_2 ⟨Nat.le_of_ble_eq_true rfl, (Nat.le_of_ble_eq_true rfl)⟩ ?_
  refine lv_astore (lv' := [(4, .ref (ad (30 + t))), (0, .ref (ad 0)), (1, .int (nI t)), (2, .int (nI fx)), (3, .int which)]) hx hb dX10_honest_5 hl (by decide) rfl (fun ls hl => ?_)
  refine lv_aload_n hx hb dX10_honest_7 rfl (lv_at hl 1 rfl) ?_
  refine kg_get (v := .ref (ad 9)) (C := RX10) (T := TX10) (N := 9) hx hb hts hinX10 hown hK hw h0 rfl 4 (by decide) (hts (.fieldLink RX10 34 "BetMaker" "forecasts" "LBetMaker$Log;") (by decide +kernel)) (fun _ h9 => h9) rfl dX10_honest_8 ?_
  refine lv_iload_n hx hb dX10_honest_11 rfl (lv_at hl 3 rfl) ?_
  refine kc_v (As := [.int (nI fx)]) (rest := []) S0 (c_X2_find l D tc s.heap.size ad ct (fx := fx) (nf := nf) h9 h10 (by omega) (by omega) hq) (cwV 1 hts gX10_honest_X2_find rfl rfl rfl (by decide +kernel) ⟨Nat.le_of_ble_eq_true rfl, Nat.le_of_ble_eq_true rfl⟩) hK hw h9 rfl rfl hl.1 rfl (Nat.le_of_ble_eq_true rfl) dX10_honest_12 ⟨Nat.le_of_ble_eq_true rfl, (Nat.le_of_ble_eq_true rfl)⟩ ?_
  refine lv_astore (lv' := [(5, .ref (ad (100 + fx))), (4, .ref (ad (30 + t))), (0, .ref (ad 0)), (1, .int (nI t)), (2, .int (nI fx)), (3, .int which)]) hx hb dX10_honest_15 hl (by decide) rfl (fun ls hl => ?_)
  refine lv_aload hx hb dX10_honest_17 (lv_at hl 1 rfl) ?_
  refine lv_ifnull hx hb dX10_honest_19 ?_
  refine lv_aload hx hb dX10_honest_22 (lv_at hl 0 rfl) ?_
  refine lv_ifnull hx hb dX10_honest_24 ?_
  refine lv_iload_n hx hb dX10_honest_27 rfl (lv_at hl 5 rfl) ?_
  refine lv_if_lt (tgt := 36) hx hb dX10_honest_28 (by decide) (fun c_1 => ?_) (fun c_1 => ?_)
  · refine lv_ldc2 (v := (-9223372036854775808)) hx hb hown (hts (.constantLong RX10 85 (-9223372036854775808)) (by decide +kernel)) dX10_honest_36 ?_
    exact W.lret hx hb hr (fun t ht _ => ⟨rfl, ht⟩) (fun _ h => absurd h List.not_mem_nil) dX10_honest_39
  · refine lv_iload_n hx hb dX10_honest_31 rfl (lv_at hl 5 rfl) ?_
    refine lv_iconst (v := 1) hx hb dX10_honest_32 (by decide) ?_
    refine lv_icmp_le (tgt := 40) hx hb dX10_honest_33 (by decide) (fun c_2 => ?_) (fun c_2 => ?_)
    · exact absurd ⟨kq_1 c_1, c_2⟩ hbad
    · refine lv_ldc2 (v := (-9223372036854775808)) hx hb hown (hts (.constantLong RX10 85 (-9223372036854775808)) (by decide +kernel)) dX10_honest_36 ?_
      exact W.lret hx hb hr (fun t ht _ => ⟨rfl, ht⟩) (fun _ h => absurd h List.not_mem_nil) dX10_honest_39
set_option maxHeartbeats 4000000 in
set_option maxRecDepth 100000 in
theorem c_X10_honest (l : Launch) (D : va_G) (tc : Nat → ClassId) (sz : Nat) (ad : Nat → Nat) (ct : Nat → Option va_E) {N nt nf cf ci t fx : Nat} {b cm lf nb de : Int32} {ss g pu sm sq : Int64}  {qt qf : Nat → Option Nat} {we w : Nat → Int32}  {which : Int32} {u d : Nat} (h0 : ct 0 = some (.inr (10, [.ref (ad 1), .ref (ad 3), .int (nI nt), .ref (ad 4), .ref (ad 9), .ref (ad 11), .ref (ad 12), .ref (ad 13), .int lf]))) (h1 : ct 1 = some (.inr (3, [.ref (ad 2), .int (nI N), .int b, .long ss, .long g, .int cm]))) (h3 : ct 3 = some (eQ tc 4 6 qt)) (h9 : ct 9 = some (.inr (2, [.ref (ad 10), .int (nI nf)]))) (h10 : ct 10 = some (eQ tc 2 40 qf)) (h30 : ct (30 + t) = some (.inr (ci, [.int nb, .ref (ad (36 + t)), .ref (ad (42 + t)), .long pu, .int de]))) (h42 : ct (42 + t) = some (eI tc N we)) (h100 : ct (100 + fx) = some (.inr (1, [.ref (ad (140 + fx)), .int (nI cf), .long sm, .long sq]))) (h140 : ct (140 + fx) = some (eI tc N w)) (ht : t < nt) (hnt : nt ≤ 6) (hqt : qt t = some (ad (30 + t))) (hf : fx < nf) (hnf : nf ≤ 40) (hq : qf fx = some (ad (100 + fx))) (hci : ci = 5 ∨ ci = 7 ∨ ci = 9) (hN : N ≤ 8) (hwh : 0 ≤ which ∧ which ≤ 1) (hdd : sm * sm * su (fun c => (we c).toInt64) N = lN d) (hd0 : 0 < d) (hd3 : d < 2 ^ 30) (huu : (if 0 < su (fun c => (we c).toInt64 * (2 * sm * (w c).toInt64 - sq)) N then su (fun c => (we c).toInt64 * (2 * sm * (w c).toInt64 - sq)) N else -(su (fun c => (we c).toInt64 * (2 * sm * (w c).toInt64 - sq)) N)) = lN u) (hu3 : u < 2 ^ 30) : Met l yX10_honest wsX10_honest ({ frames := 2, cells := 0, slots := 0, locals := 60 }) (va_Pc [.ref (ad 0), .int (nI t), .int (nI fx), .int which] (kw_B D tc sz ad ct)) (k2_QcV (.long (if which = 0 then (su (fun c => (we c).toInt64 * (2 * sm * (w c).toInt64 - sq)) N) / lN (Nat.gcd u d) else (sm * sm * su (fun c => (we c).toInt64) N) / lN (Nat.gcd u d)))) 0 0 (fun _ => False) := by
  refine Met.ofW (cc := cX10_honest) (maxL := 9) (ret := (some .long)) (by decide) rfl ?_
  intro pg en s m args below meth cod s₁ B hml hv
  obtain ⟨rfl, hsz, hP0, hK⟩ := hv
  have hx := B.exec
  have hb := B.bytes
  have hr := B.returns
  have hts := atoms_spec (ws := wsX10_honest) B.pre
  have hown : s.vm.findClass RX10 = some m.cls := findClass_of_methodNamed B.named
  have hlocks := B.notSynchronized
  subst hsz
  have hw := kw_H.start hP0
  generalize kw_A ad ct s.heap.size = A at hw
  have hinX10 : ∀ w ∈ wsX100, w ∈ wsX10_honest := by decide +kernel
  have hl := lv_entry ([.ref (ad 0), .int (nI t), .int (nI fx), .int which]) (n := 9) (Nat.le_of_ble_eq_true rfl)
  rw [lg_entry_eq]
  generalize (lg_sl ([.ref (ad 0), .int (nI t), .int (nI fx), .int which]) ++ List.replicate (9 - (lg_sl ([.ref (ad 0), .int (nI t), .int (nI fx), .int which])).length) Slot.unset).toArray = ls at hl ⊢
  have hl : lv_has ls 9 [(0, .ref (ad 0)), (1, .int (nI t)), (2, .int (nI fx)), (3, .int which)] := hl
  have S0 : CallFix pg m cod cX10_honest 9 s _ wsX10_honest RX10 := ⟨hx, hb, hml, hown, hts⟩
  have hw2 : ¬ (which < 0) := kq_4 hwh.1
  have hw3 : which ≤ 1 := hwh.2
  refine lv_aload_n hx hb dX10_honest_0 rfl (lv_at hl 0 rfl) ?_
  refine lv_iload_n hx hb dX10_honest_1 rfl (lv_at hl 1 rfl) ?_
  refine kc_v (As := [.int (nI t)]) (rest := []) S0 (c_X10_findTrader l D tc s.heap.size ad ct (t := t) (nt := nt) h0 h3 (by omega) (by omega) hqt) (cwV 1 hts gX10_honest_X10_findTrader rfl rfl rfl (by decide +kernel) ⟨Nat.le_of_ble_eq_true rfl, Nat.le_of_ble_eq_true rfl⟩) hK hw h0 rfl rfl hl.1 rfl (Nat.le_of_ble_eq_true rfl) dX10_honest_2 ⟨Nat.le_of_ble_eq_true rfl, (Nat.le_of_ble_eq_true rfl)⟩ ?_
  refine lv_astore (lv' := [(4, .ref (ad (30 + t))), (0, .ref (ad 0)), (1, .int (nI t)), (2, .int (nI fx)), (3, .int which)]) hx hb dX10_honest_5 hl (by decide) rfl (fun ls hl => ?_)
  refine lv_aload_n hx hb dX10_honest_7 rfl (lv_at hl 1 rfl) ?_
  refine kg_get (v := .ref (ad 9)) (C := RX10) (T := TX10) (N := 9) hx hb hts hinX10 hown hK hw h0 rfl 4 (by decide) (hts (.fieldLink RX10 34 "BetMaker" "forecasts" "LBetMaker$Log;") (by decide +kernel)) (fun _ h9 => h9) rfl dX10_honest_8 ?_
  refine lv_iload_n hx hb dX10_honest_11 rfl (lv_at hl 3 rfl) ?_
  refine kc_v (As := [.int (nI fx)]) (rest := []) S0 (c_X2_find l D tc s.heap.size ad ct (fx := fx) (nf := nf) h9 h10 (by omega) (by omega) hq) (cwV 1 hts gX10_honest_X2_find rfl rfl rfl (by decide +kernel) ⟨Nat.le_of_ble_eq_true rfl, Nat.le_of_ble_eq_true rfl⟩) hK hw h9 rfl rfl hl.1 rfl (Nat.le_of_ble_eq_true rfl) dX10_honest_12 ⟨Nat.le_of_ble_eq_true rfl, (Nat.le_of_ble_eq_true rfl)⟩ ?_
  refine lv_astore (lv' := [(5, .ref (ad (100 + fx))), (4, .ref (ad (30 + t))), (0, .ref (ad 0)), (1, .int (nI t)), (2, .int (nI fx)), (3, .int which)]) hx hb dX10_honest_15 hl (by decide) rfl (fun ls hl => ?_)
  refine lv_aload hx hb dX10_honest_17 (lv_at hl 1 rfl) ?_
  refine lv_ifnull hx hb dX10_honest_19 ?_
  refine lv_aload hx hb dX10_honest_22 (lv_at hl 0 rfl) ?_
  refine lv_ifnull hx hb dX10_honest_24 ?_
  refine lv_iload_n hx hb dX10_honest_27 rfl (lv_at hl 5 rfl) ?_
  refine lv_if_lt (tgt := 36) hx hb dX10_honest_28 (by decide) (fun c_1 => ?_) (fun c_1 => ?_)
  · exact absurd c_1 hw2
  · refine lv_iload_n hx hb dX10_honest_31 rfl (lv_at hl 5 rfl) ?_
    refine lv_iconst (v := 1) hx hb dX10_honest_32 (by decide) ?_
    refine lv_icmp_le (tgt := 40) hx hb dX10_honest_33 (by decide) (fun c_2 => ?_) (fun c_2 => ?_)
    · refine lv_lconst (v := 0) hx hb dX10_honest_40 (by decide) ?_
      refine lv_lstore (lv' := [(6, .long 0), (5, .ref (ad (100 + fx))), (4, .ref (ad (30 + t))), (0, .ref (ad 0)), (1, .int (nI t)), (2, .int (nI fx)), (3, .int which)]) hx hb dX10_honest_41 hl (by decide) rfl (fun ls hl => ?_)
      refine lv_iconst (v := 0) hx hb dX10_honest_43 (by decide) ?_
      refine lv_istore (lv' := [(8, .int 0), (6, .long 0), (5, .ref (ad (100 + fx))), (4, .ref (ad (30 + t))), (0, .ref (ad 0)), (1, .int (nI t)), (2, .int (nI fx)), (3, .int which)]) hx hb dX10_honest_44 hl (by decide) rfl (fun ls hl => ?_)
      suffices lp46 : ∀ (nfu : Nat) (i : Nat) (acc : Int64) (ls : Array Slot), N - i < nfu → i ≤ N → acc = su (fun c => (we c).toInt64 * (2 * sm * (w c).toInt64 - sq)) i → lv_has ls 9 [(0, .ref (ad 0)), (1, .int (nI t)), (2, .int (nI fx)), (3, .int which), (4, .ref (ad (30 + t))), (5, .ref (ad (100 + fx))), (6, .long acc), (8, .int (nI i))] → W pg l en (headSpec wsX10_honest ({ frames := 2, cells := 0, slots := 0, locals := 60 })).room s m (([.ref (ad 0), .int (nI t), .int (nI fx), .int which] : List Value).toArray) below meth cod s.heap [] 0 0 (MQ below (k2_QcV (.long (if which = 0 then (su (fun c => (we c).toInt64 * (2 * sm * (w c).toInt64 - sq)) N) / lN (Nat.gcd u d) else (sm * sm * su (fun c => (we c).toInt64) N) / lN (Nat.gcd u d)))) (([.ref (ad 0), .int (nI t), .int (nI fx), .int which] : List Value).toArray) s 0 0 (fun _ => False)) (F0 m 46 ls []) by
        exact lp46 (N - 0 + 1) 0 0 ls (by omega) (by omega) (by rfl) (by have hl9 := lv_sub hl (l' := [(0, .ref (ad 0)), (1, .int (nI t)), (2, .int (nI fx)), (3, .int which), (4, .ref (ad (30 + t))), (5, .ref (ad (100 + fx))), (6, .long 0), (8, .int 0)]) [4, 5, 6, 7, 3, 2, 1, 0] rfl; exact hl9)
      intro n46
      induction n46 with
      | zero => intro i acc ls hfu; exact absurd hfu (Nat.not_lt_zero _)
      | succ n46 ih46 =>
        intro i acc ls hfu46 hi ha hl
        refine lv_iload hx hb dX10_honest_46 (lv_at hl 7 rfl) ?_
        refine lv_aload_n hx hb dX10_honest_48 rfl (lv_at hl 0 rfl) ?_
        refine kg_get (v := .ref (ad 1)) (C := RX10) (T := TX10) (N := 9) hx hb hts hinX10 hown hK hw h0 rfl 0 (by decide) (hts (.fieldLink RX10 12 "BetMaker" "maker" "LBetMaker$Maker;") (by decide +kernel)) (fun _ h9 => h9) rfl dX10_honest_49 ?_
        refine kc_v (As := []) (rest := [.int (nI i)]) S0 (c_X3_cases l D tc s.heap.size ad ct (N := N) h1) (cwV 0 hts gX10_honest_X3_cases rfl rfl rfl (by decide +kernel) ⟨Nat.le_of_ble_eq_true rfl, Nat.le_of_ble_eq_true rfl⟩) hK hw h1 rfl rfl hl.1 rfl (Nat.le_of_ble_eq_true rfl) dX10_honest_52 ⟨Nat.le_of_ble_eq_true rfl, (Nat.le_of_ble_eq_true rfl)⟩ ?_
        refine kn_ge i N rfl rfl (by omega) (by omega) (tgt := 85) hx hb dX10_honest_55 (by decide) (fun c_3 => ?_) (fun c_3 => ?_)
        · have hB : acc = su (fun c => (we c).toInt64 * (2 * sm * (w c).toInt64 - sq)) N := by rw [ha, show i = N by omega]
          refine lv_lload hx hb dX10_honest_85 (lv_at hl 6 rfl) ?_
          refine lv_aload hx hb dX10_honest_87 (lv_at hl 5 rfl) ?_
          refine kc_v (As := []) (rest := [.long acc]) S0 (c_X1_scoreLower l D tc s.heap.size ad ct (cf := cf) h100) (cwV 0 hts gX10_honest_X1_scoreLower rfl rfl rfl (by decide +kernel) ⟨Nat.le_of_ble_eq_true rfl, Nat.le_of_ble_eq_true rfl⟩) hK hw h100 rfl rfl hl.1 rfl (Nat.le_of_ble_eq_true rfl) dX10_honest_89 ⟨Nat.le_of_ble_eq_true rfl, (Nat.le_of_ble_eq_true rfl)⟩ ?_
          refine lv_aload hx hb dX10_honest_92 (lv_at hl 4 rfl) ?_
          refine kt_v (As := []) (rest := [.long (sm * sm), .long acc]) S0 hci (c_X5_weightSum l D tc s.heap.size ad ct h30 h42 hci (by omega)) (cwV 0 hts gX10_honest_X5_weightSum rfl rfl rfl (by decide +kernel) ⟨Nat.le_of_ble_eq_true rfl, Nat.le_of_ble_eq_true rfl⟩) (va_cwU 0 hts gX10_honest_X5_weightSum_u163X7 rfl rfl rfl rfl (by decide +kernel) ⟨Nat.le_of_ble_eq_true rfl, Nat.le_of_ble_eq_true rfl⟩) (va_cwU 0 hts gX10_honest_X5_weightSum_u163X9 rfl rfl rfl rfl (by decide +kernel) ⟨Nat.le_of_ble_eq_true rfl, Nat.le_of_ble_eq_true rfl⟩) hK hw h30 rfl hl.1 rfl (Nat.le_of_ble_eq_true rfl) dX10_honest_94 ⟨Nat.le_of_ble_eq_true rfl, (Nat.le_of_ble_eq_true rfl)⟩ ?_
          refine lv_lmul hx hb dX10_honest_97 ?_
          refine lv_iload_n hx hb dX10_honest_98 rfl (lv_at hl 3 rfl) ?_
          refine kc_s (As := [.long acc, .long ((sm * sm) * (su (fun c => (we c).toInt64) N)), .int which]) (rest := []) S0 (c_X10_leastTerms l D tc s.heap.size ad ct hdd hd0 hd3 (by rw [hB]; exact huu) hu3) (va_cwS 3 hts gX10_honest_X10_leastTerms rfl rfl rfl (by decide +kernel) ⟨Nat.le_of_ble_eq_true rfl, Nat.le_of_ble_eq_true rfl⟩) hK hw rfl hl.1 rfl (Nat.le_of_ble_eq_true rfl) dX10_honest_99 ⟨Nat.le_of_ble_eq_true rfl, (Nat.le_of_ble_eq_true rfl)⟩ ?_
          refine W.eq (congrArg (fun z => F0 m 102 ls [.long z]) (show (if which = 0 then acc / lN (Nat.gcd u d) else ((sm * sm) * (su (fun c => (we c).toInt64) N)) / lN (Nat.gcd u d)) = (if which = 0 then (su (fun c => (we c).toInt64 * (2 * sm * (w c).toInt64 - sq)) N) / lN (Nat.gcd u d) else (sm * sm * su (fun c => (we c).toInt64) N) / lN (Nat.gcd u d)) from by rw [hB])) ?_
          exact W.lret hx hb hr (fun t ht _ => ⟨rfl, ht⟩) (fun _ h => absurd h List.not_mem_nil) dX10_honest_102
        · refine lv_lload hx hb dX10_honest_58 (lv_at hl 6 rfl) ?_
          refine lv_aload hx hb dX10_honest_60 (lv_at hl 4 rfl) ?_
          refine lv_iload hx hb dX10_honest_62 (lv_at hl 7 rfl) ?_
          refine kt_v (As := [.int (nI i)]) (rest := [.long acc]) S0 hci (c_X5_weightOf l D tc s.heap.size ad ct (c := i) h30 h42 hci (by omega) (by omega)) (cwV 1 hts gX10_honest_X5_weightOf rfl rfl rfl (by decide +kernel) ⟨Nat.le_of_ble_eq_true rfl, Nat.le_of_ble_eq_true rfl⟩) (va_cwU 1 hts gX10_honest_X5_weightOf_u173X7 rfl rfl rfl rfl (by decide +kernel) ⟨Nat.le_of_ble_eq_true rfl, Nat.le_of_ble_eq_true rfl⟩) (va_cwU 1 hts gX10_honest_X5_weightOf_u173X9 rfl rfl rfl rfl (by decide +kernel) ⟨Nat.le_of_ble_eq_true rfl, Nat.le_of_ble_eq_true rfl⟩) hK hw h30 rfl hl.1 rfl (Nat.le_of_ble_eq_true rfl) dX10_honest_64 ⟨Nat.le_of_ble_eq_true rfl, (Nat.le_of_ble_eq_true rfl)⟩ ?_
          refine lv_i2l (v := (we i).toInt64) hx hb dX10_honest_67 rfl ?_
          refine lv_aload hx hb dX10_honest_68 (lv_at hl 5 rfl) ?_
          refine lv_iload hx hb dX10_honest_70 (lv_at hl 7 rfl) ?_
          refine kc_v (As := [.int (nI i)]) (rest := [.long ((we i).toInt64), .long acc]) S0 (c_X1_scoreUpper l D tc s.heap.size ad ct (c := i) (cf := cf) h100 h140 (by omega) (by omega)) (cwV 1 hts gX10_honest_X1_scoreUpper rfl rfl rfl (by decide +kernel) ⟨Nat.le_of_ble_eq_true rfl, Nat.le_of_ble_eq_true rfl⟩) hK hw h100 rfl rfl hl.1 rfl (Nat.le_of_ble_eq_true rfl) dX10_honest_72 ⟨Nat.le_of_ble_eq_true rfl, (Nat.le_of_ble_eq_true rfl)⟩ ?_
          refine lv_lmul hx hb dX10_honest_75 ?_
          refine lv_ladd hx hb dX10_honest_76 ?_
          refine lv_lstore (lv' := [(6, .long (acc + (((we i).toInt64) * (2 * sm * (w i).toInt64 - sq)))), (0, .ref (ad 0)), (1, .int (nI t)), (2, .int (nI fx)), (3, .int which), (4, .ref (ad (30 + t))), (5, .ref (ad (100 + fx))), (8, .int (nI i))]) hx hb dX10_honest_77 hl (by decide) rfl (fun ls hl => ?_)
          refine lv_iinc (v := (nI (i + 1))) (lv' := [(8, .int (nI (i + 1))), (6, .long (acc + (((we i).toInt64) * (2 * sm * (w i).toInt64 - sq)))), (0, .ref (ad 0)), (1, .int (nI t)), (2, .int (nI fx)), (3, .int which), (4, .ref (ad (30 + t))), (5, .ref (ad (100 + fx)))]) hx hb dX10_honest_79 hl (k := 7) rfl (nI_1 i) (by decide) rfl (fun ls hl => ?_)
          refine lv_goto (tgt := 46) hx hb dX10_honest_82 (by decide) ?_
          exact ih46 (i + 1) (acc + (((we i).toInt64) * (2 * sm * (w i).toInt64 - sq))) ls (by omega) (by omega) (by rw [ha]; rfl) (lv_sub hl [2, 3, 4, 5, 6, 7, 1, 0] rfl)
    · exact absurd hw3 c_2
set_option maxHeartbeats 4000000 in
set_option maxRecDepth 100000 in
theorem c_X10_held_n (l : Launch) (D : va_G) (tc : Nat → ClassId) (sz : Nat) (ad : Nat → Nat) (ct : Nat → Option va_E) {N nt : Nat} {b cm lf : Int32} {ss g : Int64}     {c t1 what : Int32} (h0 : ct 0 = some (.inr (10, [.ref (ad 1), .ref (ad 3), .int (nI nt), .ref (ad 4), .ref (ad 9), .ref (ad 11), .ref (ad 12), .ref (ad 13), .int lf]))) (h1 : ct 1 = some (.inr (3, [.ref (ad 2), .int (nI N), .int b, .long ss, .long g, .int cm]))) (hbad : ¬ ((0 ≤ c ∧ c < nI N) ∧ 0 ≤ t1 ∧ t1 ≤ 10)) : Met l yX10_held wsX10_held ({ frames := 3, cells := 0, slots := 0, locals := 80 }) (va_Pc [.ref (ad 0), .int c, .int t1, .int what] (kw_B D tc sz ad ct)) (k2_QcV (.long (-9223372036854775808))) 0 0 (fun _ => False) := by
  refine Met.ofW (cc := cX10_held) (maxL := 6) (ret := (some .long)) (by decide) rfl ?_
  intro pg en s m args below meth cod s₁ B hml hv
  obtain ⟨rfl, hsz, hP0, hK⟩ := hv
  have hx := B.exec
  have hb := B.bytes
  have hr := B.returns
  have hts := atoms_spec (ws := wsX10_held) B.pre
  have hown : s.vm.findClass RX10 = some m.cls := findClass_of_methodNamed B.named
  have hlocks := B.notSynchronized
  subst hsz
  have hw := kw_H.start hP0
  generalize kw_A ad ct s.heap.size = A at hw
  have hinX10 : ∀ w ∈ wsX100, w ∈ wsX10_held := by decide +kernel
  have hl := lv_entry ([.ref (ad 0), .int c, .int t1, .int what]) (n := 6) (Nat.le_of_ble_eq_true rfl)
  rw [lg_entry_eq]
  generalize (lg_sl ([.ref (ad 0), .int c, .int t1, .int what]) ++ List.replicate (6 - (lg_sl ([.ref (ad 0), .int c, .int t1, .int what])).length) Slot.unset).toArray = ls at hl ⊢
  have hl : lv_has ls 6 [(0, .ref (ad 0)), (1, .int c), (2, .int t1), (3, .int what)] := hl
  have S0 : CallFix pg m cod cX10_held 6 s _ wsX10_held RX10 := ⟨hx, hb, hml, hown, hts⟩
  refine lv_aload_n hx hb dX10_held_0 rfl (lv_at hl 0 rfl) ?_
  refine kg_get (v := .ref (ad 1)) (C := RX10) (T := TX10) (N := 9) hx hb hts hinX10 hown hK hw h0 rfl 0 (by decide) (hts (.fieldLink RX10 12 "BetMaker" "maker" "LBetMaker$Maker;") (by decide +kernel)) (fun _ h9 => h9) rfl dX10_held_1 ?_
  refine lv_iload_n hx hb dX10_held_4 rfl (lv_at hl 1 rfl) ?_
  refine kc_v (As := [.int c]) (rest := []) S0 (c_X3_isCase l D tc s.heap.size ad ct (N := N) h1) (cwV 1 hts gX10_held_X3_isCase rfl rfl rfl (by decide +kernel) ⟨Nat.le_of_ble_eq_true rfl, Nat.le_of_ble_eq_true rfl⟩) hK hw h1 rfl rfl hl.1 rfl (Nat.le_of_ble_eq_true rfl) dX10_held_5 ⟨Nat.le_of_ble_eq_true rfl, (Nat.le_of_ble_eq_true rfl)⟩ ?_
  refine kb_ifeq (tgt := 21) hx hb dX10_held_8 (by decide) (fun c_1 => ?_) (fun c_1 => ?_)
  · refine lv_ldc2 (v := (-9223372036854775808)) hx hb hown (hts (.constantLong RX10 85 (-9223372036854775808)) (by decide +kernel)) dX10_held_21 ?_
    exact W.lret hx hb hr (fun t ht _ => ⟨rfl, ht⟩) (fun _ h => absurd h List.not_mem_nil) dX10_held_24
  · refine lv_iload_n hx hb dX10_held_11 rfl (lv_at hl 2 rfl) ?_
    refine lv_if_lt (tgt := 21) hx hb dX10_held_12 (by decide) (fun c_2 => ?_) (fun c_2 => ?_)
    · refine lv_ldc2 (v := (-9223372036854775808)) hx hb hown (hts (.constantLong RX10 85 (-9223372036854775808)) (by decide +kernel)) dX10_held_21 ?_
      exact W.lret hx hb hr (fun t ht _ => ⟨rfl, ht⟩) (fun _ h => absurd h List.not_mem_nil) dX10_held_24
    · refine lv_iload_n hx hb dX10_held_15 rfl (lv_at hl 2 rfl) ?_
      refine lv_bipush (v := 10) hx hb dX10_held_16 (by decide) ?_
      refine lv_icmp_le (tgt := 25) hx hb dX10_held_18 (by decide) (fun c_3 => ?_) (fun c_3 => ?_)
      · exact absurd ⟨c_1, kq_1 c_2, c_3⟩ hbad
      · refine lv_ldc2 (v := (-9223372036854775808)) hx hb hown (hts (.constantLong RX10 85 (-9223372036854775808)) (by decide +kernel)) dX10_held_21 ?_
        exact W.lret hx hb hr (fun t ht _ => ⟨rfl, ht⟩) (fun _ h => absurd h List.not_mem_nil) dX10_held_24
set_option maxHeartbeats 4000000 in
set_option maxRecDepth 100000 in
theorem c_X10_held_0 (l : Launch) (D : va_G) (tc : Nat → ClassId) (sz : Nat) (ad : Nat → Nat) (ct : Nat → Option va_E) {N nt nf c : Nat} {b cm lf : Int32} {ss g : Int64}  {qf : Nat → Option Nat}   {cf : Nat → Nat} {sm sq : Nat → Int64} {w : Nat → Nat → Int32} {t1 : Int32} (h0 : ct 0 = some (.inr (10, [.ref (ad 1), .ref (ad 3), .int (nI nt), .ref (ad 4), .ref (ad 9), .ref (ad 11), .ref (ad 12), .ref (ad 13), .int lf]))) (h1 : ct 1 = some (.inr (3, [.ref (ad 2), .int (nI N), .int b, .long ss, .long g, .int cm]))) (h9 : ct 9 = some (.inr (2, [.ref (ad 10), .int (nI nf)]))) (h10 : ct 10 = some (eQ tc 2 40 qf)) (hc : c < N) (hN : N ≤ 8) (hnf : nf ≤ 40) (htt : 0 ≤ t1 ∧ t1 ≤ 10) (hfam : ∀ yy, yy < nf → (qf yy = some (ad (100 + yy)) ∧ cf yy < N) ∧ ct (100 + yy) = some (.inr (1, [.ref (ad (140 + yy)), .int (nI (cf yy)), .long (sm yy), .long (sq yy)])) ∧ ct (140 + yy) = some (eI tc N (w yy))) : Met l yX10_held wsX10_held ({ frames := 3, cells := 0, slots := 0, locals := 80 }) (va_Pc [.ref (ad 0), .int (nI c), .int t1, .int 0] (kw_B D tc sz ad ct)) (k2_QcV (.long ((nI (kcn (fun z => decide (10 * (w z c).toInt64 = t1.toInt64 * sm z)) nf)).toInt64))) 0 0 (fun _ => False) := by
  refine Met.ofW (cc := cX10_held) (maxL := 6) (ret := (some .long)) (by decide) rfl ?_
  intro pg en s m args below meth cod s₁ B hml hv
  obtain ⟨rfl, hsz, hP0, hK⟩ := hv
  have hx := B.exec
  have hb := B.bytes
  have hr := B.returns
  have hts := atoms_spec (ws := wsX10_held) B.pre
  have hown : s.vm.findClass RX10 = some m.cls := findClass_of_methodNamed B.named
  have hlocks := B.notSynchronized
  subst hsz
  have hw := kw_H.start hP0
  generalize kw_A ad ct s.heap.size = A at hw
  have hinX10 : ∀ w ∈ wsX100, w ∈ wsX10_held := by decide +kernel
  have hl := lv_entry ([.ref (ad 0), .int (nI c), .int t1, .int 0]) (n := 6) (Nat.le_of_ble_eq_true rfl)
  rw [lg_entry_eq]
  generalize (lg_sl ([.ref (ad 0), .int (nI c), .int t1, .int 0]) ++ List.replicate (6 - (lg_sl ([.ref (ad 0), .int (nI c), .int t1, .int 0])).length) Slot.unset).toArray = ls at hl ⊢
  have hl : lv_has ls 6 [(0, .ref (ad 0)), (1, .int (nI c)), (2, .int t1), (3, .int 0)] := hl
  have S0 : CallFix pg m cod cX10_held 6 s _ wsX10_held RX10 := ⟨hx, hb, hml, hown, hts⟩
  have kC : 0 ≤ nI c ∧ nI c < nI N := ⟨nI_pos' (by omega), nI_lt hc (by omega)⟩
  have ht2 : ¬ (t1 < 0) := kq_4 htt.1
  have ht3 : t1 ≤ 10 := htt.2
  refine lv_aload_n hx hb dX10_held_0 rfl (lv_at hl 0 rfl) ?_
  refine kg_get (v := .ref (ad 1)) (C := RX10) (T := TX10) (N := 9) hx hb hts hinX10 hown hK hw h0 rfl 0 (by decide) (hts (.fieldLink RX10 12 "BetMaker" "maker" "LBetMaker$Maker;") (by decide +kernel)) (fun _ h9 => h9) rfl dX10_held_1 ?_
  refine lv_iload_n hx hb dX10_held_4 rfl (lv_at hl 1 rfl) ?_
  refine kc_v (As := [.int (nI c)]) (rest := []) S0 (c_X3_isCase l D tc s.heap.size ad ct (N := N) h1) (cwV 1 hts gX10_held_X3_isCase rfl rfl rfl (by decide +kernel) ⟨Nat.le_of_ble_eq_true rfl, Nat.le_of_ble_eq_true rfl⟩) hK hw h1 rfl rfl hl.1 rfl (Nat.le_of_ble_eq_true rfl) dX10_held_5 ⟨Nat.le_of_ble_eq_true rfl, (Nat.le_of_ble_eq_true rfl)⟩ ?_
  refine kb_ifeq (tgt := 21) hx hb dX10_held_8 (by decide) (fun c_1 => ?_) (fun c_1 => ?_)
  · exact absurd kC c_1
  · refine lv_iload_n hx hb dX10_held_11 rfl (lv_at hl 2 rfl) ?_
    refine lv_if_lt (tgt := 21) hx hb dX10_held_12 (by decide) (fun c_2 => ?_) (fun c_2 => ?_)
    · exact absurd c_2 ht2
    · refine lv_iload_n hx hb dX10_held_15 rfl (lv_at hl 2 rfl) ?_
      refine lv_bipush (v := 10) hx hb dX10_held_16 (by decide) ?_
      refine lv_icmp_le (tgt := 25) hx hb dX10_held_18 (by decide) (fun c_3 => ?_) (fun c_3 => ?_)
      · refine lv_aload_n hx hb dX10_held_25 rfl (lv_at hl 0 rfl) ?_
        refine kg_get (v := .ref (ad 9)) (C := RX10) (T := TX10) (N := 9) hx hb hts hinX10 hown hK hw h0 rfl 4 (by decide) (hts (.fieldLink RX10 34 "BetMaker" "forecasts" "LBetMaker$Log;") (by decide +kernel)) (fun _ h9 => h9) rfl dX10_held_26 ?_
        refine lv_iload_n hx hb dX10_held_29 rfl (lv_at hl 1 rfl) ?_
        refine lv_iload_n hx hb dX10_held_30 rfl (lv_at hl 2 rfl) ?_
        refine kc_v (As := [.int (nI c), .int t1]) (rest := []) S0 (c_X2_countGiven l D tc s.heap.size ad ct (c := c) (nf := nf) h9 h10 hnf hc hN hfam) (cwV 2 hts gX10_held_X2_countGiven rfl rfl rfl (by decide +kernel) ⟨Nat.le_of_ble_eq_true rfl, Nat.le_of_ble_eq_true rfl⟩) hK hw h9 rfl rfl hl.1 rfl (Nat.le_of_ble_eq_true rfl) dX10_held_31 ⟨Nat.le_of_ble_eq_true rfl, (Nat.le_of_ble_eq_true rfl)⟩ ?_
        refine lv_istore (lv' := [(4, .int (nI (kcn (fun z => decide (10 * (w z c).toInt64 = t1.toInt64 * sm z)) nf))), (0, .ref (ad 0)), (1, .int (nI c)), (2, .int t1), (3, .int 0)]) hx hb dX10_held_34 hl (by decide) rfl (fun ls hl => ?_)
        refine lv_aload_n hx hb dX10_held_36 rfl (lv_at hl 1 rfl) ?_
        refine kg_get (v := .ref (ad 9)) (C := RX10) (T := TX10) (N := 9) hx hb hts hinX10 hown hK hw h0 rfl 4 (by decide) (hts (.fieldLink RX10 34 "BetMaker" "forecasts" "LBetMaker$Log;") (by decide +kernel)) (fun _ h9 => h9) rfl dX10_held_37 ?_
        refine lv_iload_n hx hb dX10_held_40 rfl (lv_at hl 2 rfl) ?_
        refine lv_iload_n hx hb dX10_held_41 rfl (lv_at hl 3 rfl) ?_
        refine kc_v (As := [.int (nI c), .int t1]) (rest := []) S0 (c_X2_countCame l D tc s.heap.size ad ct (c := c) (nf := nf) h9 h10 hnf hc hN hfam) (cwV 2 hts gX10_held_X2_countCame rfl rfl rfl (by decide +kernel) ⟨Nat.le_of_ble_eq_true rfl, Nat.le_of_ble_eq_true rfl⟩) hK hw h9 rfl rfl hl.1 rfl (Nat.le_of_ble_eq_true rfl) dX10_held_42 ⟨Nat.le_of_ble_eq_true rfl, (Nat.le_of_ble_eq_true rfl)⟩ ?_
        refine lv_istore (lv' := [(5, .int (nI (kcn (fun z => decide (cf z = c) && decide (10 * (w z c).toInt64 = t1.toInt64 * sm z)) nf))), (4, .int (nI (kcn (fun z => decide (10 * (w z c).toInt64 = t1.toInt64 * sm z)) nf))), (0, .ref (ad 0)), (1, .int (nI c)), (2, .int t1), (3, .int 0)]) hx hb dX10_held_45 hl (by decide) rfl (fun ls hl => ?_)
        refine lv_iload_n hx hb dX10_held_47 rfl (lv_at hl 5 rfl) ?_
        refine lv_tableIn (off := 28) (tgt := 76) hx hb dX10_held_48 (by decide) (by decide) (by decide) (by decide) ?_
        refine lv_iload hx hb dX10_held_76 (lv_at hl 1 rfl) ?_
        refine lv_i2l (v := (nI (kcn (fun z => decide (10 * (w z c).toInt64 = t1.toInt64 * sm z)) nf)).toInt64) hx hb dX10_held_78 rfl ?_
        exact W.lret hx hb hr (fun t ht _ => ⟨rfl, ht⟩) (fun _ h => absurd h List.not_mem_nil) dX10_held_79
      · exact absurd ht3 c_3
set_option maxHeartbeats 4000000 in
set_option maxRecDepth 100000 in
theorem c_X10_held_1 (l : Launch) (D : va_G) (tc : Nat → ClassId) (sz : Nat) (ad : Nat → Nat) (ct : Nat → Option va_E) {N nt nf c : Nat} {b cm lf : Int32} {ss g : Int64}  {qf : Nat → Option Nat}   {cf : Nat → Nat} {sm sq : Nat → Int64} {w : Nat → Nat → Int32} {t1 : Int32} (h0 : ct 0 = some (.inr (10, [.ref (ad 1), .ref (ad 3), .int (nI nt), .ref (ad 4), .ref (ad 9), .ref (ad 11), .ref (ad 12), .ref (ad 13), .int lf]))) (h1 : ct 1 = some (.inr (3, [.ref (ad 2), .int (nI N), .int b, .long ss, .long g, .int cm]))) (h9 : ct 9 = some (.inr (2, [.ref (ad 10), .int (nI nf)]))) (h10 : ct 10 = some (eQ tc 2 40 qf)) (hc : c < N) (hN : N ≤ 8) (hnf : nf ≤ 40) (htt : 0 ≤ t1 ∧ t1 ≤ 10) (hfam : ∀ yy, yy < nf → (qf yy = some (ad (100 + yy)) ∧ cf yy < N) ∧ ct (100 + yy) = some (.inr (1, [.ref (ad (140 + yy)), .int (nI (cf yy)), .long (sm yy), .long (sq yy)])) ∧ ct (140 + yy) = some (eI tc N (w yy))) : Met l yX10_held wsX10_held ({ frames := 3, cells := 0, slots := 0, locals := 80 }) (va_Pc [.ref (ad 0), .int (nI c), .int t1, .int 1] (kw_B D tc sz ad ct)) (k2_QcV (.long ((nI (kcn (fun z => decide (cf z = c) && decide (10 * (w z c).toInt64 = t1.toInt64 * sm z)) nf)).toInt64))) 0 0 (fun _ => False) := by
  refine Met.ofW (cc := cX10_held) (maxL := 6) (ret := (some .long)) (by decide) rfl ?_
  intro pg en s m args below meth cod s₁ B hml hv
  obtain ⟨rfl, hsz, hP0, hK⟩ := hv
  have hx := B.exec
  have hb := B.bytes
  have hr := B.returns
  have hts := atoms_spec (ws := wsX10_held) B.pre
  have hown : s.vm.findClass RX10 = some m.cls := findClass_of_methodNamed B.named
  have hlocks := B.notSynchronized
  subst hsz
  have hw := kw_H.start hP0
  generalize kw_A ad ct s.heap.size = A at hw
  have hinX10 : ∀ w ∈ wsX100, w ∈ wsX10_held := by decide +kernel
  have hl := lv_entry ([.ref (ad 0), .int (nI c), .int t1, .int 1]) (n := 6) (Nat.le_of_ble_eq_true rfl)
  rw [lg_entry_eq]
  generalize (lg_sl ([.ref (ad 0), .int (nI c), .int t1, .int 1]) ++ List.replicate (6 - (lg_sl ([.ref (ad 0), .int (nI c), .int t1, .int 1])).length) Slot.unset).toArray = ls at hl ⊢
  have hl : lv_has ls 6 [(0, .ref (ad 0)), (1, .int (nI c)), (2, .int t1), (3, .int 1)] := hl
  have S0 : CallFix pg m cod cX10_held 6 s _ wsX10_held RX10 := ⟨hx, hb, hml, hown, hts⟩
  have kC : 0 ≤ nI c ∧ nI c < nI N := ⟨nI_pos' (by omega), nI_lt hc (by omega)⟩
  have ht2 : ¬ (t1 < 0) := kq_4 htt.1
  have ht3 : t1 ≤ 10 := htt.2
  refine lv_aload_n hx hb dX10_held_0 rfl (lv_at hl 0 rfl) ?_
  refine kg_get (v := .ref (ad 1)) (C := RX10) (T := TX10) (N := 9) hx hb hts hinX10 hown hK hw h0 rfl 0 (by decide) (hts (.fieldLink RX10 12 "BetMaker" "maker" "LBetMaker$Maker;") (by decide +kernel)) (fun _ h9 => h9) rfl dX10_held_1 ?_
  refine lv_iload_n hx hb dX10_held_4 rfl (lv_at hl 1 rfl) ?_
  refine kc_v (As := [.int (nI c)]) (rest := []) S0 (c_X3_isCase l D tc s.heap.size ad ct (N := N) h1) (cwV 1 hts gX10_held_X3_isCase rfl rfl rfl (by decide +kernel) ⟨Nat.le_of_ble_eq_true rfl, Nat.le_of_ble_eq_true rfl⟩) hK hw h1 rfl rfl hl.1 rfl (Nat.le_of_ble_eq_true rfl) dX10_held_5 ⟨Nat.le_of_ble_eq_true rfl, (Nat.le_of_ble_eq_true rfl)⟩ ?_
  refine kb_ifeq (tgt := 21) hx hb dX10_held_8 (by decide) (fun c_1 => ?_) (fun c_1 => ?_)
  · exact absurd kC c_1
  · refine lv_iload_n hx hb dX10_held_11 rfl (lv_at hl 2 rfl) ?_
    refine lv_if_lt (tgt := 21) hx hb dX10_held_12 (by decide) (fun c_2 => ?_) (fun c_2 => ?_)
    · exact absurd c_2 ht2
    · refine lv_iload_n hx hb dX10_held_15 rfl (lv_at hl 2 rfl) ?_
      refine lv_bipush (v := 10) hx hb dX10_held_16 (by decide) ?_
      refine lv_icmp_le (tgt := 25) hx hb dX10_held_18 (by decide) (fun c_3 => ?_) (fun c_3 => ?_)
      · refine lv_aload_n hx hb dX10_held_25 rfl (lv_at hl 0 rfl) ?_
        refine kg_get (v := .ref (ad 9)) (C := RX10) (T := TX10) (N := 9) hx hb hts hinX10 hown hK hw h0 rfl 4 (by decide) (hts (.fieldLink RX10 34 "BetMaker" "forecasts" "LBetMaker$Log;") (by decide +kernel)) (fun _ h9 => h9) rfl dX10_held_26 ?_
        refine lv_iload_n hx hb dX10_held_29 rfl (lv_at hl 1 rfl) ?_
        refine lv_iload_n hx hb dX10_held_30 rfl (lv_at hl 2 rfl) ?_
        refine kc_v (As := [.int (nI c), .int t1]) (rest := []) S0 (c_X2_countGiven l D tc s.heap.size ad ct (c := c) (nf := nf) h9 h10 hnf hc hN hfam) (cwV 2 hts gX10_held_X2_countGiven rfl rfl rfl (by decide +kernel) ⟨Nat.le_of_ble_eq_true rfl, Nat.le_of_ble_eq_true rfl⟩) hK hw h9 rfl rfl hl.1 rfl (Nat.le_of_ble_eq_true rfl) dX10_held_31 ⟨Nat.le_of_ble_eq_true rfl, (Nat.le_of_ble_eq_true rfl)⟩ ?_
        refine lv_istore (lv' := [(4, .int (nI (kcn (fun z => decide (10 * (w z c).toInt64 = t1.toInt64 * sm z)) nf))), (0, .ref (ad 0)), (1, .int (nI c)), (2, .int t1), (3, .int 1)]) hx hb dX10_held_34 hl (by decide) rfl (fun ls hl => ?_)
        refine lv_aload_n hx hb dX10_held_36 rfl (lv_at hl 1 rfl) ?_
        refine kg_get (v := .ref (ad 9)) (C := RX10) (T := TX10) (N := 9) hx hb hts hinX10 hown hK hw h0 rfl 4 (by decide) (hts (.fieldLink RX10 34 "BetMaker" "forecasts" "LBetMaker$Log;") (by decide +kernel)) (fun _ h9 => h9) rfl dX10_held_37 ?_
        refine lv_iload_n hx hb dX10_held_40 rfl (lv_at hl 2 rfl) ?_
        refine lv_iload_n hx hb dX10_held_41 rfl (lv_at hl 3 rfl) ?_
        refine kc_v (As := [.int (nI c), .int t1]) (rest := []) S0 (c_X2_countCame l D tc s.heap.size ad ct (c := c) (nf := nf) h9 h10 hnf hc hN hfam) (cwV 2 hts gX10_held_X2_countCame rfl rfl rfl (by decide +kernel) ⟨Nat.le_of_ble_eq_true rfl, Nat.le_of_ble_eq_true rfl⟩) hK hw h9 rfl rfl hl.1 rfl (Nat.le_of_ble_eq_true rfl) dX10_held_42 ⟨Nat.le_of_ble_eq_true rfl, (Nat.le_of_ble_eq_true rfl)⟩ ?_
        refine lv_istore (lv' := [(5, .int (nI (kcn (fun z => decide (cf z = c) && decide (10 * (w z c).toInt64 = t1.toInt64 * sm z)) nf))), (4, .int (nI (kcn (fun z => decide (10 * (w z c).toInt64 = t1.toInt64 * sm z)) nf))), (0, .ref (ad 0)), (1, .int (nI c)), (2, .int t1), (3, .int 1)]) hx hb dX10_held_45 hl (by decide) rfl (fun ls hl => ?_)
        refine lv_iload_n hx hb dX10_held_47 rfl (lv_at hl 5 rfl) ?_
        refine lv_tableIn (off := 32) (tgt := 80) hx hb dX10_held_48 (by decide) (by decide) (by decide) (by decide) ?_
        refine lv_iload hx hb dX10_held_80 (lv_at hl 0 rfl) ?_
        refine lv_i2l (v := (nI (kcn (fun z => decide (cf z = c) && decide (10 * (w z c).toInt64 = t1.toInt64 * sm z)) nf)).toInt64) hx hb dX10_held_82 rfl ?_
        exact W.lret hx hb hr (fun t ht _ => ⟨rfl, ht⟩) (fun _ h => absurd h List.not_mem_nil) dX10_held_83
      · exact absurd ht3 c_3
set_option maxHeartbeats 4000000 in
set_option maxRecDepth 100000 in
theorem c_X10_held_d (l : Launch) (D : va_G) (tc : Nat → ClassId) (sz : Nat) (ad : Nat → Nat) (ct : Nat → Option va_E) {N nt nf c : Nat} {b cm lf : Int32} {ss g : Int64}  {qf : Nat → Option Nat}   {cf : Nat → Nat} {sm sq : Nat → Int64} {w : Nat → Nat → Int32} {t1 : Int32} {what : Int32} (h0 : ct 0 = some (.inr (10, [.ref (ad 1), .ref (ad 3), .int (nI nt), .ref (ad 4), .ref (ad 9), .ref (ad 11), .ref (ad 12), .ref (ad 13), .int lf]))) (h1 : ct 1 = some (.inr (3, [.ref (ad 2), .int (nI N), .int b, .long ss, .long g, .int cm]))) (h9 : ct 9 = some (.inr (2, [.ref (ad 10), .int (nI nf)]))) (h10 : ct 10 = some (eQ tc 2 40 qf)) (hc : c < N) (hN : N ≤ 8) (hnf : nf ≤ 40) (htt : 0 ≤ t1 ∧ t1 ≤ 10) (hfam : ∀ yy, yy < nf → (qf yy = some (ad (100 + yy)) ∧ cf yy < N) ∧ ct (100 + yy) = some (.inr (1, [.ref (ad (140 + yy)), .int (nI (cf yy)), .long (sm yy), .long (sq yy)])) ∧ ct (140 + yy) = some (eI tc N (w yy))) (w0 : ¬ what = 0) (w1 : ¬ what = 1) (w2 : ¬ what = 2) : Met l yX10_held wsX10_held ({ frames := 3, cells := 0, slots := 0, locals := 80 }) (va_Pc [.ref (ad 0), .int (nI c), .int t1, .int what] (kw_B D tc sz ad ct)) (k2_QcV (.long (-9223372036854775808))) 0 0 (fun _ => False) := by
  refine Met.ofW (cc := cX10_held) (maxL := 6) (ret := (some .long)) (by decide) rfl ?_
  intro pg en s m args below meth cod s₁ B hml hv
  obtain ⟨rfl, hsz, hP0, hK⟩ := hv
  have hx := B.exec
  have hb := B.bytes
  have hr := B.returns
  have hts := atoms_spec (ws := wsX10_held) B.pre
  have hown : s.vm.findClass RX10 = some m.cls := findClass_of_methodNamed B.named
  have hlocks := B.notSynchronized
  subst hsz
  have hw := kw_H.start hP0
  generalize kw_A ad ct s.heap.size = A at hw
  have hinX10 : ∀ w ∈ wsX100, w ∈ wsX10_held := by decide +kernel
  have hl := lv_entry ([.ref (ad 0), .int (nI c), .int t1, .int what]) (n := 6) (Nat.le_of_ble_eq_true rfl)
  rw [lg_entry_eq]
  generalize (lg_sl ([.ref (ad 0), .int (nI c), .int t1, .int what]) ++ List.replicate (6 - (lg_sl ([.ref (ad 0), .int (nI c), .int t1, .int what])).length) Slot.unset).toArray = ls at hl ⊢
  have hl : lv_has ls 6 [(0, .ref (ad 0)), (1, .int (nI c)), (2, .int t1), (3, .int what)] := hl
  have S0 : CallFix pg m cod cX10_held 6 s _ wsX10_held RX10 := ⟨hx, hb, hml, hown, hts⟩
  have kC : 0 ≤ nI c ∧ nI c < nI N := ⟨nI_pos' (by omega), nI_lt hc (by omega)⟩
  have ht2 : ¬ (t1 < 0) := kq_4 htt.1
  have ht3 : t1 ≤ 10 := htt.2
  refine lv_aload_n hx hb dX10_held_0 rfl (lv_at hl 0 rfl) ?_
  refine kg_get (v := .ref (ad 1)) (C := RX10) (T := TX10) (N := 9) hx hb hts hinX10 hown hK hw h0 rfl 0 (by decide) (hts (.fieldLink RX10 12 "BetMaker" "maker" "LBetMaker$Maker;") (by decide +kernel)) (fun _ h9 => h9) rfl dX10_held_1 ?_
  refine lv_iload_n hx hb dX10_held_4 rfl (lv_at hl 1 rfl) ?_
  refine kc_v (As := [.int (nI c)]) (rest := []) S0 (c_X3_isCase l D tc s.heap.size ad ct (N := N) h1) (cwV 1 hts gX10_held_X3_isCase rfl rfl rfl (by decide +kernel) ⟨Nat.le_of_ble_eq_true rfl, Nat.le_of_ble_eq_true rfl⟩) hK hw h1 rfl rfl hl.1 rfl (Nat.le_of_ble_eq_true rfl) dX10_held_5 ⟨Nat.le_of_ble_eq_true rfl, (Nat.le_of_ble_eq_true rfl)⟩ ?_
  refine kb_ifeq (tgt := 21) hx hb dX10_held_8 (by decide) (fun c_1 => ?_) (fun c_1 => ?_)
  · exact absurd kC c_1
  · refine lv_iload_n hx hb dX10_held_11 rfl (lv_at hl 2 rfl) ?_
    refine lv_if_lt (tgt := 21) hx hb dX10_held_12 (by decide) (fun c_2 => ?_) (fun c_2 => ?_)
    · exact absurd c_2 ht2
    · refine lv_iload_n hx hb dX10_held_15 rfl (lv_at hl 2 rfl) ?_
      refine lv_bipush (v := 10) hx hb dX10_held_16 (by decide) ?_
      refine lv_icmp_le (tgt := 25) hx hb dX10_held_18 (by decide) (fun c_3 => ?_) (fun c_3 => ?_)
      · refine lv_aload_n hx hb dX10_held_25 rfl (lv_at hl 0 rfl) ?_
        refine kg_get (v := .ref (ad 9)) (C := RX10) (T := TX10) (N := 9) hx hb hts hinX10 hown hK hw h0 rfl 4 (by decide) (hts (.fieldLink RX10 34 "BetMaker" "forecasts" "LBetMaker$Log;") (by decide +kernel)) (fun _ h9 => h9) rfl dX10_held_26 ?_
        refine lv_iload_n hx hb dX10_held_29 rfl (lv_at hl 1 rfl) ?_
        refine lv_iload_n hx hb dX10_held_30 rfl (lv_at hl 2 rfl) ?_
        refine kc_v (As := [.int (nI c), .int t1]) (rest := []) S0 (c_X2_countGiven l D tc s.heap.size ad ct (c := c) (nf := nf) h9 h10 hnf hc hN hfam) (cwV 2 hts gX10_held_X2_countGiven rfl rfl rfl (by decide +kernel) ⟨Nat.le_of_ble_eq_true rfl, Nat.le_of_ble_eq_true rfl⟩) hK hw h9 rfl rfl hl.1 rfl (Nat.le_of_ble_eq_true rfl) dX10_held_31 ⟨Nat.le_of_ble_eq_true rfl, (Nat.le_of_ble_eq_true rfl)⟩ ?_
        refine lv_istore (lv' := [(4, .int (nI (kcn (fun z => decide (10 * (w z c).toInt64 = t1.toInt64 * sm z)) nf))), (0, .ref (ad 0)), (1, .int (nI c)), (2, .int t1), (3, .int what)]) hx hb dX10_held_34 hl (by decide) rfl (fun ls hl => ?_)
        refine lv_aload_n hx hb dX10_held_36 rfl (lv_at hl 1 rfl) ?_
        refine kg_get (v := .ref (ad 9)) (C := RX10) (T := TX10) (N := 9) hx hb hts hinX10 hown hK hw h0 rfl 4 (by decide) (hts (.fieldLink RX10 34 "BetMaker" "forecasts" "LBetMaker$Log;") (by decide +kernel)) (fun _ h9 => h9) rfl dX10_held_37 ?_
        refine lv_iload_n hx hb dX10_held_40 rfl (lv_at hl 2 rfl) ?_
        refine lv_iload_n hx hb dX10_held_41 rfl (lv_at hl 3 rfl) ?_
        refine kc_v (As := [.int (nI c), .int t1]) (rest := []) S0 (c_X2_countCame l D tc s.heap.size ad ct (c := c) (nf := nf) h9 h10 hnf hc hN hfam) (cwV 2 hts gX10_held_X2_countCame rfl rfl rfl (by decide +kernel) ⟨Nat.le_of_ble_eq_true rfl, Nat.le_of_ble_eq_true rfl⟩) hK hw h9 rfl rfl hl.1 rfl (Nat.le_of_ble_eq_true rfl) dX10_held_42 ⟨Nat.le_of_ble_eq_true rfl, (Nat.le_of_ble_eq_true rfl)⟩ ?_
        refine lv_istore (lv' := [(5, .int (nI (kcn (fun z => decide (cf z = c) && decide (10 * (w z c).toInt64 = t1.toInt64 * sm z)) nf))), (4, .int (nI (kcn (fun z => decide (10 * (w z c).toInt64 = t1.toInt64 * sm z)) nf))), (0, .ref (ad 0)), (1, .int (nI c)), (2, .int t1), (3, .int what)]) hx hb dX10_held_45 hl (by decide) rfl (fun ls hl => ?_)
        refine lv_iload_n hx hb dX10_held_47 rfl (lv_at hl 5 rfl) ?_
        refine lv_tableOut (tgt := 106) hx hb dX10_held_48 (by have q0 := lv_neT w0 (a := 0) (by decide); have q1 := lv_neT w1 (a := 1) (by decide); have q2 := lv_neT w2 (a := 2) (by decide); omega) (by decide) ?_
        refine lv_ldc2 (v := (-9223372036854775808)) hx hb hown (hts (.constantLong RX10 85 (-9223372036854775808)) (by decide +kernel)) dX10_held_106 ?_
        exact W.lret hx hb hr (fun t ht _ => ⟨rfl, ht⟩) (fun _ h => absurd h List.not_mem_nil) dX10_held_109
      · exact absurd ht3 c_3
set_option maxHeartbeats 4000000 in
set_option maxRecDepth 100000 in
theorem c_X10_held_2b (l : Launch) (D : va_G) (tc : Nat → ClassId) (sz : Nat) (ad : Nat → Nat) (ct : Nat → Option va_E) {N nt nf c : Nat} {b cm lf : Int32} {ss g : Int64}  {qf : Nat → Option Nat}   {cf : Nat → Nat} {sm sq : Nat → Int64} {w : Nat → Nat → Int32} {t1 : Int32} (h0 : ct 0 = some (.inr (10, [.ref (ad 1), .ref (ad 3), .int (nI nt), .ref (ad 4), .ref (ad 9), .ref (ad 11), .ref (ad 12), .ref (ad 13), .int lf]))) (h1 : ct 1 = some (.inr (3, [.ref (ad 2), .int (nI N), .int b, .long ss, .long g, .int cm]))) (h9 : ct 9 = some (.inr (2, [.ref (ad 10), .int (nI nf)]))) (h10 : ct 10 = some (eQ tc 2 40 qf)) (hc : c < N) (hN : N ≤ 8) (hnf : nf ≤ 40) (htt : 0 ≤ t1 ∧ t1 ≤ 10) (hfam : ∀ yy, yy < nf → (qf yy = some (ad (100 + yy)) ∧ cf yy < N) ∧ ct (100 + yy) = some (.inr (1, [.ref (ad (140 + yy)), .int (nI (cf yy)), .long (sm yy), .long (sq yy)])) ∧ ct (140 + yy) = some (eI tc N (w yy))) (hbig : 15 < kcn (fun z => decide (10 * (w z c).toInt64 = t1.toInt64 * sm z)) nf) : Met l yX10_held wsX10_held ({ frames := 3, cells := 0, slots := 0, locals := 80 }) (va_Pc [.ref (ad 0), .int (nI c), .int t1, .int 2] (kw_B D tc sz ad ct)) (k2_QcV (.long (-9223372036854775808))) 0 0 (fun _ => False) := by
  refine Met.ofW (cc := cX10_held) (maxL := 6) (ret := (some .long)) (by decide) rfl ?_
  intro pg en s m args below meth cod s₁ B hml hv
  obtain ⟨rfl, hsz, hP0, hK⟩ := hv
  have hx := B.exec
  have hb := B.bytes
  have hr := B.returns
  have hts := atoms_spec (ws := wsX10_held) B.pre
  have hown : s.vm.findClass RX10 = some m.cls := findClass_of_methodNamed B.named
  have hlocks := B.notSynchronized
  subst hsz
  have hw := kw_H.start hP0
  generalize kw_A ad ct s.heap.size = A at hw
  have hinX10 : ∀ w ∈ wsX100, w ∈ wsX10_held := by decide +kernel
  have hl := lv_entry ([.ref (ad 0), .int (nI c), .int t1, .int 2]) (n := 6) (Nat.le_of_ble_eq_true rfl)
  rw [lg_entry_eq]
  generalize (lg_sl ([.ref (ad 0), .int (nI c), .int t1, .int 2]) ++ List.replicate (6 - (lg_sl ([.ref (ad 0), .int (nI c), .int t1, .int 2])).length) Slot.unset).toArray = ls at hl ⊢
  have hl : lv_has ls 6 [(0, .ref (ad 0)), (1, .int (nI c)), (2, .int t1), (3, .int 2)] := hl
  have S0 : CallFix pg m cod cX10_held 6 s _ wsX10_held RX10 := ⟨hx, hb, hml, hown, hts⟩
  have kC : 0 ≤ nI c ∧ nI c < nI N := ⟨nI_pos' (by omega), nI_lt hc (by omega)⟩
  have ht2 : ¬ (t1 < 0) := kq_4 htt.1
  have ht3 : t1 ≤ 10 := htt.2
  have hle : kcn (fun z => decide (10 * (w z c).toInt64 = t1.toInt64 * sm z)) nf ≤ nf := kcn_le _ _
  refine lv_aload_n hx hb dX10_held_0 rfl (lv_at hl 0 rfl) ?_
  refine kg_get (v := .ref (ad 1)) (C := RX10) (T := TX10) (N := 9) hx hb hts hinX10 hown hK hw h0 rfl 0 (by decide) (hts (.fieldLink RX10 12 "BetMaker" "maker" "LBetMaker$Maker;") (by decide +kernel)) (fun _ h9 => h9) rfl dX10_held_1 ?_
  refine lv_iload_n hx hb dX10_held_4 rfl (lv_at hl 1 rfl) ?_
  refine kc_v (As := [.int (nI c)]) (rest := []) S0 (c_X3_isCase l D tc s.heap.size ad ct (N := N) h1) (cwV 1 hts gX10_held_X3_isCase rfl rfl rfl (by decide +kernel) ⟨Nat.le_of_ble_eq_true rfl, Nat.le_of_ble_eq_true rfl⟩) hK hw h1 rfl rfl hl.1 rfl (Nat.le_of_ble_eq_true rfl) dX10_held_5 ⟨Nat.le_of_ble_eq_true rfl, (Nat.le_of_ble_eq_true rfl)⟩ ?_
  refine kb_ifeq (tgt := 21) hx hb dX10_held_8 (by decide) (fun c_1 => ?_) (fun c_1 => ?_)
  · exact absurd kC c_1
  · refine lv_iload_n hx hb dX10_held_11 rfl (lv_at hl 2 rfl) ?_
    refine lv_if_lt (tgt := 21) hx hb dX10_held_12 (by decide) (fun c_2 => ?_) (fun c_2 => ?_)
    · exact absurd c_2 ht2
    · refine lv_iload_n hx hb dX10_held_15 rfl (lv_at hl 2 rfl) ?_
      refine lv_bipush (v := 10) hx hb dX10_held_16 (by decide) ?_
      refine lv_icmp_le (tgt := 25) hx hb dX10_held_18 (by decide) (fun c_3 => ?_) (fun c_3 => ?_)
      · refine lv_aload_n hx hb dX10_held_25 rfl (lv_at hl 0 rfl) ?_
        refine kg_get (v := .ref (ad 9)) (C := RX10) (T := TX10) (N := 9) hx hb hts hinX10 hown hK hw h0 rfl 4 (by decide) (hts (.fieldLink RX10 34 "BetMaker" "forecasts" "LBetMaker$Log;") (by decide +kernel)) (fun _ h9 => h9) rfl dX10_held_26 ?_
        refine lv_iload_n hx hb dX10_held_29 rfl (lv_at hl 1 rfl) ?_
        refine lv_iload_n hx hb dX10_held_30 rfl (lv_at hl 2 rfl) ?_
        refine kc_v (As := [.int (nI c), .int t1]) (rest := []) S0 (c_X2_countGiven l D tc s.heap.size ad ct (c := c) (nf := nf) h9 h10 hnf hc hN hfam) (cwV 2 hts gX10_held_X2_countGiven rfl rfl rfl (by decide +kernel) ⟨Nat.le_of_ble_eq_true rfl, Nat.le_of_ble_eq_true rfl⟩) hK hw h9 rfl rfl hl.1 rfl (Nat.le_of_ble_eq_true rfl) dX10_held_31 ⟨Nat.le_of_ble_eq_true rfl, (Nat.le_of_ble_eq_true rfl)⟩ ?_
        refine lv_istore (lv' := [(4, .int (nI (kcn (fun z => decide (10 * (w z c).toInt64 = t1.toInt64 * sm z)) nf))), (0, .ref (ad 0)), (1, .int (nI c)), (2, .int t1), (3, .int 2)]) hx hb dX10_held_34 hl (by decide) rfl (fun ls hl => ?_)
        refine lv_aload_n hx hb dX10_held_36 rfl (lv_at hl 1 rfl) ?_
        refine kg_get (v := .ref (ad 9)) (C := RX10) (T := TX10) (N := 9) hx hb hts hinX10 hown hK hw h0 rfl 4 (by decide) (hts (.fieldLink RX10 34 "BetMaker" "forecasts" "LBetMaker$Log;") (by decide +kernel)) (fun _ h9 => h9) rfl dX10_held_37 ?_
        refine lv_iload_n hx hb dX10_held_40 rfl (lv_at hl 2 rfl) ?_
        refine lv_iload_n hx hb dX10_held_41 rfl (lv_at hl 3 rfl) ?_
        refine kc_v (As := [.int (nI c), .int t1]) (rest := []) S0 (c_X2_countCame l D tc s.heap.size ad ct (c := c) (nf := nf) h9 h10 hnf hc hN hfam) (cwV 2 hts gX10_held_X2_countCame rfl rfl rfl (by decide +kernel) ⟨Nat.le_of_ble_eq_true rfl, Nat.le_of_ble_eq_true rfl⟩) hK hw h9 rfl rfl hl.1 rfl (Nat.le_of_ble_eq_true rfl) dX10_held_42 ⟨Nat.le_of_ble_eq_true rfl, (Nat.le_of_ble_eq_true rfl)⟩ ?_
        refine lv_istore (lv' := [(5, .int (nI (kcn (fun z => decide (cf z = c) && decide (10 * (w z c).toInt64 = t1.toInt64 * sm z)) nf))), (4, .int (nI (kcn (fun z => decide (10 * (w z c).toInt64 = t1.toInt64 * sm z)) nf))), (0, .ref (ad 0)), (1, .int (nI c)), (2, .int t1), (3, .int 2)]) hx hb dX10_held_45 hl (by decide) rfl (fun ls hl => ?_)
        refine lv_iload_n hx hb dX10_held_47 rfl (lv_at hl 5 rfl) ?_
        refine lv_tableIn (off := 36) (tgt := 84) hx hb dX10_held_48 (by decide) (by decide) (by decide) (by decide) ?_
        refine lv_iload hx hb dX10_held_84 (lv_at hl 1 rfl) ?_
        refine lv_bipush (v := 15) hx hb dX10_held_86 (by decide) ?_
        refine kn_le (kcn (fun z => decide (10 * (w z c).toInt64 = t1.toInt64 * sm z)) nf) 15 rfl rfl (by omega) (by omega) (tgt := 97) hx hb dX10_held_88 (by decide) (fun c_4 => ?_) (fun c_4 => ?_)
        · exfalso; omega
        · refine lv_ldc2 (v := (-9223372036854775808)) hx hb hown (hts (.constantLong RX10 85 (-9223372036854775808)) (by decide +kernel)) dX10_held_91 ?_
          refine lv_goto (tgt := 105) hx hb dX10_held_94 (by decide) ?_
          exact W.lret hx hb hr (fun t ht _ => ⟨rfl, ht⟩) (fun _ h => absurd h List.not_mem_nil) dX10_held_105
      · exact absurd ht3 c_3
set_option maxHeartbeats 4000000 in
set_option maxRecDepth 100000 in
theorem c_X10_held_2 (l : Launch) (D : va_G) (tc : Nat → ClassId) (sz : Nat) (ad : Nat → Nat) (ct : Nat → Option va_E) {N nt nf c : Nat} {b cm lf : Int32} {ss g : Int64}  {qf : Nat → Option Nat}   {cf : Nat → Nat} {sm sq : Nat → Int64} {w : Nat → Nat → Int32} {t1 : Int32} (h0 : ct 0 = some (.inr (10, [.ref (ad 1), .ref (ad 3), .int (nI nt), .ref (ad 4), .ref (ad 9), .ref (ad 11), .ref (ad 12), .ref (ad 13), .int lf]))) (h1 : ct 1 = some (.inr (3, [.ref (ad 2), .int (nI N), .int b, .long ss, .long g, .int cm]))) (h9 : ct 9 = some (.inr (2, [.ref (ad 10), .int (nI nf)]))) (h10 : ct 10 = some (eQ tc 2 40 qf)) (hc : c < N) (hN : N ≤ 8) (hnf : nf ≤ 40) (htt : 0 ≤ t1 ∧ t1 ≤ 10) (hfam : ∀ yy, yy < nf → (qf yy = some (ad (100 + yy)) ∧ cf yy < N) ∧ ct (100 + yy) = some (.inr (1, [.ref (ad (140 + yy)), .int (nI (cf yy)), .long (sm yy), .long (sq yy)])) ∧ ct (140 + yy) = some (eI tc N (w yy))) (hbig : kcn (fun z => decide (10 * (w z c).toInt64 = t1.toInt64 * sm z)) nf ≤ 15) : Met l yX10_held wsX10_held ({ frames := 3, cells := 0, slots := 0, locals := 80 }) (va_Pc [.ref (ad 0), .int (nI c), .int t1, .int 2] (kw_B D tc sz ad ct)) (k2_QcV (.long (kHc t1 (kcn (fun z => decide (cf z = c) && decide (10 * (w z c).toInt64 = t1.toInt64 * sm z)) nf) (kcn (fun z => decide (10 * (w z c).toInt64 = t1.toInt64 * sm z)) nf) (kcn (fun z => decide (10 * (w z c).toInt64 = t1.toInt64 * sm z)) nf + 1)))) 0 0 (fun _ => False) := by
  refine Met.ofW (cc := cX10_held) (maxL := 6) (ret := (some .long)) (by decide) rfl ?_
  intro pg en s m args below meth cod s₁ B hml hv
  obtain ⟨rfl, hsz, hP0, hK⟩ := hv
  have hx := B.exec
  have hb := B.bytes
  have hr := B.returns
  have hts := atoms_spec (ws := wsX10_held) B.pre
  have hown : s.vm.findClass RX10 = some m.cls := findClass_of_methodNamed B.named
  have hlocks := B.notSynchronized
  subst hsz
  have hw := kw_H.start hP0
  generalize kw_A ad ct s.heap.size = A at hw
  have hinX10 : ∀ w ∈ wsX100, w ∈ wsX10_held := by decide +kernel
  have hl := lv_entry ([.ref (ad 0), .int (nI c), .int t1, .int 2]) (n := 6) (Nat.le_of_ble_eq_true rfl)
  rw [lg_entry_eq]
  generalize (lg_sl ([.ref (ad 0), .int (nI c), .int t1, .int 2]) ++ List.replicate (6 - (lg_sl ([.ref (ad 0), .int (nI c), .int t1, .int 2])).length) Slot.unset).toArray = ls at hl ⊢
  have hl : lv_has ls 6 [(0, .ref (ad 0)), (1, .int (nI c)), (2, .int t1), (3, .int 2)] := hl
  have S0 : CallFix pg m cod cX10_held 6 s _ wsX10_held RX10 := ⟨hx, hb, hml, hown, hts⟩
  have kC : 0 ≤ nI c ∧ nI c < nI N := ⟨nI_pos' (by omega), nI_lt hc (by omega)⟩
  have ht2 : ¬ (t1 < 0) := kq_4 htt.1
  have ht3 : t1 ≤ 10 := htt.2
  have hle : kcn (fun z => decide (10 * (w z c).toInt64 = t1.toInt64 * sm z)) nf ≤ nf := kcn_le _ _
  have hle2 : kcn (fun z => decide (cf z = c) && decide (10 * (w z c).toInt64 = t1.toInt64 * sm z)) nf ≤ nf := kcn_le _ _
  refine lv_aload_n hx hb dX10_held_0 rfl (lv_at hl 0 rfl) ?_
  refine kg_get (v := .ref (ad 1)) (C := RX10) (T := TX10) (N := 9) hx hb hts hinX10 hown hK hw h0 rfl 0 (by decide) (hts (.fieldLink RX10 12 "BetMaker" "maker" "LBetMaker$Maker;") (by decide +kernel)) (fun _ h9 => h9) rfl dX10_held_1 ?_
  refine lv_iload_n hx hb dX10_held_4 rfl (lv_at hl 1 rfl) ?_
  refine kc_v (As := [.int (nI c)]) (rest := []) S0 (c_X3_isCase l D tc s.heap.size ad ct (N := N) h1) (cwV 1 hts gX10_held_X3_isCase rfl rfl rfl (by decide +kernel) ⟨Nat.le_of_ble_eq_true rfl, Nat.le_of_ble_eq_true rfl⟩) hK hw h1 rfl rfl hl.1 rfl (Nat.le_of_ble_eq_true rfl) dX10_held_5 ⟨Nat.le_of_ble_eq_true rfl, (Nat.le_of_ble_eq_true rfl)⟩ ?_
  refine kb_ifeq (tgt := 21) hx hb dX10_held_8 (by decide) (fun c_1 => ?_) (fun c_1 => ?_)
  · exact absurd kC c_1
  · refine lv_iload_n hx hb dX10_held_11 rfl (lv_at hl 2 rfl) ?_
    refine lv_if_lt (tgt := 21) hx hb dX10_held_12 (by decide) (fun c_2 => ?_) (fun c_2 => ?_)
    · exact absurd c_2 ht2
    · refine lv_iload_n hx hb dX10_held_15 rfl (lv_at hl 2 rfl) ?_
      refine lv_bipush (v := 10) hx hb dX10_held_16 (by decide) ?_
      refine lv_icmp_le (tgt := 25) hx hb dX10_held_18 (by decide) (fun c_3 => ?_) (fun c_3 => ?_)
      · refine lv_aload_n hx hb dX10_held_25 rfl (lv_at hl 0 rfl) ?_
        refine kg_get (v := .ref (ad 9)) (C := RX10) (T := TX10) (N := 9) hx hb hts hinX10 hown hK hw h0 rfl 4 (by decide) (hts (.fieldLink RX10 34 "BetMaker" "forecasts" "LBetMaker$Log;") (by decide +kernel)) (fun _ h9 => h9) rfl dX10_held_26 ?_
        refine lv_iload_n hx hb dX10_held_29 rfl (lv_at hl 1 rfl) ?_
        refine lv_iload_n hx hb dX10_held_30 rfl (lv_at hl 2 rfl) ?_
        refine kc_v (As := [.int (nI c), .int t1]) (rest := []) S0 (c_X2_countGiven l D tc s.heap.size ad ct (c := c) (nf := nf) h9 h10 hnf hc hN hfam) (cwV 2 hts gX10_held_X2_countGiven rfl rfl rfl (by decide +kernel) ⟨Nat.le_of_ble_eq_true rfl, Nat.le_of_ble_eq_true rfl⟩) hK hw h9 rfl rfl hl.1 rfl (Nat.le_of_ble_eq_true rfl) dX10_held_31 ⟨Nat.le_of_ble_eq_true rfl, (Nat.le_of_ble_eq_true rfl)⟩ ?_
        refine lv_istore (lv' := [(4, .int (nI (kcn (fun z => decide (10 * (w z c).toInt64 = t1.toInt64 * sm z)) nf))), (0, .ref (ad 0)), (1, .int (nI c)), (2, .int t1), (3, .int 2)]) hx hb dX10_held_34 hl (by decide) rfl (fun ls hl => ?_)
        refine lv_aload_n hx hb dX10_held_36 rfl (lv_at hl 1 rfl) ?_
        refine kg_get (v := .ref (ad 9)) (C := RX10) (T := TX10) (N := 9) hx hb hts hinX10 hown hK hw h0 rfl 4 (by decide) (hts (.fieldLink RX10 34 "BetMaker" "forecasts" "LBetMaker$Log;") (by decide +kernel)) (fun _ h9 => h9) rfl dX10_held_37 ?_
        refine lv_iload_n hx hb dX10_held_40 rfl (lv_at hl 2 rfl) ?_
        refine lv_iload_n hx hb dX10_held_41 rfl (lv_at hl 3 rfl) ?_
        refine kc_v (As := [.int (nI c), .int t1]) (rest := []) S0 (c_X2_countCame l D tc s.heap.size ad ct (c := c) (nf := nf) h9 h10 hnf hc hN hfam) (cwV 2 hts gX10_held_X2_countCame rfl rfl rfl (by decide +kernel) ⟨Nat.le_of_ble_eq_true rfl, Nat.le_of_ble_eq_true rfl⟩) hK hw h9 rfl rfl hl.1 rfl (Nat.le_of_ble_eq_true rfl) dX10_held_42 ⟨Nat.le_of_ble_eq_true rfl, (Nat.le_of_ble_eq_true rfl)⟩ ?_
        refine lv_istore (lv' := [(5, .int (nI (kcn (fun z => decide (cf z = c) && decide (10 * (w z c).toInt64 = t1.toInt64 * sm z)) nf))), (4, .int (nI (kcn (fun z => decide (10 * (w z c).toInt64 = t1.toInt64 * sm z)) nf))), (0, .ref (ad 0)), (1, .int (nI c)), (2, .int t1), (3, .int 2)]) hx hb dX10_held_45 hl (by decide) rfl (fun ls hl => ?_)
        refine lv_iload_n hx hb dX10_held_47 rfl (lv_at hl 5 rfl) ?_
        refine lv_tableIn (off := 36) (tgt := 84) hx hb dX10_held_48 (by decide) (by decide) (by decide) (by decide) ?_
        refine lv_iload hx hb dX10_held_84 (lv_at hl 1 rfl) ?_
        refine lv_bipush (v := 15) hx hb dX10_held_86 (by decide) ?_
        refine kn_le (kcn (fun z => decide (10 * (w z c).toInt64 = t1.toInt64 * sm z)) nf) 15 rfl rfl (by omega) (by omega) (tgt := 97) hx hb dX10_held_88 (by decide) (fun c_4 => ?_) (fun c_4 => ?_)
        · refine lv_iload hx hb dX10_held_97 (lv_at hl 1 rfl) ?_
          refine lv_iload hx hb dX10_held_99 (lv_at hl 0 rfl) ?_
          refine lv_iload_n hx hb dX10_held_101 rfl (lv_at hl 4 rfl) ?_
          refine kc_s (As := [.int (nI (kcn (fun z => decide (10 * (w z c).toInt64 = t1.toInt64 * sm z)) nf)), .int (nI (kcn (fun z => decide (cf z = c) && decide (10 * (w z c).toInt64 = t1.toInt64 * sm z)) nf)), .int t1]) (rest := []) S0 (c_X10_howLikely l D tc s.heap.size ad ct (a1 := (kcn (fun z => decide (10 * (w z c).toInt64 = t1.toInt64 * sm z)) nf)) (a2 := (kcn (fun z => decide (cf z = c) && decide (10 * (w z c).toInt64 = t1.toInt64 * sm z)) nf)) (by omega) (by omega)) (va_cwS 3 hts gX10_held_X10_howLikely rfl rfl rfl (by decide +kernel) ⟨Nat.le_of_ble_eq_true rfl, Nat.le_of_ble_eq_true rfl⟩) hK hw rfl hl.1 rfl (Nat.le_of_ble_eq_true rfl) dX10_held_102 ⟨Nat.le_of_ble_eq_true rfl, (Nat.le_of_ble_eq_true rfl)⟩ ?_
          refine W.eq (congrArg (fun z => F0 m 105 ls [.long z]) (show (kHc t1 (kcn (fun z => decide (cf z = c) && decide (10 * (w z c).toInt64 = t1.toInt64 * sm z)) nf) (kcn (fun z => decide (10 * (w z c).toInt64 = t1.toInt64 * sm z)) nf) ((kcn (fun z => decide (10 * (w z c).toInt64 = t1.toInt64 * sm z)) nf) + 1)) = (kHc t1 (kcn (fun z => decide (cf z = c) && decide (10 * (w z c).toInt64 = t1.toInt64 * sm z)) nf) (kcn (fun z => decide (10 * (w z c).toInt64 = t1.toInt64 * sm z)) nf) (kcn (fun z => decide (10 * (w z c).toInt64 = t1.toInt64 * sm z)) nf + 1)) from by rfl)) ?_
          exact W.lret hx hb hr (fun t ht _ => ⟨rfl, ht⟩) (fun _ h => absurd h List.not_mem_nil) dX10_held_105
        · exfalso; omega
      · exact absurd ht3 c_3
set_option maxHeartbeats 4000000 in
set_option maxRecDepth 100000 in
theorem c_X10_sheet_u (l : Launch) (D : va_G) (tc : Nat → ClassId) (sz : Nat) (ad : Nat → Nat) (ct : Nat → Option va_E) {nt : Nat} {lf : Int32}      {k1 lane n1 : Int32} (h0 : ct 0 = some (.inr (10, [.ref (ad 1), .ref (ad 3), .int (nI nt), .ref (ad 4), .ref (ad 9), .ref (ad 11), .ref (ad 12), .ref (ad 13), .int lf]))) (hk : ¬ (0 ≤ k1 ∧ k1 < 4)) : Met l yX10_sheet wsX10_sheet ({ frames := 2, cells := 0, slots := 0, locals := 53 }) (va_Pc [.ref (ad 0), .int k1, .int lane, .int n1] (kw_B D tc sz ad ct)) (kw_Q D ad (kw_A ad ct sz) (some (.int (-1))) (kw_up ct 0 (.inr (10, [.ref (ad 1), .ref (ad 3), .int (nI nt), .ref (ad 4), .ref (ad 9), .ref (ad 11), .ref (ad 12), .ref (ad 13), .int 0]))) 0) 0 0 (kw_A ad ct sz) := by
  refine Met.ofW (cc := cX10_sheet) (maxL := 5) (ret := (some .int)) (by decide) rfl ?_
  intro pg en s m args below meth cod s₁ B hml hv
  obtain ⟨rfl, hsz, hP0, hK⟩ := hv
  have hx := B.exec
  have hb := B.bytes
  have hr := B.returns
  have hts := atoms_spec (ws := wsX10_sheet) B.pre
  have hown : s.vm.findClass RX10 = some m.cls := findClass_of_methodNamed B.named
  have hlocks := B.notSynchronized
  subst hsz
  have hw := kw_H.start hP0
  generalize hAe : kw_A ad ct s.heap.size = A at hw ⊢
  have hA : ∀ q, s.heap.size ≤ q → A q := fun q h => by rw [← hAe]; exact Or.inr h
  have hinX10 : ∀ w ∈ wsX100, w ∈ wsX10_sheet := by decide +kernel
  have hl := lv_entry ([.ref (ad 0), .int k1, .int lane, .int n1]) (n := 5) (Nat.le_of_ble_eq_true rfl)
  rw [lg_entry_eq]
  generalize (lg_sl ([.ref (ad 0), .int k1, .int lane, .int n1]) ++ List.replicate (5 - (lg_sl ([.ref (ad 0), .int k1, .int lane, .int n1])).length) Slot.unset).toArray = ls at hl ⊢
  have hl : lv_has ls 5 [(0, .ref (ad 0)), (1, .int k1), (2, .int lane), (3, .int n1)] := hl
  have S0 : CallFix pg m cod cX10_sheet 5 s _ wsX10_sheet RX10 := ⟨hx, hb, hml, hown, hts⟩
  have hfr : ∀ j, j ≠ 0 → ct j = ct j := fun _ _ => rfl
  refine lv_aload_n hx hb dX10_sheet_0 rfl (lv_at hl 0 rfl) ?_
  refine lv_iconst (v := 0) hx hb dX10_sheet_1 (by decide) ?_
  refine kg_put (v := .int 0) (ty := .int) (C := RX10) (T := TX10) (N := 9) (fs' := [.ref (ad 1), .ref (ad 3), .int (nI nt), .ref (ad 4), .ref (ad 9), .ref (ad 11), .ref (ad 12), .ref (ad 13), .int 0]) hx hb hts hinX10 tyX10 tyX10_ok nmX10 hown hK hw h0 rfl 8 (by decide) (hts (.fieldLink RX10 179 "BetMaker" "latestFault" "I") (by decide +kernel)) (fun _ h9 => h9) rfl (by decide +kernel) rfl rfl (Nat.le_of_ble_eq_true rfl) rfl dX10_sheet_2 (fun H locs hw => ?_)
  obtain ⟨ct_1, ect_1⟩ : ∃ z, z = kw_up ct 0 (.inr (10, [.ref (ad 1), .ref (ad 3), .int (nI nt), .ref (ad 4), .ref (ad 9), .ref (ad 11), .ref (ad 12), .ref (ad 13), .int 0])) := ⟨_, rfl⟩
  rw [← ect_1] at hw
  have h_2 : ct_1 0 = some (.inr (10, [.ref (ad 1), .ref (ad 3), .int (nI nt), .ref (ad 4), .ref (ad 9), .ref (ad 11), .ref (ad 12), .ref (ad 13), .int 0])) := by rw [ect_1]; exact kw_up_s
  have hfr_3 : ∀ j, j ≠ 0 → ct_1 j = ct j := fun j a0 => by rw [ect_1]; exact (kw_up_n a0).trans (hfr j a0)
  refine lv_aload_n hx hb dX10_sheet_5 rfl (lv_at hl 0 rfl) ?_
  refine lv_iload_n hx hb dX10_sheet_6 rfl (lv_at hl 1 rfl) ?_
  refine kc_v (As := [.int k1]) (rest := []) S0 (c_X10_findSheet_n l D tc s.heap.size ad ct_1 (nt := nt) h_2 hk) (cwV 1 hts gX10_sheet_X10_findSheet rfl rfl rfl (by decide +kernel) ⟨Nat.le_of_ble_eq_true rfl, Nat.le_of_ble_eq_true rfl⟩) hK hw h_2 rfl rfl hl.1 rfl (Nat.le_of_ble_eq_true rfl) dX10_sheet_7 ⟨Nat.le_of_ble_eq_true rfl, (Nat.le_of_ble_eq_true rfl)⟩ ?_
  refine lv_astoreN (lv' := [(4, .null), (0, .ref (ad 0)), (1, .int k1), (2, .int lane), (3, .int n1)]) hx hb dX10_sheet_10 hl (by decide) rfl (fun ls hl => ?_)
  refine lv_aloadN hx hb dX10_sheet_12 (lv_at hl 0 rfl) ?_
  refine lv_ifnonnullN hx hb dX10_sheet_14 ?_
  refine lv_iconst (v := (-1)) hx hb dX10_sheet_17 (by decide) ?_
  have hq_4 := h_2
  have hend := kw_eq1 hq_4 hfr_3
  rw [hend] at hw
  exact W.iret hx hb hr (fun t ht _ => ⟨rfl, by rw [ht]; exact hw.1, hw.2.2.1, hw.2.1.F ht, by rw [ht]; exact hw.2.2.2⟩) hw.2.1.2.2 dX10_sheet_18
set_option maxHeartbeats 4000000 in
set_option maxRecDepth 100000 in
theorem c_X10_sheet_o (l : Launch) (D : va_G) (tc : Nat → ClassId) (sz : Nat) (ad : Nat → Nat) (ct : Nat → Option va_E) {nt k : Nat} {lf : Int32}   {qs : Nat → Option Nat}   {lane n1 : Int32} (h0 : ct 0 = some (.inr (10, [.ref (ad 1), .ref (ad 3), .int (nI nt), .ref (ad 4), .ref (ad 9), .ref (ad 11), .ref (ad 12), .ref (ad 13), .int lf]))) (h11 : ct 11 = some (eQ tc 5 4 qs)) (hk4 : k < 4) (hqs : qs k = some (ad (20 + k))) (hbad : ¬ ((0 ≤ lane ∧ lane ≤ 2) ∧ n1 ≤ 24)) : Met l yX10_sheet wsX10_sheet ({ frames := 2, cells := 0, slots := 0, locals := 53 }) (va_Pc [.ref (ad 0), .int (nI k), .int lane, .int n1] (kw_B D tc sz ad ct)) (kw_Q D ad (kw_A ad ct sz) (some (.int (-2))) (kw_up ct 0 (.inr (10, [.ref (ad 1), .ref (ad 3), .int (nI nt), .ref (ad 4), .ref (ad 9), .ref (ad 11), .ref (ad 12), .ref (ad 13), .int 0]))) 0) 0 0 (kw_A ad ct sz) := by
  refine Met.ofW (cc := cX10_sheet) (maxL := 5) (ret := (some .int)) (by decide) rfl ?_
  intro pg en s m args below meth cod s₁ B hml hv
  obtain ⟨rfl, hsz, hP0, hK⟩ := hv
  have hx := B.exec
  have hb := B.bytes
  have hr := B.returns
  have hts := atoms_spec (ws := wsX10_sheet) B.pre
  have hown : s.vm.findClass RX10 = some m.cls := findClass_of_methodNamed B.named
  have hlocks := B.notSynchronized
  subst hsz
  have hw := kw_H.start hP0
  generalize hAe : kw_A ad ct s.heap.size = A at hw ⊢
  have hA : ∀ q, s.heap.size ≤ q → A q := fun q h => by rw [← hAe]; exact Or.inr h
  have hinX10 : ∀ w ∈ wsX100, w ∈ wsX10_sheet := by decide +kernel
  have hl := lv_entry ([.ref (ad 0), .int (nI k), .int lane, .int n1]) (n := 5) (Nat.le_of_ble_eq_true rfl)
  rw [lg_entry_eq]
  generalize (lg_sl ([.ref (ad 0), .int (nI k), .int lane, .int n1]) ++ List.replicate (5 - (lg_sl ([.ref (ad 0), .int (nI k), .int lane, .int n1])).length) Slot.unset).toArray = ls at hl ⊢
  have hl : lv_has ls 5 [(0, .ref (ad 0)), (1, .int (nI k)), (2, .int lane), (3, .int n1)] := hl
  have S0 : CallFix pg m cod cX10_sheet 5 s _ wsX10_sheet RX10 := ⟨hx, hb, hml, hown, hts⟩
  have hfr : ∀ j, j ≠ 0 → ct j = ct j := fun _ _ => rfl
  refine lv_aload_n hx hb dX10_sheet_0 rfl (lv_at hl 0 rfl) ?_
  refine lv_iconst (v := 0) hx hb dX10_sheet_1 (by decide) ?_
  refine kg_put (v := .int 0) (ty := .int) (C := RX10) (T := TX10) (N := 9) (fs' := [.ref (ad 1), .ref (ad 3), .int (nI nt), .ref (ad 4), .ref (ad 9), .ref (ad 11), .ref (ad 12), .ref (ad 13), .int 0]) hx hb hts hinX10 tyX10 tyX10_ok nmX10 hown hK hw h0 rfl 8 (by decide) (hts (.fieldLink RX10 179 "BetMaker" "latestFault" "I") (by decide +kernel)) (fun _ h9 => h9) rfl (by decide +kernel) rfl rfl (Nat.le_of_ble_eq_true rfl) rfl dX10_sheet_2 (fun H locs hw => ?_)
  obtain ⟨ct_1, ect_1⟩ : ∃ z, z = kw_up ct 0 (.inr (10, [.ref (ad 1), .ref (ad 3), .int (nI nt), .ref (ad 4), .ref (ad 9), .ref (ad 11), .ref (ad 12), .ref (ad 13), .int 0])) := ⟨_, rfl⟩
  rw [← ect_1] at hw
  have h_2 : ct_1 11 = some (eQ tc 5 4 qs) := by rw [ect_1, kw_up_n (by omega)]; exact h11
  have h_3 : ct_1 0 = some (.inr (10, [.ref (ad 1), .ref (ad 3), .int (nI nt), .ref (ad 4), .ref (ad 9), .ref (ad 11), .ref (ad 12), .ref (ad 13), .int 0])) := by rw [ect_1]; exact kw_up_s
  have hfr_4 : ∀ j, j ≠ 0 → ct_1 j = ct j := fun j a0 => by rw [ect_1]; exact (kw_up_n a0).trans (hfr j a0)
  refine lv_aload_n hx hb dX10_sheet_5 rfl (lv_at hl 0 rfl) ?_
  refine lv_iload_n hx hb dX10_sheet_6 rfl (lv_at hl 1 rfl) ?_
  refine kc_v (As := [.int (nI k)]) (rest := []) S0 (c_X10_findSheet l D tc s.heap.size ad ct_1 (k := k) (nt := nt) h_3 h_2 hk4 hqs) (cwV 1 hts gX10_sheet_X10_findSheet rfl rfl rfl (by decide +kernel) ⟨Nat.le_of_ble_eq_true rfl, Nat.le_of_ble_eq_true rfl⟩) hK hw h_3 rfl rfl hl.1 rfl (Nat.le_of_ble_eq_true rfl) dX10_sheet_7 ⟨Nat.le_of_ble_eq_true rfl, (Nat.le_of_ble_eq_true rfl)⟩ ?_
  refine lv_astore (lv' := [(4, .ref (ad (20 + k))), (0, .ref (ad 0)), (1, .int (nI k)), (2, .int lane), (3, .int n1)]) hx hb dX10_sheet_10 hl (by decide) rfl (fun ls hl => ?_)
  refine lv_aload hx hb dX10_sheet_12 (lv_at hl 0 rfl) ?_
  refine lv_ifnonnull (tgt := 19) hx hb dX10_sheet_14 (by decide) ?_
  refine lv_iload_n hx hb dX10_sheet_19 rfl (lv_at hl 3 rfl) ?_
  refine kc_s (As := [.int lane]) (rest := []) S0 (c_X10_isLane l D tc s.heap.size ad ct_1 ) (va_cwS 1 hts gX10_sheet_X10_isLane rfl rfl rfl (by decide +kernel) ⟨Nat.le_of_ble_eq_true rfl, Nat.le_of_ble_eq_true rfl⟩) hK hw rfl hl.1 rfl (Nat.le_of_ble_eq_true rfl) dX10_sheet_20 ⟨Nat.le_of_ble_eq_true rfl, (Nat.le_of_ble_eq_true rfl)⟩ ?_
  refine kb_ifeq (tgt := 32) hx hb dX10_sheet_23 (by decide) (fun c_5 => ?_) (fun c_5 => ?_)
  · refine lv_bipush (v := (-2)) hx hb dX10_sheet_32 (by decide) ?_
    have hq_6 := h_3
    have hend := kw_eq1 hq_6 hfr_4
    rw [hend] at hw
    exact W.iret hx hb hr (fun t ht _ => ⟨rfl, by rw [ht]; exact hw.1, hw.2.2.1, hw.2.1.F ht, by rw [ht]; exact hw.2.2.2⟩) hw.2.1.2.2 dX10_sheet_34
  · refine lv_iload_n hx hb dX10_sheet_26 rfl (lv_at hl 4 rfl) ?_
    refine lv_bipush (v := 24) hx hb dX10_sheet_27 (by decide) ?_
    refine lv_icmp_le (tgt := 35) hx hb dX10_sheet_29 (by decide) (fun c_7 => ?_) (fun c_7 => ?_)
    · exact absurd ⟨c_5, c_7⟩ hbad
    · refine lv_bipush (v := (-2)) hx hb dX10_sheet_32 (by decide) ?_
      have hq_8 := h_3
      have hend := kw_eq1 hq_8 hfr_4
      rw [hend] at hw
      exact W.iret hx hb hr (fun t ht _ => ⟨rfl, by rw [ht]; exact hw.1, hw.2.2.1, hw.2.1.F ht, by rw [ht]; exact hw.2.2.2⟩) hw.2.1.2.2 dX10_sheet_34
set_option maxHeartbeats 4000000 in
set_option maxRecDepth 100000 in
theorem c_X10_sheet_z (l : Launch) (D : va_G) (tc : Nat → ClassId) (sz : Nat) (ad : Nat → Nat) (ct : Nat → Option va_E) {nt k : Nat} {lf : Int32}   {qs : Nat → Option Nat}   {lane n1 : Int32} (h0 : ct 0 = some (.inr (10, [.ref (ad 1), .ref (ad 3), .int (nI nt), .ref (ad 4), .ref (ad 9), .ref (ad 11), .ref (ad 12), .ref (ad 13), .int lf]))) (h11 : ct 11 = some (eQ tc 5 4 qs)) (hk4 : k < 4) (hqs : qs k = some (ad (20 + k))) (hL : 0 ≤ lane ∧ lane ≤ 2) (hz : n1 < 0) (hz2 : n1 ≤ 24) : Met l yX10_sheet wsX10_sheet ({ frames := 2, cells := 0, slots := 0, locals := 53 }) (va_Pc [.ref (ad 0), .int (nI k), .int lane, .int n1] (kw_B D tc sz ad ct)) (kw_Q D ad (kw_A ad ct sz) (some (.int ((-10) - 4))) (kw_up ct 0 (.inr (10, [.ref (ad 1), .ref (ad 3), .int (nI nt), .ref (ad 4), .ref (ad 9), .ref (ad 11), .ref (ad 12), .ref (ad 13), .int 4]))) 0) 0 0 (kw_A ad ct sz) := by
  refine Met.ofW (cc := cX10_sheet) (maxL := 5) (ret := (some .int)) (by decide) rfl ?_
  intro pg en s m args below meth cod s₁ B hml hv
  obtain ⟨rfl, hsz, hP0, hK⟩ := hv
  have hx := B.exec
  have hb := B.bytes
  have hr := B.returns
  have hts := atoms_spec (ws := wsX10_sheet) B.pre
  have hown : s.vm.findClass RX10 = some m.cls := findClass_of_methodNamed B.named
  have hlocks := B.notSynchronized
  subst hsz
  have hw := kw_H.start hP0
  generalize hAe : kw_A ad ct s.heap.size = A at hw ⊢
  have hA : ∀ q, s.heap.size ≤ q → A q := fun q h => by rw [← hAe]; exact Or.inr h
  have hinX10 : ∀ w ∈ wsX100, w ∈ wsX10_sheet := by decide +kernel
  have hl := lv_entry ([.ref (ad 0), .int (nI k), .int lane, .int n1]) (n := 5) (Nat.le_of_ble_eq_true rfl)
  rw [lg_entry_eq]
  generalize (lg_sl ([.ref (ad 0), .int (nI k), .int lane, .int n1]) ++ List.replicate (5 - (lg_sl ([.ref (ad 0), .int (nI k), .int lane, .int n1])).length) Slot.unset).toArray = ls at hl ⊢
  have hl : lv_has ls 5 [(0, .ref (ad 0)), (1, .int (nI k)), (2, .int lane), (3, .int n1)] := hl
  have S0 : CallFix pg m cod cX10_sheet 5 s _ wsX10_sheet RX10 := ⟨hx, hb, hml, hown, hts⟩
  have hfr : ∀ j, j ≠ 0 → ct j = ct j := fun _ _ => rfl
  have hz3 : ¬ (0 ≤ n1) := kq_3 hz
  refine lv_aload_n hx hb dX10_sheet_0 rfl (lv_at hl 0 rfl) ?_
  refine lv_iconst (v := 0) hx hb dX10_sheet_1 (by decide) ?_
  refine kg_put (v := .int 0) (ty := .int) (C := RX10) (T := TX10) (N := 9) (fs' := [.ref (ad 1), .ref (ad 3), .int (nI nt), .ref (ad 4), .ref (ad 9), .ref (ad 11), .ref (ad 12), .ref (ad 13), .int 0]) hx hb hts hinX10 tyX10 tyX10_ok nmX10 hown hK hw h0 rfl 8 (by decide) (hts (.fieldLink RX10 179 "BetMaker" "latestFault" "I") (by decide +kernel)) (fun _ h9 => h9) rfl (by decide +kernel) rfl rfl (Nat.le_of_ble_eq_true rfl) rfl dX10_sheet_2 (fun H locs hw => ?_)
  obtain ⟨ct_1, ect_1⟩ : ∃ z, z = kw_up ct 0 (.inr (10, [.ref (ad 1), .ref (ad 3), .int (nI nt), .ref (ad 4), .ref (ad 9), .ref (ad 11), .ref (ad 12), .ref (ad 13), .int 0])) := ⟨_, rfl⟩
  rw [← ect_1] at hw
  have h_2 : ct_1 11 = some (eQ tc 5 4 qs) := by rw [ect_1, kw_up_n (by omega)]; exact h11
  have h_3 : ct_1 0 = some (.inr (10, [.ref (ad 1), .ref (ad 3), .int (nI nt), .ref (ad 4), .ref (ad 9), .ref (ad 11), .ref (ad 12), .ref (ad 13), .int 0])) := by rw [ect_1]; exact kw_up_s
  have hfr_4 : ∀ j, j ≠ 0 → ct_1 j = ct j := fun j a0 => by rw [ect_1]; exact (kw_up_n a0).trans (hfr j a0)
  refine lv_aload_n hx hb dX10_sheet_5 rfl (lv_at hl 0 rfl) ?_
  refine lv_iload_n hx hb dX10_sheet_6 rfl (lv_at hl 1 rfl) ?_
  refine kc_v (As := [.int (nI k)]) (rest := []) S0 (c_X10_findSheet l D tc s.heap.size ad ct_1 (k := k) (nt := nt) h_3 h_2 hk4 hqs) (cwV 1 hts gX10_sheet_X10_findSheet rfl rfl rfl (by decide +kernel) ⟨Nat.le_of_ble_eq_true rfl, Nat.le_of_ble_eq_true rfl⟩) hK hw h_3 rfl rfl hl.1 rfl (Nat.le_of_ble_eq_true rfl) dX10_sheet_7 ⟨Nat.le_of_ble_eq_true rfl, (Nat.le_of_ble_eq_true rfl)⟩ ?_
  refine lv_astore (lv' := [(4, .ref (ad (20 + k))), (0, .ref (ad 0)), (1, .int (nI k)), (2, .int lane), (3, .int n1)]) hx hb dX10_sheet_10 hl (by decide) rfl (fun ls hl => ?_)
  refine lv_aload hx hb dX10_sheet_12 (lv_at hl 0 rfl) ?_
  refine lv_ifnonnull (tgt := 19) hx hb dX10_sheet_14 (by decide) ?_
  refine lv_iload_n hx hb dX10_sheet_19 rfl (lv_at hl 3 rfl) ?_
  refine kc_s (As := [.int lane]) (rest := []) S0 (c_X10_isLane l D tc s.heap.size ad ct_1 ) (va_cwS 1 hts gX10_sheet_X10_isLane rfl rfl rfl (by decide +kernel) ⟨Nat.le_of_ble_eq_true rfl, Nat.le_of_ble_eq_true rfl⟩) hK hw rfl hl.1 rfl (Nat.le_of_ble_eq_true rfl) dX10_sheet_20 ⟨Nat.le_of_ble_eq_true rfl, (Nat.le_of_ble_eq_true rfl)⟩ ?_
  refine kb_ifeq (tgt := 32) hx hb dX10_sheet_23 (by decide) (fun c_5 => ?_) (fun c_5 => ?_)
  · exact absurd hL c_5
  · refine lv_iload_n hx hb dX10_sheet_26 rfl (lv_at hl 4 rfl) ?_
    refine lv_bipush (v := 24) hx hb dX10_sheet_27 (by decide) ?_
    refine lv_icmp_le (tgt := 35) hx hb dX10_sheet_29 (by decide) (fun c_6 => ?_) (fun c_6 => ?_)
    · refine lv_iload_n hx hb dX10_sheet_35 rfl (lv_at hl 4 rfl) ?_
      refine lv_if_ge (tgt := 45) hx hb dX10_sheet_36 (by decide) (fun c_7 => ?_) (fun c_7 => ?_)
      · exact absurd c_7 hz3
      · refine lv_aload_n hx hb dX10_sheet_39 rfl (lv_at hl 1 rfl) ?_
        refine lv_iconst (v := 4) hx hb dX10_sheet_40 (by decide) ?_
        refine kc_vu (As := [.int 4]) (rest := []) S0 (c_X10_meet l D tc s.heap.size ad ct_1 (nt := nt) h_3) (cwV 1 hts gX10_sheet_X10_meet rfl rfl rfl (by decide +kernel) ⟨Nat.le_of_ble_eq_true rfl, Nat.le_of_ble_eq_true rfl⟩) hK hw hA h_3 rfl rfl hl.1 rfl (Nat.le_of_ble_eq_true rfl) dX10_sheet_41 ⟨Nat.le_of_ble_eq_true rfl, (Nat.le_of_ble_eq_true rfl)⟩ (fun H locs hw => ?_)
        obtain ⟨ct_8, ect_8⟩ : ∃ z, z = kw_up ct_1 0 (.inr (10, [.ref (ad 1), .ref (ad 3), .int (nI nt), .ref (ad 4), .ref (ad 9), .ref (ad 11), .ref (ad 12), .ref (ad 13), .int 4])) := ⟨_, rfl⟩
        rw [← ect_8] at hw
        have h_9 : ct_8 11 = some (eQ tc 5 4 qs) := by rw [ect_8, kw_up_n (by omega)]; exact h_2
        have h_10 : ct_8 0 = some (.inr (10, [.ref (ad 1), .ref (ad 3), .int (nI nt), .ref (ad 4), .ref (ad 9), .ref (ad 11), .ref (ad 12), .ref (ad 13), .int 4])) := by rw [ect_8]; exact kw_up_s
        have hfr_11 : ∀ j, j ≠ 0 → ct_8 j = ct j := fun j a0 => by rw [ect_8]; exact (kw_up_n a0).trans (hfr_4 j a0)
        have hq_12 := h_10
        have hend := kw_eq1 hq_12 hfr_11
        rw [hend] at hw
        exact W.iret hx hb hr (fun t ht _ => ⟨rfl, by rw [ht]; exact hw.1, hw.2.2.1, hw.2.1.F ht, by rw [ht]; exact hw.2.2.2⟩) hw.2.1.2.2 dX10_sheet_44
    · exact absurd hz2 c_6
set_option maxHeartbeats 4000000 in
set_option maxRecDepth 100000 in
theorem c_X10_sheet (l : Launch) (D : va_G) (tc : Nat → ClassId) (sz : Nat) (ad : Nat → Nat) (ct : Nat → Option va_E) {nt n k : Nat} {lf ln : Int32}   {qs : Nat → Option Nat} {sc : Nat → Int32} {th : Bool} {lane : Int32} {n1 : Nat} (h0 : ct 0 = some (.inr (10, [.ref (ad 1), .ref (ad 3), .int (nI nt), .ref (ad 4), .ref (ad 9), .ref (ad 11), .ref (ad 12), .ref (ad 13), .int lf]))) (h11 : ct 11 = some (eQ tc 5 4 qs)) (h20 : ct (20 + k) = some (.inr (6, [.ref (ad (24 + k)), .int (kb (th = true)), .int ln, .int (nI n)]))) (h24 : ct (24 + k) = some (eI tc 24 sc)) (hk4 : k < 4) (hqs : qs k = some (ad (20 + k))) (hL : 0 ≤ lane ∧ lane ≤ 2) (hn1 : n1 ≤ 24) : Met l yX10_sheet wsX10_sheet ({ frames := 2, cells := 0, slots := 0, locals := 53 }) (va_Pc [.ref (ad 0), .int (nI k), .int lane, .int (nI n1)] (kw_B D tc sz ad ct)) (kw_Q D ad (kw_A ad ct sz) (some (.int 1)) (kw_up (kw_up (kw_up ct 0 (.inr (10, [.ref (ad 1), .ref (ad 3), .int (nI nt), .ref (ad 4), .ref (ad 9), .ref (ad 11), .ref (ad 12), .ref (ad 13), .int 0]))) (20 + k) (.inr (6, [.ref (ad (24 + k)), .int (kb (true = true)), .int lane, .int (nI n1)]))) (24 + k) (eI tc 24 (kFl sc 0 24))) 0) 0 0 (kw_A ad ct sz) := by
  refine Met.ofW (cc := cX10_sheet) (maxL := 5) (ret := (some .int)) (by decide) rfl ?_
  intro pg en s m args below meth cod s₁ B hml hv
  obtain ⟨rfl, hsz, hP0, hK⟩ := hv
  have hx := B.exec
  have hb := B.bytes
  have hr := B.returns
  have hts := atoms_spec (ws := wsX10_sheet) B.pre
  have hown : s.vm.findClass RX10 = some m.cls := findClass_of_methodNamed B.named
  have hlocks := B.notSynchronized
  subst hsz
  have hw := kw_H.start hP0
  generalize hAe : kw_A ad ct s.heap.size = A at hw ⊢
  have hA : ∀ q, s.heap.size ≤ q → A q := fun q h => by rw [← hAe]; exact Or.inr h
  have hinX10 : ∀ w ∈ wsX100, w ∈ wsX10_sheet := by decide +kernel
  have hl := lv_entry ([.ref (ad 0), .int (nI k), .int lane, .int (nI n1)]) (n := 5) (Nat.le_of_ble_eq_true rfl)
  rw [lg_entry_eq]
  generalize (lg_sl ([.ref (ad 0), .int (nI k), .int lane, .int (nI n1)]) ++ List.replicate (5 - (lg_sl ([.ref (ad 0), .int (nI k), .int lane, .int (nI n1)])).length) Slot.unset).toArray = ls at hl ⊢
  have hl : lv_has ls 5 [(0, .ref (ad 0)), (1, .int (nI k)), (2, .int lane), (3, .int (nI n1))] := hl
  have S0 : CallFix pg m cod cX10_sheet 5 s _ wsX10_sheet RX10 := ⟨hx, hb, hml, hown, hts⟩
  have hfr : ∀ j, j ≠ 0 → j ≠ (20 + k) → j ≠ (24 + k) → ct j = ct j := fun _ _ _ _ => rfl
  refine lv_aload_n hx hb dX10_sheet_0 rfl (lv_at hl 0 rfl) ?_
  refine lv_iconst (v := 0) hx hb dX10_sheet_1 (by decide) ?_
  refine kg_put (v := .int 0) (ty := .int) (C := RX10) (T := TX10) (N := 9) (fs' := [.ref (ad 1), .ref (ad 3), .int (nI nt), .ref (ad 4), .ref (ad 9), .ref (ad 11), .ref (ad 12), .ref (ad 13), .int 0]) hx hb hts hinX10 tyX10 tyX10_ok nmX10 hown hK hw h0 rfl 8 (by decide) (hts (.fieldLink RX10 179 "BetMaker" "latestFault" "I") (by decide +kernel)) (fun _ h9 => h9) rfl (by decide +kernel) rfl rfl (Nat.le_of_ble_eq_true rfl) rfl dX10_sheet_2 (fun H locs hw => ?_)
  obtain ⟨ct_1, ect_1⟩ : ∃ z, z = kw_up ct 0 (.inr (10, [.ref (ad 1), .ref (ad 3), .int (nI nt), .ref (ad 4), .ref (ad 9), .ref (ad 11), .ref (ad 12), .ref (ad 13), .int 0])) := ⟨_, rfl⟩
  rw [← ect_1] at hw
  have h_2 : ct_1 11 = some (eQ tc 5 4 qs) := by rw [ect_1, kw_up_n (by omega)]; exact h11
  have h_3 : ct_1 (20 + k) = some (.inr (6, [.ref (ad (24 + k)), .int (kb (th = true)), .int ln, .int (nI n)])) := by rw [ect_1, kw_up_n (by omega)]; exact h20
  have h_4 : ct_1 (24 + k) = some (eI tc 24 sc) := by rw [ect_1, kw_up_n (by omega)]; exact h24
  have h_5 : ct_1 0 = some (.inr (10, [.ref (ad 1), .ref (ad 3), .int (nI nt), .ref (ad 4), .ref (ad 9), .ref (ad 11), .ref (ad 12), .ref (ad 13), .int 0])) := by rw [ect_1]; exact kw_up_s
  have hfr_6 : ∀ j, j ≠ 0 → j ≠ (20 + k) → j ≠ (24 + k) → ct_1 j = ct j := fun j a0 a1 a2 => by rw [ect_1]; exact (kw_up_n a0).trans (hfr j a0 a1 a2)
  refine lv_aload_n hx hb dX10_sheet_5 rfl (lv_at hl 0 rfl) ?_
  refine lv_iload_n hx hb dX10_sheet_6 rfl (lv_at hl 1 rfl) ?_
  refine kc_v (As := [.int (nI k)]) (rest := []) S0 (c_X10_findSheet l D tc s.heap.size ad ct_1 (k := k) (nt := nt) h_5 h_2 hk4 hqs) (cwV 1 hts gX10_sheet_X10_findSheet rfl rfl rfl (by decide +kernel) ⟨Nat.le_of_ble_eq_true rfl, Nat.le_of_ble_eq_true rfl⟩) hK hw h_5 rfl rfl hl.1 rfl (Nat.le_of_ble_eq_true rfl) dX10_sheet_7 ⟨Nat.le_of_ble_eq_true rfl, (Nat.le_of_ble_eq_true rfl)⟩ ?_
  refine lv_astore (lv' := [(4, .ref (ad (20 + k))), (0, .ref (ad 0)), (1, .int (nI k)), (2, .int lane), (3, .int (nI n1))]) hx hb dX10_sheet_10 hl (by decide) rfl (fun ls hl => ?_)
  refine lv_aload hx hb dX10_sheet_12 (lv_at hl 0 rfl) ?_
  refine lv_ifnonnull (tgt := 19) hx hb dX10_sheet_14 (by decide) ?_
  refine lv_iload_n hx hb dX10_sheet_19 rfl (lv_at hl 3 rfl) ?_
  refine kc_s (As := [.int lane]) (rest := []) S0 (c_X10_isLane l D tc s.heap.size ad ct_1 ) (va_cwS 1 hts gX10_sheet_X10_isLane rfl rfl rfl (by decide +kernel) ⟨Nat.le_of_ble_eq_true rfl, Nat.le_of_ble_eq_true rfl⟩) hK hw rfl hl.1 rfl (Nat.le_of_ble_eq_true rfl) dX10_sheet_20 ⟨Nat.le_of_ble_eq_true rfl, (Nat.le_of_ble_eq_true rfl)⟩ ?_
  refine kb_ifeq (tgt := 32) hx hb dX10_sheet_23 (by decide) (fun c_7 => ?_) (fun c_7 => ?_)
  · exact absurd hL c_7
  · refine lv_iload_n hx hb dX10_sheet_26 rfl (lv_at hl 4 rfl) ?_
    refine lv_bipush (v := 24) hx hb dX10_sheet_27 (by decide) ?_
    refine kn_le n1 24 rfl rfl (by omega) (by omega) (tgt := 35) hx hb dX10_sheet_29 (by decide) (fun c_8 => ?_) (fun c_8 => ?_)
    · refine lv_iload_n hx hb dX10_sheet_35 rfl (lv_at hl 4 rfl) ?_
      refine lv_if_ge (tgt := 45) hx hb dX10_sheet_36 (by decide) (fun c_9 => ?_) (fun c_9 => ?_)
      · refine lv_aload hx hb dX10_sheet_45 (lv_at hl 0 rfl) ?_
        refine lv_iload_n hx hb dX10_sheet_47 rfl (lv_at hl 3 rfl) ?_
        refine lv_iload_n hx hb dX10_sheet_48 rfl (lv_at hl 4 rfl) ?_
        refine kc_vu (As := [.int lane, .int (nI n1)]) (rest := []) S0 (c_X6_renew l D tc s.heap.size ad ct_1 (n1 := n1) (n := n) h_3 h_4) (cwV 2 hts gX10_sheet_X6_renew rfl rfl rfl (by decide +kernel) ⟨Nat.le_of_ble_eq_true rfl, Nat.le_of_ble_eq_true rfl⟩) hK hw hA h_3 rfl rfl hl.1 rfl (Nat.le_of_ble_eq_true rfl) dX10_sheet_49 ⟨Nat.le_of_ble_eq_true rfl, (Nat.le_of_ble_eq_true rfl)⟩ (fun H locs hw => ?_)
        obtain ⟨ct_10, ect_10⟩ : ∃ z, z = kw_up (kw_up ct_1 (20 + k) (.inr (6, [.ref (ad (24 + k)), .int (kb (true = true)), .int lane, .int (nI n1)]))) (24 + k) (eI tc 24 (kFl sc 0 24)) := ⟨_, rfl⟩
        rw [← ect_10] at hw
        have h_11 : ct_10 11 = some (eQ tc 5 4 qs) := by rw [ect_10, kw_up_n (by omega), kw_up_n (by omega)]; exact h_2
        have h_12 : ct_10 0 = some (.inr (10, [.ref (ad 1), .ref (ad 3), .int (nI nt), .ref (ad 4), .ref (ad 9), .ref (ad 11), .ref (ad 12), .ref (ad 13), .int 0])) := by rw [ect_10, kw_up_n (by omega), kw_up_n (by omega)]; exact h_5
        have h_13 : ct_10 (20 + k) = some (.inr (6, [.ref (ad (24 + k)), .int (kb (true = true)), .int lane, .int (nI n1)])) := by rw [ect_10, kw_up_n (by omega)]; exact kw_up_s
        have h_14 : ct_10 (24 + k) = some (eI tc 24 (kFl sc 0 24)) := by rw [ect_10]; exact kw_up_s
        have hfr_15 : ∀ j, j ≠ 0 → j ≠ (20 + k) → j ≠ (24 + k) → ct_10 j = ct j := fun j a0 a1 a2 => by rw [ect_10]; exact (kw_up_n a2).trans ((kw_up_n a1).trans (hfr_6 j a0 a1 a2))
        refine lv_iconst (v := 1) hx hb dX10_sheet_52 (by decide) ?_
        have hq_16 := h_12
        have hq_17 := h_13
        have hq_18 := h_14
        have hend := kw_eq3 hq_16 hq_17 hq_18 hfr_15
        rw [hend] at hw
        exact W.iret hx hb hr (fun t ht _ => ⟨rfl, by rw [ht]; exact hw.1, hw.2.2.1, hw.2.1.F ht, by rw [ht]; exact hw.2.2.2⟩) hw.2.1.2.2 dX10_sheet_53
      · exact absurd (nI_pos' (by omega)) c_9
    · exfalso; omega
set_option maxHeartbeats 4000000 in
set_option maxRecDepth 100000 in
theorem c_X10_lose_u (l : Launch) (D : va_G) (tc : Nat → ClassId) (sz : Nat) (ad : Nat → Nat) (ct : Nat → Option va_E) {nt : Nat} {lf : Int32}      {k1 : Int32} (h0 : ct 0 = some (.inr (10, [.ref (ad 1), .ref (ad 3), .int (nI nt), .ref (ad 4), .ref (ad 9), .ref (ad 11), .ref (ad 12), .ref (ad 13), .int lf]))) (hk : ¬ (0 ≤ k1 ∧ k1 < 4)) : Met l yX10_lose wsX10_lose ({ frames := 1, cells := 0, slots := 0, locals := 25 }) (va_Pc [.ref (ad 0), .int k1] (kw_B D tc sz ad ct)) (k2_QcV (.int (-1))) 0 0 (fun _ => False) := by
  refine Met.ofW (cc := cX10_lose) (maxL := 3) (ret := (some .int)) (by decide) rfl ?_
  intro pg en s m args below meth cod s₁ B hml hv
  obtain ⟨rfl, hsz, hP0, hK⟩ := hv
  have hx := B.exec
  have hb := B.bytes
  have hr := B.returns
  have hts := atoms_spec (ws := wsX10_lose) B.pre
  have hown : s.vm.findClass RX10 = some m.cls := findClass_of_methodNamed B.named
  have hlocks := B.notSynchronized
  subst hsz
  have hw := kw_H.start hP0
  generalize kw_A ad ct s.heap.size = A at hw
  have hl := lv_entry ([.ref (ad 0), .int k1]) (n := 3) (Nat.le_of_ble_eq_true rfl)
  rw [lg_entry_eq]
  generalize (lg_sl ([.ref (ad 0), .int k1]) ++ List.replicate (3 - (lg_sl ([.ref (ad 0), .int k1])).length) Slot.unset).toArray = ls at hl ⊢
  have hl : lv_has ls 3 [(0, .ref (ad 0)), (1, .int k1)] := hl
  have S0 : CallFix pg m cod cX10_lose 3 s _ wsX10_lose RX10 := ⟨hx, hb, hml, hown, hts⟩
  refine lv_aload_n hx hb dX10_lose_0 rfl (lv_at hl 0 rfl) ?_
  refine lv_iload_n hx hb dX10_lose_1 rfl (lv_at hl 1 rfl) ?_
  refine kc_v (As := [.int k1]) (rest := []) S0 (c_X10_findSheet_n l D tc s.heap.size ad ct (nt := nt) h0 hk) (cwV 1 hts gX10_lose_X10_findSheet rfl rfl rfl (by decide +kernel) ⟨Nat.le_of_ble_eq_true rfl, Nat.le_of_ble_eq_true rfl⟩) hK hw h0 rfl rfl hl.1 rfl (Nat.le_of_ble_eq_true rfl) dX10_lose_2 ⟨Nat.le_of_ble_eq_true rfl, (Nat.le_of_ble_eq_true rfl)⟩ ?_
  refine lv_astore_nN (lv' := [(2, .null), (0, .ref (ad 0)), (1, .int k1)]) hx hb dX10_lose_5 rfl hl (by decide) rfl (fun ls hl => ?_)
  refine lv_aload_nN hx hb dX10_lose_6 rfl (lv_at hl 0 rfl) ?_
  refine lv_ifnonnullN hx hb dX10_lose_7 ?_
  refine lv_iconst (v := (-1)) hx hb dX10_lose_10 (by decide) ?_
  exact W.iret hx hb hr (fun t ht _ => ⟨rfl, ht⟩) (fun _ h => absurd h List.not_mem_nil) dX10_lose_11
set_option maxHeartbeats 4000000 in
set_option maxRecDepth 100000 in
theorem c_X10_lose_1 (l : Launch) (D : va_G) (tc : Nat → ClassId) (sz : Nat) (ad : Nat → Nat) (ct : Nat → Option va_E) {nt n k : Nat} {lf ln : Int32}   {qs : Nat → Option Nat}  {th : Bool}  (h0 : ct 0 = some (.inr (10, [.ref (ad 1), .ref (ad 3), .int (nI nt), .ref (ad 4), .ref (ad 9), .ref (ad 11), .ref (ad 12), .ref (ad 13), .int lf]))) (h11 : ct 11 = some (eQ tc 5 4 qs)) (h20 : ct (20 + k) = some (.inr (6, [.ref (ad (24 + k)), .int (kb (th = true)), .int ln, .int (nI n)]))) (hk4 : k < 4) (hqs : qs k = some (ad (20 + k))) (hth : th = true) : Met l yX10_lose wsX10_lose ({ frames := 1, cells := 0, slots := 0, locals := 25 }) (va_Pc [.ref (ad 0), .int (nI k)] (kw_B D tc sz ad ct)) (kw_Q D ad (kw_A ad ct sz) (some (.int 1)) (kw_up ct (20 + k) (.inr (6, [.ref (ad (24 + k)), .int (kb (false = true)), .int ln, .int (nI n)]))) 0) 0 0 (kw_A ad ct sz) := by
  refine Met.ofW (cc := cX10_lose) (maxL := 3) (ret := (some .int)) (by decide) rfl ?_
  intro pg en s m args below meth cod s₁ B hml hv
  obtain ⟨rfl, hsz, hP0, hK⟩ := hv
  have hx := B.exec
  have hb := B.bytes
  have hr := B.returns
  have hts := atoms_spec (ws := wsX10_lose) B.pre
  have hown : s.vm.findClass RX10 = some m.cls := findClass_of_methodNamed B.named
  have hlocks := B.notSynchronized
  subst hsz
  have hw := kw_H.start hP0
  generalize hAe : kw_A ad ct s.heap.size = A at hw ⊢
  have hA : ∀ q, s.heap.size ≤ q → A q := fun q h => by rw [← hAe]; exact Or.inr h
  have hl := lv_entry ([.ref (ad 0), .int (nI k)]) (n := 3) (Nat.le_of_ble_eq_true rfl)
  rw [lg_entry_eq]
  generalize (lg_sl ([.ref (ad 0), .int (nI k)]) ++ List.replicate (3 - (lg_sl ([.ref (ad 0), .int (nI k)])).length) Slot.unset).toArray = ls at hl ⊢
  have hl : lv_has ls 3 [(0, .ref (ad 0)), (1, .int (nI k))] := hl
  have S0 : CallFix pg m cod cX10_lose 3 s _ wsX10_lose RX10 := ⟨hx, hb, hml, hown, hts⟩
  have hfr : ∀ j, j ≠ (20 + k) → ct j = ct j := fun _ _ => rfl
  refine lv_aload_n hx hb dX10_lose_0 rfl (lv_at hl 0 rfl) ?_
  refine lv_iload_n hx hb dX10_lose_1 rfl (lv_at hl 1 rfl) ?_
  refine kc_v (As := [.int (nI k)]) (rest := []) S0 (c_X10_findSheet l D tc s.heap.size ad ct (k := k) (nt := nt) h0 h11 hk4 hqs) (cwV 1 hts gX10_lose_X10_findSheet rfl rfl rfl (by decide +kernel) ⟨Nat.le_of_ble_eq_true rfl, Nat.le_of_ble_eq_true rfl⟩) hK hw h0 rfl rfl hl.1 rfl (Nat.le_of_ble_eq_true rfl) dX10_lose_2 ⟨Nat.le_of_ble_eq_true rfl, (Nat.le_of_ble_eq_true rfl)⟩ ?_
  refine lv_astore_n (lv' := [(2, .ref (ad (20 + k))), (0, .ref (ad 0)), (1, .int (nI k))]) hx hb dX10_lose_5 rfl hl (by decide) rfl (fun ls hl => ?_)
  refine lv_aload_n hx hb dX10_lose_6 rfl (lv_at hl 0 rfl) ?_
  refine lv_ifnonnull (tgt := 12) hx hb dX10_lose_7 (by decide) ?_
  refine lv_aload_n hx hb dX10_lose_12 rfl (lv_at hl 0 rfl) ?_
  refine kc_vu (As := []) (rest := []) S0 (c_X6_drop l D tc s.heap.size ad ct (n := n) h20) (cwV 0 hts gX10_lose_X6_drop rfl rfl rfl (by decide +kernel) ⟨Nat.le_of_ble_eq_true rfl, Nat.le_of_ble_eq_true rfl⟩) hK hw hA h20 rfl rfl hl.1 rfl (Nat.le_of_ble_eq_true rfl) dX10_lose_13 ⟨Nat.le_of_ble_eq_true rfl, (Nat.le_of_ble_eq_true rfl)⟩ (fun H locs hw => ?_)
  obtain ⟨ct_1, ect_1⟩ : ∃ z, z = kw_up ct (20 + k) (.inr (6, [.ref (ad (24 + k)), .int (kb (false = true)), .int ln, .int (nI n)])) := ⟨_, rfl⟩
  rw [← ect_1] at hw
  have h_2 : ct_1 0 = some (.inr (10, [.ref (ad 1), .ref (ad 3), .int (nI nt), .ref (ad 4), .ref (ad 9), .ref (ad 11), .ref (ad 12), .ref (ad 13), .int lf])) := by rw [ect_1, kw_up_n (by omega)]; exact h0
  have h_3 : ct_1 11 = some (eQ tc 5 4 qs) := by rw [ect_1, kw_up_n (by omega)]; exact h11
  have h_4 : ct_1 (20 + k) = some (.inr (6, [.ref (ad (24 + k)), .int (kb (false = true)), .int ln, .int (nI n)])) := by rw [ect_1]; exact kw_up_s
  have hfr_5 : ∀ j, j ≠ (20 + k) → ct_1 j = ct j := fun j a0 => by rw [ect_1]; exact (kw_up_n a0).trans (hfr j a0)
  refine kb_ifeq (tgt := 23) hx hb dX10_lose_16 (by decide) (fun c_6 => ?_) (fun c_6 => ?_)
  · exact absurd hth c_6
  · refine lv_iconst (v := 1) hx hb dX10_lose_19 (by decide) ?_
    refine lv_goto (tgt := 24) hx hb dX10_lose_20 (by decide) ?_
    have hq_7 := h_4
    have hend := kw_eq1 hq_7 hfr_5
    rw [hend] at hw
    exact W.iret hx hb hr (fun t ht _ => ⟨rfl, by rw [ht]; exact hw.1, hw.2.2.1, hw.2.1.F ht, by rw [ht]; exact hw.2.2.2⟩) hw.2.1.2.2 dX10_lose_24
set_option maxHeartbeats 4000000 in
set_option maxRecDepth 100000 in
theorem c_X10_lose_0 (l : Launch) (D : va_G) (tc : Nat → ClassId) (sz : Nat) (ad : Nat → Nat) (ct : Nat → Option va_E) {nt n k : Nat} {lf ln : Int32}   {qs : Nat → Option Nat}  {th : Bool}  (h0 : ct 0 = some (.inr (10, [.ref (ad 1), .ref (ad 3), .int (nI nt), .ref (ad 4), .ref (ad 9), .ref (ad 11), .ref (ad 12), .ref (ad 13), .int lf]))) (h11 : ct 11 = some (eQ tc 5 4 qs)) (h20 : ct (20 + k) = some (.inr (6, [.ref (ad (24 + k)), .int (kb (th = true)), .int ln, .int (nI n)]))) (hk4 : k < 4) (hqs : qs k = some (ad (20 + k))) (hth : ¬ (th = true)) : Met l yX10_lose wsX10_lose ({ frames := 1, cells := 0, slots := 0, locals := 25 }) (va_Pc [.ref (ad 0), .int (nI k)] (kw_B D tc sz ad ct)) (kw_Q D ad (kw_A ad ct sz) (some (.int 0)) (kw_up ct (20 + k) (.inr (6, [.ref (ad (24 + k)), .int (kb (false = true)), .int ln, .int (nI n)]))) 0) 0 0 (kw_A ad ct sz) := by
  refine Met.ofW (cc := cX10_lose) (maxL := 3) (ret := (some .int)) (by decide) rfl ?_
  intro pg en s m args below meth cod s₁ B hml hv
  obtain ⟨rfl, hsz, hP0, hK⟩ := hv
  have hx := B.exec
  have hb := B.bytes
  have hr := B.returns
  have hts := atoms_spec (ws := wsX10_lose) B.pre
  have hown : s.vm.findClass RX10 = some m.cls := findClass_of_methodNamed B.named
  have hlocks := B.notSynchronized
  subst hsz
  have hw := kw_H.start hP0
  generalize hAe : kw_A ad ct s.heap.size = A at hw ⊢
  have hA : ∀ q, s.heap.size ≤ q → A q := fun q h => by rw [← hAe]; exact Or.inr h
  have hl := lv_entry ([.ref (ad 0), .int (nI k)]) (n := 3) (Nat.le_of_ble_eq_true rfl)
  rw [lg_entry_eq]
  generalize (lg_sl ([.ref (ad 0), .int (nI k)]) ++ List.replicate (3 - (lg_sl ([.ref (ad 0), .int (nI k)])).length) Slot.unset).toArray = ls at hl ⊢
  have hl : lv_has ls 3 [(0, .ref (ad 0)), (1, .int (nI k))] := hl
  have S0 : CallFix pg m cod cX10_lose 3 s _ wsX10_lose RX10 := ⟨hx, hb, hml, hown, hts⟩
  have hfr : ∀ j, j ≠ (20 + k) → ct j = ct j := fun _ _ => rfl
  refine lv_aload_n hx hb dX10_lose_0 rfl (lv_at hl 0 rfl) ?_
  refine lv_iload_n hx hb dX10_lose_1 rfl (lv_at hl 1 rfl) ?_
  refine kc_v (As := [.int (nI k)]) (rest := []) S0 (c_X10_findSheet l D tc s.heap.size ad ct (k := k) (nt := nt) h0 h11 hk4 hqs) (cwV 1 hts gX10_lose_X10_findSheet rfl rfl rfl (by decide +kernel) ⟨Nat.le_of_ble_eq_true rfl, Nat.le_of_ble_eq_true rfl⟩) hK hw h0 rfl rfl hl.1 rfl (Nat.le_of_ble_eq_true rfl) dX10_lose_2 ⟨Nat.le_of_ble_eq_true rfl, (Nat.le_of_ble_eq_true rfl)⟩ ?_
  refine lv_astore_n (lv' := [(2, .ref (ad (20 + k))), (0, .ref (ad 0)), (1, .int (nI k))]) hx hb dX10_lose_5 rfl hl (by decide) rfl (fun ls hl => ?_)
  refine lv_aload_n hx hb dX10_lose_6 rfl (lv_at hl 0 rfl) ?_
  refine lv_ifnonnull (tgt := 12) hx hb dX10_lose_7 (by decide) ?_
  refine lv_aload_n hx hb dX10_lose_12 rfl (lv_at hl 0 rfl) ?_
  refine kc_vu (As := []) (rest := []) S0 (c_X6_drop l D tc s.heap.size ad ct (n := n) h20) (cwV 0 hts gX10_lose_X6_drop rfl rfl rfl (by decide +kernel) ⟨Nat.le_of_ble_eq_true rfl, Nat.le_of_ble_eq_true rfl⟩) hK hw hA h20 rfl rfl hl.1 rfl (Nat.le_of_ble_eq_true rfl) dX10_lose_13 ⟨Nat.le_of_ble_eq_true rfl, (Nat.le_of_ble_eq_true rfl)⟩ (fun H locs hw => ?_)
  obtain ⟨ct_1, ect_1⟩ : ∃ z, z = kw_up ct (20 + k) (.inr (6, [.ref (ad (24 + k)), .int (kb (false = true)), .int ln, .int (nI n)])) := ⟨_, rfl⟩
  rw [← ect_1] at hw
  have h_2 : ct_1 0 = some (.inr (10, [.ref (ad 1), .ref (ad 3), .int (nI nt), .ref (ad 4), .ref (ad 9), .ref (ad 11), .ref (ad 12), .ref (ad 13), .int lf])) := by rw [ect_1, kw_up_n (by omega)]; exact h0
  have h_3 : ct_1 11 = some (eQ tc 5 4 qs) := by rw [ect_1, kw_up_n (by omega)]; exact h11
  have h_4 : ct_1 (20 + k) = some (.inr (6, [.ref (ad (24 + k)), .int (kb (false = true)), .int ln, .int (nI n)])) := by rw [ect_1]; exact kw_up_s
  have hfr_5 : ∀ j, j ≠ (20 + k) → ct_1 j = ct j := fun j a0 => by rw [ect_1]; exact (kw_up_n a0).trans (hfr j a0)
  refine kb_ifeq (tgt := 23) hx hb dX10_lose_16 (by decide) (fun c_6 => ?_) (fun c_6 => ?_)
  · refine lv_iconst (v := 0) hx hb dX10_lose_23 (by decide) ?_
    have hq_7 := h_4
    have hend := kw_eq1 hq_7 hfr_5
    rw [hend] at hw
    exact W.iret hx hb hr (fun t ht _ => ⟨rfl, by rw [ht]; exact hw.1, hw.2.2.1, hw.2.1.F ht, by rw [ht]; exact hw.2.2.2⟩) hw.2.1.2.2 dX10_lose_24
  · exact absurd c_6 hth
set_option maxHeartbeats 4000000 in
set_option maxRecDepth 100000 in
theorem c_X10_put_u (l : Launch) (D : va_G) (tc : Nat → ClassId) (sz : Nat) (ad : Nat → Nat) (ct : Nat → Option va_E) {nt : Nat} {lf : Int32}      {k1 i1 v : Int32} (h0 : ct 0 = some (.inr (10, [.ref (ad 1), .ref (ad 3), .int (nI nt), .ref (ad 4), .ref (ad 9), .ref (ad 11), .ref (ad 12), .ref (ad 13), .int lf]))) (hk : ¬ (0 ≤ k1 ∧ k1 < 4)) : Met l yX10_put wsX10_put ({ frames := 2, cells := 0, slots := 0, locals := 51 }) (va_Pc [.ref (ad 0), .int k1, .int i1, .int v] (kw_B D tc sz ad ct)) (kw_Q D ad (kw_A ad ct sz) (some (.int (-1))) (kw_up ct 0 (.inr (10, [.ref (ad 1), .ref (ad 3), .int (nI nt), .ref (ad 4), .ref (ad 9), .ref (ad 11), .ref (ad 12), .ref (ad 13), .int 0]))) 0) 0 0 (kw_A ad ct sz) := by
  refine Met.ofW (cc := cX10_put) (maxL := 6) (ret := (some .int)) (by decide) rfl ?_
  intro pg en s m args below meth cod s₁ B hml hv
  obtain ⟨rfl, hsz, hP0, hK⟩ := hv
  have hx := B.exec
  have hb := B.bytes
  have hr := B.returns
  have hts := atoms_spec (ws := wsX10_put) B.pre
  have hown : s.vm.findClass RX10 = some m.cls := findClass_of_methodNamed B.named
  have hlocks := B.notSynchronized
  subst hsz
  have hw := kw_H.start hP0
  generalize hAe : kw_A ad ct s.heap.size = A at hw ⊢
  have hA : ∀ q, s.heap.size ≤ q → A q := fun q h => by rw [← hAe]; exact Or.inr h
  have hinX10 : ∀ w ∈ wsX100, w ∈ wsX10_put := by decide +kernel
  have hl := lv_entry ([.ref (ad 0), .int k1, .int i1, .int v]) (n := 6) (Nat.le_of_ble_eq_true rfl)
  rw [lg_entry_eq]
  generalize (lg_sl ([.ref (ad 0), .int k1, .int i1, .int v]) ++ List.replicate (6 - (lg_sl ([.ref (ad 0), .int k1, .int i1, .int v])).length) Slot.unset).toArray = ls at hl ⊢
  have hl : lv_has ls 6 [(0, .ref (ad 0)), (1, .int k1), (2, .int i1), (3, .int v)] := hl
  have S0 : CallFix pg m cod cX10_put 6 s _ wsX10_put RX10 := ⟨hx, hb, hml, hown, hts⟩
  have hfr : ∀ j, j ≠ 0 → ct j = ct j := fun _ _ => rfl
  refine lv_aload_n hx hb dX10_put_0 rfl (lv_at hl 0 rfl) ?_
  refine lv_iconst (v := 0) hx hb dX10_put_1 (by decide) ?_
  refine kg_put (v := .int 0) (ty := .int) (C := RX10) (T := TX10) (N := 9) (fs' := [.ref (ad 1), .ref (ad 3), .int (nI nt), .ref (ad 4), .ref (ad 9), .ref (ad 11), .ref (ad 12), .ref (ad 13), .int 0]) hx hb hts hinX10 tyX10 tyX10_ok nmX10 hown hK hw h0 rfl 8 (by decide) (hts (.fieldLink RX10 179 "BetMaker" "latestFault" "I") (by decide +kernel)) (fun _ h9 => h9) rfl (by decide +kernel) rfl rfl (Nat.le_of_ble_eq_true rfl) rfl dX10_put_2 (fun H locs hw => ?_)
  obtain ⟨ct_1, ect_1⟩ : ∃ z, z = kw_up ct 0 (.inr (10, [.ref (ad 1), .ref (ad 3), .int (nI nt), .ref (ad 4), .ref (ad 9), .ref (ad 11), .ref (ad 12), .ref (ad 13), .int 0])) := ⟨_, rfl⟩
  rw [← ect_1] at hw
  have h_2 : ct_1 0 = some (.inr (10, [.ref (ad 1), .ref (ad 3), .int (nI nt), .ref (ad 4), .ref (ad 9), .ref (ad 11), .ref (ad 12), .ref (ad 13), .int 0])) := by rw [ect_1]; exact kw_up_s
  have hfr_3 : ∀ j, j ≠ 0 → ct_1 j = ct j := fun j a0 => by rw [ect_1]; exact (kw_up_n a0).trans (hfr j a0)
  refine lv_aload_n hx hb dX10_put_5 rfl (lv_at hl 0 rfl) ?_
  refine lv_iload_n hx hb dX10_put_6 rfl (lv_at hl 1 rfl) ?_
  refine kc_v (As := [.int k1]) (rest := []) S0 (c_X10_findSheet_n l D tc s.heap.size ad ct_1 (nt := nt) h_2 hk) (cwV 1 hts gX10_put_X10_findSheet rfl rfl rfl (by decide +kernel) ⟨Nat.le_of_ble_eq_true rfl, Nat.le_of_ble_eq_true rfl⟩) hK hw h_2 rfl rfl hl.1 rfl (Nat.le_of_ble_eq_true rfl) dX10_put_7 ⟨Nat.le_of_ble_eq_true rfl, (Nat.le_of_ble_eq_true rfl)⟩ ?_
  refine lv_astoreN (lv' := [(4, .null), (0, .ref (ad 0)), (1, .int k1), (2, .int i1), (3, .int v)]) hx hb dX10_put_10 hl (by decide) rfl (fun ls hl => ?_)
  refine lv_aloadN hx hb dX10_put_12 (lv_at hl 0 rfl) ?_
  refine lv_ifnonnullN hx hb dX10_put_14 ?_
  refine lv_iconst (v := (-1)) hx hb dX10_put_17 (by decide) ?_
  have hq_4 := h_2
  have hend := kw_eq1 hq_4 hfr_3
  rw [hend] at hw
  exact W.iret hx hb hr (fun t ht _ => ⟨rfl, by rw [ht]; exact hw.1, hw.2.2.1, hw.2.1.F ht, by rw [ht]; exact hw.2.2.2⟩) hw.2.1.2.2 dX10_put_18
set_option maxHeartbeats 4000000 in
set_option maxRecDepth 100000 in
theorem c_X10_put_f (l : Launch) (D : va_G) (tc : Nat → ClassId) (sz : Nat) (ad : Nat → Nat) (ct : Nat → Option va_E) {nt n k : Nat} {lf ln : Int32}   {qs : Nat → Option Nat}  {th : Bool} {i1 v : Int32} (h0 : ct 0 = some (.inr (10, [.ref (ad 1), .ref (ad 3), .int (nI nt), .ref (ad 4), .ref (ad 9), .ref (ad 11), .ref (ad 12), .ref (ad 13), .int lf]))) (h11 : ct 11 = some (eQ tc 5 4 qs)) (h20 : ct (20 + k) = some (.inr (6, [.ref (ad (24 + k)), .int (kb (th = true)), .int ln, .int (nI n)]))) (hk4 : k < 4) (hqs : qs k = some (ad (20 + k))) (hrf : ¬ (kRF th i1 n 1 = 0)) : Met l yX10_put wsX10_put ({ frames := 2, cells := 0, slots := 0, locals := 51 }) (va_Pc [.ref (ad 0), .int (nI k), .int i1, .int v] (kw_B D tc sz ad ct)) (kw_Q D ad (kw_A ad ct sz) (some (.int ((-10) - kRF th i1 n 1))) (kw_up ct 0 (.inr (10, [.ref (ad 1), .ref (ad 3), .int (nI nt), .ref (ad 4), .ref (ad 9), .ref (ad 11), .ref (ad 12), .ref (ad 13), .int (kRF th i1 n 1)]))) 0) 0 0 (kw_A ad ct sz) := by
  refine Met.ofW (cc := cX10_put) (maxL := 6) (ret := (some .int)) (by decide) rfl ?_
  intro pg en s m args below meth cod s₁ B hml hv
  obtain ⟨rfl, hsz, hP0, hK⟩ := hv
  have hx := B.exec
  have hb := B.bytes
  have hr := B.returns
  have hts := atoms_spec (ws := wsX10_put) B.pre
  have hown : s.vm.findClass RX10 = some m.cls := findClass_of_methodNamed B.named
  have hlocks := B.notSynchronized
  subst hsz
  have hw := kw_H.start hP0
  generalize hAe : kw_A ad ct s.heap.size = A at hw ⊢
  have hA : ∀ q, s.heap.size ≤ q → A q := fun q h => by rw [← hAe]; exact Or.inr h
  have hinX10 : ∀ w ∈ wsX100, w ∈ wsX10_put := by decide +kernel
  have hl := lv_entry ([.ref (ad 0), .int (nI k), .int i1, .int v]) (n := 6) (Nat.le_of_ble_eq_true rfl)
  rw [lg_entry_eq]
  generalize (lg_sl ([.ref (ad 0), .int (nI k), .int i1, .int v]) ++ List.replicate (6 - (lg_sl ([.ref (ad 0), .int (nI k), .int i1, .int v])).length) Slot.unset).toArray = ls at hl ⊢
  have hl : lv_has ls 6 [(0, .ref (ad 0)), (1, .int (nI k)), (2, .int i1), (3, .int v)] := hl
  have S0 : CallFix pg m cod cX10_put 6 s _ wsX10_put RX10 := ⟨hx, hb, hml, hown, hts⟩
  have hfr : ∀ j, j ≠ 0 → ct j = ct j := fun _ _ => rfl
  refine lv_aload_n hx hb dX10_put_0 rfl (lv_at hl 0 rfl) ?_
  refine lv_iconst (v := 0) hx hb dX10_put_1 (by decide) ?_
  refine kg_put (v := .int 0) (ty := .int) (C := RX10) (T := TX10) (N := 9) (fs' := [.ref (ad 1), .ref (ad 3), .int (nI nt), .ref (ad 4), .ref (ad 9), .ref (ad 11), .ref (ad 12), .ref (ad 13), .int 0]) hx hb hts hinX10 tyX10 tyX10_ok nmX10 hown hK hw h0 rfl 8 (by decide) (hts (.fieldLink RX10 179 "BetMaker" "latestFault" "I") (by decide +kernel)) (fun _ h9 => h9) rfl (by decide +kernel) rfl rfl (Nat.le_of_ble_eq_true rfl) rfl dX10_put_2 (fun H locs hw => ?_)
  obtain ⟨ct_1, ect_1⟩ : ∃ z, z = kw_up ct 0 (.inr (10, [.ref (ad 1), .ref (ad 3), .int (nI nt), .ref (ad 4), .ref (ad 9), .ref (ad 11), .ref (ad 12), .ref (ad 13), .int 0])) := ⟨_, rfl⟩
  rw [← ect_1] at hw
  have h_2 : ct_1 11 = some (eQ tc 5 4 qs) := by rw [ect_1, kw_up_n (by omega)]; exact h11
  have h_3 : ct_1 (20 + k) = some (.inr (6, [.ref (ad (24 + k)), .int (kb (th = true)), .int ln, .int (nI n)])) := by rw [ect_1, kw_up_n (by omega)]; exact h20
  have h_4 : ct_1 0 = some (.inr (10, [.ref (ad 1), .ref (ad 3), .int (nI nt), .ref (ad 4), .ref (ad 9), .ref (ad 11), .ref (ad 12), .ref (ad 13), .int 0])) := by rw [ect_1]; exact kw_up_s
  have hfr_5 : ∀ j, j ≠ 0 → ct_1 j = ct j := fun j a0 => by rw [ect_1]; exact (kw_up_n a0).trans (hfr j a0)
  refine lv_aload_n hx hb dX10_put_5 rfl (lv_at hl 0 rfl) ?_
  refine lv_iload_n hx hb dX10_put_6 rfl (lv_at hl 1 rfl) ?_
  refine kc_v (As := [.int (nI k)]) (rest := []) S0 (c_X10_findSheet l D tc s.heap.size ad ct_1 (k := k) (nt := nt) h_4 h_2 hk4 hqs) (cwV 1 hts gX10_put_X10_findSheet rfl rfl rfl (by decide +kernel) ⟨Nat.le_of_ble_eq_true rfl, Nat.le_of_ble_eq_true rfl⟩) hK hw h_4 rfl rfl hl.1 rfl (Nat.le_of_ble_eq_true rfl) dX10_put_7 ⟨Nat.le_of_ble_eq_true rfl, (Nat.le_of_ble_eq_true rfl)⟩ ?_
  refine lv_astore (lv' := [(4, .ref (ad (20 + k))), (0, .ref (ad 0)), (1, .int (nI k)), (2, .int i1), (3, .int v)]) hx hb dX10_put_10 hl (by decide) rfl (fun ls hl => ?_)
  refine lv_aload hx hb dX10_put_12 (lv_at hl 0 rfl) ?_
  refine lv_ifnonnull (tgt := 19) hx hb dX10_put_14 (by decide) ?_
  refine lv_aload hx hb dX10_put_19 (lv_at hl 0 rfl) ?_
  refine lv_iload_n hx hb dX10_put_21 rfl (lv_at hl 3 rfl) ?_
  refine lv_iconst (v := 1) hx hb dX10_put_22 (by decide) ?_
  refine kc_v (As := [.int i1, .int 1]) (rest := []) S0 (c_X6_reachFault l D tc s.heap.size ad ct_1 (n := n) h_3) (cwV 2 hts gX10_put_X6_reachFault rfl rfl rfl (by decide +kernel) ⟨Nat.le_of_ble_eq_true rfl, Nat.le_of_ble_eq_true rfl⟩) hK hw h_3 rfl rfl hl.1 rfl (Nat.le_of_ble_eq_true rfl) dX10_put_23 ⟨Nat.le_of_ble_eq_true rfl, (Nat.le_of_ble_eq_true rfl)⟩ ?_
  refine lv_istore (lv' := [(5, .int (kRF th i1 n 1)), (4, .ref (ad (20 + k))), (0, .ref (ad 0)), (1, .int (nI k)), (2, .int i1), (3, .int v)]) hx hb dX10_put_26 hl (by decide) rfl (fun ls hl => ?_)
  refine lv_iload hx hb dX10_put_28 (lv_at hl 0 rfl) ?_
  refine lv_if_eq (tgt := 40) hx hb dX10_put_30 (by decide) (fun c_6 => ?_) (fun c_6 => ?_)
  · exact absurd c_6 hrf
  · refine lv_aload_n hx hb dX10_put_33 rfl (lv_at hl 2 rfl) ?_
    refine lv_iload hx hb dX10_put_34 (lv_at hl 0 rfl) ?_
    refine kc_vu (As := [.int (kRF th i1 n 1)]) (rest := []) S0 (c_X10_meet l D tc s.heap.size ad ct_1 (nt := nt) h_4) (cwV 1 hts gX10_put_X10_meet rfl rfl rfl (by decide +kernel) ⟨Nat.le_of_ble_eq_true rfl, Nat.le_of_ble_eq_true rfl⟩) hK hw hA h_4 rfl rfl hl.1 rfl (Nat.le_of_ble_eq_true rfl) dX10_put_36 ⟨Nat.le_of_ble_eq_true rfl, (Nat.le_of_ble_eq_true rfl)⟩ (fun H locs hw => ?_)
    obtain ⟨ct_7, ect_7⟩ : ∃ z, z = kw_up ct_1 0 (.inr (10, [.ref (ad 1), .ref (ad 3), .int (nI nt), .ref (ad 4), .ref (ad 9), .ref (ad 11), .ref (ad 12), .ref (ad 13), .int (kRF th i1 n 1)])) := ⟨_, rfl⟩
    rw [← ect_7] at hw
    have h_8 : ct_7 11 = some (eQ tc 5 4 qs) := by rw [ect_7, kw_up_n (by omega)]; exact h_2
    have h_9 : ct_7 (20 + k) = some (.inr (6, [.ref (ad (24 + k)), .int (kb (th = true)), .int ln, .int (nI n)])) := by rw [ect_7, kw_up_n (by omega)]; exact h_3
    have h_10 : ct_7 0 = some (.inr (10, [.ref (ad 1), .ref (ad 3), .int (nI nt), .ref (ad 4), .ref (ad 9), .ref (ad 11), .ref (ad 12), .ref (ad 13), .int (kRF th i1 n 1)])) := by rw [ect_7]; exact kw_up_s
    have hfr_11 : ∀ j, j ≠ 0 → ct_7 j = ct j := fun j a0 => by rw [ect_7]; exact (kw_up_n a0).trans (hfr_5 j a0)
    refine W.eq (congrArg (fun z => F0 m 39 ls [.int z]) (show ((-10) - (kRF th i1 n 1)) = ((-10) - kRF th i1 n 1) from by rfl)) ?_
    have hq_12 := h_10
    have hend := kw_eq1 hq_12 hfr_11
    rw [hend] at hw
    exact W.iret hx hb hr (fun t ht _ => ⟨rfl, by rw [ht]; exact hw.1, hw.2.2.1, hw.2.1.F ht, by rw [ht]; exact hw.2.2.2⟩) hw.2.1.2.2 dX10_put_39
set_option maxHeartbeats 4000000 in
set_option maxRecDepth 100000 in
theorem c_X10_put (l : Launch) (D : va_G) (tc : Nat → ClassId) (sz : Nat) (ad : Nat → Nat) (ct : Nat → Option va_E) {nt n k i : Nat} {lf ln : Int32}   {qs : Nat → Option Nat} {sc : Nat → Int32} {th : Bool} {v : Int32} (h0 : ct 0 = some (.inr (10, [.ref (ad 1), .ref (ad 3), .int (nI nt), .ref (ad 4), .ref (ad 9), .ref (ad 11), .ref (ad 12), .ref (ad 13), .int lf]))) (h11 : ct 11 = some (eQ tc 5 4 qs)) (h20 : ct (20 + k) = some (.inr (6, [.ref (ad (24 + k)), .int (kb (th = true)), .int ln, .int (nI n)]))) (h24 : ct (24 + k) = some (eI tc 24 sc)) (hk4 : k < 4) (hqs : qs k = some (ad (20 + k))) (hrf : kRF th (nI i) n 1 = 0) (hi : i < n) (hn : n ≤ 24) : Met l yX10_put wsX10_put ({ frames := 2, cells := 0, slots := 0, locals := 51 }) (va_Pc [.ref (ad 0), .int (nI k), .int (nI i), .int v] (kw_B D tc sz ad ct)) (kw_Q D ad (kw_A ad ct sz) (some (.int 1)) (kw_up (kw_up ct 0 (.inr (10, [.ref (ad 1), .ref (ad 3), .int (nI nt), .ref (ad 4), .ref (ad 9), .ref (ad 11), .ref (ad 12), .ref (ad 13), .int 0]))) (24 + k) (eI tc 24 (va_up sc i (kCut ln v)))) 0) 0 0 (kw_A ad ct sz) := by
  refine Met.ofW (cc := cX10_put) (maxL := 6) (ret := (some .int)) (by decide) rfl ?_
  intro pg en s m args below meth cod s₁ B hml hv
  obtain ⟨rfl, hsz, hP0, hK⟩ := hv
  have hx := B.exec
  have hb := B.bytes
  have hr := B.returns
  have hts := atoms_spec (ws := wsX10_put) B.pre
  have hown : s.vm.findClass RX10 = some m.cls := findClass_of_methodNamed B.named
  have hlocks := B.notSynchronized
  subst hsz
  have hw := kw_H.start hP0
  generalize hAe : kw_A ad ct s.heap.size = A at hw ⊢
  have hA : ∀ q, s.heap.size ≤ q → A q := fun q h => by rw [← hAe]; exact Or.inr h
  have hinX10 : ∀ w ∈ wsX100, w ∈ wsX10_put := by decide +kernel
  have hl := lv_entry ([.ref (ad 0), .int (nI k), .int (nI i), .int v]) (n := 6) (Nat.le_of_ble_eq_true rfl)
  rw [lg_entry_eq]
  generalize (lg_sl ([.ref (ad 0), .int (nI k), .int (nI i), .int v]) ++ List.replicate (6 - (lg_sl ([.ref (ad 0), .int (nI k), .int (nI i), .int v])).length) Slot.unset).toArray = ls at hl ⊢
  have hl : lv_has ls 6 [(0, .ref (ad 0)), (1, .int (nI k)), (2, .int (nI i)), (3, .int v)] := hl
  have S0 : CallFix pg m cod cX10_put 6 s _ wsX10_put RX10 := ⟨hx, hb, hml, hown, hts⟩
  have hfr : ∀ j, j ≠ 0 → j ≠ (24 + k) → ct j = ct j := fun _ _ _ => rfl
  refine lv_aload_n hx hb dX10_put_0 rfl (lv_at hl 0 rfl) ?_
  refine lv_iconst (v := 0) hx hb dX10_put_1 (by decide) ?_
  refine kg_put (v := .int 0) (ty := .int) (C := RX10) (T := TX10) (N := 9) (fs' := [.ref (ad 1), .ref (ad 3), .int (nI nt), .ref (ad 4), .ref (ad 9), .ref (ad 11), .ref (ad 12), .ref (ad 13), .int 0]) hx hb hts hinX10 tyX10 tyX10_ok nmX10 hown hK hw h0 rfl 8 (by decide) (hts (.fieldLink RX10 179 "BetMaker" "latestFault" "I") (by decide +kernel)) (fun _ h9 => h9) rfl (by decide +kernel) rfl rfl (Nat.le_of_ble_eq_true rfl) rfl dX10_put_2 (fun H locs hw => ?_)
  obtain ⟨ct_1, ect_1⟩ : ∃ z, z = kw_up ct 0 (.inr (10, [.ref (ad 1), .ref (ad 3), .int (nI nt), .ref (ad 4), .ref (ad 9), .ref (ad 11), .ref (ad 12), .ref (ad 13), .int 0])) := ⟨_, rfl⟩
  rw [← ect_1] at hw
  have h_2 : ct_1 11 = some (eQ tc 5 4 qs) := by rw [ect_1, kw_up_n (by omega)]; exact h11
  have h_3 : ct_1 (20 + k) = some (.inr (6, [.ref (ad (24 + k)), .int (kb (th = true)), .int ln, .int (nI n)])) := by rw [ect_1, kw_up_n (by omega)]; exact h20
  have h_4 : ct_1 (24 + k) = some (eI tc 24 sc) := by rw [ect_1, kw_up_n (by omega)]; exact h24
  have h_5 : ct_1 0 = some (.inr (10, [.ref (ad 1), .ref (ad 3), .int (nI nt), .ref (ad 4), .ref (ad 9), .ref (ad 11), .ref (ad 12), .ref (ad 13), .int 0])) := by rw [ect_1]; exact kw_up_s
  have hfr_6 : ∀ j, j ≠ 0 → j ≠ (24 + k) → ct_1 j = ct j := fun j a0 a1 => by rw [ect_1]; exact (kw_up_n a0).trans (hfr j a0 a1)
  refine lv_aload_n hx hb dX10_put_5 rfl (lv_at hl 0 rfl) ?_
  refine lv_iload_n hx hb dX10_put_6 rfl (lv_at hl 1 rfl) ?_
  refine kc_v (As := [.int (nI k)]) (rest := []) S0 (c_X10_findSheet l D tc s.heap.size ad ct_1 (k := k) (nt := nt) h_5 h_2 hk4 hqs) (cwV 1 hts gX10_put_X10_findSheet rfl rfl rfl (by decide +kernel) ⟨Nat.le_of_ble_eq_true rfl, Nat.le_of_ble_eq_true rfl⟩) hK hw h_5 rfl rfl hl.1 rfl (Nat.le_of_ble_eq_true rfl) dX10_put_7 ⟨Nat.le_of_ble_eq_true rfl, (Nat.le_of_ble_eq_true rfl)⟩ ?_
  refine lv_astore (lv' := [(4, .ref (ad (20 + k))), (0, .ref (ad 0)), (1, .int (nI k)), (2, .int (nI i)), (3, .int v)]) hx hb dX10_put_10 hl (by decide) rfl (fun ls hl => ?_)
  refine lv_aload hx hb dX10_put_12 (lv_at hl 0 rfl) ?_
  refine lv_ifnonnull (tgt := 19) hx hb dX10_put_14 (by decide) ?_
  refine lv_aload hx hb dX10_put_19 (lv_at hl 0 rfl) ?_
  refine lv_iload_n hx hb dX10_put_21 rfl (lv_at hl 3 rfl) ?_
  refine lv_iconst (v := 1) hx hb dX10_put_22 (by decide) ?_
  refine kc_v (As := [.int (nI i), .int 1]) (rest := []) S0 (c_X6_reachFault l D tc s.heap.size ad ct_1 (n := n) h_3) (cwV 2 hts gX10_put_X6_reachFault rfl rfl rfl (by decide +kernel) ⟨Nat.le_of_ble_eq_true rfl, Nat.le_of_ble_eq_true rfl⟩) hK hw h_3 rfl rfl hl.1 rfl (Nat.le_of_ble_eq_true rfl) dX10_put_23 ⟨Nat.le_of_ble_eq_true rfl, (Nat.le_of_ble_eq_true rfl)⟩ ?_
  refine lv_istore (lv' := [(5, .int (kRF th (nI i) n 1)), (4, .ref (ad (20 + k))), (0, .ref (ad 0)), (1, .int (nI k)), (2, .int (nI i)), (3, .int v)]) hx hb dX10_put_26 hl (by decide) rfl (fun ls hl => ?_)
  refine lv_iload hx hb dX10_put_28 (lv_at hl 0 rfl) ?_
  refine lv_if_eq (tgt := 40) hx hb dX10_put_30 (by decide) (fun c_7 => ?_) (fun c_7 => ?_)
  · refine lv_aload hx hb dX10_put_40 (lv_at hl 1 rfl) ?_
    refine lv_iload_n hx hb dX10_put_42 rfl (lv_at hl 4 rfl) ?_
    refine lv_iload_n hx hb dX10_put_43 rfl (lv_at hl 5 rfl) ?_
    refine kc_vu (As := [.int (nI i), .int v]) (rest := []) S0 (c_X6_write l D tc s.heap.size ad ct_1 (i := i) (n := n) h_3 h_4 (by omega) (by omega)) (cwV 2 hts gX10_put_X6_write rfl rfl rfl (by decide +kernel) ⟨Nat.le_of_ble_eq_true rfl, Nat.le_of_ble_eq_true rfl⟩) hK hw hA h_3 rfl rfl hl.1 rfl (Nat.le_of_ble_eq_true rfl) dX10_put_44 ⟨Nat.le_of_ble_eq_true rfl, (Nat.le_of_ble_eq_true rfl)⟩ (fun H locs hw => ?_)
    obtain ⟨ct_8, ect_8⟩ : ∃ z, z = kw_up ct_1 (24 + k) (eI tc 24 (va_up sc i (kCut ln v))) := ⟨_, rfl⟩
    rw [← ect_8] at hw
    have h_9 : ct_8 11 = some (eQ tc 5 4 qs) := by rw [ect_8, kw_up_n (by omega)]; exact h_2
    have h_10 : ct_8 (20 + k) = some (.inr (6, [.ref (ad (24 + k)), .int (kb (th = true)), .int ln, .int (nI n)])) := by rw [ect_8, kw_up_n (by omega)]; exact h_3
    have h_11 : ct_8 0 = some (.inr (10, [.ref (ad 1), .ref (ad 3), .int (nI nt), .ref (ad 4), .ref (ad 9), .ref (ad 11), .ref (ad 12), .ref (ad 13), .int 0])) := by rw [ect_8, kw_up_n (by omega)]; exact h_5
    have h_12 : ct_8 (24 + k) = some (eI tc 24 (va_up sc i (kCut ln v))) := by rw [ect_8]; exact kw_up_s
    have hfr_13 : ∀ j, j ≠ 0 → j ≠ (24 + k) → ct_8 j = ct j := fun j a0 a1 => by rw [ect_8]; exact (kw_up_n a1).trans (hfr_6 j a0 a1)
    refine lv_iconst (v := 1) hx hb dX10_put_47 (by decide) ?_
    have hq_14 := h_11
    have hq_15 := h_12
    have hend := kw_eq2 hq_14 hq_15 hfr_13
    rw [hend] at hw
    exact W.iret hx hb hr (fun t ht _ => ⟨rfl, by rw [ht]; exact hw.1, hw.2.2.1, hw.2.1.F ht, by rw [ht]; exact hw.2.2.2⟩) hw.2.1.2.2 dX10_put_48
  · exact absurd hrf c_7
set_option maxHeartbeats 4000000 in
set_option maxRecDepth 100000 in
theorem c_X10_at_u (l : Launch) (D : va_G) (tc : Nat → ClassId) (sz : Nat) (ad : Nat → Nat) (ct : Nat → Option va_E) {nt : Nat} {lf : Int32}      {k1 i1 lane : Int32} (h0 : ct 0 = some (.inr (10, [.ref (ad 1), .ref (ad 3), .int (nI nt), .ref (ad 4), .ref (ad 9), .ref (ad 11), .ref (ad 12), .ref (ad 13), .int lf]))) (hk : ¬ (0 ≤ k1 ∧ k1 < 4)) : Met l yX10_at wsX10_at ({ frames := 2, cells := 0, slots := 0, locals := 53 }) (va_Pc [.ref (ad 0), .int k1, .int i1, .int lane] (kw_B D tc sz ad ct)) (kw_Q D ad (kw_A ad ct sz) (some (.long (-9223372036854775808))) (kw_up ct 0 (.inr (10, [.ref (ad 1), .ref (ad 3), .int (nI nt), .ref (ad 4), .ref (ad 9), .ref (ad 11), .ref (ad 12), .ref (ad 13), .int 0]))) 0) 0 0 (kw_A ad ct sz) := by
  refine Met.ofW (cc := cX10_at) (maxL := 6) (ret := (some .long)) (by decide) rfl ?_
  intro pg en s m args below meth cod s₁ B hml hv
  obtain ⟨rfl, hsz, hP0, hK⟩ := hv
  have hx := B.exec
  have hb := B.bytes
  have hr := B.returns
  have hts := atoms_spec (ws := wsX10_at) B.pre
  have hown : s.vm.findClass RX10 = some m.cls := findClass_of_methodNamed B.named
  have hlocks := B.notSynchronized
  subst hsz
  have hw := kw_H.start hP0
  generalize hAe : kw_A ad ct s.heap.size = A at hw ⊢
  have hA : ∀ q, s.heap.size ≤ q → A q := fun q h => by rw [← hAe]; exact Or.inr h
  have hinX10 : ∀ w ∈ wsX100, w ∈ wsX10_at := by decide +kernel
  have hl := lv_entry ([.ref (ad 0), .int k1, .int i1, .int lane]) (n := 6) (Nat.le_of_ble_eq_true rfl)
  rw [lg_entry_eq]
  generalize (lg_sl ([.ref (ad 0), .int k1, .int i1, .int lane]) ++ List.replicate (6 - (lg_sl ([.ref (ad 0), .int k1, .int i1, .int lane])).length) Slot.unset).toArray = ls at hl ⊢
  have hl : lv_has ls 6 [(0, .ref (ad 0)), (1, .int k1), (2, .int i1), (3, .int lane)] := hl
  have S0 : CallFix pg m cod cX10_at 6 s _ wsX10_at RX10 := ⟨hx, hb, hml, hown, hts⟩
  have hfr : ∀ j, j ≠ 0 → ct j = ct j := fun _ _ => rfl
  refine lv_aload_n hx hb dX10_at_0 rfl (lv_at hl 0 rfl) ?_
  refine lv_iconst (v := 0) hx hb dX10_at_1 (by decide) ?_
  refine kg_put (v := .int 0) (ty := .int) (C := RX10) (T := TX10) (N := 9) (fs' := [.ref (ad 1), .ref (ad 3), .int (nI nt), .ref (ad 4), .ref (ad 9), .ref (ad 11), .ref (ad 12), .ref (ad 13), .int 0]) hx hb hts hinX10 tyX10 tyX10_ok nmX10 hown hK hw h0 rfl 8 (by decide) (hts (.fieldLink RX10 179 "BetMaker" "latestFault" "I") (by decide +kernel)) (fun _ h9 => h9) rfl (by decide +kernel) rfl rfl (Nat.le_of_ble_eq_true rfl) rfl dX10_at_2 (fun H locs hw => ?_)
  obtain ⟨ct_1, ect_1⟩ : ∃ z, z = kw_up ct 0 (.inr (10, [.ref (ad 1), .ref (ad 3), .int (nI nt), .ref (ad 4), .ref (ad 9), .ref (ad 11), .ref (ad 12), .ref (ad 13), .int 0])) := ⟨_, rfl⟩
  rw [← ect_1] at hw
  have h_2 : ct_1 0 = some (.inr (10, [.ref (ad 1), .ref (ad 3), .int (nI nt), .ref (ad 4), .ref (ad 9), .ref (ad 11), .ref (ad 12), .ref (ad 13), .int 0])) := by rw [ect_1]; exact kw_up_s
  have hfr_3 : ∀ j, j ≠ 0 → ct_1 j = ct j := fun j a0 => by rw [ect_1]; exact (kw_up_n a0).trans (hfr j a0)
  refine lv_aload_n hx hb dX10_at_5 rfl (lv_at hl 0 rfl) ?_
  refine lv_iload_n hx hb dX10_at_6 rfl (lv_at hl 1 rfl) ?_
  refine kc_v (As := [.int k1]) (rest := []) S0 (c_X10_findSheet_n l D tc s.heap.size ad ct_1 (nt := nt) h_2 hk) (cwV 1 hts gX10_at_X10_findSheet rfl rfl rfl (by decide +kernel) ⟨Nat.le_of_ble_eq_true rfl, Nat.le_of_ble_eq_true rfl⟩) hK hw h_2 rfl rfl hl.1 rfl (Nat.le_of_ble_eq_true rfl) dX10_at_7 ⟨Nat.le_of_ble_eq_true rfl, (Nat.le_of_ble_eq_true rfl)⟩ ?_
  refine lv_astoreN (lv' := [(4, .null), (0, .ref (ad 0)), (1, .int k1), (2, .int i1), (3, .int lane)]) hx hb dX10_at_10 hl (by decide) rfl (fun ls hl => ?_)
  refine lv_aloadN hx hb dX10_at_12 (lv_at hl 0 rfl) ?_
  refine lv_ifnullN (tgt := 24) hx hb dX10_at_14 (by decide) ?_
  refine lv_ldc2 (v := (-9223372036854775808)) hx hb hown (hts (.constantLong RX10 85 (-9223372036854775808)) (by decide +kernel)) dX10_at_24 ?_
  have hq_4 := h_2
  have hend := kw_eq1 hq_4 hfr_3
  rw [hend] at hw
  exact W.lret hx hb hr (fun t ht _ => ⟨rfl, by rw [ht]; exact hw.1, hw.2.2.1, hw.2.1.F ht, by rw [ht]; exact hw.2.2.2⟩) hw.2.1.2.2 dX10_at_27
set_option maxHeartbeats 4000000 in
set_option maxRecDepth 100000 in
theorem c_X10_at_o (l : Launch) (D : va_G) (tc : Nat → ClassId) (sz : Nat) (ad : Nat → Nat) (ct : Nat → Option va_E) {nt k : Nat} {lf : Int32}   {qs : Nat → Option Nat}   {i1 lane : Int32} (h0 : ct 0 = some (.inr (10, [.ref (ad 1), .ref (ad 3), .int (nI nt), .ref (ad 4), .ref (ad 9), .ref (ad 11), .ref (ad 12), .ref (ad 13), .int lf]))) (h11 : ct 11 = some (eQ tc 5 4 qs)) (hk4 : k < 4) (hqs : qs k = some (ad (20 + k))) (hL : ¬ (0 ≤ lane ∧ lane ≤ 2)) : Met l yX10_at wsX10_at ({ frames := 2, cells := 0, slots := 0, locals := 53 }) (va_Pc [.ref (ad 0), .int (nI k), .int i1, .int lane] (kw_B D tc sz ad ct)) (kw_Q D ad (kw_A ad ct sz) (some (.long (-9223372036854775808))) (kw_up ct 0 (.inr (10, [.ref (ad 1), .ref (ad 3), .int (nI nt), .ref (ad 4), .ref (ad 9), .ref (ad 11), .ref (ad 12), .ref (ad 13), .int 0]))) 0) 0 0 (kw_A ad ct sz) := by
  refine Met.ofW (cc := cX10_at) (maxL := 6) (ret := (some .long)) (by decide) rfl ?_
  intro pg en s m args below meth cod s₁ B hml hv
  obtain ⟨rfl, hsz, hP0, hK⟩ := hv
  have hx := B.exec
  have hb := B.bytes
  have hr := B.returns
  have hts := atoms_spec (ws := wsX10_at) B.pre
  have hown : s.vm.findClass RX10 = some m.cls := findClass_of_methodNamed B.named
  have hlocks := B.notSynchronized
  subst hsz
  have hw := kw_H.start hP0
  generalize hAe : kw_A ad ct s.heap.size = A at hw ⊢
  have hA : ∀ q, s.heap.size ≤ q → A q := fun q h => by rw [← hAe]; exact Or.inr h
  have hinX10 : ∀ w ∈ wsX100, w ∈ wsX10_at := by decide +kernel
  have hl := lv_entry ([.ref (ad 0), .int (nI k), .int i1, .int lane]) (n := 6) (Nat.le_of_ble_eq_true rfl)
  rw [lg_entry_eq]
  generalize (lg_sl ([.ref (ad 0), .int (nI k), .int i1, .int lane]) ++ List.replicate (6 - (lg_sl ([.ref (ad 0), .int (nI k), .int i1, .int lane])).length) Slot.unset).toArray = ls at hl ⊢
  have hl : lv_has ls 6 [(0, .ref (ad 0)), (1, .int (nI k)), (2, .int i1), (3, .int lane)] := hl
  have S0 : CallFix pg m cod cX10_at 6 s _ wsX10_at RX10 := ⟨hx, hb, hml, hown, hts⟩
  have hfr : ∀ j, j ≠ 0 → ct j = ct j := fun _ _ => rfl
  refine lv_aload_n hx hb dX10_at_0 rfl (lv_at hl 0 rfl) ?_
  refine lv_iconst (v := 0) hx hb dX10_at_1 (by decide) ?_
  refine kg_put (v := .int 0) (ty := .int) (C := RX10) (T := TX10) (N := 9) (fs' := [.ref (ad 1), .ref (ad 3), .int (nI nt), .ref (ad 4), .ref (ad 9), .ref (ad 11), .ref (ad 12), .ref (ad 13), .int 0]) hx hb hts hinX10 tyX10 tyX10_ok nmX10 hown hK hw h0 rfl 8 (by decide) (hts (.fieldLink RX10 179 "BetMaker" "latestFault" "I") (by decide +kernel)) (fun _ h9 => h9) rfl (by decide +kernel) rfl rfl (Nat.le_of_ble_eq_true rfl) rfl dX10_at_2 (fun H locs hw => ?_)
  obtain ⟨ct_1, ect_1⟩ : ∃ z, z = kw_up ct 0 (.inr (10, [.ref (ad 1), .ref (ad 3), .int (nI nt), .ref (ad 4), .ref (ad 9), .ref (ad 11), .ref (ad 12), .ref (ad 13), .int 0])) := ⟨_, rfl⟩
  rw [← ect_1] at hw
  have h_2 : ct_1 11 = some (eQ tc 5 4 qs) := by rw [ect_1, kw_up_n (by omega)]; exact h11
  have h_3 : ct_1 0 = some (.inr (10, [.ref (ad 1), .ref (ad 3), .int (nI nt), .ref (ad 4), .ref (ad 9), .ref (ad 11), .ref (ad 12), .ref (ad 13), .int 0])) := by rw [ect_1]; exact kw_up_s
  have hfr_4 : ∀ j, j ≠ 0 → ct_1 j = ct j := fun j a0 => by rw [ect_1]; exact (kw_up_n a0).trans (hfr j a0)
  refine lv_aload_n hx hb dX10_at_5 rfl (lv_at hl 0 rfl) ?_
  refine lv_iload_n hx hb dX10_at_6 rfl (lv_at hl 1 rfl) ?_
  refine kc_v (As := [.int (nI k)]) (rest := []) S0 (c_X10_findSheet l D tc s.heap.size ad ct_1 (k := k) (nt := nt) h_3 h_2 hk4 hqs) (cwV 1 hts gX10_at_X10_findSheet rfl rfl rfl (by decide +kernel) ⟨Nat.le_of_ble_eq_true rfl, Nat.le_of_ble_eq_true rfl⟩) hK hw h_3 rfl rfl hl.1 rfl (Nat.le_of_ble_eq_true rfl) dX10_at_7 ⟨Nat.le_of_ble_eq_true rfl, (Nat.le_of_ble_eq_true rfl)⟩ ?_
  refine lv_astore (lv' := [(4, .ref (ad (20 + k))), (0, .ref (ad 0)), (1, .int (nI k)), (2, .int i1), (3, .int lane)]) hx hb dX10_at_10 hl (by decide) rfl (fun ls hl => ?_)
  refine lv_aload hx hb dX10_at_12 (lv_at hl 0 rfl) ?_
  refine lv_ifnull hx hb dX10_at_14 ?_
  refine lv_iload_n hx hb dX10_at_17 rfl (lv_at hl 4 rfl) ?_
  refine kc_s (As := [.int lane]) (rest := []) S0 (c_X10_isLane l D tc s.heap.size ad ct_1 ) (va_cwS 1 hts gX10_at_X10_isLane rfl rfl rfl (by decide +kernel) ⟨Nat.le_of_ble_eq_true rfl, Nat.le_of_ble_eq_true rfl⟩) hK hw rfl hl.1 rfl (Nat.le_of_ble_eq_true rfl) dX10_at_18 ⟨Nat.le_of_ble_eq_true rfl, (Nat.le_of_ble_eq_true rfl)⟩ ?_
  refine kb_ifne (tgt := 28) hx hb dX10_at_21 (by decide) (fun c_5 => ?_) (fun c_5 => ?_)
  · exact absurd c_5 hL
  · refine lv_ldc2 (v := (-9223372036854775808)) hx hb hown (hts (.constantLong RX10 85 (-9223372036854775808)) (by decide +kernel)) dX10_at_24 ?_
    have hq_6 := h_3
    have hend := kw_eq1 hq_6 hfr_4
    rw [hend] at hw
    exact W.lret hx hb hr (fun t ht _ => ⟨rfl, by rw [ht]; exact hw.1, hw.2.2.1, hw.2.1.F ht, by rw [ht]; exact hw.2.2.2⟩) hw.2.1.2.2 dX10_at_27
set_option maxHeartbeats 4000000 in
set_option maxRecDepth 100000 in
theorem c_X10_at_f (l : Launch) (D : va_G) (tc : Nat → ClassId) (sz : Nat) (ad : Nat → Nat) (ct : Nat → Option va_E) {nt n k : Nat} {lf ln : Int32}   {qs : Nat → Option Nat}  {th : Bool} {i1 lane : Int32} (h0 : ct 0 = some (.inr (10, [.ref (ad 1), .ref (ad 3), .int (nI nt), .ref (ad 4), .ref (ad 9), .ref (ad 11), .ref (ad 12), .ref (ad 13), .int lf]))) (h11 : ct 11 = some (eQ tc 5 4 qs)) (h20 : ct (20 + k) = some (.inr (6, [.ref (ad (24 + k)), .int (kb (th = true)), .int ln, .int (nI n)]))) (hk4 : k < 4) (hqs : qs k = some (ad (20 + k))) (hL : 0 ≤ lane ∧ lane ≤ 2) (hdf : ¬ (kDF th ln lane i1 n 1 = 0)) : Met l yX10_at wsX10_at ({ frames := 2, cells := 0, slots := 0, locals := 53 }) (va_Pc [.ref (ad 0), .int (nI k), .int i1, .int lane] (kw_B D tc sz ad ct)) (kw_Q D ad (kw_A ad ct sz) (some (.long (-9223372036854775808))) (kw_up ct 0 (.inr (10, [.ref (ad 1), .ref (ad 3), .int (nI nt), .ref (ad 4), .ref (ad 9), .ref (ad 11), .ref (ad 12), .ref (ad 13), .int (kDF th ln lane i1 n 1)]))) 0) 0 0 (kw_A ad ct sz) := by
  refine Met.ofW (cc := cX10_at) (maxL := 6) (ret := (some .long)) (by decide) rfl ?_
  intro pg en s m args below meth cod s₁ B hml hv
  obtain ⟨rfl, hsz, hP0, hK⟩ := hv
  have hx := B.exec
  have hb := B.bytes
  have hr := B.returns
  have hts := atoms_spec (ws := wsX10_at) B.pre
  have hown : s.vm.findClass RX10 = some m.cls := findClass_of_methodNamed B.named
  have hlocks := B.notSynchronized
  subst hsz
  have hw := kw_H.start hP0
  generalize hAe : kw_A ad ct s.heap.size = A at hw ⊢
  have hA : ∀ q, s.heap.size ≤ q → A q := fun q h => by rw [← hAe]; exact Or.inr h
  have hinX10 : ∀ w ∈ wsX100, w ∈ wsX10_at := by decide +kernel
  have hl := lv_entry ([.ref (ad 0), .int (nI k), .int i1, .int lane]) (n := 6) (Nat.le_of_ble_eq_true rfl)
  rw [lg_entry_eq]
  generalize (lg_sl ([.ref (ad 0), .int (nI k), .int i1, .int lane]) ++ List.replicate (6 - (lg_sl ([.ref (ad 0), .int (nI k), .int i1, .int lane])).length) Slot.unset).toArray = ls at hl ⊢
  have hl : lv_has ls 6 [(0, .ref (ad 0)), (1, .int (nI k)), (2, .int i1), (3, .int lane)] := hl
  have S0 : CallFix pg m cod cX10_at 6 s _ wsX10_at RX10 := ⟨hx, hb, hml, hown, hts⟩
  have hfr : ∀ j, j ≠ 0 → ct j = ct j := fun _ _ => rfl
  refine lv_aload_n hx hb dX10_at_0 rfl (lv_at hl 0 rfl) ?_
  refine lv_iconst (v := 0) hx hb dX10_at_1 (by decide) ?_
  refine kg_put (v := .int 0) (ty := .int) (C := RX10) (T := TX10) (N := 9) (fs' := [.ref (ad 1), .ref (ad 3), .int (nI nt), .ref (ad 4), .ref (ad 9), .ref (ad 11), .ref (ad 12), .ref (ad 13), .int 0]) hx hb hts hinX10 tyX10 tyX10_ok nmX10 hown hK hw h0 rfl 8 (by decide) (hts (.fieldLink RX10 179 "BetMaker" "latestFault" "I") (by decide +kernel)) (fun _ h9 => h9) rfl (by decide +kernel) rfl rfl (Nat.le_of_ble_eq_true rfl) rfl dX10_at_2 (fun H locs hw => ?_)
  obtain ⟨ct_1, ect_1⟩ : ∃ z, z = kw_up ct 0 (.inr (10, [.ref (ad 1), .ref (ad 3), .int (nI nt), .ref (ad 4), .ref (ad 9), .ref (ad 11), .ref (ad 12), .ref (ad 13), .int 0])) := ⟨_, rfl⟩
  rw [← ect_1] at hw
  have h_2 : ct_1 11 = some (eQ tc 5 4 qs) := by rw [ect_1, kw_up_n (by omega)]; exact h11
  have h_3 : ct_1 (20 + k) = some (.inr (6, [.ref (ad (24 + k)), .int (kb (th = true)), .int ln, .int (nI n)])) := by rw [ect_1, kw_up_n (by omega)]; exact h20
  have h_4 : ct_1 0 = some (.inr (10, [.ref (ad 1), .ref (ad 3), .int (nI nt), .ref (ad 4), .ref (ad 9), .ref (ad 11), .ref (ad 12), .ref (ad 13), .int 0])) := by rw [ect_1]; exact kw_up_s
  have hfr_5 : ∀ j, j ≠ 0 → ct_1 j = ct j := fun j a0 => by rw [ect_1]; exact (kw_up_n a0).trans (hfr j a0)
  refine lv_aload_n hx hb dX10_at_5 rfl (lv_at hl 0 rfl) ?_
  refine lv_iload_n hx hb dX10_at_6 rfl (lv_at hl 1 rfl) ?_
  refine kc_v (As := [.int (nI k)]) (rest := []) S0 (c_X10_findSheet l D tc s.heap.size ad ct_1 (k := k) (nt := nt) h_4 h_2 hk4 hqs) (cwV 1 hts gX10_at_X10_findSheet rfl rfl rfl (by decide +kernel) ⟨Nat.le_of_ble_eq_true rfl, Nat.le_of_ble_eq_true rfl⟩) hK hw h_4 rfl rfl hl.1 rfl (Nat.le_of_ble_eq_true rfl) dX10_at_7 ⟨Nat.le_of_ble_eq_true rfl, (Nat.le_of_ble_eq_true rfl)⟩ ?_
  refine lv_astore (lv' := [(4, .ref (ad (20 + k))), (0, .ref (ad 0)), (1, .int (nI k)), (2, .int i1), (3, .int lane)]) hx hb dX10_at_10 hl (by decide) rfl (fun ls hl => ?_)
  refine lv_aload hx hb dX10_at_12 (lv_at hl 0 rfl) ?_
  refine lv_ifnull hx hb dX10_at_14 ?_
  refine lv_iload_n hx hb dX10_at_17 rfl (lv_at hl 4 rfl) ?_
  refine kc_s (As := [.int lane]) (rest := []) S0 (c_X10_isLane l D tc s.heap.size ad ct_1 ) (va_cwS 1 hts gX10_at_X10_isLane rfl rfl rfl (by decide +kernel) ⟨Nat.le_of_ble_eq_true rfl, Nat.le_of_ble_eq_true rfl⟩) hK hw rfl hl.1 rfl (Nat.le_of_ble_eq_true rfl) dX10_at_18 ⟨Nat.le_of_ble_eq_true rfl, (Nat.le_of_ble_eq_true rfl)⟩ ?_
  refine kb_ifne (tgt := 28) hx hb dX10_at_21 (by decide) (fun c_6 => ?_) (fun c_6 => ?_)
  · refine lv_aload hx hb dX10_at_28 (lv_at hl 0 rfl) ?_
    refine lv_iload_n hx hb dX10_at_30 rfl (lv_at hl 4 rfl) ?_
    refine lv_iload_n hx hb dX10_at_31 rfl (lv_at hl 3 rfl) ?_
    refine lv_iconst (v := 1) hx hb dX10_at_32 (by decide) ?_
    refine kc_v (As := [.int lane, .int i1, .int 1]) (rest := []) S0 (c_X6_readFault l D tc s.heap.size ad ct_1 (n := n) h_3) (cwV 3 hts gX10_at_X6_readFault rfl rfl rfl (by decide +kernel) ⟨Nat.le_of_ble_eq_true rfl, Nat.le_of_ble_eq_true rfl⟩) hK hw h_3 rfl rfl hl.1 rfl (Nat.le_of_ble_eq_true rfl) dX10_at_33 ⟨Nat.le_of_ble_eq_true rfl, (Nat.le_of_ble_eq_true rfl)⟩ ?_
    refine lv_istore (lv' := [(5, .int (kDF th ln lane i1 n 1)), (4, .ref (ad (20 + k))), (0, .ref (ad 0)), (1, .int (nI k)), (2, .int i1), (3, .int lane)]) hx hb dX10_at_36 hl (by decide) rfl (fun ls hl => ?_)
    refine lv_iload hx hb dX10_at_38 (lv_at hl 0 rfl) ?_
    refine lv_if_eq (tgt := 54) hx hb dX10_at_40 (by decide) (fun c_7 => ?_) (fun c_7 => ?_)
    · exact absurd c_7 hdf
    · refine lv_aload_n hx hb dX10_at_43 rfl (lv_at hl 2 rfl) ?_
      refine lv_iload hx hb dX10_at_44 (lv_at hl 0 rfl) ?_
      refine kc_vu (As := [.int (kDF th ln lane i1 n 1)]) (rest := []) S0 (c_X10_meet l D tc s.heap.size ad ct_1 (nt := nt) h_4) (cwV 1 hts gX10_at_X10_meet rfl rfl rfl (by decide +kernel) ⟨Nat.le_of_ble_eq_true rfl, Nat.le_of_ble_eq_true rfl⟩) hK hw hA h_4 rfl rfl hl.1 rfl (Nat.le_of_ble_eq_true rfl) dX10_at_46 ⟨Nat.le_of_ble_eq_true rfl, (Nat.le_of_ble_eq_true rfl)⟩ (fun H locs hw => ?_)
      obtain ⟨ct_8, ect_8⟩ : ∃ z, z = kw_up ct_1 0 (.inr (10, [.ref (ad 1), .ref (ad 3), .int (nI nt), .ref (ad 4), .ref (ad 9), .ref (ad 11), .ref (ad 12), .ref (ad 13), .int (kDF th ln lane i1 n 1)])) := ⟨_, rfl⟩
      rw [← ect_8] at hw
      have h_9 : ct_8 11 = some (eQ tc 5 4 qs) := by rw [ect_8, kw_up_n (by omega)]; exact h_2
      have h_10 : ct_8 (20 + k) = some (.inr (6, [.ref (ad (24 + k)), .int (kb (th = true)), .int ln, .int (nI n)])) := by rw [ect_8, kw_up_n (by omega)]; exact h_3
      have h_11 : ct_8 0 = some (.inr (10, [.ref (ad 1), .ref (ad 3), .int (nI nt), .ref (ad 4), .ref (ad 9), .ref (ad 11), .ref (ad 12), .ref (ad 13), .int (kDF th ln lane i1 n 1)])) := by rw [ect_8]; exact kw_up_s
      have hfr_12 : ∀ j, j ≠ 0 → ct_8 j = ct j := fun j a0 => by rw [ect_8]; exact (kw_up_n a0).trans (hfr_5 j a0)
      refine lv_pop hx hb dX10_at_49 rfl ?_
      refine lv_ldc2 (v := (-9223372036854775808)) hx hb hown (hts (.constantLong RX10 85 (-9223372036854775808)) (by decide +kernel)) dX10_at_50 ?_
      have hq_13 := h_11
      have hend := kw_eq1 hq_13 hfr_12
      rw [hend] at hw
      exact W.lret hx hb hr (fun t ht _ => ⟨rfl, by rw [ht]; exact hw.1, hw.2.2.1, hw.2.1.F ht, by rw [ht]; exact hw.2.2.2⟩) hw.2.1.2.2 dX10_at_53
  · exact absurd hL c_6
set_option maxHeartbeats 4000000 in
set_option maxRecDepth 100000 in
theorem c_X10_at (l : Launch) (D : va_G) (tc : Nat → ClassId) (sz : Nat) (ad : Nat → Nat) (ct : Nat → Option va_E) {nt n k i : Nat} {lf ln : Int32}   {qs : Nat → Option Nat} {sc : Nat → Int32} {th : Bool} {lane : Int32} (h0 : ct 0 = some (.inr (10, [.ref (ad 1), .ref (ad 3), .int (nI nt), .ref (ad 4), .ref (ad 9), .ref (ad 11), .ref (ad 12), .ref (ad 13), .int lf]))) (h11 : ct 11 = some (eQ tc 5 4 qs)) (h20 : ct (20 + k) = some (.inr (6, [.ref (ad (24 + k)), .int (kb (th = true)), .int ln, .int (nI n)]))) (h24 : ct (24 + k) = some (eI tc 24 sc)) (hk4 : k < 4) (hqs : qs k = some (ad (20 + k))) (hL : 0 ≤ lane ∧ lane ≤ 2) (hdf : kDF th ln lane (nI i) n 1 = 0) (hi : i < n) (hn : n ≤ 24) : Met l yX10_at wsX10_at ({ frames := 2, cells := 0, slots := 0, locals := 53 }) (va_Pc [.ref (ad 0), .int (nI k), .int (nI i), .int lane] (kw_B D tc sz ad ct)) (kw_Q D ad (kw_A ad ct sz) (some (.long ((sc i).toInt64))) (kw_up ct 0 (.inr (10, [.ref (ad 1), .ref (ad 3), .int (nI nt), .ref (ad 4), .ref (ad 9), .ref (ad 11), .ref (ad 12), .ref (ad 13), .int 0]))) 0) 0 0 (kw_A ad ct sz) := by
  refine Met.ofW (cc := cX10_at) (maxL := 6) (ret := (some .long)) (by decide) rfl ?_
  intro pg en s m args below meth cod s₁ B hml hv
  obtain ⟨rfl, hsz, hP0, hK⟩ := hv
  have hx := B.exec
  have hb := B.bytes
  have hr := B.returns
  have hts := atoms_spec (ws := wsX10_at) B.pre
  have hown : s.vm.findClass RX10 = some m.cls := findClass_of_methodNamed B.named
  have hlocks := B.notSynchronized
  subst hsz
  have hw := kw_H.start hP0
  generalize hAe : kw_A ad ct s.heap.size = A at hw ⊢
  have hA : ∀ q, s.heap.size ≤ q → A q := fun q h => by rw [← hAe]; exact Or.inr h
  have hinX10 : ∀ w ∈ wsX100, w ∈ wsX10_at := by decide +kernel
  have hl := lv_entry ([.ref (ad 0), .int (nI k), .int (nI i), .int lane]) (n := 6) (Nat.le_of_ble_eq_true rfl)
  rw [lg_entry_eq]
  generalize (lg_sl ([.ref (ad 0), .int (nI k), .int (nI i), .int lane]) ++ List.replicate (6 - (lg_sl ([.ref (ad 0), .int (nI k), .int (nI i), .int lane])).length) Slot.unset).toArray = ls at hl ⊢
  have hl : lv_has ls 6 [(0, .ref (ad 0)), (1, .int (nI k)), (2, .int (nI i)), (3, .int lane)] := hl
  have S0 : CallFix pg m cod cX10_at 6 s _ wsX10_at RX10 := ⟨hx, hb, hml, hown, hts⟩
  have hfr : ∀ j, j ≠ 0 → ct j = ct j := fun _ _ => rfl
  refine lv_aload_n hx hb dX10_at_0 rfl (lv_at hl 0 rfl) ?_
  refine lv_iconst (v := 0) hx hb dX10_at_1 (by decide) ?_
  refine kg_put (v := .int 0) (ty := .int) (C := RX10) (T := TX10) (N := 9) (fs' := [.ref (ad 1), .ref (ad 3), .int (nI nt), .ref (ad 4), .ref (ad 9), .ref (ad 11), .ref (ad 12), .ref (ad 13), .int 0]) hx hb hts hinX10 tyX10 tyX10_ok nmX10 hown hK hw h0 rfl 8 (by decide) (hts (.fieldLink RX10 179 "BetMaker" "latestFault" "I") (by decide +kernel)) (fun _ h9 => h9) rfl (by decide +kernel) rfl rfl (Nat.le_of_ble_eq_true rfl) rfl dX10_at_2 (fun H locs hw => ?_)
  obtain ⟨ct_1, ect_1⟩ : ∃ z, z = kw_up ct 0 (.inr (10, [.ref (ad 1), .ref (ad 3), .int (nI nt), .ref (ad 4), .ref (ad 9), .ref (ad 11), .ref (ad 12), .ref (ad 13), .int 0])) := ⟨_, rfl⟩
  rw [← ect_1] at hw
  have h_2 : ct_1 11 = some (eQ tc 5 4 qs) := by rw [ect_1, kw_up_n (by omega)]; exact h11
  have h_3 : ct_1 (20 + k) = some (.inr (6, [.ref (ad (24 + k)), .int (kb (th = true)), .int ln, .int (nI n)])) := by rw [ect_1, kw_up_n (by omega)]; exact h20
  have h_4 : ct_1 (24 + k) = some (eI tc 24 sc) := by rw [ect_1, kw_up_n (by omega)]; exact h24
  have h_5 : ct_1 0 = some (.inr (10, [.ref (ad 1), .ref (ad 3), .int (nI nt), .ref (ad 4), .ref (ad 9), .ref (ad 11), .ref (ad 12), .ref (ad 13), .int 0])) := by rw [ect_1]; exact kw_up_s
  have hfr_6 : ∀ j, j ≠ 0 → ct_1 j = ct j := fun j a0 => by rw [ect_1]; exact (kw_up_n a0).trans (hfr j a0)
  refine lv_aload_n hx hb dX10_at_5 rfl (lv_at hl 0 rfl) ?_
  refine lv_iload_n hx hb dX10_at_6 rfl (lv_at hl 1 rfl) ?_
  refine kc_v (As := [.int (nI k)]) (rest := []) S0 (c_X10_findSheet l D tc s.heap.size ad ct_1 (k := k) (nt := nt) h_5 h_2 hk4 hqs) (cwV 1 hts gX10_at_X10_findSheet rfl rfl rfl (by decide +kernel) ⟨Nat.le_of_ble_eq_true rfl, Nat.le_of_ble_eq_true rfl⟩) hK hw h_5 rfl rfl hl.1 rfl (Nat.le_of_ble_eq_true rfl) dX10_at_7 ⟨Nat.le_of_ble_eq_true rfl, (Nat.le_of_ble_eq_true rfl)⟩ ?_
  refine lv_astore (lv' := [(4, .ref (ad (20 + k))), (0, .ref (ad 0)), (1, .int (nI k)), (2, .int (nI i)), (3, .int lane)]) hx hb dX10_at_10 hl (by decide) rfl (fun ls hl => ?_)
  refine lv_aload hx hb dX10_at_12 (lv_at hl 0 rfl) ?_
  refine lv_ifnull hx hb dX10_at_14 ?_
  refine lv_iload_n hx hb dX10_at_17 rfl (lv_at hl 4 rfl) ?_
  refine kc_s (As := [.int lane]) (rest := []) S0 (c_X10_isLane l D tc s.heap.size ad ct_1 ) (va_cwS 1 hts gX10_at_X10_isLane rfl rfl rfl (by decide +kernel) ⟨Nat.le_of_ble_eq_true rfl, Nat.le_of_ble_eq_true rfl⟩) hK hw rfl hl.1 rfl (Nat.le_of_ble_eq_true rfl) dX10_at_18 ⟨Nat.le_of_ble_eq_true rfl, (Nat.le_of_ble_eq_true rfl)⟩ ?_
  refine kb_ifne (tgt := 28) hx hb dX10_at_21 (by decide) (fun c_7 => ?_) (fun c_7 => ?_)
  · refine lv_aload hx hb dX10_at_28 (lv_at hl 0 rfl) ?_
    refine lv_iload_n hx hb dX10_at_30 rfl (lv_at hl 4 rfl) ?_
    refine lv_iload_n hx hb dX10_at_31 rfl (lv_at hl 3 rfl) ?_
    refine lv_iconst (v := 1) hx hb dX10_at_32 (by decide) ?_
    refine kc_v (As := [.int lane, .int (nI i), .int 1]) (rest := []) S0 (c_X6_readFault l D tc s.heap.size ad ct_1 (n := n) h_3) (cwV 3 hts gX10_at_X6_readFault rfl rfl rfl (by decide +kernel) ⟨Nat.le_of_ble_eq_true rfl, Nat.le_of_ble_eq_true rfl⟩) hK hw h_3 rfl rfl hl.1 rfl (Nat.le_of_ble_eq_true rfl) dX10_at_33 ⟨Nat.le_of_ble_eq_true rfl, (Nat.le_of_ble_eq_true rfl)⟩ ?_
    refine lv_istore (lv' := [(5, .int (kDF th ln lane (nI i) n 1)), (4, .ref (ad (20 + k))), (0, .ref (ad 0)), (1, .int (nI k)), (2, .int (nI i)), (3, .int lane)]) hx hb dX10_at_36 hl (by decide) rfl (fun ls hl => ?_)
    refine lv_iload hx hb dX10_at_38 (lv_at hl 0 rfl) ?_
    refine lv_if_eq (tgt := 54) hx hb dX10_at_40 (by decide) (fun c_8 => ?_) (fun c_8 => ?_)
    · refine lv_aload hx hb dX10_at_54 (lv_at hl 1 rfl) ?_
      refine lv_iload_n hx hb dX10_at_56 rfl (lv_at hl 4 rfl) ?_
      refine kc_v (As := [.int (nI i)]) (rest := []) S0 (c_X6_read l D tc s.heap.size ad ct_1 (i := i) (n := n) h_3 h_4 (by omega) (by omega)) (cwV 1 hts gX10_at_X6_read rfl rfl rfl (by decide +kernel) ⟨Nat.le_of_ble_eq_true rfl, Nat.le_of_ble_eq_true rfl⟩) hK hw h_3 rfl rfl hl.1 rfl (Nat.le_of_ble_eq_true rfl) dX10_at_57 ⟨Nat.le_of_ble_eq_true rfl, (Nat.le_of_ble_eq_true rfl)⟩ ?_
      refine lv_i2l (v := (sc i).toInt64) hx hb dX10_at_60 rfl ?_
      have hq_9 := h_5
      have hend := kw_eq1 hq_9 hfr_6
      rw [hend] at hw
      exact W.lret hx hb hr (fun t ht _ => ⟨rfl, by rw [ht]; exact hw.1, hw.2.2.1, hw.2.1.F ht, by rw [ht]; exact hw.2.2.2⟩) hw.2.1.2.2 dX10_at_61
    · exact absurd hdf c_8
  · exact absurd hL c_7
set_option maxHeartbeats 4000000 in
set_option maxRecDepth 100000 in
theorem c_X10_tell_5 (l : Launch) (D : va_G) (tc : Nat → ClassId) (sz : Nat) (ad : Nat → Nat) (ct : Nat → Option va_E) {nt t : Nat} {lf tv nb de : Int32} {pu : Int64}  {qt : Nat → Option Nat}    (h0 : ct 0 = some (.inr (10, [.ref (ad 1), .ref (ad 3), .int (nI nt), .ref (ad 4), .ref (ad 9), .ref (ad 11), .ref (ad 12), .ref (ad 13), .int lf]))) (h3 : ct 3 = some (eQ tc 4 6 qt)) (h12 : ct 12 = some (.inr (8, [.int tv]))) (h30 : ct (30 + t) = some (.inr (5, [.int nb, .ref (ad (36 + t)), .ref (ad (42 + t)), .long pu, .int de]))) (ht : t < nt) (hnt : nt ≤ 6) (hqt : qt t = some (ad (30 + t))) : Met l yX10_tell wsX10_tell ({ frames := 4, cells := 0, slots := 0, locals := 101 }) (va_Pc [.ref (ad 0), .int (nI t)] (kw_B D tc sz ad ct)) (kw_Q D ad (kw_A ad ct sz) (some (.int de)) (kw_up ct 12 (.inr (8, [.int (31 * tv + 1)]))) 0) 0 0 (kw_A ad ct sz) := by
  refine Met.ofW (cc := cX10_tell) (maxL := 3) (ret := (some .int)) (by decide) rfl ?_
  intro pg en s m args below meth cod s₁ B hml hv
  obtain ⟨rfl, hsz, hP0, hK⟩ := hv
  have hx := B.exec
  have hb := B.bytes
  have hr := B.returns
  have hts := atoms_spec (ws := wsX10_tell) B.pre
  have hown : s.vm.findClass RX10 = some m.cls := findClass_of_methodNamed B.named
  have hlocks := B.notSynchronized
  subst hsz
  have hw := kw_H.start hP0
  generalize hAe : kw_A ad ct s.heap.size = A at hw ⊢
  have hA : ∀ q, s.heap.size ≤ q → A q := fun q h => by rw [← hAe]; exact Or.inr h
  have hinX10 : ∀ w ∈ wsX100, w ∈ wsX10_tell := by decide +kernel
  have hl := lv_entry ([.ref (ad 0), .int (nI t)]) (n := 3) (Nat.le_of_ble_eq_true rfl)
  rw [lg_entry_eq]
  generalize (lg_sl ([.ref (ad 0), .int (nI t)]) ++ List.replicate (3 - (lg_sl ([.ref (ad 0), .int (nI t)])).length) Slot.unset).toArray = ls at hl ⊢
  have hl : lv_has ls 3 [(0, .ref (ad 0)), (1, .int (nI t))] := hl
  have S0 : CallFix pg m cod cX10_tell 3 s _ wsX10_tell RX10 := ⟨hx, hb, hml, hown, hts⟩
  have hfr : ∀ j, j ≠ 12 → ct j = ct j := fun _ _ => rfl
  refine lv_aload_n hx hb dX10_tell_0 rfl (lv_at hl 0 rfl) ?_
  refine lv_iload_n hx hb dX10_tell_1 rfl (lv_at hl 1 rfl) ?_
  refine kc_v (As := [.int (nI t)]) (rest := []) S0 (c_X10_findTrader l D tc s.heap.size ad ct (t := t) (nt := nt) h0 h3 (by omega) (by omega) hqt) (cwV 1 hts gX10_tell_X10_findTrader rfl rfl rfl (by decide +kernel) ⟨Nat.le_of_ble_eq_true rfl, Nat.le_of_ble_eq_true rfl⟩) hK hw h0 rfl rfl hl.1 rfl (Nat.le_of_ble_eq_true rfl) dX10_tell_2 ⟨Nat.le_of_ble_eq_true rfl, (Nat.le_of_ble_eq_true rfl)⟩ ?_
  refine lv_astore_n (lv' := [(2, .ref (ad (30 + t))), (0, .ref (ad 0)), (1, .int (nI t))]) hx hb dX10_tell_5 rfl hl (by decide) rfl (fun ls hl => ?_)
  refine lv_aload_n hx hb dX10_tell_6 rfl (lv_at hl 0 rfl) ?_
  refine lv_ifnonnull (tgt := 14) hx hb dX10_tell_7 (by decide) ?_
  refine lv_aload_n hx hb dX10_tell_14 rfl (lv_at hl 0 rfl) ?_
  refine lv_aload_n hx hb dX10_tell_15 rfl (lv_at hl 1 rfl) ?_
  refine kg_get (v := .ref (ad 12)) (C := RX10) (T := TX10) (N := 9) hx hb hts hinX10 hown hK hw h0 rfl 6 (by decide) (hts (.fieldLink RX10 47 "BetMaker" "trace" "LBetMaker$Trace;") (by decide +kernel)) (fun _ h9 => h9) rfl dX10_tell_16 ?_
  refine kc_vu (As := [.ref (ad 12)]) (rest := []) S0 (c_X5_telling l D tc s.heap.size ad ct h30 h12) (cwV 1 hts gX10_tell_X5_telling rfl rfl rfl (by decide +kernel) ⟨Nat.le_of_ble_eq_true rfl, Nat.le_of_ble_eq_true rfl⟩) hK hw hA h30 rfl rfl hl.1 rfl (Nat.le_of_ble_eq_true rfl) dX10_tell_19 ⟨Nat.le_of_ble_eq_true rfl, (Nat.le_of_ble_eq_true rfl)⟩ (fun H locs hw => ?_)
  obtain ⟨ct_1, ect_1⟩ : ∃ z, z = kw_up ct 12 (.inr (8, [.int (31 * tv + 1)])) := ⟨_, rfl⟩
  rw [← ect_1] at hw
  have h_2 : ct_1 0 = some (.inr (10, [.ref (ad 1), .ref (ad 3), .int (nI nt), .ref (ad 4), .ref (ad 9), .ref (ad 11), .ref (ad 12), .ref (ad 13), .int lf])) := by rw [ect_1, kw_up_n (by omega)]; exact h0
  have h_3 : ct_1 3 = some (eQ tc 4 6 qt) := by rw [ect_1, kw_up_n (by omega)]; exact h3
  have h_4 : ct_1 (30 + t) = some (.inr (5, [.int nb, .ref (ad (36 + t)), .ref (ad (42 + t)), .long pu, .int de])) := by rw [ect_1, kw_up_n (by omega)]; exact h30
  have h_5 : ct_1 12 = some (.inr (8, [.int (31 * tv + 1)])) := by rw [ect_1]; exact kw_up_s
  have hfr_6 : ∀ j, j ≠ 12 → ct_1 j = ct j := fun j a0 => by rw [ect_1]; exact (kw_up_n a0).trans (hfr j a0)
  have hq_7 := h_5
  have hend := kw_eq1 hq_7 hfr_6
  rw [hend] at hw
  exact W.iret hx hb hr (fun t ht _ => ⟨rfl, by rw [ht]; exact hw.1, hw.2.2.1, hw.2.1.F ht, by rw [ht]; exact hw.2.2.2⟩) hw.2.1.2.2 dX10_tell_22
set_option maxHeartbeats 4000000 in
set_option maxRecDepth 100000 in
theorem c_X10_tell_9 (l : Launch) (D : va_G) (tc : Nat → ClassId) (sz : Nat) (ad : Nat → Nat) (ct : Nat → Option va_E) {nt t : Nat} {lf tv nb de : Int32} {pu : Int64}  {qt : Nat → Option Nat}    (h0 : ct 0 = some (.inr (10, [.ref (ad 1), .ref (ad 3), .int (nI nt), .ref (ad 4), .ref (ad 9), .ref (ad 11), .ref (ad 12), .ref (ad 13), .int lf]))) (h3 : ct 3 = some (eQ tc 4 6 qt)) (h12 : ct 12 = some (.inr (8, [.int tv]))) (h30 : ct (30 + t) = some (.inr (9, [.int nb, .ref (ad (36 + t)), .ref (ad (42 + t)), .long pu, .int de]))) (ht : t < nt) (hnt : nt ≤ 6) (hqt : qt t = some (ad (30 + t))) : Met l yX10_tell wsX10_tell ({ frames := 4, cells := 0, slots := 0, locals := 101 }) (va_Pc [.ref (ad 0), .int (nI t)] (kw_B D tc sz ad ct)) (kw_Q D ad (kw_A ad ct sz) (some (.int (de + 100))) (kw_up ct 12 (.inr (8, [.int (31 * (31 * tv + 2) + 1)]))) 0) 0 0 (kw_A ad ct sz) := by
  refine Met.ofW (cc := cX10_tell) (maxL := 3) (ret := (some .int)) (by decide) rfl ?_
  intro pg en s m args below meth cod s₁ B hml hv
  obtain ⟨rfl, hsz, hP0, hK⟩ := hv
  have hx := B.exec
  have hb := B.bytes
  have hr := B.returns
  have hts := atoms_spec (ws := wsX10_tell) B.pre
  have hown : s.vm.findClass RX10 = some m.cls := findClass_of_methodNamed B.named
  have hlocks := B.notSynchronized
  subst hsz
  have hw := kw_H.start hP0
  generalize hAe : kw_A ad ct s.heap.size = A at hw ⊢
  have hA : ∀ q, s.heap.size ≤ q → A q := fun q h => by rw [← hAe]; exact Or.inr h
  have hinX10 : ∀ w ∈ wsX100, w ∈ wsX10_tell := by decide +kernel
  have hl := lv_entry ([.ref (ad 0), .int (nI t)]) (n := 3) (Nat.le_of_ble_eq_true rfl)
  rw [lg_entry_eq]
  generalize (lg_sl ([.ref (ad 0), .int (nI t)]) ++ List.replicate (3 - (lg_sl ([.ref (ad 0), .int (nI t)])).length) Slot.unset).toArray = ls at hl ⊢
  have hl : lv_has ls 3 [(0, .ref (ad 0)), (1, .int (nI t))] := hl
  have S0 : CallFix pg m cod cX10_tell 3 s _ wsX10_tell RX10 := ⟨hx, hb, hml, hown, hts⟩
  have hfr : ∀ j, j ≠ 12 → ct j = ct j := fun _ _ => rfl
  refine lv_aload_n hx hb dX10_tell_0 rfl (lv_at hl 0 rfl) ?_
  refine lv_iload_n hx hb dX10_tell_1 rfl (lv_at hl 1 rfl) ?_
  refine kc_v (As := [.int (nI t)]) (rest := []) S0 (c_X10_findTrader l D tc s.heap.size ad ct (t := t) (nt := nt) h0 h3 (by omega) (by omega) hqt) (cwV 1 hts gX10_tell_X10_findTrader rfl rfl rfl (by decide +kernel) ⟨Nat.le_of_ble_eq_true rfl, Nat.le_of_ble_eq_true rfl⟩) hK hw h0 rfl rfl hl.1 rfl (Nat.le_of_ble_eq_true rfl) dX10_tell_2 ⟨Nat.le_of_ble_eq_true rfl, (Nat.le_of_ble_eq_true rfl)⟩ ?_
  refine lv_astore_n (lv' := [(2, .ref (ad (30 + t))), (0, .ref (ad 0)), (1, .int (nI t))]) hx hb dX10_tell_5 rfl hl (by decide) rfl (fun ls hl => ?_)
  refine lv_aload_n hx hb dX10_tell_6 rfl (lv_at hl 0 rfl) ?_
  refine lv_ifnonnull (tgt := 14) hx hb dX10_tell_7 (by decide) ?_
  refine lv_aload_n hx hb dX10_tell_14 rfl (lv_at hl 0 rfl) ?_
  refine lv_aload_n hx hb dX10_tell_15 rfl (lv_at hl 1 rfl) ?_
  refine kg_get (v := .ref (ad 12)) (C := RX10) (T := TX10) (N := 9) hx hb hts hinX10 hown hK hw h0 rfl 6 (by decide) (hts (.fieldLink RX10 47 "BetMaker" "trace" "LBetMaker$Trace;") (by decide +kernel)) (fun _ h9 => h9) rfl dX10_tell_16 ?_
  refine kc_use (va_runU (As := [.ref (ad 12)]) (rest := []) S0 (c_X9_telling l D tc s.heap.size ad ct h30 h12) (va_cwO 1 hts gX10_tell_X9_telling_u292X9 rfl rfl rfl (b0 := cX5_telling) (m0 := 2) (r0 := (some .int)) (by decide +kernel) (by decide +kernel) ⟨Nat.le_of_ble_eq_true rfl, Nat.le_of_ble_eq_true rfl⟩) (kc_pV hK hw h30 (q := (RX9, TX9, 5)) rfl) rfl rfl hl.1 rfl (lv_room (Nat.le_of_ble_eq_true rfl)) dX10_tell_19 ⟨Nat.le_of_ble_eq_true rfl, Nat.le_of_ble_eq_true rfl⟩) hw hA (fun H locs hw => ?_)
  obtain ⟨ct_1, ect_1⟩ : ∃ z, z = kw_up ct 12 (.inr (8, [.int (31 * (31 * tv + 2) + 1)])) := ⟨_, rfl⟩
  rw [← ect_1] at hw
  have h_2 : ct_1 0 = some (.inr (10, [.ref (ad 1), .ref (ad 3), .int (nI nt), .ref (ad 4), .ref (ad 9), .ref (ad 11), .ref (ad 12), .ref (ad 13), .int lf])) := by rw [ect_1, kw_up_n (by omega)]; exact h0
  have h_3 : ct_1 3 = some (eQ tc 4 6 qt) := by rw [ect_1, kw_up_n (by omega)]; exact h3
  have h_4 : ct_1 (30 + t) = some (.inr (9, [.int nb, .ref (ad (36 + t)), .ref (ad (42 + t)), .long pu, .int de])) := by rw [ect_1, kw_up_n (by omega)]; exact h30
  have h_5 : ct_1 12 = some (.inr (8, [.int (31 * (31 * tv + 2) + 1)])) := by rw [ect_1]; exact kw_up_s
  have hfr_6 : ∀ j, j ≠ 12 → ct_1 j = ct j := fun j a0 => by rw [ect_1]; exact (kw_up_n a0).trans (hfr j a0)
  have hq_7 := h_5
  have hend := kw_eq1 hq_7 hfr_6
  rw [hend] at hw
  exact W.iret hx hb hr (fun t ht _ => ⟨rfl, by rw [ht]; exact hw.1, hw.2.2.1, hw.2.1.F ht, by rw [ht]; exact hw.2.2.2⟩) hw.2.1.2.2 dX10_tell_22
set_option maxHeartbeats 4000000 in
set_option maxRecDepth 100000 in
theorem c_X10_tell_7 (l : Launch) (D : va_G) (tc : Nat → ClassId) (sz : Nat) (ad : Nat → Nat) (ct : Nat → Option va_E) {nt t : Nat} {lf tv nb de : Int32} {pu : Int64}  {qt : Nat → Option Nat}    (h0 : ct 0 = some (.inr (10, [.ref (ad 1), .ref (ad 3), .int (nI nt), .ref (ad 4), .ref (ad 9), .ref (ad 11), .ref (ad 12), .ref (ad 13), .int lf]))) (h3 : ct 3 = some (eQ tc 4 6 qt)) (h12 : ct 12 = some (.inr (8, [.int tv]))) (h30 : ct (30 + t) = some (.inr (7, [.int nb, .ref (ad (36 + t)), .ref (ad (42 + t)), .long pu, .int de]))) (ht : t < nt) (hnt : nt ≤ 6) (hqt : qt t = some (ad (30 + t))) : Met l yX10_tell wsX10_tell ({ frames := 4, cells := 0, slots := 0, locals := 101 }) (va_Pc [.ref (ad 0), .int (nI t)] (kw_B D tc sz ad ct)) (kw_Q D ad (kw_A ad ct sz) (some (.int ((de + 100) + de))) (kw_up ct 12 (.inr (8, [.int (31 * (31 * (31 * (31 * tv + 3) + 2) + 1) + 1)]))) 0) 0 0 (kw_A ad ct sz) := by
  refine Met.ofW (cc := cX10_tell) (maxL := 3) (ret := (some .int)) (by decide) rfl ?_
  intro pg en s m args below meth cod s₁ B hml hv
  obtain ⟨rfl, hsz, hP0, hK⟩ := hv
  have hx := B.exec
  have hb := B.bytes
  have hr := B.returns
  have hts := atoms_spec (ws := wsX10_tell) B.pre
  have hown : s.vm.findClass RX10 = some m.cls := findClass_of_methodNamed B.named
  have hlocks := B.notSynchronized
  subst hsz
  have hw := kw_H.start hP0
  generalize hAe : kw_A ad ct s.heap.size = A at hw ⊢
  have hA : ∀ q, s.heap.size ≤ q → A q := fun q h => by rw [← hAe]; exact Or.inr h
  have hinX10 : ∀ w ∈ wsX100, w ∈ wsX10_tell := by decide +kernel
  have hl := lv_entry ([.ref (ad 0), .int (nI t)]) (n := 3) (Nat.le_of_ble_eq_true rfl)
  rw [lg_entry_eq]
  generalize (lg_sl ([.ref (ad 0), .int (nI t)]) ++ List.replicate (3 - (lg_sl ([.ref (ad 0), .int (nI t)])).length) Slot.unset).toArray = ls at hl ⊢
  have hl : lv_has ls 3 [(0, .ref (ad 0)), (1, .int (nI t))] := hl
  have S0 : CallFix pg m cod cX10_tell 3 s _ wsX10_tell RX10 := ⟨hx, hb, hml, hown, hts⟩
  have hfr : ∀ j, j ≠ 12 → ct j = ct j := fun _ _ => rfl
  refine lv_aload_n hx hb dX10_tell_0 rfl (lv_at hl 0 rfl) ?_
  refine lv_iload_n hx hb dX10_tell_1 rfl (lv_at hl 1 rfl) ?_
  refine kc_v (As := [.int (nI t)]) (rest := []) S0 (c_X10_findTrader l D tc s.heap.size ad ct (t := t) (nt := nt) h0 h3 (by omega) (by omega) hqt) (cwV 1 hts gX10_tell_X10_findTrader rfl rfl rfl (by decide +kernel) ⟨Nat.le_of_ble_eq_true rfl, Nat.le_of_ble_eq_true rfl⟩) hK hw h0 rfl rfl hl.1 rfl (Nat.le_of_ble_eq_true rfl) dX10_tell_2 ⟨Nat.le_of_ble_eq_true rfl, (Nat.le_of_ble_eq_true rfl)⟩ ?_
  refine lv_astore_n (lv' := [(2, .ref (ad (30 + t))), (0, .ref (ad 0)), (1, .int (nI t))]) hx hb dX10_tell_5 rfl hl (by decide) rfl (fun ls hl => ?_)
  refine lv_aload_n hx hb dX10_tell_6 rfl (lv_at hl 0 rfl) ?_
  refine lv_ifnonnull (tgt := 14) hx hb dX10_tell_7 (by decide) ?_
  refine lv_aload_n hx hb dX10_tell_14 rfl (lv_at hl 0 rfl) ?_
  refine lv_aload_n hx hb dX10_tell_15 rfl (lv_at hl 1 rfl) ?_
  refine kg_get (v := .ref (ad 12)) (C := RX10) (T := TX10) (N := 9) hx hb hts hinX10 hown hK hw h0 rfl 6 (by decide) (hts (.fieldLink RX10 47 "BetMaker" "trace" "LBetMaker$Trace;") (by decide +kernel)) (fun _ h9 => h9) rfl dX10_tell_16 ?_
  refine kc_use (va_runU (As := [.ref (ad 12)]) (rest := []) S0 (c_X7_telling l D tc s.heap.size ad ct h30 h12) (va_cwO 1 hts gX10_tell_X7_telling_u292X7 rfl rfl rfl (b0 := cX5_telling) (m0 := 2) (r0 := (some .int)) (by decide +kernel) (by decide +kernel) ⟨Nat.le_of_ble_eq_true rfl, Nat.le_of_ble_eq_true rfl⟩) (kc_pV hK hw h30 (q := (RX7, TX7, 5)) rfl) rfl rfl hl.1 rfl (lv_room (Nat.le_of_ble_eq_true rfl)) dX10_tell_19 ⟨Nat.le_of_ble_eq_true rfl, Nat.le_of_ble_eq_true rfl⟩) hw hA (fun H locs hw => ?_)
  obtain ⟨ct_1, ect_1⟩ : ∃ z, z = kw_up ct 12 (.inr (8, [.int (31 * (31 * (31 * (31 * tv + 3) + 2) + 1) + 1)])) := ⟨_, rfl⟩
  rw [← ect_1] at hw
  have h_2 : ct_1 0 = some (.inr (10, [.ref (ad 1), .ref (ad 3), .int (nI nt), .ref (ad 4), .ref (ad 9), .ref (ad 11), .ref (ad 12), .ref (ad 13), .int lf])) := by rw [ect_1, kw_up_n (by omega)]; exact h0
  have h_3 : ct_1 3 = some (eQ tc 4 6 qt) := by rw [ect_1, kw_up_n (by omega)]; exact h3
  have h_4 : ct_1 (30 + t) = some (.inr (7, [.int nb, .ref (ad (36 + t)), .ref (ad (42 + t)), .long pu, .int de])) := by rw [ect_1, kw_up_n (by omega)]; exact h30
  have h_5 : ct_1 12 = some (.inr (8, [.int (31 * (31 * (31 * (31 * tv + 3) + 2) + 1) + 1)])) := by rw [ect_1]; exact kw_up_s
  have hfr_6 : ∀ j, j ≠ 12 → ct_1 j = ct j := fun j a0 => by rw [ect_1]; exact (kw_up_n a0).trans (hfr j a0)
  have hq_7 := h_5
  have hend := kw_eq1 hq_7 hfr_6
  rw [hend] at hw
  exact W.iret hx hb hr (fun t ht _ => ⟨rfl, by rw [ht]; exact hw.1, hw.2.2.1, hw.2.1.F ht, by rw [ht]; exact hw.2.2.2⟩) hw.2.1.2.2 dX10_tell_22
set_option maxHeartbeats 4000000 in
set_option maxRecDepth 100000 in
theorem c_X10_greet_5 (l : Launch) (D : va_G) (tc : Nat → ClassId) (sz : Nat) (ad : Nat → Nat) (ct : Nat → Option va_E) {nt t : Nat} {lf tv nb de : Int32} {pu : Int64}  {qt : Nat → Option Nat}    (h0 : ct 0 = some (.inr (10, [.ref (ad 1), .ref (ad 3), .int (nI nt), .ref (ad 4), .ref (ad 9), .ref (ad 11), .ref (ad 12), .ref (ad 13), .int lf]))) (h3 : ct 3 = some (eQ tc 4 6 qt)) (h12 : ct 12 = some (.inr (8, [.int tv]))) (h30 : ct (30 + t) = some (.inr (5, [.int nb, .ref (ad (36 + t)), .ref (ad (42 + t)), .long pu, .int de]))) (ht : t < nt) (hnt : nt ≤ 6) (hqt : qt t = some (ad (30 + t))) : Met l yX10_greet wsX10_greet ({ frames := 2, cells := 0, slots := 0, locals := 50 }) (va_Pc [.ref (ad 0), .int (nI t)] (kw_B D tc sz ad ct)) (kw_Q D ad (kw_A ad ct sz) (some (.int nb)) (kw_up ct 12 (.inr (8, [.int (31 * tv + 4)]))) 0) 0 0 (kw_A ad ct sz) := by
  refine Met.ofW (cc := cX10_greet) (maxL := 3) (ret := (some .int)) (by decide) rfl ?_
  intro pg en s m args below meth cod s₁ B hml hv
  obtain ⟨rfl, hsz, hP0, hK⟩ := hv
  have hx := B.exec
  have hb := B.bytes
  have hr := B.returns
  have hts := atoms_spec (ws := wsX10_greet) B.pre
  have hown : s.vm.findClass RX10 = some m.cls := findClass_of_methodNamed B.named
  have hlocks := B.notSynchronized
  subst hsz
  have hw := kw_H.start hP0
  generalize hAe : kw_A ad ct s.heap.size = A at hw ⊢
  have hA : ∀ q, s.heap.size ≤ q → A q := fun q h => by rw [← hAe]; exact Or.inr h
  have hinX10 : ∀ w ∈ wsX100, w ∈ wsX10_greet := by decide +kernel
  have hl := lv_entry ([.ref (ad 0), .int (nI t)]) (n := 3) (Nat.le_of_ble_eq_true rfl)
  rw [lg_entry_eq]
  generalize (lg_sl ([.ref (ad 0), .int (nI t)]) ++ List.replicate (3 - (lg_sl ([.ref (ad 0), .int (nI t)])).length) Slot.unset).toArray = ls at hl ⊢
  have hl : lv_has ls 3 [(0, .ref (ad 0)), (1, .int (nI t))] := hl
  have S0 : CallFix pg m cod cX10_greet 3 s _ wsX10_greet RX10 := ⟨hx, hb, hml, hown, hts⟩
  have hfr : ∀ j, j ≠ 12 → ct j = ct j := fun _ _ => rfl
  refine lv_aload_n hx hb dX10_greet_0 rfl (lv_at hl 0 rfl) ?_
  refine lv_iload_n hx hb dX10_greet_1 rfl (lv_at hl 1 rfl) ?_
  refine kc_v (As := [.int (nI t)]) (rest := []) S0 (c_X10_findTrader l D tc s.heap.size ad ct (t := t) (nt := nt) h0 h3 (by omega) (by omega) hqt) (cwV 1 hts gX10_greet_X10_findTrader rfl rfl rfl (by decide +kernel) ⟨Nat.le_of_ble_eq_true rfl, Nat.le_of_ble_eq_true rfl⟩) hK hw h0 rfl rfl hl.1 rfl (Nat.le_of_ble_eq_true rfl) dX10_greet_2 ⟨Nat.le_of_ble_eq_true rfl, (Nat.le_of_ble_eq_true rfl)⟩ ?_
  refine lv_astore_n (lv' := [(2, .ref (ad (30 + t))), (0, .ref (ad 0)), (1, .int (nI t))]) hx hb dX10_greet_5 rfl hl (by decide) rfl (fun ls hl => ?_)
  refine lv_aload_n hx hb dX10_greet_6 rfl (lv_at hl 0 rfl) ?_
  refine lv_ifnonnull (tgt := 14) hx hb dX10_greet_7 (by decide) ?_
  refine lv_aload_n hx hb dX10_greet_14 rfl (lv_at hl 0 rfl) ?_
  refine lv_aload_n hx hb dX10_greet_15 rfl (lv_at hl 1 rfl) ?_
  refine kg_get (v := .ref (ad 12)) (C := RX10) (T := TX10) (N := 9) hx hb hts hinX10 hown hK hw h0 rfl 6 (by decide) (hts (.fieldLink RX10 47 "BetMaker" "trace" "LBetMaker$Trace;") (by decide +kernel)) (fun _ h9 => h9) rfl dX10_greet_16 ?_
  refine kc_vu (As := [.ref (ad 12)]) (rest := []) S0 (c_X5_greeting l D tc s.heap.size ad ct h30 h12 (Or.inl rfl)) (cwV 1 hts gX10_greet_X5_greeting rfl rfl rfl (by decide +kernel) ⟨Nat.le_of_ble_eq_true rfl, Nat.le_of_ble_eq_true rfl⟩) hK hw hA h30 rfl rfl hl.1 rfl (Nat.le_of_ble_eq_true rfl) dX10_greet_19 ⟨Nat.le_of_ble_eq_true rfl, (Nat.le_of_ble_eq_true rfl)⟩ (fun H locs hw => ?_)
  obtain ⟨ct_1, ect_1⟩ : ∃ z, z = kw_up ct 12 (.inr (8, [.int (31 * tv + 4)])) := ⟨_, rfl⟩
  rw [← ect_1] at hw
  have h_2 : ct_1 0 = some (.inr (10, [.ref (ad 1), .ref (ad 3), .int (nI nt), .ref (ad 4), .ref (ad 9), .ref (ad 11), .ref (ad 12), .ref (ad 13), .int lf])) := by rw [ect_1, kw_up_n (by omega)]; exact h0
  have h_3 : ct_1 3 = some (eQ tc 4 6 qt) := by rw [ect_1, kw_up_n (by omega)]; exact h3
  have h_4 : ct_1 (30 + t) = some (.inr (5, [.int nb, .ref (ad (36 + t)), .ref (ad (42 + t)), .long pu, .int de])) := by rw [ect_1, kw_up_n (by omega)]; exact h30
  have h_5 : ct_1 12 = some (.inr (8, [.int (31 * tv + 4)])) := by rw [ect_1]; exact kw_up_s
  have hfr_6 : ∀ j, j ≠ 12 → ct_1 j = ct j := fun j a0 => by rw [ect_1]; exact (kw_up_n a0).trans (hfr j a0)
  have hq_7 := h_5
  have hend := kw_eq1 hq_7 hfr_6
  rw [hend] at hw
  exact W.iret hx hb hr (fun t ht _ => ⟨rfl, by rw [ht]; exact hw.1, hw.2.2.1, hw.2.1.F ht, by rw [ht]; exact hw.2.2.2⟩) hw.2.1.2.2 dX10_greet_22
set_option maxHeartbeats 4000000 in
set_option maxRecDepth 100000 in
theorem c_X10_greet_9 (l : Launch) (D : va_G) (tc : Nat → ClassId) (sz : Nat) (ad : Nat → Nat) (ct : Nat → Option va_E) {nt t : Nat} {lf tv nb de : Int32} {pu : Int64}  {qt : Nat → Option Nat}    (h0 : ct 0 = some (.inr (10, [.ref (ad 1), .ref (ad 3), .int (nI nt), .ref (ad 4), .ref (ad 9), .ref (ad 11), .ref (ad 12), .ref (ad 13), .int lf]))) (h3 : ct 3 = some (eQ tc 4 6 qt)) (h12 : ct 12 = some (.inr (8, [.int tv]))) (h30 : ct (30 + t) = some (.inr (9, [.int nb, .ref (ad (36 + t)), .ref (ad (42 + t)), .long pu, .int de]))) (ht : t < nt) (hnt : nt ≤ 6) (hqt : qt t = some (ad (30 + t))) : Met l yX10_greet wsX10_greet ({ frames := 2, cells := 0, slots := 0, locals := 50 }) (va_Pc [.ref (ad 0), .int (nI t)] (kw_B D tc sz ad ct)) (kw_Q D ad (kw_A ad ct sz) (some (.int nb)) (kw_up ct 12 (.inr (8, [.int (31 * tv + 4)]))) 0) 0 0 (kw_A ad ct sz) := by
  refine Met.ofW (cc := cX10_greet) (maxL := 3) (ret := (some .int)) (by decide) rfl ?_
  intro pg en s m args below meth cod s₁ B hml hv
  obtain ⟨rfl, hsz, hP0, hK⟩ := hv
  have hx := B.exec
  have hb := B.bytes
  have hr := B.returns
  have hts := atoms_spec (ws := wsX10_greet) B.pre
  have hown : s.vm.findClass RX10 = some m.cls := findClass_of_methodNamed B.named
  have hlocks := B.notSynchronized
  subst hsz
  have hw := kw_H.start hP0
  generalize hAe : kw_A ad ct s.heap.size = A at hw ⊢
  have hA : ∀ q, s.heap.size ≤ q → A q := fun q h => by rw [← hAe]; exact Or.inr h
  have hinX10 : ∀ w ∈ wsX100, w ∈ wsX10_greet := by decide +kernel
  have hl := lv_entry ([.ref (ad 0), .int (nI t)]) (n := 3) (Nat.le_of_ble_eq_true rfl)
  rw [lg_entry_eq]
  generalize (lg_sl ([.ref (ad 0), .int (nI t)]) ++ List.replicate (3 - (lg_sl ([.ref (ad 0), .int (nI t)])).length) Slot.unset).toArray = ls at hl ⊢
  have hl : lv_has ls 3 [(0, .ref (ad 0)), (1, .int (nI t))] := hl
  have S0 : CallFix pg m cod cX10_greet 3 s _ wsX10_greet RX10 := ⟨hx, hb, hml, hown, hts⟩
  have hfr : ∀ j, j ≠ 12 → ct j = ct j := fun _ _ => rfl
  refine lv_aload_n hx hb dX10_greet_0 rfl (lv_at hl 0 rfl) ?_
  refine lv_iload_n hx hb dX10_greet_1 rfl (lv_at hl 1 rfl) ?_
  refine kc_v (As := [.int (nI t)]) (rest := []) S0 (c_X10_findTrader l D tc s.heap.size ad ct (t := t) (nt := nt) h0 h3 (by omega) (by omega) hqt) (cwV 1 hts gX10_greet_X10_findTrader rfl rfl rfl (by decide +kernel) ⟨Nat.le_of_ble_eq_true rfl, Nat.le_of_ble_eq_true rfl⟩) hK hw h0 rfl rfl hl.1 rfl (Nat.le_of_ble_eq_true rfl) dX10_greet_2 ⟨Nat.le_of_ble_eq_true rfl, (Nat.le_of_ble_eq_true rfl)⟩ ?_
  refine lv_astore_n (lv' := [(2, .ref (ad (30 + t))), (0, .ref (ad 0)), (1, .int (nI t))]) hx hb dX10_greet_5 rfl hl (by decide) rfl (fun ls hl => ?_)
  refine lv_aload_n hx hb dX10_greet_6 rfl (lv_at hl 0 rfl) ?_
  refine lv_ifnonnull (tgt := 14) hx hb dX10_greet_7 (by decide) ?_
  refine lv_aload_n hx hb dX10_greet_14 rfl (lv_at hl 0 rfl) ?_
  refine lv_aload_n hx hb dX10_greet_15 rfl (lv_at hl 1 rfl) ?_
  refine kg_get (v := .ref (ad 12)) (C := RX10) (T := TX10) (N := 9) hx hb hts hinX10 hown hK hw h0 rfl 6 (by decide) (hts (.fieldLink RX10 47 "BetMaker" "trace" "LBetMaker$Trace;") (by decide +kernel)) (fun _ h9 => h9) rfl dX10_greet_16 ?_
  refine kc_use (va_runU (As := [.ref (ad 12)]) (rest := []) S0 (c_X5_greeting l D tc s.heap.size ad ct h30 h12 (Or.inr (Or.inr rfl))) (va_cwU 1 hts gX10_greet_X5_greeting_u296X9 rfl rfl rfl rfl (by decide +kernel) ⟨Nat.le_of_ble_eq_true rfl, Nat.le_of_ble_eq_true rfl⟩) (kc_pV hK hw h30 (q := (RX9, TX9, 5)) rfl) rfl rfl hl.1 rfl (lv_room (Nat.le_of_ble_eq_true rfl)) dX10_greet_19 ⟨Nat.le_of_ble_eq_true rfl, Nat.le_of_ble_eq_true rfl⟩) hw hA (fun H locs hw => ?_)
  obtain ⟨ct_1, ect_1⟩ : ∃ z, z = kw_up ct 12 (.inr (8, [.int (31 * tv + 4)])) := ⟨_, rfl⟩
  rw [← ect_1] at hw
  have h_2 : ct_1 0 = some (.inr (10, [.ref (ad 1), .ref (ad 3), .int (nI nt), .ref (ad 4), .ref (ad 9), .ref (ad 11), .ref (ad 12), .ref (ad 13), .int lf])) := by rw [ect_1, kw_up_n (by omega)]; exact h0
  have h_3 : ct_1 3 = some (eQ tc 4 6 qt) := by rw [ect_1, kw_up_n (by omega)]; exact h3
  have h_4 : ct_1 (30 + t) = some (.inr (9, [.int nb, .ref (ad (36 + t)), .ref (ad (42 + t)), .long pu, .int de])) := by rw [ect_1, kw_up_n (by omega)]; exact h30
  have h_5 : ct_1 12 = some (.inr (8, [.int (31 * tv + 4)])) := by rw [ect_1]; exact kw_up_s
  have hfr_6 : ∀ j, j ≠ 12 → ct_1 j = ct j := fun j a0 => by rw [ect_1]; exact (kw_up_n a0).trans (hfr j a0)
  have hq_7 := h_5
  have hend := kw_eq1 hq_7 hfr_6
  rw [hend] at hw
  exact W.iret hx hb hr (fun t ht _ => ⟨rfl, by rw [ht]; exact hw.1, hw.2.2.1, hw.2.1.F ht, by rw [ht]; exact hw.2.2.2⟩) hw.2.1.2.2 dX10_greet_22
set_option maxHeartbeats 4000000 in
set_option maxRecDepth 100000 in
theorem c_X10_greet_7 (l : Launch) (D : va_G) (tc : Nat → ClassId) (sz : Nat) (ad : Nat → Nat) (ct : Nat → Option va_E) {nt t : Nat} {lf tv nb de : Int32} {pu : Int64}  {qt : Nat → Option Nat}    (h0 : ct 0 = some (.inr (10, [.ref (ad 1), .ref (ad 3), .int (nI nt), .ref (ad 4), .ref (ad 9), .ref (ad 11), .ref (ad 12), .ref (ad 13), .int lf]))) (h3 : ct 3 = some (eQ tc 4 6 qt)) (h12 : ct 12 = some (.inr (8, [.int tv]))) (h30 : ct (30 + t) = some (.inr (7, [.int nb, .ref (ad (36 + t)), .ref (ad (42 + t)), .long pu, .int de]))) (ht : t < nt) (hnt : nt ≤ 6) (hqt : qt t = some (ad (30 + t))) : Met l yX10_greet wsX10_greet ({ frames := 2, cells := 0, slots := 0, locals := 50 }) (va_Pc [.ref (ad 0), .int (nI t)] (kw_B D tc sz ad ct)) (kw_Q D ad (kw_A ad ct sz) (some (.int 90)) (kw_up ct 12 (.inr (8, [.int (31 * tv + 5)]))) 0) 0 0 (kw_A ad ct sz) := by
  refine Met.ofW (cc := cX10_greet) (maxL := 3) (ret := (some .int)) (by decide) rfl ?_
  intro pg en s m args below meth cod s₁ B hml hv
  obtain ⟨rfl, hsz, hP0, hK⟩ := hv
  have hx := B.exec
  have hb := B.bytes
  have hr := B.returns
  have hts := atoms_spec (ws := wsX10_greet) B.pre
  have hown : s.vm.findClass RX10 = some m.cls := findClass_of_methodNamed B.named
  have hlocks := B.notSynchronized
  subst hsz
  have hw := kw_H.start hP0
  generalize hAe : kw_A ad ct s.heap.size = A at hw ⊢
  have hA : ∀ q, s.heap.size ≤ q → A q := fun q h => by rw [← hAe]; exact Or.inr h
  have hinX10 : ∀ w ∈ wsX100, w ∈ wsX10_greet := by decide +kernel
  have hl := lv_entry ([.ref (ad 0), .int (nI t)]) (n := 3) (Nat.le_of_ble_eq_true rfl)
  rw [lg_entry_eq]
  generalize (lg_sl ([.ref (ad 0), .int (nI t)]) ++ List.replicate (3 - (lg_sl ([.ref (ad 0), .int (nI t)])).length) Slot.unset).toArray = ls at hl ⊢
  have hl : lv_has ls 3 [(0, .ref (ad 0)), (1, .int (nI t))] := hl
  have S0 : CallFix pg m cod cX10_greet 3 s _ wsX10_greet RX10 := ⟨hx, hb, hml, hown, hts⟩
  have hfr : ∀ j, j ≠ 12 → ct j = ct j := fun _ _ => rfl
  refine lv_aload_n hx hb dX10_greet_0 rfl (lv_at hl 0 rfl) ?_
  refine lv_iload_n hx hb dX10_greet_1 rfl (lv_at hl 1 rfl) ?_
  refine kc_v (As := [.int (nI t)]) (rest := []) S0 (c_X10_findTrader l D tc s.heap.size ad ct (t := t) (nt := nt) h0 h3 (by omega) (by omega) hqt) (cwV 1 hts gX10_greet_X10_findTrader rfl rfl rfl (by decide +kernel) ⟨Nat.le_of_ble_eq_true rfl, Nat.le_of_ble_eq_true rfl⟩) hK hw h0 rfl rfl hl.1 rfl (Nat.le_of_ble_eq_true rfl) dX10_greet_2 ⟨Nat.le_of_ble_eq_true rfl, (Nat.le_of_ble_eq_true rfl)⟩ ?_
  refine lv_astore_n (lv' := [(2, .ref (ad (30 + t))), (0, .ref (ad 0)), (1, .int (nI t))]) hx hb dX10_greet_5 rfl hl (by decide) rfl (fun ls hl => ?_)
  refine lv_aload_n hx hb dX10_greet_6 rfl (lv_at hl 0 rfl) ?_
  refine lv_ifnonnull (tgt := 14) hx hb dX10_greet_7 (by decide) ?_
  refine lv_aload_n hx hb dX10_greet_14 rfl (lv_at hl 0 rfl) ?_
  refine lv_aload_n hx hb dX10_greet_15 rfl (lv_at hl 1 rfl) ?_
  refine kg_get (v := .ref (ad 12)) (C := RX10) (T := TX10) (N := 9) hx hb hts hinX10 hown hK hw h0 rfl 6 (by decide) (hts (.fieldLink RX10 47 "BetMaker" "trace" "LBetMaker$Trace;") (by decide +kernel)) (fun _ h9 => h9) rfl dX10_greet_16 ?_
  refine kc_use (va_runU (As := [.ref (ad 12)]) (rest := []) S0 (c_X7_greeting l D tc s.heap.size ad ct h30 h12) (va_cwO 1 hts gX10_greet_X7_greeting_u296X7 rfl rfl rfl (b0 := cX5_greeting) (m0 := 2) (r0 := (some .int)) (by decide +kernel) (by decide +kernel) ⟨Nat.le_of_ble_eq_true rfl, Nat.le_of_ble_eq_true rfl⟩) (kc_pV hK hw h30 (q := (RX7, TX7, 5)) rfl) rfl rfl hl.1 rfl (lv_room (Nat.le_of_ble_eq_true rfl)) dX10_greet_19 ⟨Nat.le_of_ble_eq_true rfl, Nat.le_of_ble_eq_true rfl⟩) hw hA (fun H locs hw => ?_)
  obtain ⟨ct_1, ect_1⟩ : ∃ z, z = kw_up ct 12 (.inr (8, [.int (31 * tv + 5)])) := ⟨_, rfl⟩
  rw [← ect_1] at hw
  have h_2 : ct_1 0 = some (.inr (10, [.ref (ad 1), .ref (ad 3), .int (nI nt), .ref (ad 4), .ref (ad 9), .ref (ad 11), .ref (ad 12), .ref (ad 13), .int lf])) := by rw [ect_1, kw_up_n (by omega)]; exact h0
  have h_3 : ct_1 3 = some (eQ tc 4 6 qt) := by rw [ect_1, kw_up_n (by omega)]; exact h3
  have h_4 : ct_1 (30 + t) = some (.inr (7, [.int nb, .ref (ad (36 + t)), .ref (ad (42 + t)), .long pu, .int de])) := by rw [ect_1, kw_up_n (by omega)]; exact h30
  have h_5 : ct_1 12 = some (.inr (8, [.int (31 * tv + 5)])) := by rw [ect_1]; exact kw_up_s
  have hfr_6 : ∀ j, j ≠ 12 → ct_1 j = ct j := fun j a0 => by rw [ect_1]; exact (kw_up_n a0).trans (hfr j a0)
  have hq_7 := h_5
  have hend := kw_eq1 hq_7 hfr_6
  rw [hend] at hw
  exact W.iret hx hb hr (fun t ht _ => ⟨rfl, by rw [ht]; exact hw.1, hw.2.2.1, hw.2.1.F ht, by rw [ht]; exact hw.2.2.2⟩) hw.2.1.2.2 dX10_greet_22
set_option maxHeartbeats 4000000 in
set_option maxRecDepth 100000 in
theorem c_X10_tell_u (l : Launch) (D : va_G) (tc : Nat → ClassId) (sz : Nat) (ad : Nat → Nat) (ct : Nat → Option va_E) {nt : Nat} {lf : Int32}      {t1 : Int32} (h0 : ct 0 = some (.inr (10, [.ref (ad 1), .ref (ad 3), .int (nI nt), .ref (ad 4), .ref (ad 9), .ref (ad 11), .ref (ad 12), .ref (ad 13), .int lf]))) (ht : ¬ (0 ≤ t1 ∧ t1 < nI nt)) : Met l yX10_tell wsX10_tell ({ frames := 4, cells := 0, slots := 0, locals := 101 }) (va_Pc [.ref (ad 0), .int t1] (kw_B D tc sz ad ct)) (k2_QcV (.int (-1))) 0 0 (fun _ => False) := by
  refine Met.ofW (cc := cX10_tell) (maxL := 3) (ret := (some .int)) (by decide) rfl ?_
  intro pg en s m args below meth cod s₁ B hml hv
  obtain ⟨rfl, hsz, hP0, hK⟩ := hv
  have hx := B.exec
  have hb := B.bytes
  have hr := B.returns
  have hts := atoms_spec (ws := wsX10_tell) B.pre
  have hown : s.vm.findClass RX10 = some m.cls := findClass_of_methodNamed B.named
  have hlocks := B.notSynchronized
  subst hsz
  have hw := kw_H.start hP0
  generalize kw_A ad ct s.heap.size = A at hw
  have hinX10 : ∀ w ∈ wsX100, w ∈ wsX10_tell := by decide +kernel
  have hl := lv_entry ([.ref (ad 0), .int t1]) (n := 3) (Nat.le_of_ble_eq_true rfl)
  rw [lg_entry_eq]
  generalize (lg_sl ([.ref (ad 0), .int t1]) ++ List.replicate (3 - (lg_sl ([.ref (ad 0), .int t1])).length) Slot.unset).toArray = ls at hl ⊢
  have hl : lv_has ls 3 [(0, .ref (ad 0)), (1, .int t1)] := hl
  have S0 : CallFix pg m cod cX10_tell 3 s _ wsX10_tell RX10 := ⟨hx, hb, hml, hown, hts⟩
  refine lv_aload_n hx hb dX10_tell_0 rfl (lv_at hl 0 rfl) ?_
  refine lv_iload_n hx hb dX10_tell_1 rfl (lv_at hl 1 rfl) ?_
  refine kc_v (As := [.int t1]) (rest := []) S0 (c_X10_findTrader_n l D tc s.heap.size ad ct (nt := nt) h0 ht) (cwV 1 hts gX10_tell_X10_findTrader rfl rfl rfl (by decide +kernel) ⟨Nat.le_of_ble_eq_true rfl, Nat.le_of_ble_eq_true rfl⟩) hK hw h0 rfl rfl hl.1 rfl (Nat.le_of_ble_eq_true rfl) dX10_tell_2 ⟨Nat.le_of_ble_eq_true rfl, (Nat.le_of_ble_eq_true rfl)⟩ ?_
  refine lv_astore_nN (lv' := [(2, .null), (0, .ref (ad 0)), (1, .int t1)]) hx hb dX10_tell_5 rfl hl (by decide) rfl (fun ls hl => ?_)
  refine lv_aload_nN hx hb dX10_tell_6 rfl (lv_at hl 0 rfl) ?_
  refine lv_ifnonnullN hx hb dX10_tell_7 ?_
  refine lv_iconst (v := (-1)) hx hb dX10_tell_10 (by decide) ?_
  refine lv_goto (tgt := 22) hx hb dX10_tell_11 (by decide) ?_
  exact W.iret hx hb hr (fun t ht _ => ⟨rfl, ht⟩) (fun _ h => absurd h List.not_mem_nil) dX10_tell_22
set_option maxHeartbeats 4000000 in
set_option maxRecDepth 100000 in
theorem c_X10_greet_u (l : Launch) (D : va_G) (tc : Nat → ClassId) (sz : Nat) (ad : Nat → Nat) (ct : Nat → Option va_E) {nt : Nat} {lf : Int32}      {t1 : Int32} (h0 : ct 0 = some (.inr (10, [.ref (ad 1), .ref (ad 3), .int (nI nt), .ref (ad 4), .ref (ad 9), .ref (ad 11), .ref (ad 12), .ref (ad 13), .int lf]))) (ht : ¬ (0 ≤ t1 ∧ t1 < nI nt)) : Met l yX10_greet wsX10_greet ({ frames := 2, cells := 0, slots := 0, locals := 50 }) (va_Pc [.ref (ad 0), .int t1] (kw_B D tc sz ad ct)) (k2_QcV (.int (-1))) 0 0 (fun _ => False) := by
  refine Met.ofW (cc := cX10_greet) (maxL := 3) (ret := (some .int)) (by decide) rfl ?_
  intro pg en s m args below meth cod s₁ B hml hv
  obtain ⟨rfl, hsz, hP0, hK⟩ := hv
  have hx := B.exec
  have hb := B.bytes
  have hr := B.returns
  have hts := atoms_spec (ws := wsX10_greet) B.pre
  have hown : s.vm.findClass RX10 = some m.cls := findClass_of_methodNamed B.named
  have hlocks := B.notSynchronized
  subst hsz
  have hw := kw_H.start hP0
  generalize kw_A ad ct s.heap.size = A at hw
  have hinX10 : ∀ w ∈ wsX100, w ∈ wsX10_greet := by decide +kernel
  have hl := lv_entry ([.ref (ad 0), .int t1]) (n := 3) (Nat.le_of_ble_eq_true rfl)
  rw [lg_entry_eq]
  generalize (lg_sl ([.ref (ad 0), .int t1]) ++ List.replicate (3 - (lg_sl ([.ref (ad 0), .int t1])).length) Slot.unset).toArray = ls at hl ⊢
  have hl : lv_has ls 3 [(0, .ref (ad 0)), (1, .int t1)] := hl
  have S0 : CallFix pg m cod cX10_greet 3 s _ wsX10_greet RX10 := ⟨hx, hb, hml, hown, hts⟩
  refine lv_aload_n hx hb dX10_greet_0 rfl (lv_at hl 0 rfl) ?_
  refine lv_iload_n hx hb dX10_greet_1 rfl (lv_at hl 1 rfl) ?_
  refine kc_v (As := [.int t1]) (rest := []) S0 (c_X10_findTrader_n l D tc s.heap.size ad ct (nt := nt) h0 ht) (cwV 1 hts gX10_greet_X10_findTrader rfl rfl rfl (by decide +kernel) ⟨Nat.le_of_ble_eq_true rfl, Nat.le_of_ble_eq_true rfl⟩) hK hw h0 rfl rfl hl.1 rfl (Nat.le_of_ble_eq_true rfl) dX10_greet_2 ⟨Nat.le_of_ble_eq_true rfl, (Nat.le_of_ble_eq_true rfl)⟩ ?_
  refine lv_astore_nN (lv' := [(2, .null), (0, .ref (ad 0)), (1, .int t1)]) hx hb dX10_greet_5 rfl hl (by decide) rfl (fun ls hl => ?_)
  refine lv_aload_nN hx hb dX10_greet_6 rfl (lv_at hl 0 rfl) ?_
  refine lv_ifnonnullN hx hb dX10_greet_7 ?_
  refine lv_iconst (v := (-1)) hx hb dX10_greet_10 (by decide) ?_
  refine lv_goto (tgt := 22) hx hb dX10_greet_11 (by decide) ?_
  exact W.iret hx hb hr (fun t ht _ => ⟨rfl, ht⟩) (fun _ h => absurd h List.not_mem_nil) dX10_greet_22
set_option maxHeartbeats 4000000 in
set_option maxRecDepth 100000 in
theorem c_X10_as_u (l : Launch) (D : va_G) (tc : Nat → ClassId) (sz : Nat) (ad : Nat → Nat) (ct : Nat → Option va_E) {nt : Nat} {lf : Int32}      {t1 kind : Int32} (h0 : ct 0 = some (.inr (10, [.ref (ad 1), .ref (ad 3), .int (nI nt), .ref (ad 4), .ref (ad 9), .ref (ad 11), .ref (ad 12), .ref (ad 13), .int lf]))) (ht : ¬ (0 ≤ t1 ∧ t1 < nI nt)) : Met l yX10_as wsX10_as ({ frames := 1, cells := 0, slots := 0, locals := 25 }) (va_Pc [.ref (ad 0), .int t1, .int kind] (kw_B D tc sz ad ct)) (kw_Q D ad (kw_A ad ct sz) (some (.int (-1))) (kw_up ct 0 (.inr (10, [.ref (ad 1), .ref (ad 3), .int (nI nt), .ref (ad 4), .ref (ad 9), .ref (ad 11), .ref (ad 12), .ref (ad 13), .int 0]))) 0) 0 0 (kw_A ad ct sz) := by
  refine Met.ofW (cc := cX10_as) (maxL := 4) (ret := (some .int)) (by decide) rfl ?_
  intro pg en s m args below meth cod s₁ B hml hv
  obtain ⟨rfl, hsz, hP0, hK⟩ := hv
  have hx := B.exec
  have hb := B.bytes
  have hr := B.returns
  have hts := atoms_spec (ws := wsX10_as) B.pre
  have hown : s.vm.findClass RX10 = some m.cls := findClass_of_methodNamed B.named
  have hlocks := B.notSynchronized
  subst hsz
  have hw := kw_H.start hP0
  generalize hAe : kw_A ad ct s.heap.size = A at hw ⊢
  have hA : ∀ q, s.heap.size ≤ q → A q := fun q h => by rw [← hAe]; exact Or.inr h
  have hinX10 : ∀ w ∈ wsX100, w ∈ wsX10_as := by decide +kernel
  have hl := lv_entry ([.ref (ad 0), .int t1, .int kind]) (n := 4) (Nat.le_of_ble_eq_true rfl)
  rw [lg_entry_eq]
  generalize (lg_sl ([.ref (ad 0), .int t1, .int kind]) ++ List.replicate (4 - (lg_sl ([.ref (ad 0), .int t1, .int kind])).length) Slot.unset).toArray = ls at hl ⊢
  have hl : lv_has ls 4 [(0, .ref (ad 0)), (1, .int t1), (2, .int kind)] := hl
  have S0 : CallFix pg m cod cX10_as 4 s _ wsX10_as RX10 := ⟨hx, hb, hml, hown, hts⟩
  have hfr : ∀ j, j ≠ 0 → ct j = ct j := fun _ _ => rfl
  refine lv_aload_n hx hb dX10_as_0 rfl (lv_at hl 0 rfl) ?_
  refine lv_iconst (v := 0) hx hb dX10_as_1 (by decide) ?_
  refine kg_put (v := .int 0) (ty := .int) (C := RX10) (T := TX10) (N := 9) (fs' := [.ref (ad 1), .ref (ad 3), .int (nI nt), .ref (ad 4), .ref (ad 9), .ref (ad 11), .ref (ad 12), .ref (ad 13), .int 0]) hx hb hts hinX10 tyX10 tyX10_ok nmX10 hown hK hw h0 rfl 8 (by decide) (hts (.fieldLink RX10 179 "BetMaker" "latestFault" "I") (by decide +kernel)) (fun _ h9 => h9) rfl (by decide +kernel) rfl rfl (Nat.le_of_ble_eq_true rfl) rfl dX10_as_2 (fun H locs hw => ?_)
  obtain ⟨ct_1, ect_1⟩ : ∃ z, z = kw_up ct 0 (.inr (10, [.ref (ad 1), .ref (ad 3), .int (nI nt), .ref (ad 4), .ref (ad 9), .ref (ad 11), .ref (ad 12), .ref (ad 13), .int 0])) := ⟨_, rfl⟩
  rw [← ect_1] at hw
  have h_2 : ct_1 0 = some (.inr (10, [.ref (ad 1), .ref (ad 3), .int (nI nt), .ref (ad 4), .ref (ad 9), .ref (ad 11), .ref (ad 12), .ref (ad 13), .int 0])) := by rw [ect_1]; exact kw_up_s
  have hfr_3 : ∀ j, j ≠ 0 → ct_1 j = ct j := fun j a0 => by rw [ect_1]; exact (kw_up_n a0).trans (hfr j a0)
  refine lv_aload_n hx hb dX10_as_5 rfl (lv_at hl 0 rfl) ?_
  refine lv_iload_n hx hb dX10_as_6 rfl (lv_at hl 1 rfl) ?_
  refine kc_v (As := [.int t1]) (rest := []) S0 (c_X10_findTrader_n l D tc s.heap.size ad ct_1 (nt := nt) h_2 ht) (cwV 1 hts gX10_as_X10_findTrader rfl rfl rfl (by decide +kernel) ⟨Nat.le_of_ble_eq_true rfl, Nat.le_of_ble_eq_true rfl⟩) hK hw h_2 rfl rfl hl.1 rfl (Nat.le_of_ble_eq_true rfl) dX10_as_7 ⟨Nat.le_of_ble_eq_true rfl, (Nat.le_of_ble_eq_true rfl)⟩ ?_
  refine lv_astore_nN (lv' := [(3, .null), (0, .ref (ad 0)), (1, .int t1), (2, .int kind)]) hx hb dX10_as_10 rfl hl (by decide) rfl (fun ls hl => ?_)
  refine lv_aload_nN hx hb dX10_as_11 rfl (lv_at hl 0 rfl) ?_
  refine lv_ifnonnullN hx hb dX10_as_12 ?_
  refine lv_iconst (v := (-1)) hx hb dX10_as_15 (by decide) ?_
  have hq_4 := h_2
  have hend := kw_eq1 hq_4 hfr_3
  rw [hend] at hw
  exact W.iret hx hb hr (fun t ht _ => ⟨rfl, by rw [ht]; exact hw.1, hw.2.2.1, hw.2.1.F ht, by rw [ht]; exact hw.2.2.2⟩) hw.2.1.2.2 dX10_as_16
set_option maxHeartbeats 4000000 in
set_option maxRecDepth 100000 in
theorem c_X10_as_o (l : Launch) (D : va_G) (tc : Nat → ClassId) (sz : Nat) (ad : Nat → Nat) (ct : Nat → Option va_E) {nt t : Nat} {lf : Int32}   {qt : Nat → Option Nat}   {kind : Int32} (h0 : ct 0 = some (.inr (10, [.ref (ad 1), .ref (ad 3), .int (nI nt), .ref (ad 4), .ref (ad 9), .ref (ad 11), .ref (ad 12), .ref (ad 13), .int lf]))) (h3 : ct 3 = some (eQ tc 4 6 qt)) (ht : t < nt) (hnt : nt ≤ 6) (hqt : qt t = some (ad (30 + t))) (hk : ¬ (0 ≤ kind ∧ kind ≤ 2)) : Met l yX10_as wsX10_as ({ frames := 1, cells := 0, slots := 0, locals := 25 }) (va_Pc [.ref (ad 0), .int (nI t), .int kind] (kw_B D tc sz ad ct)) (kw_Q D ad (kw_A ad ct sz) (some (.int (-2))) (kw_up ct 0 (.inr (10, [.ref (ad 1), .ref (ad 3), .int (nI nt), .ref (ad 4), .ref (ad 9), .ref (ad 11), .ref (ad 12), .ref (ad 13), .int 0]))) 0) 0 0 (kw_A ad ct sz) := by
  refine Met.ofW (cc := cX10_as) (maxL := 4) (ret := (some .int)) (by decide) rfl ?_
  intro pg en s m args below meth cod s₁ B hml hv
  obtain ⟨rfl, hsz, hP0, hK⟩ := hv
  have hx := B.exec
  have hb := B.bytes
  have hr := B.returns
  have hts := atoms_spec (ws := wsX10_as) B.pre
  have hown : s.vm.findClass RX10 = some m.cls := findClass_of_methodNamed B.named
  have hlocks := B.notSynchronized
  subst hsz
  have hw := kw_H.start hP0
  generalize hAe : kw_A ad ct s.heap.size = A at hw ⊢
  have hA : ∀ q, s.heap.size ≤ q → A q := fun q h => by rw [← hAe]; exact Or.inr h
  have hinX10 : ∀ w ∈ wsX100, w ∈ wsX10_as := by decide +kernel
  have hl := lv_entry ([.ref (ad 0), .int (nI t), .int kind]) (n := 4) (Nat.le_of_ble_eq_true rfl)
  rw [lg_entry_eq]
  generalize (lg_sl ([.ref (ad 0), .int (nI t), .int kind]) ++ List.replicate (4 - (lg_sl ([.ref (ad 0), .int (nI t), .int kind])).length) Slot.unset).toArray = ls at hl ⊢
  have hl : lv_has ls 4 [(0, .ref (ad 0)), (1, .int (nI t)), (2, .int kind)] := hl
  have S0 : CallFix pg m cod cX10_as 4 s _ wsX10_as RX10 := ⟨hx, hb, hml, hown, hts⟩
  have hfr : ∀ j, j ≠ 0 → ct j = ct j := fun _ _ => rfl
  refine lv_aload_n hx hb dX10_as_0 rfl (lv_at hl 0 rfl) ?_
  refine lv_iconst (v := 0) hx hb dX10_as_1 (by decide) ?_
  refine kg_put (v := .int 0) (ty := .int) (C := RX10) (T := TX10) (N := 9) (fs' := [.ref (ad 1), .ref (ad 3), .int (nI nt), .ref (ad 4), .ref (ad 9), .ref (ad 11), .ref (ad 12), .ref (ad 13), .int 0]) hx hb hts hinX10 tyX10 tyX10_ok nmX10 hown hK hw h0 rfl 8 (by decide) (hts (.fieldLink RX10 179 "BetMaker" "latestFault" "I") (by decide +kernel)) (fun _ h9 => h9) rfl (by decide +kernel) rfl rfl (Nat.le_of_ble_eq_true rfl) rfl dX10_as_2 (fun H locs hw => ?_)
  obtain ⟨ct_1, ect_1⟩ : ∃ z, z = kw_up ct 0 (.inr (10, [.ref (ad 1), .ref (ad 3), .int (nI nt), .ref (ad 4), .ref (ad 9), .ref (ad 11), .ref (ad 12), .ref (ad 13), .int 0])) := ⟨_, rfl⟩
  rw [← ect_1] at hw
  have h_2 : ct_1 3 = some (eQ tc 4 6 qt) := by rw [ect_1, kw_up_n (by omega)]; exact h3
  have h_3 : ct_1 0 = some (.inr (10, [.ref (ad 1), .ref (ad 3), .int (nI nt), .ref (ad 4), .ref (ad 9), .ref (ad 11), .ref (ad 12), .ref (ad 13), .int 0])) := by rw [ect_1]; exact kw_up_s
  have hfr_4 : ∀ j, j ≠ 0 → ct_1 j = ct j := fun j a0 => by rw [ect_1]; exact (kw_up_n a0).trans (hfr j a0)
  refine lv_aload_n hx hb dX10_as_5 rfl (lv_at hl 0 rfl) ?_
  refine lv_iload_n hx hb dX10_as_6 rfl (lv_at hl 1 rfl) ?_
  refine kc_v (As := [.int (nI t)]) (rest := []) S0 (c_X10_findTrader l D tc s.heap.size ad ct_1 (t := t) (nt := nt) h_3 h_2 (by omega) (by omega) hqt) (cwV 1 hts gX10_as_X10_findTrader rfl rfl rfl (by decide +kernel) ⟨Nat.le_of_ble_eq_true rfl, Nat.le_of_ble_eq_true rfl⟩) hK hw h_3 rfl rfl hl.1 rfl (Nat.le_of_ble_eq_true rfl) dX10_as_7 ⟨Nat.le_of_ble_eq_true rfl, (Nat.le_of_ble_eq_true rfl)⟩ ?_
  refine lv_astore_n (lv' := [(3, .ref (ad (30 + t))), (0, .ref (ad 0)), (1, .int (nI t)), (2, .int kind)]) hx hb dX10_as_10 rfl hl (by decide) rfl (fun ls hl => ?_)
  refine lv_aload_n hx hb dX10_as_11 rfl (lv_at hl 0 rfl) ?_
  refine lv_ifnonnull (tgt := 17) hx hb dX10_as_12 (by decide) ?_
  refine lv_iload_n hx hb dX10_as_17 rfl (lv_at hl 3 rfl) ?_
  refine kc_s (As := [.int kind]) (rest := []) S0 (c_X10_isKind l D tc s.heap.size ad ct_1 ) (va_cwS 1 hts gX10_as_X10_isKind rfl rfl rfl (by decide +kernel) ⟨Nat.le_of_ble_eq_true rfl, Nat.le_of_ble_eq_true rfl⟩) hK hw rfl hl.1 rfl (Nat.le_of_ble_eq_true rfl) dX10_as_18 ⟨Nat.le_of_ble_eq_true rfl, (Nat.le_of_ble_eq_true rfl)⟩ ?_
  refine kb_ifne (tgt := 27) hx hb dX10_as_21 (by decide) (fun c_5 => ?_) (fun c_5 => ?_)
  · exact absurd c_5 hk
  · refine lv_bipush (v := (-2)) hx hb dX10_as_24 (by decide) ?_
    have hq_6 := h_3
    have hend := kw_eq1 hq_6 hfr_4
    rw [hend] at hw
    exact W.iret hx hb hr (fun t ht _ => ⟨rfl, by rw [ht]; exact hw.1, hw.2.2.1, hw.2.1.F ht, by rw [ht]; exact hw.2.2.2⟩) hw.2.1.2.2 dX10_as_26
set_option maxHeartbeats 4000000 in
set_option maxRecDepth 100000 in
theorem c_X10_as_50 (l : Launch) (D : va_G) (tc : Nat → ClassId) (sz : Nat) (ad : Nat → Nat) (ct : Nat → Option va_E) {nt t : Nat} {lf nb de : Int32} {pu : Int64}  {qt : Nat → Option Nat}    (h0 : ct 0 = some (.inr (10, [.ref (ad 1), .ref (ad 3), .int (nI nt), .ref (ad 4), .ref (ad 9), .ref (ad 11), .ref (ad 12), .ref (ad 13), .int lf]))) (h3 : ct 3 = some (eQ tc 4 6 qt)) (h30 : ct (30 + t) = some (.inr (5, [.int nb, .ref (ad (36 + t)), .ref (ad (42 + t)), .long pu, .int de]))) (ht : t < nt) (hnt : nt ≤ 6) (hqt : qt t = some (ad (30 + t))) : Met l yX10_as wsX10_as ({ frames := 1, cells := 0, slots := 0, locals := 25 }) (va_Pc [.ref (ad 0), .int (nI t), .int 0] (kw_B D tc sz ad ct)) (kw_Q D ad (kw_A ad ct sz) (some (.int 1)) (kw_up ct 0 (.inr (10, [.ref (ad 1), .ref (ad 3), .int (nI nt), .ref (ad 4), .ref (ad 9), .ref (ad 11), .ref (ad 12), .ref (ad 13), .int 0]))) 0) 0 0 (kw_A ad ct sz) := by
  refine Met.ofW (cc := cX10_as) (maxL := 4) (ret := (some .int)) (by decide) rfl ?_
  intro pg en s m args below meth cod s₁ B hml hv
  obtain ⟨rfl, hsz, hP0, hK⟩ := hv
  have hx := B.exec
  have hb := B.bytes
  have hr := B.returns
  have hts := atoms_spec (ws := wsX10_as) B.pre
  have hown : s.vm.findClass RX10 = some m.cls := findClass_of_methodNamed B.named
  have hlocks := B.notSynchronized
  subst hsz
  have hw := kw_H.start hP0
  generalize hAe : kw_A ad ct s.heap.size = A at hw ⊢
  have hA : ∀ q, s.heap.size ≤ q → A q := fun q h => by rw [← hAe]; exact Or.inr h
  have hinX10 : ∀ w ∈ wsX100, w ∈ wsX10_as := by decide +kernel
  have hl := lv_entry ([.ref (ad 0), .int (nI t), .int 0]) (n := 4) (Nat.le_of_ble_eq_true rfl)
  rw [lg_entry_eq]
  generalize (lg_sl ([.ref (ad 0), .int (nI t), .int 0]) ++ List.replicate (4 - (lg_sl ([.ref (ad 0), .int (nI t), .int 0])).length) Slot.unset).toArray = ls at hl ⊢
  have hl : lv_has ls 4 [(0, .ref (ad 0)), (1, .int (nI t)), (2, .int 0)] := hl
  have S0 : CallFix pg m cod cX10_as 4 s _ wsX10_as RX10 := ⟨hx, hb, hml, hown, hts⟩
  have hfr : ∀ j, j ≠ 0 → ct j = ct j := fun _ _ => rfl
  have hk : (0 : Int32) ≤ 0 ∧ (0 : Int32) ≤ 2 := by decide
  refine lv_aload_n hx hb dX10_as_0 rfl (lv_at hl 0 rfl) ?_
  refine lv_iconst (v := 0) hx hb dX10_as_1 (by decide) ?_
  refine kg_put (v := .int 0) (ty := .int) (C := RX10) (T := TX10) (N := 9) (fs' := [.ref (ad 1), .ref (ad 3), .int (nI nt), .ref (ad 4), .ref (ad 9), .ref (ad 11), .ref (ad 12), .ref (ad 13), .int 0]) hx hb hts hinX10 tyX10 tyX10_ok nmX10 hown hK hw h0 rfl 8 (by decide) (hts (.fieldLink RX10 179 "BetMaker" "latestFault" "I") (by decide +kernel)) (fun _ h9 => h9) rfl (by decide +kernel) rfl rfl (Nat.le_of_ble_eq_true rfl) rfl dX10_as_2 (fun H locs hw => ?_)
  obtain ⟨ct_1, ect_1⟩ : ∃ z, z = kw_up ct 0 (.inr (10, [.ref (ad 1), .ref (ad 3), .int (nI nt), .ref (ad 4), .ref (ad 9), .ref (ad 11), .ref (ad 12), .ref (ad 13), .int 0])) := ⟨_, rfl⟩
  rw [← ect_1] at hw
  have h_2 : ct_1 3 = some (eQ tc 4 6 qt) := by rw [ect_1, kw_up_n (by omega)]; exact h3
  have h_3 : ct_1 (30 + t) = some (.inr (5, [.int nb, .ref (ad (36 + t)), .ref (ad (42 + t)), .long pu, .int de])) := by rw [ect_1, kw_up_n (by omega)]; exact h30
  have h_4 : ct_1 0 = some (.inr (10, [.ref (ad 1), .ref (ad 3), .int (nI nt), .ref (ad 4), .ref (ad 9), .ref (ad 11), .ref (ad 12), .ref (ad 13), .int 0])) := by rw [ect_1]; exact kw_up_s
  have hfr_5 : ∀ j, j ≠ 0 → ct_1 j = ct j := fun j a0 => by rw [ect_1]; exact (kw_up_n a0).trans (hfr j a0)
  refine lv_aload_n hx hb dX10_as_5 rfl (lv_at hl 0 rfl) ?_
  refine lv_iload_n hx hb dX10_as_6 rfl (lv_at hl 1 rfl) ?_
  refine kc_v (As := [.int (nI t)]) (rest := []) S0 (c_X10_findTrader l D tc s.heap.size ad ct_1 (t := t) (nt := nt) h_4 h_2 (by omega) (by omega) hqt) (cwV 1 hts gX10_as_X10_findTrader rfl rfl rfl (by decide +kernel) ⟨Nat.le_of_ble_eq_true rfl, Nat.le_of_ble_eq_true rfl⟩) hK hw h_4 rfl rfl hl.1 rfl (Nat.le_of_ble_eq_true rfl) dX10_as_7 ⟨Nat.le_of_ble_eq_true rfl, (Nat.le_of_ble_eq_true rfl)⟩ ?_
  refine lv_astore_n (lv' := [(3, .ref (ad (30 + t))), (0, .ref (ad 0)), (1, .int (nI t)), (2, .int 0)]) hx hb dX10_as_10 rfl hl (by decide) rfl (fun ls hl => ?_)
  refine lv_aload_n hx hb dX10_as_11 rfl (lv_at hl 0 rfl) ?_
  refine lv_ifnonnull (tgt := 17) hx hb dX10_as_12 (by decide) ?_
  refine lv_iload_n hx hb dX10_as_17 rfl (lv_at hl 3 rfl) ?_
  refine kc_s (As := [.int 0]) (rest := []) S0 (c_X10_isKind l D tc s.heap.size ad ct_1 ) (va_cwS 1 hts gX10_as_X10_isKind rfl rfl rfl (by decide +kernel) ⟨Nat.le_of_ble_eq_true rfl, Nat.le_of_ble_eq_true rfl⟩) hK hw rfl hl.1 rfl (Nat.le_of_ble_eq_true rfl) dX10_as_18 ⟨Nat.le_of_ble_eq_true rfl, (Nat.le_of_ble_eq_true rfl)⟩ ?_
  refine kb_ifne (tgt := 27) hx hb dX10_as_21 (by decide) (fun c_6 => ?_) (fun c_6 => ?_)
  · refine lv_aload_n hx hb dX10_as_27 rfl (lv_at hl 0 rfl) ?_
    refine lv_iload_n hx hb dX10_as_28 rfl (lv_at hl 3 rfl) ?_
    refine kc_s (As := [.ref (ad (30 + t)), .int 0]) (rest := []) S0 (c_X10_isOfKind_50 l D tc s.heap.size ad ct_1 (t := t) h_3) (va_cwS 2 hts gX10_as_X10_isOfKind rfl rfl rfl (by decide +kernel) ⟨Nat.le_of_ble_eq_true rfl, Nat.le_of_ble_eq_true rfl⟩) hK hw rfl hl.1 rfl (Nat.le_of_ble_eq_true rfl) dX10_as_29 ⟨Nat.le_of_ble_eq_true rfl, (Nat.le_of_ble_eq_true rfl)⟩ ?_
    refine lv_if_eq (tgt := 39) hx hb dX10_as_32 (by decide) (fun c_7 => ?_) (fun c_7 => ?_)
    · exact absurd c_7 (by decide)
    · refine lv_iconst (v := 1) hx hb dX10_as_35 (by decide) ?_
      refine lv_goto (tgt := 44) hx hb dX10_as_36 (by decide) ?_
      have hq_8 := h_4
      have hend := kw_eq1 hq_8 hfr_5
      rw [hend] at hw
      exact W.iret hx hb hr (fun t ht _ => ⟨rfl, by rw [ht]; exact hw.1, hw.2.2.1, hw.2.1.F ht, by rw [ht]; exact hw.2.2.2⟩) hw.2.1.2.2 dX10_as_44
  · exact absurd hk c_6
set_option maxHeartbeats 4000000 in
set_option maxRecDepth 100000 in
theorem c_X10_as_51 (l : Launch) (D : va_G) (tc : Nat → ClassId) (sz : Nat) (ad : Nat → Nat) (ct : Nat → Option va_E) {nt t : Nat} {lf nb de : Int32} {pu : Int64}  {qt : Nat → Option Nat}    (h0 : ct 0 = some (.inr (10, [.ref (ad 1), .ref (ad 3), .int (nI nt), .ref (ad 4), .ref (ad 9), .ref (ad 11), .ref (ad 12), .ref (ad 13), .int lf]))) (h3 : ct 3 = some (eQ tc 4 6 qt)) (h30 : ct (30 + t) = some (.inr (5, [.int nb, .ref (ad (36 + t)), .ref (ad (42 + t)), .long pu, .int de]))) (ht : t < nt) (hnt : nt ≤ 6) (hqt : qt t = some (ad (30 + t))) : Met l yX10_as wsX10_as ({ frames := 1, cells := 0, slots := 0, locals := 25 }) (va_Pc [.ref (ad 0), .int (nI t), .int 1] (kw_B D tc sz ad ct)) (kw_Q D ad (kw_A ad ct sz) (some (.int ((-10) - 2))) (kw_up ct 0 (.inr (10, [.ref (ad 1), .ref (ad 3), .int (nI nt), .ref (ad 4), .ref (ad 9), .ref (ad 11), .ref (ad 12), .ref (ad 13), .int 2]))) 0) 0 0 (kw_A ad ct sz) := by
  refine Met.ofW (cc := cX10_as) (maxL := 4) (ret := (some .int)) (by decide) rfl ?_
  intro pg en s m args below meth cod s₁ B hml hv
  obtain ⟨rfl, hsz, hP0, hK⟩ := hv
  have hx := B.exec
  have hb := B.bytes
  have hr := B.returns
  have hts := atoms_spec (ws := wsX10_as) B.pre
  have hown : s.vm.findClass RX10 = some m.cls := findClass_of_methodNamed B.named
  have hlocks := B.notSynchronized
  subst hsz
  have hw := kw_H.start hP0
  generalize hAe : kw_A ad ct s.heap.size = A at hw ⊢
  have hA : ∀ q, s.heap.size ≤ q → A q := fun q h => by rw [← hAe]; exact Or.inr h
  have hinX10 : ∀ w ∈ wsX100, w ∈ wsX10_as := by decide +kernel
  have hl := lv_entry ([.ref (ad 0), .int (nI t), .int 1]) (n := 4) (Nat.le_of_ble_eq_true rfl)
  rw [lg_entry_eq]
  generalize (lg_sl ([.ref (ad 0), .int (nI t), .int 1]) ++ List.replicate (4 - (lg_sl ([.ref (ad 0), .int (nI t), .int 1])).length) Slot.unset).toArray = ls at hl ⊢
  have hl : lv_has ls 4 [(0, .ref (ad 0)), (1, .int (nI t)), (2, .int 1)] := hl
  have S0 : CallFix pg m cod cX10_as 4 s _ wsX10_as RX10 := ⟨hx, hb, hml, hown, hts⟩
  have hfr : ∀ j, j ≠ 0 → ct j = ct j := fun _ _ => rfl
  have hk : (0 : Int32) ≤ 1 ∧ (1 : Int32) ≤ 2 := by decide
  refine lv_aload_n hx hb dX10_as_0 rfl (lv_at hl 0 rfl) ?_
  refine lv_iconst (v := 0) hx hb dX10_as_1 (by decide) ?_
  refine kg_put (v := .int 0) (ty := .int) (C := RX10) (T := TX10) (N := 9) (fs' := [.ref (ad 1), .ref (ad 3), .int (nI nt), .ref (ad 4), .ref (ad 9), .ref (ad 11), .ref (ad 12), .ref (ad 13), .int 0]) hx hb hts hinX10 tyX10 tyX10_ok nmX10 hown hK hw h0 rfl 8 (by decide) (hts (.fieldLink RX10 179 "BetMaker" "latestFault" "I") (by decide +kernel)) (fun _ h9 => h9) rfl (by decide +kernel) rfl rfl (Nat.le_of_ble_eq_true rfl) rfl dX10_as_2 (fun H locs hw => ?_)
  obtain ⟨ct_1, ect_1⟩ : ∃ z, z = kw_up ct 0 (.inr (10, [.ref (ad 1), .ref (ad 3), .int (nI nt), .ref (ad 4), .ref (ad 9), .ref (ad 11), .ref (ad 12), .ref (ad 13), .int 0])) := ⟨_, rfl⟩
  rw [← ect_1] at hw
  have h_2 : ct_1 3 = some (eQ tc 4 6 qt) := by rw [ect_1, kw_up_n (by omega)]; exact h3
  have h_3 : ct_1 (30 + t) = some (.inr (5, [.int nb, .ref (ad (36 + t)), .ref (ad (42 + t)), .long pu, .int de])) := by rw [ect_1, kw_up_n (by omega)]; exact h30
  have h_4 : ct_1 0 = some (.inr (10, [.ref (ad 1), .ref (ad 3), .int (nI nt), .ref (ad 4), .ref (ad 9), .ref (ad 11), .ref (ad 12), .ref (ad 13), .int 0])) := by rw [ect_1]; exact kw_up_s
  have hfr_5 : ∀ j, j ≠ 0 → ct_1 j = ct j := fun j a0 => by rw [ect_1]; exact (kw_up_n a0).trans (hfr j a0)
  refine lv_aload_n hx hb dX10_as_5 rfl (lv_at hl 0 rfl) ?_
  refine lv_iload_n hx hb dX10_as_6 rfl (lv_at hl 1 rfl) ?_
  refine kc_v (As := [.int (nI t)]) (rest := []) S0 (c_X10_findTrader l D tc s.heap.size ad ct_1 (t := t) (nt := nt) h_4 h_2 (by omega) (by omega) hqt) (cwV 1 hts gX10_as_X10_findTrader rfl rfl rfl (by decide +kernel) ⟨Nat.le_of_ble_eq_true rfl, Nat.le_of_ble_eq_true rfl⟩) hK hw h_4 rfl rfl hl.1 rfl (Nat.le_of_ble_eq_true rfl) dX10_as_7 ⟨Nat.le_of_ble_eq_true rfl, (Nat.le_of_ble_eq_true rfl)⟩ ?_
  refine lv_astore_n (lv' := [(3, .ref (ad (30 + t))), (0, .ref (ad 0)), (1, .int (nI t)), (2, .int 1)]) hx hb dX10_as_10 rfl hl (by decide) rfl (fun ls hl => ?_)
  refine lv_aload_n hx hb dX10_as_11 rfl (lv_at hl 0 rfl) ?_
  refine lv_ifnonnull (tgt := 17) hx hb dX10_as_12 (by decide) ?_
  refine lv_iload_n hx hb dX10_as_17 rfl (lv_at hl 3 rfl) ?_
  refine kc_s (As := [.int 1]) (rest := []) S0 (c_X10_isKind l D tc s.heap.size ad ct_1 ) (va_cwS 1 hts gX10_as_X10_isKind rfl rfl rfl (by decide +kernel) ⟨Nat.le_of_ble_eq_true rfl, Nat.le_of_ble_eq_true rfl⟩) hK hw rfl hl.1 rfl (Nat.le_of_ble_eq_true rfl) dX10_as_18 ⟨Nat.le_of_ble_eq_true rfl, (Nat.le_of_ble_eq_true rfl)⟩ ?_
  refine kb_ifne (tgt := 27) hx hb dX10_as_21 (by decide) (fun c_6 => ?_) (fun c_6 => ?_)
  · refine lv_aload_n hx hb dX10_as_27 rfl (lv_at hl 0 rfl) ?_
    refine lv_iload_n hx hb dX10_as_28 rfl (lv_at hl 3 rfl) ?_
    refine kc_s (As := [.ref (ad (30 + t)), .int 1]) (rest := []) S0 (c_X10_isOfKind_51 l D tc s.heap.size ad ct_1 (t := t) h_3) (va_cwS 2 hts gX10_as_X10_isOfKind rfl rfl rfl (by decide +kernel) ⟨Nat.le_of_ble_eq_true rfl, Nat.le_of_ble_eq_true rfl⟩) hK hw rfl hl.1 rfl (Nat.le_of_ble_eq_true rfl) dX10_as_29 ⟨Nat.le_of_ble_eq_true rfl, (Nat.le_of_ble_eq_true rfl)⟩ ?_
    refine lv_if_eq (tgt := 39) hx hb dX10_as_32 (by decide) (fun c_7 => ?_) (fun c_7 => ?_)
    · refine lv_aload_n hx hb dX10_as_39 rfl (lv_at hl 1 rfl) ?_
      refine lv_iconst (v := 2) hx hb dX10_as_40 (by decide) ?_
      refine kc_vu (As := [.int 2]) (rest := []) S0 (c_X10_meet l D tc s.heap.size ad ct_1 (nt := nt) h_4) (cwV 1 hts gX10_as_X10_meet rfl rfl rfl (by decide +kernel) ⟨Nat.le_of_ble_eq_true rfl, Nat.le_of_ble_eq_true rfl⟩) hK hw hA h_4 rfl rfl hl.1 rfl (Nat.le_of_ble_eq_true rfl) dX10_as_41 ⟨Nat.le_of_ble_eq_true rfl, (Nat.le_of_ble_eq_true rfl)⟩ (fun H locs hw => ?_)
      obtain ⟨ct_8, ect_8⟩ : ∃ z, z = kw_up ct_1 0 (.inr (10, [.ref (ad 1), .ref (ad 3), .int (nI nt), .ref (ad 4), .ref (ad 9), .ref (ad 11), .ref (ad 12), .ref (ad 13), .int 2])) := ⟨_, rfl⟩
      rw [← ect_8] at hw
      have h_9 : ct_8 3 = some (eQ tc 4 6 qt) := by rw [ect_8, kw_up_n (by omega)]; exact h_2
      have h_10 : ct_8 (30 + t) = some (.inr (5, [.int nb, .ref (ad (36 + t)), .ref (ad (42 + t)), .long pu, .int de])) := by rw [ect_8, kw_up_n (by omega)]; exact h_3
      have h_11 : ct_8 0 = some (.inr (10, [.ref (ad 1), .ref (ad 3), .int (nI nt), .ref (ad 4), .ref (ad 9), .ref (ad 11), .ref (ad 12), .ref (ad 13), .int 2])) := by rw [ect_8]; exact kw_up_s
      have hfr_12 : ∀ j, j ≠ 0 → ct_8 j = ct j := fun j a0 => by rw [ect_8]; exact (kw_up_n a0).trans (hfr_5 j a0)
      have hq_13 := h_11
      have hend := kw_eq1 hq_13 hfr_12
      rw [hend] at hw
      exact W.iret hx hb hr (fun t ht _ => ⟨rfl, by rw [ht]; exact hw.1, hw.2.2.1, hw.2.1.F ht, by rw [ht]; exact hw.2.2.2⟩) hw.2.1.2.2 dX10_as_44
    · exact absurd c_7 (by decide)
  · exact absurd hk c_6
set_option maxHeartbeats 4000000 in
set_option maxRecDepth 100000 in
theorem c_X10_as_52 (l : Launch) (D : va_G) (tc : Nat → ClassId) (sz : Nat) (ad : Nat → Nat) (ct : Nat → Option va_E) {nt t : Nat} {lf nb de : Int32} {pu : Int64}  {qt : Nat → Option Nat}    (h0 : ct 0 = some (.inr (10, [.ref (ad 1), .ref (ad 3), .int (nI nt), .ref (ad 4), .ref (ad 9), .ref (ad 11), .ref (ad 12), .ref (ad 13), .int lf]))) (h3 : ct 3 = some (eQ tc 4 6 qt)) (h30 : ct (30 + t) = some (.inr (5, [.int nb, .ref (ad (36 + t)), .ref (ad (42 + t)), .long pu, .int de]))) (ht : t < nt) (hnt : nt ≤ 6) (hqt : qt t = some (ad (30 + t))) : Met l yX10_as wsX10_as ({ frames := 1, cells := 0, slots := 0, locals := 25 }) (va_Pc [.ref (ad 0), .int (nI t), .int 2] (kw_B D tc sz ad ct)) (kw_Q D ad (kw_A ad ct sz) (some (.int ((-10) - 2))) (kw_up ct 0 (.inr (10, [.ref (ad 1), .ref (ad 3), .int (nI nt), .ref (ad 4), .ref (ad 9), .ref (ad 11), .ref (ad 12), .ref (ad 13), .int 2]))) 0) 0 0 (kw_A ad ct sz) := by
  refine Met.ofW (cc := cX10_as) (maxL := 4) (ret := (some .int)) (by decide) rfl ?_
  intro pg en s m args below meth cod s₁ B hml hv
  obtain ⟨rfl, hsz, hP0, hK⟩ := hv
  have hx := B.exec
  have hb := B.bytes
  have hr := B.returns
  have hts := atoms_spec (ws := wsX10_as) B.pre
  have hown : s.vm.findClass RX10 = some m.cls := findClass_of_methodNamed B.named
  have hlocks := B.notSynchronized
  subst hsz
  have hw := kw_H.start hP0
  generalize hAe : kw_A ad ct s.heap.size = A at hw ⊢
  have hA : ∀ q, s.heap.size ≤ q → A q := fun q h => by rw [← hAe]; exact Or.inr h
  have hinX10 : ∀ w ∈ wsX100, w ∈ wsX10_as := by decide +kernel
  have hl := lv_entry ([.ref (ad 0), .int (nI t), .int 2]) (n := 4) (Nat.le_of_ble_eq_true rfl)
  rw [lg_entry_eq]
  generalize (lg_sl ([.ref (ad 0), .int (nI t), .int 2]) ++ List.replicate (4 - (lg_sl ([.ref (ad 0), .int (nI t), .int 2])).length) Slot.unset).toArray = ls at hl ⊢
  have hl : lv_has ls 4 [(0, .ref (ad 0)), (1, .int (nI t)), (2, .int 2)] := hl
  have S0 : CallFix pg m cod cX10_as 4 s _ wsX10_as RX10 := ⟨hx, hb, hml, hown, hts⟩
  have hfr : ∀ j, j ≠ 0 → ct j = ct j := fun _ _ => rfl
  have hk : (0 : Int32) ≤ 2 ∧ (2 : Int32) ≤ 2 := by decide
  refine lv_aload_n hx hb dX10_as_0 rfl (lv_at hl 0 rfl) ?_
  refine lv_iconst (v := 0) hx hb dX10_as_1 (by decide) ?_
  refine kg_put (v := .int 0) (ty := .int) (C := RX10) (T := TX10) (N := 9) (fs' := [.ref (ad 1), .ref (ad 3), .int (nI nt), .ref (ad 4), .ref (ad 9), .ref (ad 11), .ref (ad 12), .ref (ad 13), .int 0]) hx hb hts hinX10 tyX10 tyX10_ok nmX10 hown hK hw h0 rfl 8 (by decide) (hts (.fieldLink RX10 179 "BetMaker" "latestFault" "I") (by decide +kernel)) (fun _ h9 => h9) rfl (by decide +kernel) rfl rfl (Nat.le_of_ble_eq_true rfl) rfl dX10_as_2 (fun H locs hw => ?_)
  obtain ⟨ct_1, ect_1⟩ : ∃ z, z = kw_up ct 0 (.inr (10, [.ref (ad 1), .ref (ad 3), .int (nI nt), .ref (ad 4), .ref (ad 9), .ref (ad 11), .ref (ad 12), .ref (ad 13), .int 0])) := ⟨_, rfl⟩
  rw [← ect_1] at hw
  have h_2 : ct_1 3 = some (eQ tc 4 6 qt) := by rw [ect_1, kw_up_n (by omega)]; exact h3
  have h_3 : ct_1 (30 + t) = some (.inr (5, [.int nb, .ref (ad (36 + t)), .ref (ad (42 + t)), .long pu, .int de])) := by rw [ect_1, kw_up_n (by omega)]; exact h30
  have h_4 : ct_1 0 = some (.inr (10, [.ref (ad 1), .ref (ad 3), .int (nI nt), .ref (ad 4), .ref (ad 9), .ref (ad 11), .ref (ad 12), .ref (ad 13), .int 0])) := by rw [ect_1]; exact kw_up_s
  have hfr_5 : ∀ j, j ≠ 0 → ct_1 j = ct j := fun j a0 => by rw [ect_1]; exact (kw_up_n a0).trans (hfr j a0)
  refine lv_aload_n hx hb dX10_as_5 rfl (lv_at hl 0 rfl) ?_
  refine lv_iload_n hx hb dX10_as_6 rfl (lv_at hl 1 rfl) ?_
  refine kc_v (As := [.int (nI t)]) (rest := []) S0 (c_X10_findTrader l D tc s.heap.size ad ct_1 (t := t) (nt := nt) h_4 h_2 (by omega) (by omega) hqt) (cwV 1 hts gX10_as_X10_findTrader rfl rfl rfl (by decide +kernel) ⟨Nat.le_of_ble_eq_true rfl, Nat.le_of_ble_eq_true rfl⟩) hK hw h_4 rfl rfl hl.1 rfl (Nat.le_of_ble_eq_true rfl) dX10_as_7 ⟨Nat.le_of_ble_eq_true rfl, (Nat.le_of_ble_eq_true rfl)⟩ ?_
  refine lv_astore_n (lv' := [(3, .ref (ad (30 + t))), (0, .ref (ad 0)), (1, .int (nI t)), (2, .int 2)]) hx hb dX10_as_10 rfl hl (by decide) rfl (fun ls hl => ?_)
  refine lv_aload_n hx hb dX10_as_11 rfl (lv_at hl 0 rfl) ?_
  refine lv_ifnonnull (tgt := 17) hx hb dX10_as_12 (by decide) ?_
  refine lv_iload_n hx hb dX10_as_17 rfl (lv_at hl 3 rfl) ?_
  refine kc_s (As := [.int 2]) (rest := []) S0 (c_X10_isKind l D tc s.heap.size ad ct_1 ) (va_cwS 1 hts gX10_as_X10_isKind rfl rfl rfl (by decide +kernel) ⟨Nat.le_of_ble_eq_true rfl, Nat.le_of_ble_eq_true rfl⟩) hK hw rfl hl.1 rfl (Nat.le_of_ble_eq_true rfl) dX10_as_18 ⟨Nat.le_of_ble_eq_true rfl, (Nat.le_of_ble_eq_true rfl)⟩ ?_
  refine kb_ifne (tgt := 27) hx hb dX10_as_21 (by decide) (fun c_6 => ?_) (fun c_6 => ?_)
  · refine lv_aload_n hx hb dX10_as_27 rfl (lv_at hl 0 rfl) ?_
    refine lv_iload_n hx hb dX10_as_28 rfl (lv_at hl 3 rfl) ?_
    refine kc_s (As := [.ref (ad (30 + t)), .int 2]) (rest := []) S0 (c_X10_isOfKind_52 l D tc s.heap.size ad ct_1 (t := t) h_3) (va_cwS 2 hts gX10_as_X10_isOfKind rfl rfl rfl (by decide +kernel) ⟨Nat.le_of_ble_eq_true rfl, Nat.le_of_ble_eq_true rfl⟩) hK hw rfl hl.1 rfl (Nat.le_of_ble_eq_true rfl) dX10_as_29 ⟨Nat.le_of_ble_eq_true rfl, (Nat.le_of_ble_eq_true rfl)⟩ ?_
    refine lv_if_eq (tgt := 39) hx hb dX10_as_32 (by decide) (fun c_7 => ?_) (fun c_7 => ?_)
    · refine lv_aload_n hx hb dX10_as_39 rfl (lv_at hl 1 rfl) ?_
      refine lv_iconst (v := 2) hx hb dX10_as_40 (by decide) ?_
      refine kc_vu (As := [.int 2]) (rest := []) S0 (c_X10_meet l D tc s.heap.size ad ct_1 (nt := nt) h_4) (cwV 1 hts gX10_as_X10_meet rfl rfl rfl (by decide +kernel) ⟨Nat.le_of_ble_eq_true rfl, Nat.le_of_ble_eq_true rfl⟩) hK hw hA h_4 rfl rfl hl.1 rfl (Nat.le_of_ble_eq_true rfl) dX10_as_41 ⟨Nat.le_of_ble_eq_true rfl, (Nat.le_of_ble_eq_true rfl)⟩ (fun H locs hw => ?_)
      obtain ⟨ct_8, ect_8⟩ : ∃ z, z = kw_up ct_1 0 (.inr (10, [.ref (ad 1), .ref (ad 3), .int (nI nt), .ref (ad 4), .ref (ad 9), .ref (ad 11), .ref (ad 12), .ref (ad 13), .int 2])) := ⟨_, rfl⟩
      rw [← ect_8] at hw
      have h_9 : ct_8 3 = some (eQ tc 4 6 qt) := by rw [ect_8, kw_up_n (by omega)]; exact h_2
      have h_10 : ct_8 (30 + t) = some (.inr (5, [.int nb, .ref (ad (36 + t)), .ref (ad (42 + t)), .long pu, .int de])) := by rw [ect_8, kw_up_n (by omega)]; exact h_3
      have h_11 : ct_8 0 = some (.inr (10, [.ref (ad 1), .ref (ad 3), .int (nI nt), .ref (ad 4), .ref (ad 9), .ref (ad 11), .ref (ad 12), .ref (ad 13), .int 2])) := by rw [ect_8]; exact kw_up_s
      have hfr_12 : ∀ j, j ≠ 0 → ct_8 j = ct j := fun j a0 => by rw [ect_8]; exact (kw_up_n a0).trans (hfr_5 j a0)
      have hq_13 := h_11
      have hend := kw_eq1 hq_13 hfr_12
      rw [hend] at hw
      exact W.iret hx hb hr (fun t ht _ => ⟨rfl, by rw [ht]; exact hw.1, hw.2.2.1, hw.2.1.F ht, by rw [ht]; exact hw.2.2.2⟩) hw.2.1.2.2 dX10_as_44
    · exact absurd c_7 (by decide)
  · exact absurd hk c_6
set_option maxHeartbeats 4000000 in
set_option maxRecDepth 100000 in
theorem c_X10_as_70 (l : Launch) (D : va_G) (tc : Nat → ClassId) (sz : Nat) (ad : Nat → Nat) (ct : Nat → Option va_E) {nt t : Nat} {lf nb de : Int32} {pu : Int64}  {qt : Nat → Option Nat}    (h0 : ct 0 = some (.inr (10, [.ref (ad 1), .ref (ad 3), .int (nI nt), .ref (ad 4), .ref (ad 9), .ref (ad 11), .ref (ad 12), .ref (ad 13), .int lf]))) (h3 : ct 3 = some (eQ tc 4 6 qt)) (h30 : ct (30 + t) = some (.inr (7, [.int nb, .ref (ad (36 + t)), .ref (ad (42 + t)), .long pu, .int de]))) (ht : t < nt) (hnt : nt ≤ 6) (hqt : qt t = some (ad (30 + t))) : Met l yX10_as wsX10_as ({ frames := 1, cells := 0, slots := 0, locals := 25 }) (va_Pc [.ref (ad 0), .int (nI t), .int 0] (kw_B D tc sz ad ct)) (kw_Q D ad (kw_A ad ct sz) (some (.int 1)) (kw_up ct 0 (.inr (10, [.ref (ad 1), .ref (ad 3), .int (nI nt), .ref (ad 4), .ref (ad 9), .ref (ad 11), .ref (ad 12), .ref (ad 13), .int 0]))) 0) 0 0 (kw_A ad ct sz) := by
  refine Met.ofW (cc := cX10_as) (maxL := 4) (ret := (some .int)) (by decide) rfl ?_
  intro pg en s m args below meth cod s₁ B hml hv
  obtain ⟨rfl, hsz, hP0, hK⟩ := hv
  have hx := B.exec
  have hb := B.bytes
  have hr := B.returns
  have hts := atoms_spec (ws := wsX10_as) B.pre
  have hown : s.vm.findClass RX10 = some m.cls := findClass_of_methodNamed B.named
  have hlocks := B.notSynchronized
  subst hsz
  have hw := kw_H.start hP0
  generalize hAe : kw_A ad ct s.heap.size = A at hw ⊢
  have hA : ∀ q, s.heap.size ≤ q → A q := fun q h => by rw [← hAe]; exact Or.inr h
  have hinX10 : ∀ w ∈ wsX100, w ∈ wsX10_as := by decide +kernel
  have hl := lv_entry ([.ref (ad 0), .int (nI t), .int 0]) (n := 4) (Nat.le_of_ble_eq_true rfl)
  rw [lg_entry_eq]
  generalize (lg_sl ([.ref (ad 0), .int (nI t), .int 0]) ++ List.replicate (4 - (lg_sl ([.ref (ad 0), .int (nI t), .int 0])).length) Slot.unset).toArray = ls at hl ⊢
  have hl : lv_has ls 4 [(0, .ref (ad 0)), (1, .int (nI t)), (2, .int 0)] := hl
  have S0 : CallFix pg m cod cX10_as 4 s _ wsX10_as RX10 := ⟨hx, hb, hml, hown, hts⟩
  have hfr : ∀ j, j ≠ 0 → ct j = ct j := fun _ _ => rfl
  have hk : (0 : Int32) ≤ 0 ∧ (0 : Int32) ≤ 2 := by decide
  refine lv_aload_n hx hb dX10_as_0 rfl (lv_at hl 0 rfl) ?_
  refine lv_iconst (v := 0) hx hb dX10_as_1 (by decide) ?_
  refine kg_put (v := .int 0) (ty := .int) (C := RX10) (T := TX10) (N := 9) (fs' := [.ref (ad 1), .ref (ad 3), .int (nI nt), .ref (ad 4), .ref (ad 9), .ref (ad 11), .ref (ad 12), .ref (ad 13), .int 0]) hx hb hts hinX10 tyX10 tyX10_ok nmX10 hown hK hw h0 rfl 8 (by decide) (hts (.fieldLink RX10 179 "BetMaker" "latestFault" "I") (by decide +kernel)) (fun _ h9 => h9) rfl (by decide +kernel) rfl rfl (Nat.le_of_ble_eq_true rfl) rfl dX10_as_2 (fun H locs hw => ?_)
  obtain ⟨ct_1, ect_1⟩ : ∃ z, z = kw_up ct 0 (.inr (10, [.ref (ad 1), .ref (ad 3), .int (nI nt), .ref (ad 4), .ref (ad 9), .ref (ad 11), .ref (ad 12), .ref (ad 13), .int 0])) := ⟨_, rfl⟩
  rw [← ect_1] at hw
  have h_2 : ct_1 3 = some (eQ tc 4 6 qt) := by rw [ect_1, kw_up_n (by omega)]; exact h3
  have h_3 : ct_1 (30 + t) = some (.inr (7, [.int nb, .ref (ad (36 + t)), .ref (ad (42 + t)), .long pu, .int de])) := by rw [ect_1, kw_up_n (by omega)]; exact h30
  have h_4 : ct_1 0 = some (.inr (10, [.ref (ad 1), .ref (ad 3), .int (nI nt), .ref (ad 4), .ref (ad 9), .ref (ad 11), .ref (ad 12), .ref (ad 13), .int 0])) := by rw [ect_1]; exact kw_up_s
  have hfr_5 : ∀ j, j ≠ 0 → ct_1 j = ct j := fun j a0 => by rw [ect_1]; exact (kw_up_n a0).trans (hfr j a0)
  refine lv_aload_n hx hb dX10_as_5 rfl (lv_at hl 0 rfl) ?_
  refine lv_iload_n hx hb dX10_as_6 rfl (lv_at hl 1 rfl) ?_
  refine kc_v (As := [.int (nI t)]) (rest := []) S0 (c_X10_findTrader l D tc s.heap.size ad ct_1 (t := t) (nt := nt) h_4 h_2 (by omega) (by omega) hqt) (cwV 1 hts gX10_as_X10_findTrader rfl rfl rfl (by decide +kernel) ⟨Nat.le_of_ble_eq_true rfl, Nat.le_of_ble_eq_true rfl⟩) hK hw h_4 rfl rfl hl.1 rfl (Nat.le_of_ble_eq_true rfl) dX10_as_7 ⟨Nat.le_of_ble_eq_true rfl, (Nat.le_of_ble_eq_true rfl)⟩ ?_
  refine lv_astore_n (lv' := [(3, .ref (ad (30 + t))), (0, .ref (ad 0)), (1, .int (nI t)), (2, .int 0)]) hx hb dX10_as_10 rfl hl (by decide) rfl (fun ls hl => ?_)
  refine lv_aload_n hx hb dX10_as_11 rfl (lv_at hl 0 rfl) ?_
  refine lv_ifnonnull (tgt := 17) hx hb dX10_as_12 (by decide) ?_
  refine lv_iload_n hx hb dX10_as_17 rfl (lv_at hl 3 rfl) ?_
  refine kc_s (As := [.int 0]) (rest := []) S0 (c_X10_isKind l D tc s.heap.size ad ct_1 ) (va_cwS 1 hts gX10_as_X10_isKind rfl rfl rfl (by decide +kernel) ⟨Nat.le_of_ble_eq_true rfl, Nat.le_of_ble_eq_true rfl⟩) hK hw rfl hl.1 rfl (Nat.le_of_ble_eq_true rfl) dX10_as_18 ⟨Nat.le_of_ble_eq_true rfl, (Nat.le_of_ble_eq_true rfl)⟩ ?_
  refine kb_ifne (tgt := 27) hx hb dX10_as_21 (by decide) (fun c_6 => ?_) (fun c_6 => ?_)
  · refine lv_aload_n hx hb dX10_as_27 rfl (lv_at hl 0 rfl) ?_
    refine lv_iload_n hx hb dX10_as_28 rfl (lv_at hl 3 rfl) ?_
    refine kc_s (As := [.ref (ad (30 + t)), .int 0]) (rest := []) S0 (c_X10_isOfKind_70 l D tc s.heap.size ad ct_1 (t := t) h_3) (va_cwS 2 hts gX10_as_X10_isOfKind rfl rfl rfl (by decide +kernel) ⟨Nat.le_of_ble_eq_true rfl, Nat.le_of_ble_eq_true rfl⟩) hK hw rfl hl.1 rfl (Nat.le_of_ble_eq_true rfl) dX10_as_29 ⟨Nat.le_of_ble_eq_true rfl, (Nat.le_of_ble_eq_true rfl)⟩ ?_
    refine lv_if_eq (tgt := 39) hx hb dX10_as_32 (by decide) (fun c_7 => ?_) (fun c_7 => ?_)
    · exact absurd c_7 (by decide)
    · refine lv_iconst (v := 1) hx hb dX10_as_35 (by decide) ?_
      refine lv_goto (tgt := 44) hx hb dX10_as_36 (by decide) ?_
      have hq_8 := h_4
      have hend := kw_eq1 hq_8 hfr_5
      rw [hend] at hw
      exact W.iret hx hb hr (fun t ht _ => ⟨rfl, by rw [ht]; exact hw.1, hw.2.2.1, hw.2.1.F ht, by rw [ht]; exact hw.2.2.2⟩) hw.2.1.2.2 dX10_as_44
  · exact absurd hk c_6
set_option maxHeartbeats 4000000 in
set_option maxRecDepth 100000 in
theorem c_X10_as_71 (l : Launch) (D : va_G) (tc : Nat → ClassId) (sz : Nat) (ad : Nat → Nat) (ct : Nat → Option va_E) {nt t : Nat} {lf nb de : Int32} {pu : Int64}  {qt : Nat → Option Nat}    (h0 : ct 0 = some (.inr (10, [.ref (ad 1), .ref (ad 3), .int (nI nt), .ref (ad 4), .ref (ad 9), .ref (ad 11), .ref (ad 12), .ref (ad 13), .int lf]))) (h3 : ct 3 = some (eQ tc 4 6 qt)) (h30 : ct (30 + t) = some (.inr (7, [.int nb, .ref (ad (36 + t)), .ref (ad (42 + t)), .long pu, .int de]))) (ht : t < nt) (hnt : nt ≤ 6) (hqt : qt t = some (ad (30 + t))) : Met l yX10_as wsX10_as ({ frames := 1, cells := 0, slots := 0, locals := 25 }) (va_Pc [.ref (ad 0), .int (nI t), .int 1] (kw_B D tc sz ad ct)) (kw_Q D ad (kw_A ad ct sz) (some (.int 1)) (kw_up ct 0 (.inr (10, [.ref (ad 1), .ref (ad 3), .int (nI nt), .ref (ad 4), .ref (ad 9), .ref (ad 11), .ref (ad 12), .ref (ad 13), .int 0]))) 0) 0 0 (kw_A ad ct sz) := by
  refine Met.ofW (cc := cX10_as) (maxL := 4) (ret := (some .int)) (by decide) rfl ?_
  intro pg en s m args below meth cod s₁ B hml hv
  obtain ⟨rfl, hsz, hP0, hK⟩ := hv
  have hx := B.exec
  have hb := B.bytes
  have hr := B.returns
  have hts := atoms_spec (ws := wsX10_as) B.pre
  have hown : s.vm.findClass RX10 = some m.cls := findClass_of_methodNamed B.named
  have hlocks := B.notSynchronized
  subst hsz
  have hw := kw_H.start hP0
  generalize hAe : kw_A ad ct s.heap.size = A at hw ⊢
  have hA : ∀ q, s.heap.size ≤ q → A q := fun q h => by rw [← hAe]; exact Or.inr h
  have hinX10 : ∀ w ∈ wsX100, w ∈ wsX10_as := by decide +kernel
  have hl := lv_entry ([.ref (ad 0), .int (nI t), .int 1]) (n := 4) (Nat.le_of_ble_eq_true rfl)
  rw [lg_entry_eq]
  generalize (lg_sl ([.ref (ad 0), .int (nI t), .int 1]) ++ List.replicate (4 - (lg_sl ([.ref (ad 0), .int (nI t), .int 1])).length) Slot.unset).toArray = ls at hl ⊢
  have hl : lv_has ls 4 [(0, .ref (ad 0)), (1, .int (nI t)), (2, .int 1)] := hl
  have S0 : CallFix pg m cod cX10_as 4 s _ wsX10_as RX10 := ⟨hx, hb, hml, hown, hts⟩
  have hfr : ∀ j, j ≠ 0 → ct j = ct j := fun _ _ => rfl
  have hk : (0 : Int32) ≤ 1 ∧ (1 : Int32) ≤ 2 := by decide
  refine lv_aload_n hx hb dX10_as_0 rfl (lv_at hl 0 rfl) ?_
  refine lv_iconst (v := 0) hx hb dX10_as_1 (by decide) ?_
  refine kg_put (v := .int 0) (ty := .int) (C := RX10) (T := TX10) (N := 9) (fs' := [.ref (ad 1), .ref (ad 3), .int (nI nt), .ref (ad 4), .ref (ad 9), .ref (ad 11), .ref (ad 12), .ref (ad 13), .int 0]) hx hb hts hinX10 tyX10 tyX10_ok nmX10 hown hK hw h0 rfl 8 (by decide) (hts (.fieldLink RX10 179 "BetMaker" "latestFault" "I") (by decide +kernel)) (fun _ h9 => h9) rfl (by decide +kernel) rfl rfl (Nat.le_of_ble_eq_true rfl) rfl dX10_as_2 (fun H locs hw => ?_)
  obtain ⟨ct_1, ect_1⟩ : ∃ z, z = kw_up ct 0 (.inr (10, [.ref (ad 1), .ref (ad 3), .int (nI nt), .ref (ad 4), .ref (ad 9), .ref (ad 11), .ref (ad 12), .ref (ad 13), .int 0])) := ⟨_, rfl⟩
  rw [← ect_1] at hw
  have h_2 : ct_1 3 = some (eQ tc 4 6 qt) := by rw [ect_1, kw_up_n (by omega)]; exact h3
  have h_3 : ct_1 (30 + t) = some (.inr (7, [.int nb, .ref (ad (36 + t)), .ref (ad (42 + t)), .long pu, .int de])) := by rw [ect_1, kw_up_n (by omega)]; exact h30
  have h_4 : ct_1 0 = some (.inr (10, [.ref (ad 1), .ref (ad 3), .int (nI nt), .ref (ad 4), .ref (ad 9), .ref (ad 11), .ref (ad 12), .ref (ad 13), .int 0])) := by rw [ect_1]; exact kw_up_s
  have hfr_5 : ∀ j, j ≠ 0 → ct_1 j = ct j := fun j a0 => by rw [ect_1]; exact (kw_up_n a0).trans (hfr j a0)
  refine lv_aload_n hx hb dX10_as_5 rfl (lv_at hl 0 rfl) ?_
  refine lv_iload_n hx hb dX10_as_6 rfl (lv_at hl 1 rfl) ?_
  refine kc_v (As := [.int (nI t)]) (rest := []) S0 (c_X10_findTrader l D tc s.heap.size ad ct_1 (t := t) (nt := nt) h_4 h_2 (by omega) (by omega) hqt) (cwV 1 hts gX10_as_X10_findTrader rfl rfl rfl (by decide +kernel) ⟨Nat.le_of_ble_eq_true rfl, Nat.le_of_ble_eq_true rfl⟩) hK hw h_4 rfl rfl hl.1 rfl (Nat.le_of_ble_eq_true rfl) dX10_as_7 ⟨Nat.le_of_ble_eq_true rfl, (Nat.le_of_ble_eq_true rfl)⟩ ?_
  refine lv_astore_n (lv' := [(3, .ref (ad (30 + t))), (0, .ref (ad 0)), (1, .int (nI t)), (2, .int 1)]) hx hb dX10_as_10 rfl hl (by decide) rfl (fun ls hl => ?_)
  refine lv_aload_n hx hb dX10_as_11 rfl (lv_at hl 0 rfl) ?_
  refine lv_ifnonnull (tgt := 17) hx hb dX10_as_12 (by decide) ?_
  refine lv_iload_n hx hb dX10_as_17 rfl (lv_at hl 3 rfl) ?_
  refine kc_s (As := [.int 1]) (rest := []) S0 (c_X10_isKind l D tc s.heap.size ad ct_1 ) (va_cwS 1 hts gX10_as_X10_isKind rfl rfl rfl (by decide +kernel) ⟨Nat.le_of_ble_eq_true rfl, Nat.le_of_ble_eq_true rfl⟩) hK hw rfl hl.1 rfl (Nat.le_of_ble_eq_true rfl) dX10_as_18 ⟨Nat.le_of_ble_eq_true rfl, (Nat.le_of_ble_eq_true rfl)⟩ ?_
  refine kb_ifne (tgt := 27) hx hb dX10_as_21 (by decide) (fun c_6 => ?_) (fun c_6 => ?_)
  · refine lv_aload_n hx hb dX10_as_27 rfl (lv_at hl 0 rfl) ?_
    refine lv_iload_n hx hb dX10_as_28 rfl (lv_at hl 3 rfl) ?_
    refine kc_s (As := [.ref (ad (30 + t)), .int 1]) (rest := []) S0 (c_X10_isOfKind_71 l D tc s.heap.size ad ct_1 (t := t) h_3) (va_cwS 2 hts gX10_as_X10_isOfKind rfl rfl rfl (by decide +kernel) ⟨Nat.le_of_ble_eq_true rfl, Nat.le_of_ble_eq_true rfl⟩) hK hw rfl hl.1 rfl (Nat.le_of_ble_eq_true rfl) dX10_as_29 ⟨Nat.le_of_ble_eq_true rfl, (Nat.le_of_ble_eq_true rfl)⟩ ?_
    refine lv_if_eq (tgt := 39) hx hb dX10_as_32 (by decide) (fun c_7 => ?_) (fun c_7 => ?_)
    · exact absurd c_7 (by decide)
    · refine lv_iconst (v := 1) hx hb dX10_as_35 (by decide) ?_
      refine lv_goto (tgt := 44) hx hb dX10_as_36 (by decide) ?_
      have hq_8 := h_4
      have hend := kw_eq1 hq_8 hfr_5
      rw [hend] at hw
      exact W.iret hx hb hr (fun t ht _ => ⟨rfl, by rw [ht]; exact hw.1, hw.2.2.1, hw.2.1.F ht, by rw [ht]; exact hw.2.2.2⟩) hw.2.1.2.2 dX10_as_44
  · exact absurd hk c_6
set_option maxHeartbeats 4000000 in
set_option maxRecDepth 100000 in
theorem c_X10_as_72 (l : Launch) (D : va_G) (tc : Nat → ClassId) (sz : Nat) (ad : Nat → Nat) (ct : Nat → Option va_E) {nt t : Nat} {lf nb de : Int32} {pu : Int64}  {qt : Nat → Option Nat}    (h0 : ct 0 = some (.inr (10, [.ref (ad 1), .ref (ad 3), .int (nI nt), .ref (ad 4), .ref (ad 9), .ref (ad 11), .ref (ad 12), .ref (ad 13), .int lf]))) (h3 : ct 3 = some (eQ tc 4 6 qt)) (h30 : ct (30 + t) = some (.inr (7, [.int nb, .ref (ad (36 + t)), .ref (ad (42 + t)), .long pu, .int de]))) (ht : t < nt) (hnt : nt ≤ 6) (hqt : qt t = some (ad (30 + t))) : Met l yX10_as wsX10_as ({ frames := 1, cells := 0, slots := 0, locals := 25 }) (va_Pc [.ref (ad 0), .int (nI t), .int 2] (kw_B D tc sz ad ct)) (kw_Q D ad (kw_A ad ct sz) (some (.int 1)) (kw_up ct 0 (.inr (10, [.ref (ad 1), .ref (ad 3), .int (nI nt), .ref (ad 4), .ref (ad 9), .ref (ad 11), .ref (ad 12), .ref (ad 13), .int 0]))) 0) 0 0 (kw_A ad ct sz) := by
  refine Met.ofW (cc := cX10_as) (maxL := 4) (ret := (some .int)) (by decide) rfl ?_
  intro pg en s m args below meth cod s₁ B hml hv
  obtain ⟨rfl, hsz, hP0, hK⟩ := hv
  have hx := B.exec
  have hb := B.bytes
  have hr := B.returns
  have hts := atoms_spec (ws := wsX10_as) B.pre
  have hown : s.vm.findClass RX10 = some m.cls := findClass_of_methodNamed B.named
  have hlocks := B.notSynchronized
  subst hsz
  have hw := kw_H.start hP0
  generalize hAe : kw_A ad ct s.heap.size = A at hw ⊢
  have hA : ∀ q, s.heap.size ≤ q → A q := fun q h => by rw [← hAe]; exact Or.inr h
  have hinX10 : ∀ w ∈ wsX100, w ∈ wsX10_as := by decide +kernel
  have hl := lv_entry ([.ref (ad 0), .int (nI t), .int 2]) (n := 4) (Nat.le_of_ble_eq_true rfl)
  rw [lg_entry_eq]
  generalize (lg_sl ([.ref (ad 0), .int (nI t), .int 2]) ++ List.replicate (4 - (lg_sl ([.ref (ad 0), .int (nI t), .int 2])).length) Slot.unset).toArray = ls at hl ⊢
  have hl : lv_has ls 4 [(0, .ref (ad 0)), (1, .int (nI t)), (2, .int 2)] := hl
  have S0 : CallFix pg m cod cX10_as 4 s _ wsX10_as RX10 := ⟨hx, hb, hml, hown, hts⟩
  have hfr : ∀ j, j ≠ 0 → ct j = ct j := fun _ _ => rfl
  have hk : (0 : Int32) ≤ 2 ∧ (2 : Int32) ≤ 2 := by decide
  refine lv_aload_n hx hb dX10_as_0 rfl (lv_at hl 0 rfl) ?_
  refine lv_iconst (v := 0) hx hb dX10_as_1 (by decide) ?_
  refine kg_put (v := .int 0) (ty := .int) (C := RX10) (T := TX10) (N := 9) (fs' := [.ref (ad 1), .ref (ad 3), .int (nI nt), .ref (ad 4), .ref (ad 9), .ref (ad 11), .ref (ad 12), .ref (ad 13), .int 0]) hx hb hts hinX10 tyX10 tyX10_ok nmX10 hown hK hw h0 rfl 8 (by decide) (hts (.fieldLink RX10 179 "BetMaker" "latestFault" "I") (by decide +kernel)) (fun _ h9 => h9) rfl (by decide +kernel) rfl rfl (Nat.le_of_ble_eq_true rfl) rfl dX10_as_2 (fun H locs hw => ?_)
  obtain ⟨ct_1, ect_1⟩ : ∃ z, z = kw_up ct 0 (.inr (10, [.ref (ad 1), .ref (ad 3), .int (nI nt), .ref (ad 4), .ref (ad 9), .ref (ad 11), .ref (ad 12), .ref (ad 13), .int 0])) := ⟨_, rfl⟩
  rw [← ect_1] at hw
  have h_2 : ct_1 3 = some (eQ tc 4 6 qt) := by rw [ect_1, kw_up_n (by omega)]; exact h3
  have h_3 : ct_1 (30 + t) = some (.inr (7, [.int nb, .ref (ad (36 + t)), .ref (ad (42 + t)), .long pu, .int de])) := by rw [ect_1, kw_up_n (by omega)]; exact h30
  have h_4 : ct_1 0 = some (.inr (10, [.ref (ad 1), .ref (ad 3), .int (nI nt), .ref (ad 4), .ref (ad 9), .ref (ad 11), .ref (ad 12), .ref (ad 13), .int 0])) := by rw [ect_1]; exact kw_up_s
  have hfr_5 : ∀ j, j ≠ 0 → ct_1 j = ct j := fun j a0 => by rw [ect_1]; exact (kw_up_n a0).trans (hfr j a0)
  refine lv_aload_n hx hb dX10_as_5 rfl (lv_at hl 0 rfl) ?_
  refine lv_iload_n hx hb dX10_as_6 rfl (lv_at hl 1 rfl) ?_
  refine kc_v (As := [.int (nI t)]) (rest := []) S0 (c_X10_findTrader l D tc s.heap.size ad ct_1 (t := t) (nt := nt) h_4 h_2 (by omega) (by omega) hqt) (cwV 1 hts gX10_as_X10_findTrader rfl rfl rfl (by decide +kernel) ⟨Nat.le_of_ble_eq_true rfl, Nat.le_of_ble_eq_true rfl⟩) hK hw h_4 rfl rfl hl.1 rfl (Nat.le_of_ble_eq_true rfl) dX10_as_7 ⟨Nat.le_of_ble_eq_true rfl, (Nat.le_of_ble_eq_true rfl)⟩ ?_
  refine lv_astore_n (lv' := [(3, .ref (ad (30 + t))), (0, .ref (ad 0)), (1, .int (nI t)), (2, .int 2)]) hx hb dX10_as_10 rfl hl (by decide) rfl (fun ls hl => ?_)
  refine lv_aload_n hx hb dX10_as_11 rfl (lv_at hl 0 rfl) ?_
  refine lv_ifnonnull (tgt := 17) hx hb dX10_as_12 (by decide) ?_
  refine lv_iload_n hx hb dX10_as_17 rfl (lv_at hl 3 rfl) ?_
  refine kc_s (As := [.int 2]) (rest := []) S0 (c_X10_isKind l D tc s.heap.size ad ct_1 ) (va_cwS 1 hts gX10_as_X10_isKind rfl rfl rfl (by decide +kernel) ⟨Nat.le_of_ble_eq_true rfl, Nat.le_of_ble_eq_true rfl⟩) hK hw rfl hl.1 rfl (Nat.le_of_ble_eq_true rfl) dX10_as_18 ⟨Nat.le_of_ble_eq_true rfl, (Nat.le_of_ble_eq_true rfl)⟩ ?_
  refine kb_ifne (tgt := 27) hx hb dX10_as_21 (by decide) (fun c_6 => ?_) (fun c_6 => ?_)
  · refine lv_aload_n hx hb dX10_as_27 rfl (lv_at hl 0 rfl) ?_
    refine lv_iload_n hx hb dX10_as_28 rfl (lv_at hl 3 rfl) ?_
    refine kc_s (As := [.ref (ad (30 + t)), .int 2]) (rest := []) S0 (c_X10_isOfKind_72 l D tc s.heap.size ad ct_1 (t := t) h_3) (va_cwS 2 hts gX10_as_X10_isOfKind rfl rfl rfl (by decide +kernel) ⟨Nat.le_of_ble_eq_true rfl, Nat.le_of_ble_eq_true rfl⟩) hK hw rfl hl.1 rfl (Nat.le_of_ble_eq_true rfl) dX10_as_29 ⟨Nat.le_of_ble_eq_true rfl, (Nat.le_of_ble_eq_true rfl)⟩ ?_
    refine lv_if_eq (tgt := 39) hx hb dX10_as_32 (by decide) (fun c_7 => ?_) (fun c_7 => ?_)
    · exact absurd c_7 (by decide)
    · refine lv_iconst (v := 1) hx hb dX10_as_35 (by decide) ?_
      refine lv_goto (tgt := 44) hx hb dX10_as_36 (by decide) ?_
      have hq_8 := h_4
      have hend := kw_eq1 hq_8 hfr_5
      rw [hend] at hw
      exact W.iret hx hb hr (fun t ht _ => ⟨rfl, by rw [ht]; exact hw.1, hw.2.2.1, hw.2.1.F ht, by rw [ht]; exact hw.2.2.2⟩) hw.2.1.2.2 dX10_as_44
  · exact absurd hk c_6
set_option maxHeartbeats 4000000 in
set_option maxRecDepth 100000 in
theorem c_X10_as_90 (l : Launch) (D : va_G) (tc : Nat → ClassId) (sz : Nat) (ad : Nat → Nat) (ct : Nat → Option va_E) {nt t : Nat} {lf nb de : Int32} {pu : Int64}  {qt : Nat → Option Nat}    (h0 : ct 0 = some (.inr (10, [.ref (ad 1), .ref (ad 3), .int (nI nt), .ref (ad 4), .ref (ad 9), .ref (ad 11), .ref (ad 12), .ref (ad 13), .int lf]))) (h3 : ct 3 = some (eQ tc 4 6 qt)) (h30 : ct (30 + t) = some (.inr (9, [.int nb, .ref (ad (36 + t)), .ref (ad (42 + t)), .long pu, .int de]))) (ht : t < nt) (hnt : nt ≤ 6) (hqt : qt t = some (ad (30 + t))) : Met l yX10_as wsX10_as ({ frames := 1, cells := 0, slots := 0, locals := 25 }) (va_Pc [.ref (ad 0), .int (nI t), .int 0] (kw_B D tc sz ad ct)) (kw_Q D ad (kw_A ad ct sz) (some (.int 1)) (kw_up ct 0 (.inr (10, [.ref (ad 1), .ref (ad 3), .int (nI nt), .ref (ad 4), .ref (ad 9), .ref (ad 11), .ref (ad 12), .ref (ad 13), .int 0]))) 0) 0 0 (kw_A ad ct sz) := by
  refine Met.ofW (cc := cX10_as) (maxL := 4) (ret := (some .int)) (by decide) rfl ?_
  intro pg en s m args below meth cod s₁ B hml hv
  obtain ⟨rfl, hsz, hP0, hK⟩ := hv
  have hx := B.exec
  have hb := B.bytes
  have hr := B.returns
  have hts := atoms_spec (ws := wsX10_as) B.pre
  have hown : s.vm.findClass RX10 = some m.cls := findClass_of_methodNamed B.named
  have hlocks := B.notSynchronized
  subst hsz
  have hw := kw_H.start hP0
  generalize hAe : kw_A ad ct s.heap.size = A at hw ⊢
  have hA : ∀ q, s.heap.size ≤ q → A q := fun q h => by rw [← hAe]; exact Or.inr h
  have hinX10 : ∀ w ∈ wsX100, w ∈ wsX10_as := by decide +kernel
  have hl := lv_entry ([.ref (ad 0), .int (nI t), .int 0]) (n := 4) (Nat.le_of_ble_eq_true rfl)
  rw [lg_entry_eq]
  generalize (lg_sl ([.ref (ad 0), .int (nI t), .int 0]) ++ List.replicate (4 - (lg_sl ([.ref (ad 0), .int (nI t), .int 0])).length) Slot.unset).toArray = ls at hl ⊢
  have hl : lv_has ls 4 [(0, .ref (ad 0)), (1, .int (nI t)), (2, .int 0)] := hl
  have S0 : CallFix pg m cod cX10_as 4 s _ wsX10_as RX10 := ⟨hx, hb, hml, hown, hts⟩
  have hfr : ∀ j, j ≠ 0 → ct j = ct j := fun _ _ => rfl
  have hk : (0 : Int32) ≤ 0 ∧ (0 : Int32) ≤ 2 := by decide
  refine lv_aload_n hx hb dX10_as_0 rfl (lv_at hl 0 rfl) ?_
  refine lv_iconst (v := 0) hx hb dX10_as_1 (by decide) ?_
  refine kg_put (v := .int 0) (ty := .int) (C := RX10) (T := TX10) (N := 9) (fs' := [.ref (ad 1), .ref (ad 3), .int (nI nt), .ref (ad 4), .ref (ad 9), .ref (ad 11), .ref (ad 12), .ref (ad 13), .int 0]) hx hb hts hinX10 tyX10 tyX10_ok nmX10 hown hK hw h0 rfl 8 (by decide) (hts (.fieldLink RX10 179 "BetMaker" "latestFault" "I") (by decide +kernel)) (fun _ h9 => h9) rfl (by decide +kernel) rfl rfl (Nat.le_of_ble_eq_true rfl) rfl dX10_as_2 (fun H locs hw => ?_)
  obtain ⟨ct_1, ect_1⟩ : ∃ z, z = kw_up ct 0 (.inr (10, [.ref (ad 1), .ref (ad 3), .int (nI nt), .ref (ad 4), .ref (ad 9), .ref (ad 11), .ref (ad 12), .ref (ad 13), .int 0])) := ⟨_, rfl⟩
  rw [← ect_1] at hw
  have h_2 : ct_1 3 = some (eQ tc 4 6 qt) := by rw [ect_1, kw_up_n (by omega)]; exact h3
  have h_3 : ct_1 (30 + t) = some (.inr (9, [.int nb, .ref (ad (36 + t)), .ref (ad (42 + t)), .long pu, .int de])) := by rw [ect_1, kw_up_n (by omega)]; exact h30
  have h_4 : ct_1 0 = some (.inr (10, [.ref (ad 1), .ref (ad 3), .int (nI nt), .ref (ad 4), .ref (ad 9), .ref (ad 11), .ref (ad 12), .ref (ad 13), .int 0])) := by rw [ect_1]; exact kw_up_s
  have hfr_5 : ∀ j, j ≠ 0 → ct_1 j = ct j := fun j a0 => by rw [ect_1]; exact (kw_up_n a0).trans (hfr j a0)
  refine lv_aload_n hx hb dX10_as_5 rfl (lv_at hl 0 rfl) ?_
  refine lv_iload_n hx hb dX10_as_6 rfl (lv_at hl 1 rfl) ?_
  refine kc_v (As := [.int (nI t)]) (rest := []) S0 (c_X10_findTrader l D tc s.heap.size ad ct_1 (t := t) (nt := nt) h_4 h_2 (by omega) (by omega) hqt) (cwV 1 hts gX10_as_X10_findTrader rfl rfl rfl (by decide +kernel) ⟨Nat.le_of_ble_eq_true rfl, Nat.le_of_ble_eq_true rfl⟩) hK hw h_4 rfl rfl hl.1 rfl (Nat.le_of_ble_eq_true rfl) dX10_as_7 ⟨Nat.le_of_ble_eq_true rfl, (Nat.le_of_ble_eq_true rfl)⟩ ?_
  refine lv_astore_n (lv' := [(3, .ref (ad (30 + t))), (0, .ref (ad 0)), (1, .int (nI t)), (2, .int 0)]) hx hb dX10_as_10 rfl hl (by decide) rfl (fun ls hl => ?_)
  refine lv_aload_n hx hb dX10_as_11 rfl (lv_at hl 0 rfl) ?_
  refine lv_ifnonnull (tgt := 17) hx hb dX10_as_12 (by decide) ?_
  refine lv_iload_n hx hb dX10_as_17 rfl (lv_at hl 3 rfl) ?_
  refine kc_s (As := [.int 0]) (rest := []) S0 (c_X10_isKind l D tc s.heap.size ad ct_1 ) (va_cwS 1 hts gX10_as_X10_isKind rfl rfl rfl (by decide +kernel) ⟨Nat.le_of_ble_eq_true rfl, Nat.le_of_ble_eq_true rfl⟩) hK hw rfl hl.1 rfl (Nat.le_of_ble_eq_true rfl) dX10_as_18 ⟨Nat.le_of_ble_eq_true rfl, (Nat.le_of_ble_eq_true rfl)⟩ ?_
  refine kb_ifne (tgt := 27) hx hb dX10_as_21 (by decide) (fun c_6 => ?_) (fun c_6 => ?_)
  · refine lv_aload_n hx hb dX10_as_27 rfl (lv_at hl 0 rfl) ?_
    refine lv_iload_n hx hb dX10_as_28 rfl (lv_at hl 3 rfl) ?_
    refine kc_s (As := [.ref (ad (30 + t)), .int 0]) (rest := []) S0 (c_X10_isOfKind_90 l D tc s.heap.size ad ct_1 (t := t) h_3) (va_cwS 2 hts gX10_as_X10_isOfKind rfl rfl rfl (by decide +kernel) ⟨Nat.le_of_ble_eq_true rfl, Nat.le_of_ble_eq_true rfl⟩) hK hw rfl hl.1 rfl (Nat.le_of_ble_eq_true rfl) dX10_as_29 ⟨Nat.le_of_ble_eq_true rfl, (Nat.le_of_ble_eq_true rfl)⟩ ?_
    refine lv_if_eq (tgt := 39) hx hb dX10_as_32 (by decide) (fun c_7 => ?_) (fun c_7 => ?_)
    · exact absurd c_7 (by decide)
    · refine lv_iconst (v := 1) hx hb dX10_as_35 (by decide) ?_
      refine lv_goto (tgt := 44) hx hb dX10_as_36 (by decide) ?_
      have hq_8 := h_4
      have hend := kw_eq1 hq_8 hfr_5
      rw [hend] at hw
      exact W.iret hx hb hr (fun t ht _ => ⟨rfl, by rw [ht]; exact hw.1, hw.2.2.1, hw.2.1.F ht, by rw [ht]; exact hw.2.2.2⟩) hw.2.1.2.2 dX10_as_44
  · exact absurd hk c_6
set_option maxHeartbeats 4000000 in
set_option maxRecDepth 100000 in
theorem c_X10_as_91 (l : Launch) (D : va_G) (tc : Nat → ClassId) (sz : Nat) (ad : Nat → Nat) (ct : Nat → Option va_E) {nt t : Nat} {lf nb de : Int32} {pu : Int64}  {qt : Nat → Option Nat}    (h0 : ct 0 = some (.inr (10, [.ref (ad 1), .ref (ad 3), .int (nI nt), .ref (ad 4), .ref (ad 9), .ref (ad 11), .ref (ad 12), .ref (ad 13), .int lf]))) (h3 : ct 3 = some (eQ tc 4 6 qt)) (h30 : ct (30 + t) = some (.inr (9, [.int nb, .ref (ad (36 + t)), .ref (ad (42 + t)), .long pu, .int de]))) (ht : t < nt) (hnt : nt ≤ 6) (hqt : qt t = some (ad (30 + t))) : Met l yX10_as wsX10_as ({ frames := 1, cells := 0, slots := 0, locals := 25 }) (va_Pc [.ref (ad 0), .int (nI t), .int 1] (kw_B D tc sz ad ct)) (kw_Q D ad (kw_A ad ct sz) (some (.int 1)) (kw_up ct 0 (.inr (10, [.ref (ad 1), .ref (ad 3), .int (nI nt), .ref (ad 4), .ref (ad 9), .ref (ad 11), .ref (ad 12), .ref (ad 13), .int 0]))) 0) 0 0 (kw_A ad ct sz) := by
  refine Met.ofW (cc := cX10_as) (maxL := 4) (ret := (some .int)) (by decide) rfl ?_
  intro pg en s m args below meth cod s₁ B hml hv
  obtain ⟨rfl, hsz, hP0, hK⟩ := hv
  have hx := B.exec
  have hb := B.bytes
  have hr := B.returns
  have hts := atoms_spec (ws := wsX10_as) B.pre
  have hown : s.vm.findClass RX10 = some m.cls := findClass_of_methodNamed B.named
  have hlocks := B.notSynchronized
  subst hsz
  have hw := kw_H.start hP0
  generalize hAe : kw_A ad ct s.heap.size = A at hw ⊢
  have hA : ∀ q, s.heap.size ≤ q → A q := fun q h => by rw [← hAe]; exact Or.inr h
  have hinX10 : ∀ w ∈ wsX100, w ∈ wsX10_as := by decide +kernel
  have hl := lv_entry ([.ref (ad 0), .int (nI t), .int 1]) (n := 4) (Nat.le_of_ble_eq_true rfl)
  rw [lg_entry_eq]
  generalize (lg_sl ([.ref (ad 0), .int (nI t), .int 1]) ++ List.replicate (4 - (lg_sl ([.ref (ad 0), .int (nI t), .int 1])).length) Slot.unset).toArray = ls at hl ⊢
  have hl : lv_has ls 4 [(0, .ref (ad 0)), (1, .int (nI t)), (2, .int 1)] := hl
  have S0 : CallFix pg m cod cX10_as 4 s _ wsX10_as RX10 := ⟨hx, hb, hml, hown, hts⟩
  have hfr : ∀ j, j ≠ 0 → ct j = ct j := fun _ _ => rfl
  have hk : (0 : Int32) ≤ 1 ∧ (1 : Int32) ≤ 2 := by decide
  refine lv_aload_n hx hb dX10_as_0 rfl (lv_at hl 0 rfl) ?_
  refine lv_iconst (v := 0) hx hb dX10_as_1 (by decide) ?_
  refine kg_put (v := .int 0) (ty := .int) (C := RX10) (T := TX10) (N := 9) (fs' := [.ref (ad 1), .ref (ad 3), .int (nI nt), .ref (ad 4), .ref (ad 9), .ref (ad 11), .ref (ad 12), .ref (ad 13), .int 0]) hx hb hts hinX10 tyX10 tyX10_ok nmX10 hown hK hw h0 rfl 8 (by decide) (hts (.fieldLink RX10 179 "BetMaker" "latestFault" "I") (by decide +kernel)) (fun _ h9 => h9) rfl (by decide +kernel) rfl rfl (Nat.le_of_ble_eq_true rfl) rfl dX10_as_2 (fun H locs hw => ?_)
  obtain ⟨ct_1, ect_1⟩ : ∃ z, z = kw_up ct 0 (.inr (10, [.ref (ad 1), .ref (ad 3), .int (nI nt), .ref (ad 4), .ref (ad 9), .ref (ad 11), .ref (ad 12), .ref (ad 13), .int 0])) := ⟨_, rfl⟩
  rw [← ect_1] at hw
  have h_2 : ct_1 3 = some (eQ tc 4 6 qt) := by rw [ect_1, kw_up_n (by omega)]; exact h3
  have h_3 : ct_1 (30 + t) = some (.inr (9, [.int nb, .ref (ad (36 + t)), .ref (ad (42 + t)), .long pu, .int de])) := by rw [ect_1, kw_up_n (by omega)]; exact h30
  have h_4 : ct_1 0 = some (.inr (10, [.ref (ad 1), .ref (ad 3), .int (nI nt), .ref (ad 4), .ref (ad 9), .ref (ad 11), .ref (ad 12), .ref (ad 13), .int 0])) := by rw [ect_1]; exact kw_up_s
  have hfr_5 : ∀ j, j ≠ 0 → ct_1 j = ct j := fun j a0 => by rw [ect_1]; exact (kw_up_n a0).trans (hfr j a0)
  refine lv_aload_n hx hb dX10_as_5 rfl (lv_at hl 0 rfl) ?_
  refine lv_iload_n hx hb dX10_as_6 rfl (lv_at hl 1 rfl) ?_
  refine kc_v (As := [.int (nI t)]) (rest := []) S0 (c_X10_findTrader l D tc s.heap.size ad ct_1 (t := t) (nt := nt) h_4 h_2 (by omega) (by omega) hqt) (cwV 1 hts gX10_as_X10_findTrader rfl rfl rfl (by decide +kernel) ⟨Nat.le_of_ble_eq_true rfl, Nat.le_of_ble_eq_true rfl⟩) hK hw h_4 rfl rfl hl.1 rfl (Nat.le_of_ble_eq_true rfl) dX10_as_7 ⟨Nat.le_of_ble_eq_true rfl, (Nat.le_of_ble_eq_true rfl)⟩ ?_
  refine lv_astore_n (lv' := [(3, .ref (ad (30 + t))), (0, .ref (ad 0)), (1, .int (nI t)), (2, .int 1)]) hx hb dX10_as_10 rfl hl (by decide) rfl (fun ls hl => ?_)
  refine lv_aload_n hx hb dX10_as_11 rfl (lv_at hl 0 rfl) ?_
  refine lv_ifnonnull (tgt := 17) hx hb dX10_as_12 (by decide) ?_
  refine lv_iload_n hx hb dX10_as_17 rfl (lv_at hl 3 rfl) ?_
  refine kc_s (As := [.int 1]) (rest := []) S0 (c_X10_isKind l D tc s.heap.size ad ct_1 ) (va_cwS 1 hts gX10_as_X10_isKind rfl rfl rfl (by decide +kernel) ⟨Nat.le_of_ble_eq_true rfl, Nat.le_of_ble_eq_true rfl⟩) hK hw rfl hl.1 rfl (Nat.le_of_ble_eq_true rfl) dX10_as_18 ⟨Nat.le_of_ble_eq_true rfl, (Nat.le_of_ble_eq_true rfl)⟩ ?_
  refine kb_ifne (tgt := 27) hx hb dX10_as_21 (by decide) (fun c_6 => ?_) (fun c_6 => ?_)
  · refine lv_aload_n hx hb dX10_as_27 rfl (lv_at hl 0 rfl) ?_
    refine lv_iload_n hx hb dX10_as_28 rfl (lv_at hl 3 rfl) ?_
    refine kc_s (As := [.ref (ad (30 + t)), .int 1]) (rest := []) S0 (c_X10_isOfKind_91 l D tc s.heap.size ad ct_1 (t := t) h_3) (va_cwS 2 hts gX10_as_X10_isOfKind rfl rfl rfl (by decide +kernel) ⟨Nat.le_of_ble_eq_true rfl, Nat.le_of_ble_eq_true rfl⟩) hK hw rfl hl.1 rfl (Nat.le_of_ble_eq_true rfl) dX10_as_29 ⟨Nat.le_of_ble_eq_true rfl, (Nat.le_of_ble_eq_true rfl)⟩ ?_
    refine lv_if_eq (tgt := 39) hx hb dX10_as_32 (by decide) (fun c_7 => ?_) (fun c_7 => ?_)
    · exact absurd c_7 (by decide)
    · refine lv_iconst (v := 1) hx hb dX10_as_35 (by decide) ?_
      refine lv_goto (tgt := 44) hx hb dX10_as_36 (by decide) ?_
      have hq_8 := h_4
      have hend := kw_eq1 hq_8 hfr_5
      rw [hend] at hw
      exact W.iret hx hb hr (fun t ht _ => ⟨rfl, by rw [ht]; exact hw.1, hw.2.2.1, hw.2.1.F ht, by rw [ht]; exact hw.2.2.2⟩) hw.2.1.2.2 dX10_as_44
  · exact absurd hk c_6
set_option maxHeartbeats 4000000 in
set_option maxRecDepth 100000 in
theorem c_X10_as_92 (l : Launch) (D : va_G) (tc : Nat → ClassId) (sz : Nat) (ad : Nat → Nat) (ct : Nat → Option va_E) {nt t : Nat} {lf nb de : Int32} {pu : Int64}  {qt : Nat → Option Nat}    (h0 : ct 0 = some (.inr (10, [.ref (ad 1), .ref (ad 3), .int (nI nt), .ref (ad 4), .ref (ad 9), .ref (ad 11), .ref (ad 12), .ref (ad 13), .int lf]))) (h3 : ct 3 = some (eQ tc 4 6 qt)) (h30 : ct (30 + t) = some (.inr (9, [.int nb, .ref (ad (36 + t)), .ref (ad (42 + t)), .long pu, .int de]))) (ht : t < nt) (hnt : nt ≤ 6) (hqt : qt t = some (ad (30 + t))) : Met l yX10_as wsX10_as ({ frames := 1, cells := 0, slots := 0, locals := 25 }) (va_Pc [.ref (ad 0), .int (nI t), .int 2] (kw_B D tc sz ad ct)) (kw_Q D ad (kw_A ad ct sz) (some (.int ((-10) - 2))) (kw_up ct 0 (.inr (10, [.ref (ad 1), .ref (ad 3), .int (nI nt), .ref (ad 4), .ref (ad 9), .ref (ad 11), .ref (ad 12), .ref (ad 13), .int 2]))) 0) 0 0 (kw_A ad ct sz) := by
  refine Met.ofW (cc := cX10_as) (maxL := 4) (ret := (some .int)) (by decide) rfl ?_
  intro pg en s m args below meth cod s₁ B hml hv
  obtain ⟨rfl, hsz, hP0, hK⟩ := hv
  have hx := B.exec
  have hb := B.bytes
  have hr := B.returns
  have hts := atoms_spec (ws := wsX10_as) B.pre
  have hown : s.vm.findClass RX10 = some m.cls := findClass_of_methodNamed B.named
  have hlocks := B.notSynchronized
  subst hsz
  have hw := kw_H.start hP0
  generalize hAe : kw_A ad ct s.heap.size = A at hw ⊢
  have hA : ∀ q, s.heap.size ≤ q → A q := fun q h => by rw [← hAe]; exact Or.inr h
  have hinX10 : ∀ w ∈ wsX100, w ∈ wsX10_as := by decide +kernel
  have hl := lv_entry ([.ref (ad 0), .int (nI t), .int 2]) (n := 4) (Nat.le_of_ble_eq_true rfl)
  rw [lg_entry_eq]
  generalize (lg_sl ([.ref (ad 0), .int (nI t), .int 2]) ++ List.replicate (4 - (lg_sl ([.ref (ad 0), .int (nI t), .int 2])).length) Slot.unset).toArray = ls at hl ⊢
  have hl : lv_has ls 4 [(0, .ref (ad 0)), (1, .int (nI t)), (2, .int 2)] := hl
  have S0 : CallFix pg m cod cX10_as 4 s _ wsX10_as RX10 := ⟨hx, hb, hml, hown, hts⟩
  have hfr : ∀ j, j ≠ 0 → ct j = ct j := fun _ _ => rfl
  have hk : (0 : Int32) ≤ 2 ∧ (2 : Int32) ≤ 2 := by decide
  refine lv_aload_n hx hb dX10_as_0 rfl (lv_at hl 0 rfl) ?_
  refine lv_iconst (v := 0) hx hb dX10_as_1 (by decide) ?_
  refine kg_put (v := .int 0) (ty := .int) (C := RX10) (T := TX10) (N := 9) (fs' := [.ref (ad 1), .ref (ad 3), .int (nI nt), .ref (ad 4), .ref (ad 9), .ref (ad 11), .ref (ad 12), .ref (ad 13), .int 0]) hx hb hts hinX10 tyX10 tyX10_ok nmX10 hown hK hw h0 rfl 8 (by decide) (hts (.fieldLink RX10 179 "BetMaker" "latestFault" "I") (by decide +kernel)) (fun _ h9 => h9) rfl (by decide +kernel) rfl rfl (Nat.le_of_ble_eq_true rfl) rfl dX10_as_2 (fun H locs hw => ?_)
  obtain ⟨ct_1, ect_1⟩ : ∃ z, z = kw_up ct 0 (.inr (10, [.ref (ad 1), .ref (ad 3), .int (nI nt), .ref (ad 4), .ref (ad 9), .ref (ad 11), .ref (ad 12), .ref (ad 13), .int 0])) := ⟨_, rfl⟩
  rw [← ect_1] at hw
  have h_2 : ct_1 3 = some (eQ tc 4 6 qt) := by rw [ect_1, kw_up_n (by omega)]; exact h3
  have h_3 : ct_1 (30 + t) = some (.inr (9, [.int nb, .ref (ad (36 + t)), .ref (ad (42 + t)), .long pu, .int de])) := by rw [ect_1, kw_up_n (by omega)]; exact h30
  have h_4 : ct_1 0 = some (.inr (10, [.ref (ad 1), .ref (ad 3), .int (nI nt), .ref (ad 4), .ref (ad 9), .ref (ad 11), .ref (ad 12), .ref (ad 13), .int 0])) := by rw [ect_1]; exact kw_up_s
  have hfr_5 : ∀ j, j ≠ 0 → ct_1 j = ct j := fun j a0 => by rw [ect_1]; exact (kw_up_n a0).trans (hfr j a0)
  refine lv_aload_n hx hb dX10_as_5 rfl (lv_at hl 0 rfl) ?_
  refine lv_iload_n hx hb dX10_as_6 rfl (lv_at hl 1 rfl) ?_
  refine kc_v (As := [.int (nI t)]) (rest := []) S0 (c_X10_findTrader l D tc s.heap.size ad ct_1 (t := t) (nt := nt) h_4 h_2 (by omega) (by omega) hqt) (cwV 1 hts gX10_as_X10_findTrader rfl rfl rfl (by decide +kernel) ⟨Nat.le_of_ble_eq_true rfl, Nat.le_of_ble_eq_true rfl⟩) hK hw h_4 rfl rfl hl.1 rfl (Nat.le_of_ble_eq_true rfl) dX10_as_7 ⟨Nat.le_of_ble_eq_true rfl, (Nat.le_of_ble_eq_true rfl)⟩ ?_
  refine lv_astore_n (lv' := [(3, .ref (ad (30 + t))), (0, .ref (ad 0)), (1, .int (nI t)), (2, .int 2)]) hx hb dX10_as_10 rfl hl (by decide) rfl (fun ls hl => ?_)
  refine lv_aload_n hx hb dX10_as_11 rfl (lv_at hl 0 rfl) ?_
  refine lv_ifnonnull (tgt := 17) hx hb dX10_as_12 (by decide) ?_
  refine lv_iload_n hx hb dX10_as_17 rfl (lv_at hl 3 rfl) ?_
  refine kc_s (As := [.int 2]) (rest := []) S0 (c_X10_isKind l D tc s.heap.size ad ct_1 ) (va_cwS 1 hts gX10_as_X10_isKind rfl rfl rfl (by decide +kernel) ⟨Nat.le_of_ble_eq_true rfl, Nat.le_of_ble_eq_true rfl⟩) hK hw rfl hl.1 rfl (Nat.le_of_ble_eq_true rfl) dX10_as_18 ⟨Nat.le_of_ble_eq_true rfl, (Nat.le_of_ble_eq_true rfl)⟩ ?_
  refine kb_ifne (tgt := 27) hx hb dX10_as_21 (by decide) (fun c_6 => ?_) (fun c_6 => ?_)
  · refine lv_aload_n hx hb dX10_as_27 rfl (lv_at hl 0 rfl) ?_
    refine lv_iload_n hx hb dX10_as_28 rfl (lv_at hl 3 rfl) ?_
    refine kc_s (As := [.ref (ad (30 + t)), .int 2]) (rest := []) S0 (c_X10_isOfKind_92 l D tc s.heap.size ad ct_1 (t := t) h_3) (va_cwS 2 hts gX10_as_X10_isOfKind rfl rfl rfl (by decide +kernel) ⟨Nat.le_of_ble_eq_true rfl, Nat.le_of_ble_eq_true rfl⟩) hK hw rfl hl.1 rfl (Nat.le_of_ble_eq_true rfl) dX10_as_29 ⟨Nat.le_of_ble_eq_true rfl, (Nat.le_of_ble_eq_true rfl)⟩ ?_
    refine lv_if_eq (tgt := 39) hx hb dX10_as_32 (by decide) (fun c_7 => ?_) (fun c_7 => ?_)
    · refine lv_aload_n hx hb dX10_as_39 rfl (lv_at hl 1 rfl) ?_
      refine lv_iconst (v := 2) hx hb dX10_as_40 (by decide) ?_
      refine kc_vu (As := [.int 2]) (rest := []) S0 (c_X10_meet l D tc s.heap.size ad ct_1 (nt := nt) h_4) (cwV 1 hts gX10_as_X10_meet rfl rfl rfl (by decide +kernel) ⟨Nat.le_of_ble_eq_true rfl, Nat.le_of_ble_eq_true rfl⟩) hK hw hA h_4 rfl rfl hl.1 rfl (Nat.le_of_ble_eq_true rfl) dX10_as_41 ⟨Nat.le_of_ble_eq_true rfl, (Nat.le_of_ble_eq_true rfl)⟩ (fun H locs hw => ?_)
      obtain ⟨ct_8, ect_8⟩ : ∃ z, z = kw_up ct_1 0 (.inr (10, [.ref (ad 1), .ref (ad 3), .int (nI nt), .ref (ad 4), .ref (ad 9), .ref (ad 11), .ref (ad 12), .ref (ad 13), .int 2])) := ⟨_, rfl⟩
      rw [← ect_8] at hw
      have h_9 : ct_8 3 = some (eQ tc 4 6 qt) := by rw [ect_8, kw_up_n (by omega)]; exact h_2
      have h_10 : ct_8 (30 + t) = some (.inr (9, [.int nb, .ref (ad (36 + t)), .ref (ad (42 + t)), .long pu, .int de])) := by rw [ect_8, kw_up_n (by omega)]; exact h_3
      have h_11 : ct_8 0 = some (.inr (10, [.ref (ad 1), .ref (ad 3), .int (nI nt), .ref (ad 4), .ref (ad 9), .ref (ad 11), .ref (ad 12), .ref (ad 13), .int 2])) := by rw [ect_8]; exact kw_up_s
      have hfr_12 : ∀ j, j ≠ 0 → ct_8 j = ct j := fun j a0 => by rw [ect_8]; exact (kw_up_n a0).trans (hfr_5 j a0)
      have hq_13 := h_11
      have hend := kw_eq1 hq_13 hfr_12
      rw [hend] at hw
      exact W.iret hx hb hr (fun t ht _ => ⟨rfl, by rw [ht]; exact hw.1, hw.2.2.1, hw.2.1.F ht, by rw [ht]; exact hw.2.2.2⟩) hw.2.1.2.2 dX10_as_44
    · exact absurd c_7 (by decide)
  · exact absurd hk c_6
set_option maxHeartbeats 4000000 in
set_option maxRecDepth 100000 in
theorem c_X10_trace (l : Launch) (D : va_G) (tc : Nat → ClassId) (sz : Nat) (ad : Nat → Nat) (ct : Nat → Option va_E) {nt : Nat} {lf tv : Int32}       (h0 : ct 0 = some (.inr (10, [.ref (ad 1), .ref (ad 3), .int (nI nt), .ref (ad 4), .ref (ad 9), .ref (ad 11), .ref (ad 12), .ref (ad 13), .int lf]))) (h12 : ct 12 = some (.inr (8, [.int tv]))) : Met l yX10_trace wsX10_trace ({ frames := 1, cells := 0, slots := 0, locals := 24 }) (va_Pc [.ref (ad 0)] (kw_B D tc sz ad ct)) (k2_QcV (.int tv)) 0 0 (fun _ => False) := by
  refine Met.ofW (cc := cX10_trace) (maxL := 1) (ret := (some .int)) (by decide) rfl ?_
  intro pg en s m args below meth cod s₁ B hml hv
  obtain ⟨rfl, hsz, hP0, hK⟩ := hv
  have hx := B.exec
  have hb := B.bytes
  have hr := B.returns
  have hts := atoms_spec (ws := wsX10_trace) B.pre
  have hown : s.vm.findClass RX10 = some m.cls := findClass_of_methodNamed B.named
  have hlocks := B.notSynchronized
  subst hsz
  have hw := kw_H.start hP0
  generalize kw_A ad ct s.heap.size = A at hw
  have hinX10 : ∀ w ∈ wsX100, w ∈ wsX10_trace := by decide +kernel
  have hl := lv_entry ([.ref (ad 0)]) (n := 1) (Nat.le_of_ble_eq_true rfl)
  rw [lg_entry_eq]
  generalize (lg_sl ([.ref (ad 0)]) ++ List.replicate (1 - (lg_sl ([.ref (ad 0)])).length) Slot.unset).toArray = ls at hl ⊢
  have hl : lv_has ls 1 [(0, .ref (ad 0))] := hl
  have S0 : CallFix pg m cod cX10_trace 1 s _ wsX10_trace RX10 := ⟨hx, hb, hml, hown, hts⟩
  refine lv_aload_n hx hb dX10_trace_0 rfl (lv_at hl 0 rfl) ?_
  refine kg_get (v := .ref (ad 12)) (C := RX10) (T := TX10) (N := 9) hx hb hts hinX10 hown hK hw h0 rfl 6 (by decide) (hts (.fieldLink RX10 47 "BetMaker" "trace" "LBetMaker$Trace;") (by decide +kernel)) (fun _ h9 => h9) rfl dX10_trace_1 ?_
  refine kc_v (As := []) (rest := []) S0 (c_X8_value l D tc s.heap.size ad ct h12) (cwV 0 hts gX10_trace_X8_value rfl rfl rfl (by decide +kernel) ⟨Nat.le_of_ble_eq_true rfl, Nat.le_of_ble_eq_true rfl⟩) hK hw h12 rfl rfl hl.1 rfl (Nat.le_of_ble_eq_true rfl) dX10_trace_4 ⟨Nat.le_of_ble_eq_true rfl, (Nat.le_of_ble_eq_true rfl)⟩ ?_
  exact W.iret hx hb hr (fun t ht _ => ⟨rfl, ht⟩) (fun _ h => absurd h List.not_mem_nil) dX10_trace_7
set_option maxHeartbeats 4000000 in
set_option maxRecDepth 100000 in
theorem c_X10_fault (l : Launch) (D : va_G) (tc : Nat → ClassId) (sz : Nat) (ad : Nat → Nat) (ct : Nat → Option va_E) {nt : Nat} {lf : Int32}       (h0 : ct 0 = some (.inr (10, [.ref (ad 1), .ref (ad 3), .int (nI nt), .ref (ad 4), .ref (ad 9), .ref (ad 11), .ref (ad 12), .ref (ad 13), .int lf]))) : Met l yX10_fault wsX10_fault ({ frames := 0, cells := 0, slots := 0, locals := 0 }) (va_Pc [.ref (ad 0)] (kw_B D tc sz ad ct)) (k2_QcV (.int lf)) 0 0 (fun _ => False) := by
  refine Met.ofW (cc := cX10_fault) (maxL := 1) (ret := (some .int)) (by decide) rfl ?_
  intro pg en s m args below meth cod s₁ B hml hv
  obtain ⟨rfl, hsz, hP0, hK⟩ := hv
  have hx := B.exec
  have hb := B.bytes
  have hr := B.returns
  have hts := atoms_spec (ws := wsX10_fault) B.pre
  have hown : s.vm.findClass RX10 = some m.cls := findClass_of_methodNamed B.named
  have hlocks := B.notSynchronized
  subst hsz
  have hw := kw_H.start hP0
  generalize kw_A ad ct s.heap.size = A at hw
  have hinX10 : ∀ w ∈ wsX100, w ∈ wsX10_fault := by decide +kernel
  have hl := lv_entry ([.ref (ad 0)]) (n := 1) (Nat.le_of_ble_eq_true rfl)
  rw [lg_entry_eq]
  generalize (lg_sl ([.ref (ad 0)]) ++ List.replicate (1 - (lg_sl ([.ref (ad 0)])).length) Slot.unset).toArray = ls at hl ⊢
  have hl : lv_has ls 1 [(0, .ref (ad 0))] := hl
  have S0 : CallFix pg m cod cX10_fault 1 s _ wsX10_fault RX10 := ⟨hx, hb, hml, hown, hts⟩
  refine lv_aload_n hx hb dX10_fault_0 rfl (lv_at hl 0 rfl) ?_
  refine kg_get (v := .int lf) (C := RX10) (T := TX10) (N := 9) hx hb hts hinX10 hown hK hw h0 rfl 8 (by decide) (hts (.fieldLink RX10 179 "BetMaker" "latestFault" "I") (by decide +kernel)) (fun _ h9 => h9) rfl dX10_fault_1 ?_
  exact W.iret hx hb hr (fun t ht _ => ⟨rfl, ht⟩) (fun _ h => absurd h List.not_mem_nil) dX10_fault_4
set_option maxHeartbeats 4000000 in
set_option maxRecDepth 100000 in
theorem c_X10_told_0 (l : Launch) (D : va_G) (tc : Nat → ClassId) (sz : Nat) (ad : Nat → Nat) (ct : Nat → Option va_E) {N nt : Nat} {b cm lf : Int32} {ss g : Int64}      (h0 : ct 0 = some (.inr (10, [.ref (ad 1), .ref (ad 3), .int (nI nt), .ref (ad 4), .ref (ad 9), .ref (ad 11), .ref (ad 12), .ref (ad 13), .int lf]))) (h1 : ct 1 = some (.inr (3, [.ref (ad 2), .int (nI N), .int b, .long ss, .long g, .int cm]))) : Met l yX10_told wsX10_told ({ frames := 2, cells := 0, slots := 0, locals := 52 }) (va_Pc [.ref (ad 0), .int 0] (kw_B D tc sz ad ct)) (k2_QcV (.int (nI N))) 0 0 (fun _ => False) := by
  refine Met.ofW (cc := cX10_told) (maxL := 2) (ret := (some .int)) (by decide) rfl ?_
  intro pg en s m args below meth cod s₁ B hml hv
  obtain ⟨rfl, hsz, hP0, hK⟩ := hv
  have hx := B.exec
  have hb := B.bytes
  have hr := B.returns
  have hts := atoms_spec (ws := wsX10_told) B.pre
  have hown : s.vm.findClass RX10 = some m.cls := findClass_of_methodNamed B.named
  have hlocks := B.notSynchronized
  subst hsz
  have hw := kw_H.start hP0
  generalize kw_A ad ct s.heap.size = A at hw
  have hinX10 : ∀ w ∈ wsX100, w ∈ wsX10_told := by decide +kernel
  have hl := lv_entry ([.ref (ad 0), .int 0]) (n := 2) (Nat.le_of_ble_eq_true rfl)
  rw [lg_entry_eq]
  generalize (lg_sl ([.ref (ad 0), .int 0]) ++ List.replicate (2 - (lg_sl ([.ref (ad 0), .int 0])).length) Slot.unset).toArray = ls at hl ⊢
  have hl : lv_has ls 2 [(0, .ref (ad 0)), (1, .int 0)] := hl
  have S0 : CallFix pg m cod cX10_told 2 s _ wsX10_told RX10 := ⟨hx, hb, hml, hown, hts⟩
  refine lv_iload_n hx hb dX10_told_0 rfl (lv_at hl 1 rfl) ?_
  refine lv_tableIn (off := 39) (tgt := 40) hx hb dX10_told_1 (by decide) (by decide) (by decide) (by decide) ?_
  refine lv_aload_n hx hb dX10_told_40 rfl (lv_at hl 0 rfl) ?_
  refine kg_get (v := .ref (ad 1)) (C := RX10) (T := TX10) (N := 9) hx hb hts hinX10 hown hK hw h0 rfl 0 (by decide) (hts (.fieldLink RX10 12 "BetMaker" "maker" "LBetMaker$Maker;") (by decide +kernel)) (fun _ h9 => h9) rfl dX10_told_41 ?_
  refine kc_v (As := []) (rest := []) S0 (c_X3_cases l D tc s.heap.size ad ct (N := N) h1) (cwV 0 hts gX10_told_X3_cases rfl rfl rfl (by decide +kernel) ⟨Nat.le_of_ble_eq_true rfl, Nat.le_of_ble_eq_true rfl⟩) hK hw h1 rfl rfl hl.1 rfl (Nat.le_of_ble_eq_true rfl) dX10_told_44 ⟨Nat.le_of_ble_eq_true rfl, (Nat.le_of_ble_eq_true rfl)⟩ ?_
  exact W.iret hx hb hr (fun t ht _ => ⟨rfl, ht⟩) (fun _ h => absurd h List.not_mem_nil) dX10_told_47
set_option maxHeartbeats 4000000 in
set_option maxRecDepth 100000 in
theorem c_X10_told_1 (l : Launch) (D : va_G) (tc : Nat → ClassId) (sz : Nat) (ad : Nat → Nat) (ct : Nat → Option va_E) {N nt : Nat} {b cm lf : Int32} {ss g : Int64}      (h0 : ct 0 = some (.inr (10, [.ref (ad 1), .ref (ad 3), .int (nI nt), .ref (ad 4), .ref (ad 9), .ref (ad 11), .ref (ad 12), .ref (ad 13), .int lf]))) (h1 : ct 1 = some (.inr (3, [.ref (ad 2), .int (nI N), .int b, .long ss, .long g, .int cm]))) : Met l yX10_told wsX10_told ({ frames := 2, cells := 0, slots := 0, locals := 52 }) (va_Pc [.ref (ad 0), .int 1] (kw_B D tc sz ad ct)) (k2_QcV (.int b)) 0 0 (fun _ => False) := by
  refine Met.ofW (cc := cX10_told) (maxL := 2) (ret := (some .int)) (by decide) rfl ?_
  intro pg en s m args below meth cod s₁ B hml hv
  obtain ⟨rfl, hsz, hP0, hK⟩ := hv
  have hx := B.exec
  have hb := B.bytes
  have hr := B.returns
  have hts := atoms_spec (ws := wsX10_told) B.pre
  have hown : s.vm.findClass RX10 = some m.cls := findClass_of_methodNamed B.named
  have hlocks := B.notSynchronized
  subst hsz
  have hw := kw_H.start hP0
  generalize kw_A ad ct s.heap.size = A at hw
  have hinX10 : ∀ w ∈ wsX100, w ∈ wsX10_told := by decide +kernel
  have hl := lv_entry ([.ref (ad 0), .int 1]) (n := 2) (Nat.le_of_ble_eq_true rfl)
  rw [lg_entry_eq]
  generalize (lg_sl ([.ref (ad 0), .int 1]) ++ List.replicate (2 - (lg_sl ([.ref (ad 0), .int 1])).length) Slot.unset).toArray = ls at hl ⊢
  have hl : lv_has ls 2 [(0, .ref (ad 0)), (1, .int 1)] := hl
  have S0 : CallFix pg m cod cX10_told 2 s _ wsX10_told RX10 := ⟨hx, hb, hml, hown, hts⟩
  refine lv_iload_n hx hb dX10_told_0 rfl (lv_at hl 1 rfl) ?_
  refine lv_tableIn (off := 47) (tgt := 48) hx hb dX10_told_1 (by decide) (by decide) (by decide) (by decide) ?_
  refine lv_aload_n hx hb dX10_told_48 rfl (lv_at hl 0 rfl) ?_
  refine kg_get (v := .ref (ad 1)) (C := RX10) (T := TX10) (N := 9) hx hb hts hinX10 hown hK hw h0 rfl 0 (by decide) (hts (.fieldLink RX10 12 "BetMaker" "maker" "LBetMaker$Maker;") (by decide +kernel)) (fun _ h9 => h9) rfl dX10_told_49 ?_
  refine kc_v (As := []) (rest := []) S0 (c_X3_breadth l D tc s.heap.size ad ct (N := N) h1) (cwV 0 hts gX10_told_X3_breadth rfl rfl rfl (by decide +kernel) ⟨Nat.le_of_ble_eq_true rfl, Nat.le_of_ble_eq_true rfl⟩) hK hw h1 rfl rfl hl.1 rfl (Nat.le_of_ble_eq_true rfl) dX10_told_52 ⟨Nat.le_of_ble_eq_true rfl, (Nat.le_of_ble_eq_true rfl)⟩ ?_
  exact W.iret hx hb hr (fun t ht _ => ⟨rfl, ht⟩) (fun _ h => absurd h List.not_mem_nil) dX10_told_55
set_option maxHeartbeats 4000000 in
set_option maxRecDepth 100000 in
theorem c_X10_told_2 (l : Launch) (D : va_G) (tc : Nat → ClassId) (sz : Nat) (ad : Nat → Nat) (ct : Nat → Option va_E) {nt : Nat} {lf : Int32}       (h0 : ct 0 = some (.inr (10, [.ref (ad 1), .ref (ad 3), .int (nI nt), .ref (ad 4), .ref (ad 9), .ref (ad 11), .ref (ad 12), .ref (ad 13), .int lf]))) : Met l yX10_told wsX10_told ({ frames := 2, cells := 0, slots := 0, locals := 52 }) (va_Pc [.ref (ad 0), .int 2] (kw_B D tc sz ad ct)) (k2_QcV (.int (nI nt))) 0 0 (fun _ => False) := by
  refine Met.ofW (cc := cX10_told) (maxL := 2) (ret := (some .int)) (by decide) rfl ?_
  intro pg en s m args below meth cod s₁ B hml hv
  obtain ⟨rfl, hsz, hP0, hK⟩ := hv
  have hx := B.exec
  have hb := B.bytes
  have hr := B.returns
  have hts := atoms_spec (ws := wsX10_told) B.pre
  have hown : s.vm.findClass RX10 = some m.cls := findClass_of_methodNamed B.named
  have hlocks := B.notSynchronized
  subst hsz
  have hw := kw_H.start hP0
  generalize kw_A ad ct s.heap.size = A at hw
  have hinX10 : ∀ w ∈ wsX100, w ∈ wsX10_told := by decide +kernel
  have hl := lv_entry ([.ref (ad 0), .int 2]) (n := 2) (Nat.le_of_ble_eq_true rfl)
  rw [lg_entry_eq]
  generalize (lg_sl ([.ref (ad 0), .int 2]) ++ List.replicate (2 - (lg_sl ([.ref (ad 0), .int 2])).length) Slot.unset).toArray = ls at hl ⊢
  have hl : lv_has ls 2 [(0, .ref (ad 0)), (1, .int 2)] := hl
  have S0 : CallFix pg m cod cX10_told 2 s _ wsX10_told RX10 := ⟨hx, hb, hml, hown, hts⟩
  refine lv_iload_n hx hb dX10_told_0 rfl (lv_at hl 1 rfl) ?_
  refine lv_tableIn (off := 55) (tgt := 56) hx hb dX10_told_1 (by decide) (by decide) (by decide) (by decide) ?_
  refine lv_aload_n hx hb dX10_told_56 rfl (lv_at hl 0 rfl) ?_
  refine kg_get (v := .int (nI nt)) (C := RX10) (T := TX10) (N := 9) hx hb hts hinX10 hown hK hw h0 rfl 2 (by decide) (hts (.fieldLink RX10 60 "BetMaker" "traderCount" "I") (by decide +kernel)) (fun _ h9 => h9) rfl dX10_told_57 ?_
  exact W.iret hx hb hr (fun t ht _ => ⟨rfl, ht⟩) (fun _ h => absurd h List.not_mem_nil) dX10_told_60
set_option maxHeartbeats 4000000 in
set_option maxRecDepth 100000 in
theorem c_X10_told_3 (l : Launch) (D : va_G) (tc : Nat → ClassId) (sz : Nat) (ad : Nat → Nat) (ct : Nat → Option va_E) {nt no : Nat} {lf co bg : Int32}     {se : Bool}  (h0 : ct 0 = some (.inr (10, [.ref (ad 1), .ref (ad 3), .int (nI nt), .ref (ad 4), .ref (ad 9), .ref (ad 11), .ref (ad 12), .ref (ad 13), .int lf]))) (h4 : ct 4 = some (.inr (0, [.ref (ad 5), .ref (ad 6), .ref (ad 7), .ref (ad 8), .int (nI no), .int co, .int bg, .int (kb (se = true))]))) : Met l yX10_told wsX10_told ({ frames := 2, cells := 0, slots := 0, locals := 52 }) (va_Pc [.ref (ad 0), .int 3] (kw_B D tc sz ad ct)) (k2_QcV (.int (nI no))) 0 0 (fun _ => False) := by
  refine Met.ofW (cc := cX10_told) (maxL := 2) (ret := (some .int)) (by decide) rfl ?_
  intro pg en s m args below meth cod s₁ B hml hv
  obtain ⟨rfl, hsz, hP0, hK⟩ := hv
  have hx := B.exec
  have hb := B.bytes
  have hr := B.returns
  have hts := atoms_spec (ws := wsX10_told) B.pre
  have hown : s.vm.findClass RX10 = some m.cls := findClass_of_methodNamed B.named
  have hlocks := B.notSynchronized
  subst hsz
  have hw := kw_H.start hP0
  generalize kw_A ad ct s.heap.size = A at hw
  have hinX10 : ∀ w ∈ wsX100, w ∈ wsX10_told := by decide +kernel
  have hl := lv_entry ([.ref (ad 0), .int 3]) (n := 2) (Nat.le_of_ble_eq_true rfl)
  rw [lg_entry_eq]
  generalize (lg_sl ([.ref (ad 0), .int 3]) ++ List.replicate (2 - (lg_sl ([.ref (ad 0), .int 3])).length) Slot.unset).toArray = ls at hl ⊢
  have hl : lv_has ls 2 [(0, .ref (ad 0)), (1, .int 3)] := hl
  have S0 : CallFix pg m cod cX10_told 2 s _ wsX10_told RX10 := ⟨hx, hb, hml, hown, hts⟩
  refine lv_iload_n hx hb dX10_told_0 rfl (lv_at hl 1 rfl) ?_
  refine lv_tableIn (off := 60) (tgt := 61) hx hb dX10_told_1 (by decide) (by decide) (by decide) (by decide) ?_
  refine lv_aload_n hx hb dX10_told_61 rfl (lv_at hl 0 rfl) ?_
  refine kg_get (v := .ref (ad 4)) (C := RX10) (T := TX10) (N := 9) hx hb hts hinX10 hown hK hw h0 rfl 3 (by decide) (hts (.fieldLink RX10 27 "BetMaker" "board" "LBetMaker$Board;") (by decide +kernel)) (fun _ h9 => h9) rfl dX10_told_62 ?_
  refine kc_v (As := []) (rest := []) S0 (c_X0_size l D tc s.heap.size ad ct (no := no) h4) (cwV 0 hts gX10_told_X0_size rfl rfl rfl (by decide +kernel) ⟨Nat.le_of_ble_eq_true rfl, Nat.le_of_ble_eq_true rfl⟩) hK hw h4 rfl rfl hl.1 rfl (Nat.le_of_ble_eq_true rfl) dX10_told_65 ⟨Nat.le_of_ble_eq_true rfl, (Nat.le_of_ble_eq_true rfl)⟩ ?_
  exact W.iret hx hb hr (fun t ht _ => ⟨rfl, ht⟩) (fun _ h => absurd h List.not_mem_nil) dX10_told_68
set_option maxHeartbeats 4000000 in
set_option maxRecDepth 100000 in
theorem c_X10_told_4 (l : Launch) (D : va_G) (tc : Nat → ClassId) (sz : Nat) (ad : Nat → Nat) (ct : Nat → Option va_E) {nt nf : Nat} {lf : Int32}       (h0 : ct 0 = some (.inr (10, [.ref (ad 1), .ref (ad 3), .int (nI nt), .ref (ad 4), .ref (ad 9), .ref (ad 11), .ref (ad 12), .ref (ad 13), .int lf]))) (h9 : ct 9 = some (.inr (2, [.ref (ad 10), .int (nI nf)]))) : Met l yX10_told wsX10_told ({ frames := 2, cells := 0, slots := 0, locals := 52 }) (va_Pc [.ref (ad 0), .int 4] (kw_B D tc sz ad ct)) (k2_QcV (.int (nI nf))) 0 0 (fun _ => False) := by
  refine Met.ofW (cc := cX10_told) (maxL := 2) (ret := (some .int)) (by decide) rfl ?_
  intro pg en s m args below meth cod s₁ B hml hv
  obtain ⟨rfl, hsz, hP0, hK⟩ := hv
  have hx := B.exec
  have hb := B.bytes
  have hr := B.returns
  have hts := atoms_spec (ws := wsX10_told) B.pre
  have hown : s.vm.findClass RX10 = some m.cls := findClass_of_methodNamed B.named
  have hlocks := B.notSynchronized
  subst hsz
  have hw := kw_H.start hP0
  generalize kw_A ad ct s.heap.size = A at hw
  have hinX10 : ∀ w ∈ wsX100, w ∈ wsX10_told := by decide +kernel
  have hl := lv_entry ([.ref (ad 0), .int 4]) (n := 2) (Nat.le_of_ble_eq_true rfl)
  rw [lg_entry_eq]
  generalize (lg_sl ([.ref (ad 0), .int 4]) ++ List.replicate (2 - (lg_sl ([.ref (ad 0), .int 4])).length) Slot.unset).toArray = ls at hl ⊢
  have hl : lv_has ls 2 [(0, .ref (ad 0)), (1, .int 4)] := hl
  have S0 : CallFix pg m cod cX10_told 2 s _ wsX10_told RX10 := ⟨hx, hb, hml, hown, hts⟩
  refine lv_iload_n hx hb dX10_told_0 rfl (lv_at hl 1 rfl) ?_
  refine lv_tableIn (off := 68) (tgt := 69) hx hb dX10_told_1 (by decide) (by decide) (by decide) (by decide) ?_
  refine lv_aload_n hx hb dX10_told_69 rfl (lv_at hl 0 rfl) ?_
  refine kg_get (v := .ref (ad 9)) (C := RX10) (T := TX10) (N := 9) hx hb hts hinX10 hown hK hw h0 rfl 4 (by decide) (hts (.fieldLink RX10 34 "BetMaker" "forecasts" "LBetMaker$Log;") (by decide +kernel)) (fun _ h9 => h9) rfl dX10_told_70 ?_
  refine kc_v (As := []) (rest := []) S0 (c_X2_size l D tc s.heap.size ad ct (nf := nf) h9) (cwV 0 hts gX10_told_X2_size rfl rfl rfl (by decide +kernel) ⟨Nat.le_of_ble_eq_true rfl, Nat.le_of_ble_eq_true rfl⟩) hK hw h9 rfl rfl hl.1 rfl (Nat.le_of_ble_eq_true rfl) dX10_told_73 ⟨Nat.le_of_ble_eq_true rfl, (Nat.le_of_ble_eq_true rfl)⟩ ?_
  exact W.iret hx hb hr (fun t ht _ => ⟨rfl, ht⟩) (fun _ h => absurd h List.not_mem_nil) dX10_told_76
set_option maxHeartbeats 4000000 in
set_option maxRecDepth 100000 in
theorem c_X10_told_5 (l : Launch) (D : va_G) (tc : Nat → ClassId) (sz : Nat) (ad : Nat → Nat) (ct : Nat → Option va_E) {N nt : Nat} {lf : Int32}   {qt : Nat → Option Nat}   {ci : Nat → Nat} {nb de : Nat → Int32} {pu : Nat → Int64} {ho : Nat → Nat → Int64} {we : Nat → Nat → Int32} (h0 : ct 0 = some (.inr (10, [.ref (ad 1), .ref (ad 3), .int (nI nt), .ref (ad 4), .ref (ad 9), .ref (ad 11), .ref (ad 12), .ref (ad 13), .int lf]))) (h3 : ct 3 = some (eQ tc 4 6 qt)) (hnt : nt ≤ 6) (hfam : ∀ yy, yy < nt → (qt yy = some (ad (30 + yy)) ∧ (ci yy = 5 ∨ ci yy = 7 ∨ ci yy = 9)) ∧ ct (30 + yy) = some (.inr (ci yy, [.int (nb yy), .ref (ad (36 + yy)), .ref (ad (42 + yy)), .long (pu yy), .int (de yy)])) ∧ ct (36 + yy) = some (eJ tc N (ho yy)) ∧ ct (42 + yy) = some (eI tc N (we yy))) : Met l yX10_told wsX10_told ({ frames := 2, cells := 0, slots := 0, locals := 52 }) (va_Pc [.ref (ad 0), .int 5] (kw_B D tc sz ad ct)) (k2_QcV (.int (sw de nt))) 0 0 (fun _ => False) := by
  refine Met.ofW (cc := cX10_told) (maxL := 2) (ret := (some .int)) (by decide) rfl ?_
  intro pg en s m args below meth cod s₁ B hml hv
  obtain ⟨rfl, hsz, hP0, hK⟩ := hv
  have hx := B.exec
  have hb := B.bytes
  have hr := B.returns
  have hts := atoms_spec (ws := wsX10_told) B.pre
  have hown : s.vm.findClass RX10 = some m.cls := findClass_of_methodNamed B.named
  have hlocks := B.notSynchronized
  subst hsz
  have hw := kw_H.start hP0
  generalize kw_A ad ct s.heap.size = A at hw
  have hinX10 : ∀ w ∈ wsX100, w ∈ wsX10_told := by decide +kernel
  have hl := lv_entry ([.ref (ad 0), .int 5]) (n := 2) (Nat.le_of_ble_eq_true rfl)
  rw [lg_entry_eq]
  generalize (lg_sl ([.ref (ad 0), .int 5]) ++ List.replicate (2 - (lg_sl ([.ref (ad 0), .int 5])).length) Slot.unset).toArray = ls at hl ⊢
  have hl : lv_has ls 2 [(0, .ref (ad 0)), (1, .int 5)] := hl
  have S0 : CallFix pg m cod cX10_told 2 s _ wsX10_told RX10 := ⟨hx, hb, hml, hown, hts⟩
  refine lv_iload_n hx hb dX10_told_0 rfl (lv_at hl 1 rfl) ?_
  refine lv_tableIn (off := 76) (tgt := 77) hx hb dX10_told_1 (by decide) (by decide) (by decide) (by decide) ?_
  refine lv_aload_n hx hb dX10_told_77 rfl (lv_at hl 0 rfl) ?_
  refine kc_v (As := []) (rest := []) S0 (c_X10_countDeals l D tc s.heap.size ad ct (nt := nt) h0 h3 (by omega) hfam) (cwV 0 hts gX10_told_X10_countDeals rfl rfl rfl (by decide +kernel) ⟨Nat.le_of_ble_eq_true rfl, Nat.le_of_ble_eq_true rfl⟩) hK hw h0 rfl rfl hl.1 rfl (Nat.le_of_ble_eq_true rfl) dX10_told_78 ⟨Nat.le_of_ble_eq_true rfl, (Nat.le_of_ble_eq_true rfl)⟩ ?_
  exact W.iret hx hb hr (fun t ht _ => ⟨rfl, ht⟩) (fun _ h => absurd h List.not_mem_nil) dX10_told_81
set_option maxHeartbeats 4000000 in
set_option maxRecDepth 100000 in
theorem c_X10_told_d (l : Launch) (D : va_G) (tc : Nat → ClassId) (sz : Nat) (ad : Nat → Nat) (ct : Nat → Option va_E)        {what : Int32} (w0 : ¬ what = 0) (w1 : ¬ what = 1) (w2 : ¬ what = 2) (w3 : ¬ what = 3) (w4 : ¬ what = 4) (w5 : ¬ what = 5) : Met l yX10_told wsX10_told ({ frames := 2, cells := 0, slots := 0, locals := 52 }) (va_Pc [.ref (ad 0), .int what] (kw_B D tc sz ad ct)) (k2_QcV (.int (-2))) 0 0 (fun _ => False) := by
  refine Met.ofW (cc := cX10_told) (maxL := 2) (ret := (some .int)) (by decide) rfl ?_
  intro pg en s m args below meth cod s₁ B hml hv
  obtain ⟨rfl, hsz, hP0, hK⟩ := hv
  have hx := B.exec
  have hb := B.bytes
  have hr := B.returns
  have hts := atoms_spec (ws := wsX10_told) B.pre
  have hown : s.vm.findClass RX10 = some m.cls := findClass_of_methodNamed B.named
  have hlocks := B.notSynchronized
  subst hsz
  have hw := kw_H.start hP0
  generalize kw_A ad ct s.heap.size = A at hw
  have hinX10 : ∀ w ∈ wsX100, w ∈ wsX10_told := by decide +kernel
  have hl := lv_entry ([.ref (ad 0), .int what]) (n := 2) (Nat.le_of_ble_eq_true rfl)
  rw [lg_entry_eq]
  generalize (lg_sl ([.ref (ad 0), .int what]) ++ List.replicate (2 - (lg_sl ([.ref (ad 0), .int what])).length) Slot.unset).toArray = ls at hl ⊢
  have hl : lv_has ls 2 [(0, .ref (ad 0)), (1, .int what)] := hl
  have S0 : CallFix pg m cod cX10_told 2 s _ wsX10_told RX10 := ⟨hx, hb, hml, hown, hts⟩
  refine lv_iload_n hx hb dX10_told_0 rfl (lv_at hl 1 rfl) ?_
  refine lv_tableOut (tgt := 82) hx hb dX10_told_1 (by have q0 := lv_neT w0 (a := 0) (by decide); have q1 := lv_neT w1 (a := 1) (by decide); have q2 := lv_neT w2 (a := 2) (by decide); have q3 := lv_neT w3 (a := 3) (by decide); have q4 := lv_neT w4 (a := 4) (by decide); have q5 := lv_neT w5 (a := 5) (by decide); omega) (by decide) ?_
  refine lv_bipush (v := (-2)) hx hb dX10_told_82 (by decide) ?_
  exact W.iret hx hb hr (fun t ht _ => ⟨rfl, ht⟩) (fun _ h => absurd h List.not_mem_nil) dX10_told_84
set_option maxHeartbeats 4000000 in
set_option maxRecDepth 100000 in
theorem c_X10_takeWeights_o (l : Launch) (D : va_G) (tc : Nat → ClassId) (sz : Nat) (ad : Nat → Nat) (ct : Nat → Option va_E) {k : Nat}       {lane i1 : Int32} (hL : ¬ (0 ≤ lane ∧ lane ≤ 2)) : Met l yX10_takeWeights wsX10_takeWeights ({ frames := 2, cells := 0, slots := 0, locals := 53 }) (va_Pc [.ref (ad 0), .ref (ad (20 + k)), .int lane, .int i1] (kw_B D tc sz ad ct)) (k2_QcV (.int (-2))) 0 0 (fun _ => False) := by
  refine Met.ofW (cc := cX10_takeWeights) (maxL := 8) (ret := (some .int)) (by decide) rfl ?_
  intro pg en s m args below meth cod s₁ B hml hv
  obtain ⟨rfl, hsz, hP0, hK⟩ := hv
  have hx := B.exec
  have hb := B.bytes
  have hr := B.returns
  have hts := atoms_spec (ws := wsX10_takeWeights) B.pre
  have hown : s.vm.findClass RX10 = some m.cls := findClass_of_methodNamed B.named
  have hlocks := B.notSynchronized
  subst hsz
  have hw := kw_H.start hP0
  generalize kw_A ad ct s.heap.size = A at hw
  have hinX10 : ∀ w ∈ wsX100, w ∈ wsX10_takeWeights := by decide +kernel
  have hl := lv_entry ([.ref (ad 0), .ref (ad (20 + k)), .int lane, .int i1]) (n := 8) (Nat.le_of_ble_eq_true rfl)
  rw [lg_entry_eq]
  generalize (lg_sl ([.ref (ad 0), .ref (ad (20 + k)), .int lane, .int i1]) ++ List.replicate (8 - (lg_sl ([.ref (ad 0), .ref (ad (20 + k)), .int lane, .int i1])).length) Slot.unset).toArray = ls at hl ⊢
  have hl : lv_has ls 8 [(0, .ref (ad 0)), (1, .ref (ad (20 + k))), (2, .int lane), (3, .int i1)] := hl
  have S0 : CallFix pg m cod cX10_takeWeights 8 s _ wsX10_takeWeights RX10 := ⟨hx, hb, hml, hown, hts⟩
  refine lv_iload_n hx hb dX10_takeWeights_0 rfl (lv_at hl 2 rfl) ?_
  refine kc_s (As := [.int lane]) (rest := []) S0 (c_X10_isLane l D tc s.heap.size ad ct ) (va_cwS 1 hts gX10_takeWeights_X10_isLane rfl rfl rfl (by decide +kernel) ⟨Nat.le_of_ble_eq_true rfl, Nat.le_of_ble_eq_true rfl⟩) hK hw rfl hl.1 rfl (Nat.le_of_ble_eq_true rfl) dX10_takeWeights_1 ⟨Nat.le_of_ble_eq_true rfl, (Nat.le_of_ble_eq_true rfl)⟩ ?_
  refine kb_ifne (tgt := 10) hx hb dX10_takeWeights_4 (by decide) (fun c_1 => ?_) (fun c_1 => ?_)
  · exact absurd c_1 hL
  · refine lv_bipush (v := (-2)) hx hb dX10_takeWeights_7 (by decide) ?_
    exact W.iret hx hb hr (fun t ht _ => ⟨rfl, ht⟩) (fun _ h => absurd h List.not_mem_nil) dX10_takeWeights_9
set_option maxHeartbeats 4000000 in
set_option maxRecDepth 100000 in
theorem c_X10_takeWeights_f (l : Launch) (D : va_G) (tc : Nat → ClassId) (sz : Nat) (ad : Nat → Nat) (ct : Nat → Option va_E) {N nt n k : Nat} {b cm lf ln : Int32} {ss g : Int64}    {th : Bool} {lane i1 : Int32} (h0 : ct 0 = some (.inr (10, [.ref (ad 1), .ref (ad 3), .int (nI nt), .ref (ad 4), .ref (ad 9), .ref (ad 11), .ref (ad 12), .ref (ad 13), .int lf]))) (h1 : ct 1 = some (.inr (3, [.ref (ad 2), .int (nI N), .int b, .long ss, .long g, .int cm]))) (h20 : ct (20 + k) = some (.inr (6, [.ref (ad (24 + k)), .int (kb (th = true)), .int ln, .int (nI n)]))) (hL : 0 ≤ lane ∧ lane ≤ 2) (hdf : ¬ (kDF th ln lane i1 n (nI N) = 0)) : Met l yX10_takeWeights wsX10_takeWeights ({ frames := 2, cells := 0, slots := 0, locals := 53 }) (va_Pc [.ref (ad 0), .ref (ad (20 + k)), .int lane, .int i1] (kw_B D tc sz ad ct)) (kw_Q D ad (kw_A ad ct sz) (some (.int ((-10) - kDF th ln lane i1 n (nI N)))) (kw_up ct 0 (.inr (10, [.ref (ad 1), .ref (ad 3), .int (nI nt), .ref (ad 4), .ref (ad 9), .ref (ad 11), .ref (ad 12), .ref (ad 13), .int (kDF th ln lane i1 n (nI N))]))) 0) 0 0 (kw_A ad ct sz) := by
  refine Met.ofW (cc := cX10_takeWeights) (maxL := 8) (ret := (some .int)) (by decide) rfl ?_
  intro pg en s m args below meth cod s₁ B hml hv
  obtain ⟨rfl, hsz, hP0, hK⟩ := hv
  have hx := B.exec
  have hb := B.bytes
  have hr := B.returns
  have hts := atoms_spec (ws := wsX10_takeWeights) B.pre
  have hown : s.vm.findClass RX10 = some m.cls := findClass_of_methodNamed B.named
  have hlocks := B.notSynchronized
  subst hsz
  have hw := kw_H.start hP0
  generalize hAe : kw_A ad ct s.heap.size = A at hw ⊢
  have hA : ∀ q, s.heap.size ≤ q → A q := fun q h => by rw [← hAe]; exact Or.inr h
  have hinX10 : ∀ w ∈ wsX100, w ∈ wsX10_takeWeights := by decide +kernel
  have hl := lv_entry ([.ref (ad 0), .ref (ad (20 + k)), .int lane, .int i1]) (n := 8) (Nat.le_of_ble_eq_true rfl)
  rw [lg_entry_eq]
  generalize (lg_sl ([.ref (ad 0), .ref (ad (20 + k)), .int lane, .int i1]) ++ List.replicate (8 - (lg_sl ([.ref (ad 0), .ref (ad (20 + k)), .int lane, .int i1])).length) Slot.unset).toArray = ls at hl ⊢
  have hl : lv_has ls 8 [(0, .ref (ad 0)), (1, .ref (ad (20 + k))), (2, .int lane), (3, .int i1)] := hl
  have S0 : CallFix pg m cod cX10_takeWeights 8 s _ wsX10_takeWeights RX10 := ⟨hx, hb, hml, hown, hts⟩
  have hfr : ∀ j, j ≠ 0 → ct j = ct j := fun _ _ => rfl
  refine lv_iload_n hx hb dX10_takeWeights_0 rfl (lv_at hl 2 rfl) ?_
  refine kc_s (As := [.int lane]) (rest := []) S0 (c_X10_isLane l D tc s.heap.size ad ct ) (va_cwS 1 hts gX10_takeWeights_X10_isLane rfl rfl rfl (by decide +kernel) ⟨Nat.le_of_ble_eq_true rfl, Nat.le_of_ble_eq_true rfl⟩) hK hw rfl hl.1 rfl (Nat.le_of_ble_eq_true rfl) dX10_takeWeights_1 ⟨Nat.le_of_ble_eq_true rfl, (Nat.le_of_ble_eq_true rfl)⟩ ?_
  refine kb_ifne (tgt := 10) hx hb dX10_takeWeights_4 (by decide) (fun c_1 => ?_) (fun c_1 => ?_)
  · refine lv_aload_n hx hb dX10_takeWeights_10 rfl (lv_at hl 1 rfl) ?_
    refine lv_iload_n hx hb dX10_takeWeights_11 rfl (lv_at hl 2 rfl) ?_
    refine lv_iload_n hx hb dX10_takeWeights_12 rfl (lv_at hl 3 rfl) ?_
    refine lv_aload_n hx hb dX10_takeWeights_13 rfl (lv_at hl 0 rfl) ?_
    refine kg_get (v := .ref (ad 1)) (C := RX10) (T := TX10) (N := 9) hx hb hts hinX10 hown hK hw h0 rfl 0 (by decide) (hts (.fieldLink RX10 12 "BetMaker" "maker" "LBetMaker$Maker;") (by decide +kernel)) (fun _ h9 => h9) rfl dX10_takeWeights_14 ?_
    refine kc_v (As := []) (rest := [.int i1, .int lane, .ref (ad (20 + k))]) S0 (c_X3_cases l D tc s.heap.size ad ct (N := N) h1) (cwV 0 hts gX10_takeWeights_X3_cases rfl rfl rfl (by decide +kernel) ⟨Nat.le_of_ble_eq_true rfl, Nat.le_of_ble_eq_true rfl⟩) hK hw h1 rfl rfl hl.1 rfl (Nat.le_of_ble_eq_true rfl) dX10_takeWeights_17 ⟨Nat.le_of_ble_eq_true rfl, (Nat.le_of_ble_eq_true rfl)⟩ ?_
    refine kc_v (As := [.int lane, .int i1, .int (nI N)]) (rest := []) S0 (c_X6_readFault l D tc s.heap.size ad ct (n := n) h20) (cwV 3 hts gX10_takeWeights_X6_readFault rfl rfl rfl (by decide +kernel) ⟨Nat.le_of_ble_eq_true rfl, Nat.le_of_ble_eq_true rfl⟩) hK hw h20 rfl rfl hl.1 rfl (Nat.le_of_ble_eq_true rfl) dX10_takeWeights_20 ⟨Nat.le_of_ble_eq_true rfl, (Nat.le_of_ble_eq_true rfl)⟩ ?_
    refine lv_istore (lv' := [(4, .int (kDF th ln lane i1 n (nI N))), (0, .ref (ad 0)), (1, .ref (ad (20 + k))), (2, .int lane), (3, .int i1)]) hx hb dX10_takeWeights_23 hl (by decide) rfl (fun ls hl => ?_)
    refine lv_iload hx hb dX10_takeWeights_25 (lv_at hl 0 rfl) ?_
    refine lv_if_eq (tgt := 37) hx hb dX10_takeWeights_27 (by decide) (fun c_2 => ?_) (fun c_2 => ?_)
    · exact absurd c_2 hdf
    · refine lv_aload_n hx hb dX10_takeWeights_30 rfl (lv_at hl 1 rfl) ?_
      refine lv_iload hx hb dX10_takeWeights_31 (lv_at hl 0 rfl) ?_
      refine kc_vu (As := [.int (kDF th ln lane i1 n (nI N))]) (rest := []) S0 (c_X10_meet l D tc s.heap.size ad ct (nt := nt) h0) (cwV 1 hts gX10_takeWeights_X10_meet rfl rfl rfl (by decide +kernel) ⟨Nat.le_of_ble_eq_true rfl, Nat.le_of_ble_eq_true rfl⟩) hK hw hA h0 rfl rfl hl.1 rfl (Nat.le_of_ble_eq_true rfl) dX10_takeWeights_33 ⟨Nat.le_of_ble_eq_true rfl, (Nat.le_of_ble_eq_true rfl)⟩ (fun H locs hw => ?_)
      obtain ⟨ct_3, ect_3⟩ : ∃ z, z = kw_up ct 0 (.inr (10, [.ref (ad 1), .ref (ad 3), .int (nI nt), .ref (ad 4), .ref (ad 9), .ref (ad 11), .ref (ad 12), .ref (ad 13), .int (kDF th ln lane i1 n (nI N))])) := ⟨_, rfl⟩
      rw [← ect_3] at hw
      have h_4 : ct_3 1 = some (.inr (3, [.ref (ad 2), .int (nI N), .int b, .long ss, .long g, .int cm])) := by rw [ect_3, kw_up_n (by omega)]; exact h1
      have h_5 : ct_3 (20 + k) = some (.inr (6, [.ref (ad (24 + k)), .int (kb (th = true)), .int ln, .int (nI n)])) := by rw [ect_3, kw_up_n (by omega)]; exact h20
      have h_6 : ct_3 0 = some (.inr (10, [.ref (ad 1), .ref (ad 3), .int (nI nt), .ref (ad 4), .ref (ad 9), .ref (ad 11), .ref (ad 12), .ref (ad 13), .int (kDF th ln lane i1 n (nI N))])) := by rw [ect_3]; exact kw_up_s
      have hfr_7 : ∀ j, j ≠ 0 → ct_3 j = ct j := fun j a0 => by rw [ect_3]; exact (kw_up_n a0).trans (hfr j a0)
      refine W.eq (congrArg (fun z => F0 m 36 ls [.int z]) (show ((-10) - (kDF th ln lane i1 n (nI N))) = ((-10) - kDF th ln lane i1 n (nI N)) from by rfl)) ?_
      have hq_8 := h_6
      have hend := kw_eq1 hq_8 hfr_7
      rw [hend] at hw
      exact W.iret hx hb hr (fun t ht _ => ⟨rfl, by rw [ht]; exact hw.1, hw.2.2.1, hw.2.1.F ht, by rw [ht]; exact hw.2.2.2⟩) hw.2.1.2.2 dX10_takeWeights_36
  · exact absurd hL c_1
set_option maxHeartbeats 4000000 in
set_option maxRecDepth 100000 in
theorem c_X10_takeWeights_v (l : Launch) (D : va_G) (tc : Nat → ClassId) (sz : Nat) (ad : Nat → Nat) (ct : Nat → Option va_E) {N nt n k i : Nat} {b cm lf ln : Int32} {ss g : Int64}   {tk sc : Nat → Int32} {th : Bool} {lane : Int32} (h0 : ct 0 = some (.inr (10, [.ref (ad 1), .ref (ad 3), .int (nI nt), .ref (ad 4), .ref (ad 9), .ref (ad 11), .ref (ad 12), .ref (ad 13), .int lf]))) (h1 : ct 1 = some (.inr (3, [.ref (ad 2), .int (nI N), .int b, .long ss, .long g, .int cm]))) (h13 : ct 13 = some (eI tc 8 tk)) (h20 : ct (20 + k) = some (.inr (6, [.ref (ad (24 + k)), .int (kb (th = true)), .int ln, .int (nI n)]))) (h24 : ct (24 + k) = some (eI tc 24 sc)) (hL : 0 ≤ lane ∧ lane ≤ 2) (hdf : kDF th ln lane (nI i) n (nI N) = 0) (hiN : i + N ≤ n) (hn24 : n ≤ 24) (hN : N ≤ 8) (hbad : ¬ (kall (kWc (fun z => sc (i + z))) N = true ∧ ¬ sw (fun z => sc (i + z)) N = 0)) : Met l yX10_takeWeights wsX10_takeWeights ({ frames := 2, cells := 0, slots := 0, locals := 53 }) (va_Pc [.ref (ad 0), .ref (ad (20 + k)), .int lane, .int (nI i)] (kw_B D tc sz ad ct)) (kw_Q D ad (kw_A ad ct sz) (some (.int (-2))) (kw_up ct 13 (eI tc 8 (kCp tk (fun z => sc (i + z)) (kfs (kWc (fun z => sc (i + z))) N)))) 0) 0 0 (kw_A ad ct sz) := by
  refine Met.ofW (cc := cX10_takeWeights) (maxL := 8) (ret := (some .int)) (by decide) rfl ?_
  intro pg en s m args below meth cod s₁ B hml hv
  obtain ⟨rfl, hsz, hP0, hK⟩ := hv
  have hx := B.exec
  have hb := B.bytes
  have hr := B.returns
  have hts := atoms_spec (ws := wsX10_takeWeights) B.pre
  have hown : s.vm.findClass RX10 = some m.cls := findClass_of_methodNamed B.named
  have hlocks := B.notSynchronized
  subst hsz
  have hw := kw_H.start hP0
  generalize hAe : kw_A ad ct s.heap.size = A at hw ⊢
  have hA : ∀ q, s.heap.size ≤ q → A q := fun q h => by rw [← hAe]; exact Or.inr h
  have hinX10 : ∀ w ∈ wsX100, w ∈ wsX10_takeWeights := by decide +kernel
  have hl := lv_entry ([.ref (ad 0), .ref (ad (20 + k)), .int lane, .int (nI i)]) (n := 8) (Nat.le_of_ble_eq_true rfl)
  rw [lg_entry_eq]
  generalize (lg_sl ([.ref (ad 0), .ref (ad (20 + k)), .int lane, .int (nI i)]) ++ List.replicate (8 - (lg_sl ([.ref (ad 0), .ref (ad (20 + k)), .int lane, .int (nI i)])).length) Slot.unset).toArray = ls at hl ⊢
  have hl : lv_has ls 8 [(0, .ref (ad 0)), (1, .ref (ad (20 + k))), (2, .int lane), (3, .int (nI i))] := hl
  have S0 : CallFix pg m cod cX10_takeWeights 8 s _ wsX10_takeWeights RX10 := ⟨hx, hb, hml, hown, hts⟩
  have hfr : ∀ j, j ≠ 13 → ct j = ct j := fun _ _ => rfl
  refine lv_iload_n hx hb dX10_takeWeights_0 rfl (lv_at hl 2 rfl) ?_
  refine kc_s (As := [.int lane]) (rest := []) S0 (c_X10_isLane l D tc s.heap.size ad ct ) (va_cwS 1 hts gX10_takeWeights_X10_isLane rfl rfl rfl (by decide +kernel) ⟨Nat.le_of_ble_eq_true rfl, Nat.le_of_ble_eq_true rfl⟩) hK hw rfl hl.1 rfl (Nat.le_of_ble_eq_true rfl) dX10_takeWeights_1 ⟨Nat.le_of_ble_eq_true rfl, (Nat.le_of_ble_eq_true rfl)⟩ ?_
  refine kb_ifne (tgt := 10) hx hb dX10_takeWeights_4 (by decide) (fun c_1 => ?_) (fun c_1 => ?_)
  · refine lv_aload_n hx hb dX10_takeWeights_10 rfl (lv_at hl 1 rfl) ?_
    refine lv_iload_n hx hb dX10_takeWeights_11 rfl (lv_at hl 2 rfl) ?_
    refine lv_iload_n hx hb dX10_takeWeights_12 rfl (lv_at hl 3 rfl) ?_
    refine lv_aload_n hx hb dX10_takeWeights_13 rfl (lv_at hl 0 rfl) ?_
    refine kg_get (v := .ref (ad 1)) (C := RX10) (T := TX10) (N := 9) hx hb hts hinX10 hown hK hw h0 rfl 0 (by decide) (hts (.fieldLink RX10 12 "BetMaker" "maker" "LBetMaker$Maker;") (by decide +kernel)) (fun _ h9 => h9) rfl dX10_takeWeights_14 ?_
    refine kc_v (As := []) (rest := [.int (nI i), .int lane, .ref (ad (20 + k))]) S0 (c_X3_cases l D tc s.heap.size ad ct (N := N) h1) (cwV 0 hts gX10_takeWeights_X3_cases rfl rfl rfl (by decide +kernel) ⟨Nat.le_of_ble_eq_true rfl, Nat.le_of_ble_eq_true rfl⟩) hK hw h1 rfl rfl hl.1 rfl (Nat.le_of_ble_eq_true rfl) dX10_takeWeights_17 ⟨Nat.le_of_ble_eq_true rfl, (Nat.le_of_ble_eq_true rfl)⟩ ?_
    refine kc_v (As := [.int lane, .int (nI i), .int (nI N)]) (rest := []) S0 (c_X6_readFault l D tc s.heap.size ad ct (n := n) h20) (cwV 3 hts gX10_takeWeights_X6_readFault rfl rfl rfl (by decide +kernel) ⟨Nat.le_of_ble_eq_true rfl, Nat.le_of_ble_eq_true rfl⟩) hK hw h20 rfl rfl hl.1 rfl (Nat.le_of_ble_eq_true rfl) dX10_takeWeights_20 ⟨Nat.le_of_ble_eq_true rfl, (Nat.le_of_ble_eq_true rfl)⟩ ?_
    refine lv_istore (lv' := [(4, .int (kDF th ln lane (nI i) n (nI N))), (0, .ref (ad 0)), (1, .ref (ad (20 + k))), (2, .int lane), (3, .int (nI i))]) hx hb dX10_takeWeights_23 hl (by decide) rfl (fun ls hl => ?_)
    refine lv_iload hx hb dX10_takeWeights_25 (lv_at hl 0 rfl) ?_
    refine lv_if_eq (tgt := 37) hx hb dX10_takeWeights_27 (by decide) (fun c_2 => ?_) (fun c_2 => ?_)
    · refine lv_iconst (v := 0) hx hb dX10_takeWeights_37 (by decide) ?_
      refine lv_istore (lv' := [(5, .int 0), (4, .int (kDF th ln lane (nI i) n (nI N))), (0, .ref (ad 0)), (1, .ref (ad (20 + k))), (2, .int lane), (3, .int (nI i))]) hx hb dX10_takeWeights_38 hl (by decide) rfl (fun ls hl => ?_)
      refine lv_iconst (v := 0) hx hb dX10_takeWeights_40 (by decide) ?_
      refine lv_istore (lv' := [(6, .int 0), (5, .int 0), (4, .int (kDF th ln lane (nI i) n (nI N))), (0, .ref (ad 0)), (1, .ref (ad (20 + k))), (2, .int lane), (3, .int (nI i))]) hx hb dX10_takeWeights_41 hl (by decide) rfl (fun ls hl => ?_)
      suffices lp43 : ∀ (nfu : Nat) (j : Nat) (acc : Int32) (g1 : Nat → Int32) (ctL43 : Nat → Option va_E) (H : Heap) (locs : List Loc) (ls : Array Slot), N - j < nfu → j ≤ N → acc = sw (fun z => sc (i + z)) j → kall (kWc (fun z => sc (i + z))) j = true → g1 = kCp tk (fun z => sc (i + z)) j → ctL43 0 = some (.inr (10, [.ref (ad 1), .ref (ad 3), .int (nI nt), .ref (ad 4), .ref (ad 9), .ref (ad 11), .ref (ad 12), .ref (ad 13), .int lf])) → ctL43 1 = some (.inr (3, [.ref (ad 2), .int (nI N), .int b, .long ss, .long g, .int cm])) → ctL43 13 = some (eI tc 8 g1) → ctL43 (20 + k) = some (.inr (6, [.ref (ad (24 + k)), .int (kb (th = true)), .int ln, .int (nI n)])) → ctL43 (24 + k) = some (eI tc 24 sc) → (∀ j, j ≠ 13 → ctL43 j = ct j) → kw_H D ad A s.heap ctL43 H locs s.heap.size → lv_has ls 8 [(0, .ref (ad 0)), (1, .ref (ad (20 + k))), (2, .int lane), (3, .int (nI i)), (5, .int acc), (6, .int (nI j))] → W pg l en (headSpec wsX10_takeWeights ({ frames := 2, cells := 0, slots := 0, locals := 53 })).room s m (([.ref (ad 0), .ref (ad (20 + k)), .int lane, .int (nI i)] : List Value).toArray) below meth cod H locs 0 0 (MQ below (kw_Q D ad A (some (.int (-2))) (kw_up ct 13 (eI tc 8 (kCp tk (fun z => sc (i + z)) (kfs (kWc (fun z => sc (i + z))) N)))) 0) (([.ref (ad 0), .ref (ad (20 + k)), .int lane, .int (nI i)] : List Value).toArray) s 0 0 A) (F0 m 43 ls []) by
        exact lp43 (N - 0 + 1) 0 0 tk _ _ _ ls (by omega) (by omega) (by rfl) (by rfl) (by exact kCp_0 _ _) h0 h1 h13 h20 h24 hfr hw (by have hl9 := lv_sub hl (l' := [(0, .ref (ad 0)), (1, .ref (ad (20 + k))), (2, .int lane), (3, .int (nI i)), (5, .int 0), (6, .int 0)]) [3, 4, 5, 6, 1, 0] rfl; exact hl9)
      intro n43
      induction n43 with
      | zero => intro j acc g1 ctL43 H locs ls hfu; exact absurd hfu (Nat.not_lt_zero _)
      | succ n43 ih43 =>
        intro j acc g1 ctL43 H locs ls hfu43 hj ha hall hg h_3 h_4 h_5 h_6 h_7 hfr_8 hw hl
        refine lv_iload hx hb dX10_takeWeights_43 (lv_at hl 5 rfl) ?_
        refine lv_aload_n hx hb dX10_takeWeights_45 rfl (lv_at hl 0 rfl) ?_
        refine kg_get (v := .ref (ad 1)) (C := RX10) (T := TX10) (N := 9) hx hb hts hinX10 hown hK hw h_3 rfl 0 (by decide) (hts (.fieldLink RX10 12 "BetMaker" "maker" "LBetMaker$Maker;") (by decide +kernel)) (fun _ h9 => h9) rfl dX10_takeWeights_46 ?_
        refine kc_v (As := []) (rest := [.int (nI j)]) S0 (c_X3_cases l D tc s.heap.size ad ctL43 (N := N) h_4) (cwV 0 hts gX10_takeWeights_X3_cases rfl rfl rfl (by decide +kernel) ⟨Nat.le_of_ble_eq_true rfl, Nat.le_of_ble_eq_true rfl⟩) hK hw h_4 rfl rfl hl.1 rfl (Nat.le_of_ble_eq_true rfl) dX10_takeWeights_49 ⟨Nat.le_of_ble_eq_true rfl, (Nat.le_of_ble_eq_true rfl)⟩ ?_
        refine kn_ge j N rfl rfl (by omega) (by omega) (tgt := 105) hx hb dX10_takeWeights_52 (by decide) (fun c_9 => ?_) (fun c_9 => ?_)
        · refine lv_iload hx hb dX10_takeWeights_105 (lv_at hl 4 rfl) ?_
          refine lv_if_ne (tgt := 115) hx hb dX10_takeWeights_107 (by decide) (fun c_10 => ?_) (fun c_10 => ?_)
          · exact absurd ⟨by rw [← hall, show j = N by omega], by rw [← show acc = sw (fun z => sc (i + z)) N by rw [ha, show j = N by omega]]; exact c_10⟩ hbad
          · refine lv_bipush (v := (-2)) hx hb dX10_takeWeights_110 (by decide) ?_
            refine lv_goto (tgt := 117) hx hb dX10_takeWeights_112 (by decide) ?_
            have hq_11 : ctL43 13 = some (eI tc 8 (kCp tk (fun z => sc (i + z)) (kfs (kWc (fun z => sc (i + z))) N))) := h_5.trans (congrArg some (show (eI tc 8 g1 : va_E) = eI tc 8 (kCp tk (fun z => sc (i + z)) (kfs (kWc (fun z => sc (i + z))) N)) from by rw [hg, kfs_all (by rw [← hall, show j = N by omega]), show j = N by omega]))
            have hend := kw_eq1 hq_11 hfr_8
            rw [hend] at hw
            exact W.iret hx hb hr (fun t ht _ => ⟨rfl, by rw [ht]; exact hw.1, hw.2.2.1, hw.2.1.F ht, by rw [ht]; exact hw.2.2.2⟩) hw.2.1.2.2 dX10_takeWeights_117
        · refine lv_iload hx hb dX10_takeWeights_55 (lv_at hl 5 rfl) ?_
          refine lv_bipush (v := 8) hx hb dX10_takeWeights_57 (by decide) ?_
          refine kn_ge j 8 rfl rfl (by omega) (by omega) (tgt := 105) hx hb dX10_takeWeights_59 (by decide) (fun c_12 => ?_) (fun c_12 => ?_)
          · exfalso; omega
          · refine lv_aload_n hx hb dX10_takeWeights_62 rfl (lv_at hl 1 rfl) ?_
            refine lv_iload_n hx hb dX10_takeWeights_63 rfl (lv_at hl 3 rfl) ?_
            refine lv_iload hx hb dX10_takeWeights_64 (lv_at hl 5 rfl) ?_
            refine lv_iadd hx hb dX10_takeWeights_66 ?_
            refine W.eq (congrArg (fun z => F0 m 67 ls (.int z :: .ref (ad (20 + k)) :: [])) (show (nI i) + (nI j) = nI (i + j) from by exact nI_add i j)) ?_
            refine kc_v (As := [.int (nI (i + j))]) (rest := []) S0 (c_X6_read l D tc s.heap.size ad ctL43 (i := (i + j)) (n := n) h_6 h_7 (by omega) (by omega)) (cwV 1 hts gX10_takeWeights_X6_read rfl rfl rfl (by decide +kernel) ⟨Nat.le_of_ble_eq_true rfl, Nat.le_of_ble_eq_true rfl⟩) hK hw h_6 rfl rfl hl.1 rfl (Nat.le_of_ble_eq_true rfl) dX10_takeWeights_67 ⟨Nat.le_of_ble_eq_true rfl, (Nat.le_of_ble_eq_true rfl)⟩ ?_
            refine lv_istore (lv' := [(7, .int (sc (i + j))), (0, .ref (ad 0)), (1, .ref (ad (20 + k))), (2, .int lane), (3, .int (nI i)), (5, .int acc), (6, .int (nI j))]) hx hb dX10_takeWeights_70 hl (by decide) rfl (fun ls hl => ?_)
            refine lv_iload hx hb dX10_takeWeights_72 (lv_at hl 0 rfl) ?_
            refine kc_s (As := [.int (sc (i + j))]) (rest := []) S0 (c_X10_isWeight l D tc s.heap.size ad ctL43 ) (va_cwS 1 hts gX10_takeWeights_X10_isWeight rfl rfl rfl (by decide +kernel) ⟨Nat.le_of_ble_eq_true rfl, Nat.le_of_ble_eq_true rfl⟩) hK hw rfl hl.1 rfl (Nat.le_of_ble_eq_true rfl) dX10_takeWeights_74 ⟨Nat.le_of_ble_eq_true rfl, (Nat.le_of_ble_eq_true rfl)⟩ ?_
            refine kb_ifne (tgt := 83) hx hb dX10_takeWeights_77 (by decide) (fun c_13 => ?_) (fun c_13 => ?_)
            · refine lv_aload_n hx hb dX10_takeWeights_83 rfl (lv_at hl 1 rfl) ?_
              refine kg_get (v := .ref (ad 13)) (C := RX10) (T := TX10) (N := 9) hx hb hts hinX10 hown hK hw h_3 rfl 7 (by decide) (hts (.fieldLink RX10 51 "BetMaker" "taken" "[I") (by decide +kernel)) (fun _ h9 => h9) rfl dX10_takeWeights_84 ?_
              refine lv_iload hx hb dX10_takeWeights_87 (lv_at hl 6 rfl) ?_
              refine lv_iload hx hb dX10_takeWeights_89 (lv_at hl 0 rfl) ?_
              refine kg_iast hx hb hK hw h_5 j rfl (by omega) (by omega) dX10_takeWeights_91 (fun H locs hw => ?_)
              obtain ⟨ct_14, ect_14⟩ : ∃ z, z = kw_up ctL43 13 (eI tc 8 (va_up g1 j (sc (i + j)))) := ⟨_, rfl⟩
              rw [← ect_14] at hw
              have h_15 : ct_14 0 = some (.inr (10, [.ref (ad 1), .ref (ad 3), .int (nI nt), .ref (ad 4), .ref (ad 9), .ref (ad 11), .ref (ad 12), .ref (ad 13), .int lf])) := by rw [ect_14, kw_up_n (by omega)]; exact h_3
              have h_16 : ct_14 1 = some (.inr (3, [.ref (ad 2), .int (nI N), .int b, .long ss, .long g, .int cm])) := by rw [ect_14, kw_up_n (by omega)]; exact h_4
              have h_17 : ct_14 (20 + k) = some (.inr (6, [.ref (ad (24 + k)), .int (kb (th = true)), .int ln, .int (nI n)])) := by rw [ect_14, kw_up_n (by omega)]; exact h_6
              have h_18 : ct_14 (24 + k) = some (eI tc 24 sc) := by rw [ect_14, kw_up_n (by omega)]; exact h_7
              have h_19 : ct_14 13 = some (eI tc 8 (va_up g1 j (sc (i + j)))) := by rw [ect_14]; exact kw_up_s
              have hfr_20 : ∀ j, j ≠ 13 → ct_14 j = ct j := fun j a0 => by rw [ect_14]; exact (kw_up_n a0).trans (hfr_8 j a0)
              refine lv_iload hx hb dX10_takeWeights_92 (lv_at hl 5 rfl) ?_
              refine lv_iload hx hb dX10_takeWeights_94 (lv_at hl 0 rfl) ?_
              refine lv_iadd hx hb dX10_takeWeights_96 ?_
              refine lv_istore (lv' := [(5, .int (acc + (sc (i + j)))), (7, .int (sc (i + j))), (0, .ref (ad 0)), (1, .ref (ad (20 + k))), (2, .int lane), (3, .int (nI i)), (6, .int (nI j))]) hx hb dX10_takeWeights_97 hl (by decide) rfl (fun ls hl => ?_)
              refine lv_iinc (v := (nI (j + 1))) (lv' := [(6, .int (nI (j + 1))), (5, .int (acc + (sc (i + j)))), (7, .int (sc (i + j))), (0, .ref (ad 0)), (1, .ref (ad (20 + k))), (2, .int lane), (3, .int (nI i))]) hx hb dX10_takeWeights_99 hl (k := 6) rfl (nI_1 j) (by decide) rfl (fun ls hl => ?_)
              refine lv_goto (tgt := 43) hx hb dX10_takeWeights_102 (by decide) ?_
              exact ih43 (j + 1) (acc + (sc (i + j))) (va_up g1 j (sc (i + j))) _ _ _ ls (by omega) (by omega) (by rw [ha]; rfl) (by exact kall_s hall (decide_eq_true c_13)) (by rw [hg]; exact kCp_s tk (fun z => sc (i + z)) j) h_15 h_16 h_19 h_17 h_18 hfr_20 hw (lv_sub hl [3, 4, 5, 6, 1, 0] rfl)
            · refine lv_bipush (v := (-2)) hx hb dX10_takeWeights_80 (by decide) ?_
              have hq_21 : ctL43 13 = some (eI tc 8 (kCp tk (fun z => sc (i + z)) (kfs (kWc (fun z => sc (i + z))) N))) := h_5.trans (congrArg some (show (eI tc 8 g1 : va_E) = eI tc 8 (kCp tk (fun z => sc (i + z)) (kfs (kWc (fun z => sc (i + z))) N)) from by rw [hg, kfs_bad hall (fun q => c_13 (of_decide_eq_true q)) (by omega)]))
              have hend := kw_eq1 hq_21 hfr_8
              rw [hend] at hw
              exact W.iret hx hb hr (fun t ht _ => ⟨rfl, by rw [ht]; exact hw.1, hw.2.2.1, hw.2.1.F ht, by rw [ht]; exact hw.2.2.2⟩) hw.2.1.2.2 dX10_takeWeights_82
    · exact absurd hdf c_2
  · exact absurd hL c_1
set_option maxHeartbeats 4000000 in
set_option maxRecDepth 100000 in
theorem c_X10_takeWeights (l : Launch) (D : va_G) (tc : Nat → ClassId) (sz : Nat) (ad : Nat → Nat) (ct : Nat → Option va_E) {N nt n k i : Nat} {b cm lf ln : Int32} {ss g : Int64}   {tk sc : Nat → Int32} {th : Bool} {lane : Int32} (h0 : ct 0 = some (.inr (10, [.ref (ad 1), .ref (ad 3), .int (nI nt), .ref (ad 4), .ref (ad 9), .ref (ad 11), .ref (ad 12), .ref (ad 13), .int lf]))) (h1 : ct 1 = some (.inr (3, [.ref (ad 2), .int (nI N), .int b, .long ss, .long g, .int cm]))) (h13 : ct 13 = some (eI tc 8 tk)) (h20 : ct (20 + k) = some (.inr (6, [.ref (ad (24 + k)), .int (kb (th = true)), .int ln, .int (nI n)]))) (h24 : ct (24 + k) = some (eI tc 24 sc)) (hL : 0 ≤ lane ∧ lane ≤ 2) (hdf : kDF th ln lane (nI i) n (nI N) = 0) (hiN : i + N ≤ n) (hn24 : n ≤ 24) (hN : N ≤ 8) (hok : kall (kWc (fun z => sc (i + z))) N = true) (hnz : ¬ sw (fun z => sc (i + z)) N = 0) : Met l yX10_takeWeights wsX10_takeWeights ({ frames := 2, cells := 0, slots := 0, locals := 53 }) (va_Pc [.ref (ad 0), .ref (ad (20 + k)), .int lane, .int (nI i)] (kw_B D tc sz ad ct)) (kw_Q D ad (kw_A ad ct sz) (some (.int (sw (fun z => sc (i + z)) N))) (kw_up ct 13 (eI tc 8 (kCp tk (fun z => sc (i + z)) N))) 0) 0 0 (kw_A ad ct sz) := by
  refine Met.ofW (cc := cX10_takeWeights) (maxL := 8) (ret := (some .int)) (by decide) rfl ?_
  intro pg en s m args below meth cod s₁ B hml hv
  obtain ⟨rfl, hsz, hP0, hK⟩ := hv
  have hx := B.exec
  have hb := B.bytes
  have hr := B.returns
  have hts := atoms_spec (ws := wsX10_takeWeights) B.pre
  have hown : s.vm.findClass RX10 = some m.cls := findClass_of_methodNamed B.named
  have hlocks := B.notSynchronized
  subst hsz
  have hw := kw_H.start hP0
  generalize hAe : kw_A ad ct s.heap.size = A at hw ⊢
  have hA : ∀ q, s.heap.size ≤ q → A q := fun q h => by rw [← hAe]; exact Or.inr h
  have hinX10 : ∀ w ∈ wsX100, w ∈ wsX10_takeWeights := by decide +kernel
  have hl := lv_entry ([.ref (ad 0), .ref (ad (20 + k)), .int lane, .int (nI i)]) (n := 8) (Nat.le_of_ble_eq_true rfl)
  rw [lg_entry_eq]
  generalize (lg_sl ([.ref (ad 0), .ref (ad (20 + k)), .int lane, .int (nI i)]) ++ List.replicate (8 - (lg_sl ([.ref (ad 0), .ref (ad (20 + k)), .int lane, .int (nI i)])).length) Slot.unset).toArray = ls at hl ⊢
  have hl : lv_has ls 8 [(0, .ref (ad 0)), (1, .ref (ad (20 + k))), (2, .int lane), (3, .int (nI i))] := hl
  have S0 : CallFix pg m cod cX10_takeWeights 8 s _ wsX10_takeWeights RX10 := ⟨hx, hb, hml, hown, hts⟩
  have hfr : ∀ j, j ≠ 13 → ct j = ct j := fun _ _ => rfl
  refine lv_iload_n hx hb dX10_takeWeights_0 rfl (lv_at hl 2 rfl) ?_
  refine kc_s (As := [.int lane]) (rest := []) S0 (c_X10_isLane l D tc s.heap.size ad ct ) (va_cwS 1 hts gX10_takeWeights_X10_isLane rfl rfl rfl (by decide +kernel) ⟨Nat.le_of_ble_eq_true rfl, Nat.le_of_ble_eq_true rfl⟩) hK hw rfl hl.1 rfl (Nat.le_of_ble_eq_true rfl) dX10_takeWeights_1 ⟨Nat.le_of_ble_eq_true rfl, (Nat.le_of_ble_eq_true rfl)⟩ ?_
  refine kb_ifne (tgt := 10) hx hb dX10_takeWeights_4 (by decide) (fun c_1 => ?_) (fun c_1 => ?_)
  · refine lv_aload_n hx hb dX10_takeWeights_10 rfl (lv_at hl 1 rfl) ?_
    refine lv_iload_n hx hb dX10_takeWeights_11 rfl (lv_at hl 2 rfl) ?_
    refine lv_iload_n hx hb dX10_takeWeights_12 rfl (lv_at hl 3 rfl) ?_
    refine lv_aload_n hx hb dX10_takeWeights_13 rfl (lv_at hl 0 rfl) ?_
    refine kg_get (v := .ref (ad 1)) (C := RX10) (T := TX10) (N := 9) hx hb hts hinX10 hown hK hw h0 rfl 0 (by decide) (hts (.fieldLink RX10 12 "BetMaker" "maker" "LBetMaker$Maker;") (by decide +kernel)) (fun _ h9 => h9) rfl dX10_takeWeights_14 ?_
    refine kc_v (As := []) (rest := [.int (nI i), .int lane, .ref (ad (20 + k))]) S0 (c_X3_cases l D tc s.heap.size ad ct (N := N) h1) (cwV 0 hts gX10_takeWeights_X3_cases rfl rfl rfl (by decide +kernel) ⟨Nat.le_of_ble_eq_true rfl, Nat.le_of_ble_eq_true rfl⟩) hK hw h1 rfl rfl hl.1 rfl (Nat.le_of_ble_eq_true rfl) dX10_takeWeights_17 ⟨Nat.le_of_ble_eq_true rfl, (Nat.le_of_ble_eq_true rfl)⟩ ?_
    refine kc_v (As := [.int lane, .int (nI i), .int (nI N)]) (rest := []) S0 (c_X6_readFault l D tc s.heap.size ad ct (n := n) h20) (cwV 3 hts gX10_takeWeights_X6_readFault rfl rfl rfl (by decide +kernel) ⟨Nat.le_of_ble_eq_true rfl, Nat.le_of_ble_eq_true rfl⟩) hK hw h20 rfl rfl hl.1 rfl (Nat.le_of_ble_eq_true rfl) dX10_takeWeights_20 ⟨Nat.le_of_ble_eq_true rfl, (Nat.le_of_ble_eq_true rfl)⟩ ?_
    refine lv_istore (lv' := [(4, .int (kDF th ln lane (nI i) n (nI N))), (0, .ref (ad 0)), (1, .ref (ad (20 + k))), (2, .int lane), (3, .int (nI i))]) hx hb dX10_takeWeights_23 hl (by decide) rfl (fun ls hl => ?_)
    refine lv_iload hx hb dX10_takeWeights_25 (lv_at hl 0 rfl) ?_
    refine lv_if_eq (tgt := 37) hx hb dX10_takeWeights_27 (by decide) (fun c_2 => ?_) (fun c_2 => ?_)
    · refine lv_iconst (v := 0) hx hb dX10_takeWeights_37 (by decide) ?_
      refine lv_istore (lv' := [(5, .int 0), (4, .int (kDF th ln lane (nI i) n (nI N))), (0, .ref (ad 0)), (1, .ref (ad (20 + k))), (2, .int lane), (3, .int (nI i))]) hx hb dX10_takeWeights_38 hl (by decide) rfl (fun ls hl => ?_)
      refine lv_iconst (v := 0) hx hb dX10_takeWeights_40 (by decide) ?_
      refine lv_istore (lv' := [(6, .int 0), (5, .int 0), (4, .int (kDF th ln lane (nI i) n (nI N))), (0, .ref (ad 0)), (1, .ref (ad (20 + k))), (2, .int lane), (3, .int (nI i))]) hx hb dX10_takeWeights_41 hl (by decide) rfl (fun ls hl => ?_)
      suffices lp43 : ∀ (nfu : Nat) (j : Nat) (acc : Int32) (g1 : Nat → Int32) (ctL43 : Nat → Option va_E) (H : Heap) (locs : List Loc) (ls : Array Slot), N - j < nfu → j ≤ N → acc = sw (fun z => sc (i + z)) j → kall (kWc (fun z => sc (i + z))) j = true → g1 = kCp tk (fun z => sc (i + z)) j → ctL43 0 = some (.inr (10, [.ref (ad 1), .ref (ad 3), .int (nI nt), .ref (ad 4), .ref (ad 9), .ref (ad 11), .ref (ad 12), .ref (ad 13), .int lf])) → ctL43 1 = some (.inr (3, [.ref (ad 2), .int (nI N), .int b, .long ss, .long g, .int cm])) → ctL43 13 = some (eI tc 8 g1) → ctL43 (20 + k) = some (.inr (6, [.ref (ad (24 + k)), .int (kb (th = true)), .int ln, .int (nI n)])) → ctL43 (24 + k) = some (eI tc 24 sc) → (∀ j, j ≠ 13 → ctL43 j = ct j) → kw_H D ad A s.heap ctL43 H locs s.heap.size → lv_has ls 8 [(0, .ref (ad 0)), (1, .ref (ad (20 + k))), (2, .int lane), (3, .int (nI i)), (5, .int acc), (6, .int (nI j))] → W pg l en (headSpec wsX10_takeWeights ({ frames := 2, cells := 0, slots := 0, locals := 53 })).room s m (([.ref (ad 0), .ref (ad (20 + k)), .int lane, .int (nI i)] : List Value).toArray) below meth cod H locs 0 0 (MQ below (kw_Q D ad A (some (.int (sw (fun z => sc (i + z)) N))) (kw_up ct 13 (eI tc 8 (kCp tk (fun z => sc (i + z)) N))) 0) (([.ref (ad 0), .ref (ad (20 + k)), .int lane, .int (nI i)] : List Value).toArray) s 0 0 A) (F0 m 43 ls []) by
        exact lp43 (N - 0 + 1) 0 0 tk _ _ _ ls (by omega) (by omega) (by rfl) (by rfl) (by exact kCp_0 _ _) h0 h1 h13 h20 h24 hfr hw (by have hl9 := lv_sub hl (l' := [(0, .ref (ad 0)), (1, .ref (ad (20 + k))), (2, .int lane), (3, .int (nI i)), (5, .int 0), (6, .int 0)]) [3, 4, 5, 6, 1, 0] rfl; exact hl9)
      intro n43
      induction n43 with
      | zero => intro j acc g1 ctL43 H locs ls hfu; exact absurd hfu (Nat.not_lt_zero _)
      | succ n43 ih43 =>
        intro j acc g1 ctL43 H locs ls hfu43 hj ha hall hg h_3 h_4 h_5 h_6 h_7 hfr_8 hw hl
        refine lv_iload hx hb dX10_takeWeights_43 (lv_at hl 5 rfl) ?_
        refine lv_aload_n hx hb dX10_takeWeights_45 rfl (lv_at hl 0 rfl) ?_
        refine kg_get (v := .ref (ad 1)) (C := RX10) (T := TX10) (N := 9) hx hb hts hinX10 hown hK hw h_3 rfl 0 (by decide) (hts (.fieldLink RX10 12 "BetMaker" "maker" "LBetMaker$Maker;") (by decide +kernel)) (fun _ h9 => h9) rfl dX10_takeWeights_46 ?_
        refine kc_v (As := []) (rest := [.int (nI j)]) S0 (c_X3_cases l D tc s.heap.size ad ctL43 (N := N) h_4) (cwV 0 hts gX10_takeWeights_X3_cases rfl rfl rfl (by decide +kernel) ⟨Nat.le_of_ble_eq_true rfl, Nat.le_of_ble_eq_true rfl⟩) hK hw h_4 rfl rfl hl.1 rfl (Nat.le_of_ble_eq_true rfl) dX10_takeWeights_49 ⟨Nat.le_of_ble_eq_true rfl, (Nat.le_of_ble_eq_true rfl)⟩ ?_
        refine kn_ge j N rfl rfl (by omega) (by omega) (tgt := 105) hx hb dX10_takeWeights_52 (by decide) (fun c_9 => ?_) (fun c_9 => ?_)
        · refine lv_iload hx hb dX10_takeWeights_105 (lv_at hl 4 rfl) ?_
          refine lv_if_ne (tgt := 115) hx hb dX10_takeWeights_107 (by decide) (fun c_10 => ?_) (fun c_10 => ?_)
          · refine lv_iload hx hb dX10_takeWeights_115 (lv_at hl 4 rfl) ?_
            refine W.eq (congrArg (fun z => F0 m 117 ls [.int z]) (show acc = (sw (fun z => sc (i + z)) N) from by rw [ha, show j = N by omega])) ?_
            have hq_11 : ctL43 13 = some (eI tc 8 (kCp tk (fun z => sc (i + z)) N)) := h_5.trans (congrArg some (show (eI tc 8 g1 : va_E) = eI tc 8 (kCp tk (fun z => sc (i + z)) N) from by rw [hg, show j = N by omega]))
            have hend := kw_eq1 hq_11 hfr_8
            rw [hend] at hw
            exact W.iret hx hb hr (fun t ht _ => ⟨rfl, by rw [ht]; exact hw.1, hw.2.2.1, hw.2.1.F ht, by rw [ht]; exact hw.2.2.2⟩) hw.2.1.2.2 dX10_takeWeights_117
          · exact absurd (by rw [← c_10, ha, show j = N by omega]) hnz
        · refine lv_iload hx hb dX10_takeWeights_55 (lv_at hl 5 rfl) ?_
          refine lv_bipush (v := 8) hx hb dX10_takeWeights_57 (by decide) ?_
          refine kn_ge j 8 rfl rfl (by omega) (by omega) (tgt := 105) hx hb dX10_takeWeights_59 (by decide) (fun c_12 => ?_) (fun c_12 => ?_)
          · exfalso; omega
          · refine lv_aload_n hx hb dX10_takeWeights_62 rfl (lv_at hl 1 rfl) ?_
            refine lv_iload_n hx hb dX10_takeWeights_63 rfl (lv_at hl 3 rfl) ?_
            refine lv_iload hx hb dX10_takeWeights_64 (lv_at hl 5 rfl) ?_
            refine lv_iadd hx hb dX10_takeWeights_66 ?_
            refine W.eq (congrArg (fun z => F0 m 67 ls (.int z :: .ref (ad (20 + k)) :: [])) (show (nI i) + (nI j) = nI (i + j) from by exact nI_add i j)) ?_
            refine kc_v (As := [.int (nI (i + j))]) (rest := []) S0 (c_X6_read l D tc s.heap.size ad ctL43 (i := (i + j)) (n := n) h_6 h_7 (by omega) (by omega)) (cwV 1 hts gX10_takeWeights_X6_read rfl rfl rfl (by decide +kernel) ⟨Nat.le_of_ble_eq_true rfl, Nat.le_of_ble_eq_true rfl⟩) hK hw h_6 rfl rfl hl.1 rfl (Nat.le_of_ble_eq_true rfl) dX10_takeWeights_67 ⟨Nat.le_of_ble_eq_true rfl, (Nat.le_of_ble_eq_true rfl)⟩ ?_
            refine lv_istore (lv' := [(7, .int (sc (i + j))), (0, .ref (ad 0)), (1, .ref (ad (20 + k))), (2, .int lane), (3, .int (nI i)), (5, .int acc), (6, .int (nI j))]) hx hb dX10_takeWeights_70 hl (by decide) rfl (fun ls hl => ?_)
            refine lv_iload hx hb dX10_takeWeights_72 (lv_at hl 0 rfl) ?_
            refine kc_s (As := [.int (sc (i + j))]) (rest := []) S0 (c_X10_isWeight l D tc s.heap.size ad ctL43 ) (va_cwS 1 hts gX10_takeWeights_X10_isWeight rfl rfl rfl (by decide +kernel) ⟨Nat.le_of_ble_eq_true rfl, Nat.le_of_ble_eq_true rfl⟩) hK hw rfl hl.1 rfl (Nat.le_of_ble_eq_true rfl) dX10_takeWeights_74 ⟨Nat.le_of_ble_eq_true rfl, (Nat.le_of_ble_eq_true rfl)⟩ ?_
            refine kb_ifne (tgt := 83) hx hb dX10_takeWeights_77 (by decide) (fun c_13 => ?_) (fun c_13 => ?_)
            · refine lv_aload_n hx hb dX10_takeWeights_83 rfl (lv_at hl 1 rfl) ?_
              refine kg_get (v := .ref (ad 13)) (C := RX10) (T := TX10) (N := 9) hx hb hts hinX10 hown hK hw h_3 rfl 7 (by decide) (hts (.fieldLink RX10 51 "BetMaker" "taken" "[I") (by decide +kernel)) (fun _ h9 => h9) rfl dX10_takeWeights_84 ?_
              refine lv_iload hx hb dX10_takeWeights_87 (lv_at hl 6 rfl) ?_
              refine lv_iload hx hb dX10_takeWeights_89 (lv_at hl 0 rfl) ?_
              refine kg_iast hx hb hK hw h_5 j rfl (by omega) (by omega) dX10_takeWeights_91 (fun H locs hw => ?_)
              obtain ⟨ct_14, ect_14⟩ : ∃ z, z = kw_up ctL43 13 (eI tc 8 (va_up g1 j (sc (i + j)))) := ⟨_, rfl⟩
              rw [← ect_14] at hw
              have h_15 : ct_14 0 = some (.inr (10, [.ref (ad 1), .ref (ad 3), .int (nI nt), .ref (ad 4), .ref (ad 9), .ref (ad 11), .ref (ad 12), .ref (ad 13), .int lf])) := by rw [ect_14, kw_up_n (by omega)]; exact h_3
              have h_16 : ct_14 1 = some (.inr (3, [.ref (ad 2), .int (nI N), .int b, .long ss, .long g, .int cm])) := by rw [ect_14, kw_up_n (by omega)]; exact h_4
              have h_17 : ct_14 (20 + k) = some (.inr (6, [.ref (ad (24 + k)), .int (kb (th = true)), .int ln, .int (nI n)])) := by rw [ect_14, kw_up_n (by omega)]; exact h_6
              have h_18 : ct_14 (24 + k) = some (eI tc 24 sc) := by rw [ect_14, kw_up_n (by omega)]; exact h_7
              have h_19 : ct_14 13 = some (eI tc 8 (va_up g1 j (sc (i + j)))) := by rw [ect_14]; exact kw_up_s
              have hfr_20 : ∀ j, j ≠ 13 → ct_14 j = ct j := fun j a0 => by rw [ect_14]; exact (kw_up_n a0).trans (hfr_8 j a0)
              refine lv_iload hx hb dX10_takeWeights_92 (lv_at hl 5 rfl) ?_
              refine lv_iload hx hb dX10_takeWeights_94 (lv_at hl 0 rfl) ?_
              refine lv_iadd hx hb dX10_takeWeights_96 ?_
              refine lv_istore (lv' := [(5, .int (acc + (sc (i + j)))), (7, .int (sc (i + j))), (0, .ref (ad 0)), (1, .ref (ad (20 + k))), (2, .int lane), (3, .int (nI i)), (6, .int (nI j))]) hx hb dX10_takeWeights_97 hl (by decide) rfl (fun ls hl => ?_)
              refine lv_iinc (v := (nI (j + 1))) (lv' := [(6, .int (nI (j + 1))), (5, .int (acc + (sc (i + j)))), (7, .int (sc (i + j))), (0, .ref (ad 0)), (1, .ref (ad (20 + k))), (2, .int lane), (3, .int (nI i))]) hx hb dX10_takeWeights_99 hl (k := 6) rfl (nI_1 j) (by decide) rfl (fun ls hl => ?_)
              refine lv_goto (tgt := 43) hx hb dX10_takeWeights_102 (by decide) ?_
              exact ih43 (j + 1) (acc + (sc (i + j))) (va_up g1 j (sc (i + j))) _ _ _ ls (by omega) (by omega) (by rw [ha]; rfl) (by exact kall_s hall (decide_eq_true c_13)) (by rw [hg]; exact kCp_s tk (fun z => sc (i + z)) j) h_15 h_16 h_19 h_17 h_18 hfr_20 hw (lv_sub hl [3, 4, 5, 6, 1, 0] rfl)
            · exact absurd (of_decide_eq_true ((kall_iff.mp hok) j (by omega))) c_13
    · exact absurd hdf c_2
  · exact absurd hL c_1
set_option maxHeartbeats 4000000 in
set_option maxRecDepth 100000 in
theorem c_X10_beliefs_u1 (l : Launch) (D : va_G) (tc : Nat → ClassId) (sz : Nat) (ad : Nat → Nat) (ct : Nat → Option va_E) {nt : Nat} {lf : Int32}      {t1 k1 lane i1 : Int32} (h0 : ct 0 = some (.inr (10, [.ref (ad 1), .ref (ad 3), .int (nI nt), .ref (ad 4), .ref (ad 9), .ref (ad 11), .ref (ad 12), .ref (ad 13), .int lf]))) (ht : ¬ (0 ≤ t1 ∧ t1 < nI nt)) (hk : ¬ (0 ≤ k1 ∧ k1 < 4)) : Met l yX10_beliefs wsX10_beliefs ({ frames := 3, cells := 0, slots := 0, locals := 84 }) (va_Pc [.ref (ad 0), .int t1, .int k1, .int lane, .int i1] (kw_B D tc sz ad ct)) (kw_Q D ad (kw_A ad ct sz) (some (.int (-1))) (kw_up ct 0 (.inr (10, [.ref (ad 1), .ref (ad 3), .int (nI nt), .ref (ad 4), .ref (ad 9), .ref (ad 11), .ref (ad 12), .ref (ad 13), .int 0]))) 0) 0 0 (kw_A ad ct sz) := by
  refine Met.ofW (cc := cX10_beliefs) (maxL := 8) (ret := (some .int)) (by decide) rfl ?_
  intro pg en s m args below meth cod s₁ B hml hv
  obtain ⟨rfl, hsz, hP0, hK⟩ := hv
  have hx := B.exec
  have hb := B.bytes
  have hr := B.returns
  have hts := atoms_spec (ws := wsX10_beliefs) B.pre
  have hown : s.vm.findClass RX10 = some m.cls := findClass_of_methodNamed B.named
  have hlocks := B.notSynchronized
  subst hsz
  have hw := kw_H.start hP0
  generalize hAe : kw_A ad ct s.heap.size = A at hw ⊢
  have hA : ∀ q, s.heap.size ≤ q → A q := fun q h => by rw [← hAe]; exact Or.inr h
  have hinX10 : ∀ w ∈ wsX100, w ∈ wsX10_beliefs := by decide +kernel
  have hl := lv_entry ([.ref (ad 0), .int t1, .int k1, .int lane, .int i1]) (n := 8) (Nat.le_of_ble_eq_true rfl)
  rw [lg_entry_eq]
  generalize (lg_sl ([.ref (ad 0), .int t1, .int k1, .int lane, .int i1]) ++ List.replicate (8 - (lg_sl ([.ref (ad 0), .int t1, .int k1, .int lane, .int i1])).length) Slot.unset).toArray = ls at hl ⊢
  have hl : lv_has ls 8 [(0, .ref (ad 0)), (1, .int t1), (2, .int k1), (3, .int lane), (4, .int i1)] := hl
  have S0 : CallFix pg m cod cX10_beliefs 8 s _ wsX10_beliefs RX10 := ⟨hx, hb, hml, hown, hts⟩
  have hfr : ∀ j, j ≠ 0 → ct j = ct j := fun _ _ => rfl
  refine lv_aload_n hx hb dX10_beliefs_0 rfl (lv_at hl 0 rfl) ?_
  refine lv_iconst (v := 0) hx hb dX10_beliefs_1 (by decide) ?_
  refine kg_put (v := .int 0) (ty := .int) (C := RX10) (T := TX10) (N := 9) (fs' := [.ref (ad 1), .ref (ad 3), .int (nI nt), .ref (ad 4), .ref (ad 9), .ref (ad 11), .ref (ad 12), .ref (ad 13), .int 0]) hx hb hts hinX10 tyX10 tyX10_ok nmX10 hown hK hw h0 rfl 8 (by decide) (hts (.fieldLink RX10 179 "BetMaker" "latestFault" "I") (by decide +kernel)) (fun _ h9 => h9) rfl (by decide +kernel) rfl rfl (Nat.le_of_ble_eq_true rfl) rfl dX10_beliefs_2 (fun H locs hw => ?_)
  obtain ⟨ct_1, ect_1⟩ : ∃ z, z = kw_up ct 0 (.inr (10, [.ref (ad 1), .ref (ad 3), .int (nI nt), .ref (ad 4), .ref (ad 9), .ref (ad 11), .ref (ad 12), .ref (ad 13), .int 0])) := ⟨_, rfl⟩
  rw [← ect_1] at hw
  have h_2 : ct_1 0 = some (.inr (10, [.ref (ad 1), .ref (ad 3), .int (nI nt), .ref (ad 4), .ref (ad 9), .ref (ad 11), .ref (ad 12), .ref (ad 13), .int 0])) := by rw [ect_1]; exact kw_up_s
  have hfr_3 : ∀ j, j ≠ 0 → ct_1 j = ct j := fun j a0 => by rw [ect_1]; exact (kw_up_n a0).trans (hfr j a0)
  refine lv_aload_n hx hb dX10_beliefs_5 rfl (lv_at hl 0 rfl) ?_
  refine lv_iload_n hx hb dX10_beliefs_6 rfl (lv_at hl 1 rfl) ?_
  refine kc_v (As := [.int t1]) (rest := []) S0 (c_X10_findTrader_n l D tc s.heap.size ad ct_1 (nt := nt) h_2 ht) (cwV 1 hts gX10_beliefs_X10_findTrader rfl rfl rfl (by decide +kernel) ⟨Nat.le_of_ble_eq_true rfl, Nat.le_of_ble_eq_true rfl⟩) hK hw h_2 rfl rfl hl.1 rfl (Nat.le_of_ble_eq_true rfl) dX10_beliefs_7 ⟨Nat.le_of_ble_eq_true rfl, (Nat.le_of_ble_eq_true rfl)⟩ ?_
  refine lv_astoreN (lv' := [(5, .null), (0, .ref (ad 0)), (1, .int t1), (2, .int k1), (3, .int lane), (4, .int i1)]) hx hb dX10_beliefs_10 hl (by decide) rfl (fun ls hl => ?_)
  refine lv_aload_n hx hb dX10_beliefs_12 rfl (lv_at hl 1 rfl) ?_
  refine lv_iload_n hx hb dX10_beliefs_13 rfl (lv_at hl 3 rfl) ?_
  refine kc_v (As := [.int k1]) (rest := []) S0 (c_X10_findSheet_n l D tc s.heap.size ad ct_1 (nt := nt) h_2 hk) (cwV 1 hts gX10_beliefs_X10_findSheet rfl rfl rfl (by decide +kernel) ⟨Nat.le_of_ble_eq_true rfl, Nat.le_of_ble_eq_true rfl⟩) hK hw h_2 rfl rfl hl.1 rfl (Nat.le_of_ble_eq_true rfl) dX10_beliefs_14 ⟨Nat.le_of_ble_eq_true rfl, (Nat.le_of_ble_eq_true rfl)⟩ ?_
  refine lv_astoreN (lv' := [(6, .null), (5, .null), (0, .ref (ad 0)), (1, .int t1), (2, .int k1), (3, .int lane), (4, .int i1)]) hx hb dX10_beliefs_17 hl (by decide) rfl (fun ls hl => ?_)
  refine lv_aloadN hx hb dX10_beliefs_19 (lv_at hl 1 rfl) ?_
  refine lv_ifnullN (tgt := 29) hx hb dX10_beliefs_21 (by decide) ?_
  refine lv_iconst (v := (-1)) hx hb dX10_beliefs_29 (by decide) ?_
  have hq_4 := h_2
  have hend := kw_eq1 hq_4 hfr_3
  rw [hend] at hw
  exact W.iret hx hb hr (fun t ht _ => ⟨rfl, by rw [ht]; exact hw.1, hw.2.2.1, hw.2.1.F ht, by rw [ht]; exact hw.2.2.2⟩) hw.2.1.2.2 dX10_beliefs_30
set_option maxHeartbeats 4000000 in
set_option maxRecDepth 100000 in
theorem c_X10_beliefs_u2 (l : Launch) (D : va_G) (tc : Nat → ClassId) (sz : Nat) (ad : Nat → Nat) (ct : Nat → Option va_E) {nt k : Nat} {lf : Int32}   {qs : Nat → Option Nat}   {t1 lane i1 : Int32} (h0 : ct 0 = some (.inr (10, [.ref (ad 1), .ref (ad 3), .int (nI nt), .ref (ad 4), .ref (ad 9), .ref (ad 11), .ref (ad 12), .ref (ad 13), .int lf]))) (h11 : ct 11 = some (eQ tc 5 4 qs)) (ht : ¬ (0 ≤ t1 ∧ t1 < nI nt)) (hk4 : k < 4) (hqs : qs k = some (ad (20 + k))) : Met l yX10_beliefs wsX10_beliefs ({ frames := 3, cells := 0, slots := 0, locals := 84 }) (va_Pc [.ref (ad 0), .int t1, .int (nI k), .int lane, .int i1] (kw_B D tc sz ad ct)) (kw_Q D ad (kw_A ad ct sz) (some (.int (-1))) (kw_up ct 0 (.inr (10, [.ref (ad 1), .ref (ad 3), .int (nI nt), .ref (ad 4), .ref (ad 9), .ref (ad 11), .ref (ad 12), .ref (ad 13), .int 0]))) 0) 0 0 (kw_A ad ct sz) := by
  refine Met.ofW (cc := cX10_beliefs) (maxL := 8) (ret := (some .int)) (by decide) rfl ?_
  intro pg en s m args below meth cod s₁ B hml hv
  obtain ⟨rfl, hsz, hP0, hK⟩ := hv
  have hx := B.exec
  have hb := B.bytes
  have hr := B.returns
  have hts := atoms_spec (ws := wsX10_beliefs) B.pre
  have hown : s.vm.findClass RX10 = some m.cls := findClass_of_methodNamed B.named
  have hlocks := B.notSynchronized
  subst hsz
  have hw := kw_H.start hP0
  generalize hAe : kw_A ad ct s.heap.size = A at hw ⊢
  have hA : ∀ q, s.heap.size ≤ q → A q := fun q h => by rw [← hAe]; exact Or.inr h
  have hinX10 : ∀ w ∈ wsX100, w ∈ wsX10_beliefs := by decide +kernel
  have hl := lv_entry ([.ref (ad 0), .int t1, .int (nI k), .int lane, .int i1]) (n := 8) (Nat.le_of_ble_eq_true rfl)
  rw [lg_entry_eq]
  generalize (lg_sl ([.ref (ad 0), .int t1, .int (nI k), .int lane, .int i1]) ++ List.replicate (8 - (lg_sl ([.ref (ad 0), .int t1, .int (nI k), .int lane, .int i1])).length) Slot.unset).toArray = ls at hl ⊢
  have hl : lv_has ls 8 [(0, .ref (ad 0)), (1, .int t1), (2, .int (nI k)), (3, .int lane), (4, .int i1)] := hl
  have S0 : CallFix pg m cod cX10_beliefs 8 s _ wsX10_beliefs RX10 := ⟨hx, hb, hml, hown, hts⟩
  have hfr : ∀ j, j ≠ 0 → ct j = ct j := fun _ _ => rfl
  refine lv_aload_n hx hb dX10_beliefs_0 rfl (lv_at hl 0 rfl) ?_
  refine lv_iconst (v := 0) hx hb dX10_beliefs_1 (by decide) ?_
  refine kg_put (v := .int 0) (ty := .int) (C := RX10) (T := TX10) (N := 9) (fs' := [.ref (ad 1), .ref (ad 3), .int (nI nt), .ref (ad 4), .ref (ad 9), .ref (ad 11), .ref (ad 12), .ref (ad 13), .int 0]) hx hb hts hinX10 tyX10 tyX10_ok nmX10 hown hK hw h0 rfl 8 (by decide) (hts (.fieldLink RX10 179 "BetMaker" "latestFault" "I") (by decide +kernel)) (fun _ h9 => h9) rfl (by decide +kernel) rfl rfl (Nat.le_of_ble_eq_true rfl) rfl dX10_beliefs_2 (fun H locs hw => ?_)
  obtain ⟨ct_1, ect_1⟩ : ∃ z, z = kw_up ct 0 (.inr (10, [.ref (ad 1), .ref (ad 3), .int (nI nt), .ref (ad 4), .ref (ad 9), .ref (ad 11), .ref (ad 12), .ref (ad 13), .int 0])) := ⟨_, rfl⟩
  rw [← ect_1] at hw
  have h_2 : ct_1 11 = some (eQ tc 5 4 qs) := by rw [ect_1, kw_up_n (by omega)]; exact h11
  have h_3 : ct_1 0 = some (.inr (10, [.ref (ad 1), .ref (ad 3), .int (nI nt), .ref (ad 4), .ref (ad 9), .ref (ad 11), .ref (ad 12), .ref (ad 13), .int 0])) := by rw [ect_1]; exact kw_up_s
  have hfr_4 : ∀ j, j ≠ 0 → ct_1 j = ct j := fun j a0 => by rw [ect_1]; exact (kw_up_n a0).trans (hfr j a0)
  refine lv_aload_n hx hb dX10_beliefs_5 rfl (lv_at hl 0 rfl) ?_
  refine lv_iload_n hx hb dX10_beliefs_6 rfl (lv_at hl 1 rfl) ?_
  refine kc_v (As := [.int t1]) (rest := []) S0 (c_X10_findTrader_n l D tc s.heap.size ad ct_1 (nt := nt) h_3 ht) (cwV 1 hts gX10_beliefs_X10_findTrader rfl rfl rfl (by decide +kernel) ⟨Nat.le_of_ble_eq_true rfl, Nat.le_of_ble_eq_true rfl⟩) hK hw h_3 rfl rfl hl.1 rfl (Nat.le_of_ble_eq_true rfl) dX10_beliefs_7 ⟨Nat.le_of_ble_eq_true rfl, (Nat.le_of_ble_eq_true rfl)⟩ ?_
  refine lv_astoreN (lv' := [(5, .null), (0, .ref (ad 0)), (1, .int t1), (2, .int (nI k)), (3, .int lane), (4, .int i1)]) hx hb dX10_beliefs_10 hl (by decide) rfl (fun ls hl => ?_)
  refine lv_aload_n hx hb dX10_beliefs_12 rfl (lv_at hl 1 rfl) ?_
  refine lv_iload_n hx hb dX10_beliefs_13 rfl (lv_at hl 3 rfl) ?_
  refine kc_v (As := [.int (nI k)]) (rest := []) S0 (c_X10_findSheet l D tc s.heap.size ad ct_1 (k := k) (nt := nt) h_3 h_2 hk4 hqs) (cwV 1 hts gX10_beliefs_X10_findSheet rfl rfl rfl (by decide +kernel) ⟨Nat.le_of_ble_eq_true rfl, Nat.le_of_ble_eq_true rfl⟩) hK hw h_3 rfl rfl hl.1 rfl (Nat.le_of_ble_eq_true rfl) dX10_beliefs_14 ⟨Nat.le_of_ble_eq_true rfl, (Nat.le_of_ble_eq_true rfl)⟩ ?_
  refine lv_astore (lv' := [(6, .ref (ad (20 + k))), (5, .null), (0, .ref (ad 0)), (1, .int t1), (2, .int (nI k)), (3, .int lane), (4, .int i1)]) hx hb dX10_beliefs_17 hl (by decide) rfl (fun ls hl => ?_)
  refine lv_aloadN hx hb dX10_beliefs_19 (lv_at hl 1 rfl) ?_
  refine lv_ifnullN (tgt := 29) hx hb dX10_beliefs_21 (by decide) ?_
  refine lv_iconst (v := (-1)) hx hb dX10_beliefs_29 (by decide) ?_
  have hq_5 := h_3
  have hend := kw_eq1 hq_5 hfr_4
  rw [hend] at hw
  exact W.iret hx hb hr (fun t ht _ => ⟨rfl, by rw [ht]; exact hw.1, hw.2.2.1, hw.2.1.F ht, by rw [ht]; exact hw.2.2.2⟩) hw.2.1.2.2 dX10_beliefs_30
set_option maxHeartbeats 4000000 in
set_option maxRecDepth 100000 in
theorem c_X10_beliefs_u3 (l : Launch) (D : va_G) (tc : Nat → ClassId) (sz : Nat) (ad : Nat → Nat) (ct : Nat → Option va_E) {nt t : Nat} {lf : Int32}   {qt : Nat → Option Nat}   {k1 lane i1 : Int32} (h0 : ct 0 = some (.inr (10, [.ref (ad 1), .ref (ad 3), .int (nI nt), .ref (ad 4), .ref (ad 9), .ref (ad 11), .ref (ad 12), .ref (ad 13), .int lf]))) (h3 : ct 3 = some (eQ tc 4 6 qt)) (ht : t < nt) (hnt : nt ≤ 6) (hqt : qt t = some (ad (30 + t))) (hk : ¬ (0 ≤ k1 ∧ k1 < 4)) : Met l yX10_beliefs wsX10_beliefs ({ frames := 3, cells := 0, slots := 0, locals := 84 }) (va_Pc [.ref (ad 0), .int (nI t), .int k1, .int lane, .int i1] (kw_B D tc sz ad ct)) (kw_Q D ad (kw_A ad ct sz) (some (.int (-1))) (kw_up ct 0 (.inr (10, [.ref (ad 1), .ref (ad 3), .int (nI nt), .ref (ad 4), .ref (ad 9), .ref (ad 11), .ref (ad 12), .ref (ad 13), .int 0]))) 0) 0 0 (kw_A ad ct sz) := by
  refine Met.ofW (cc := cX10_beliefs) (maxL := 8) (ret := (some .int)) (by decide) rfl ?_
  intro pg en s m args below meth cod s₁ B hml hv
  obtain ⟨rfl, hsz, hP0, hK⟩ := hv
  have hx := B.exec
  have hb := B.bytes
  have hr := B.returns
  have hts := atoms_spec (ws := wsX10_beliefs) B.pre
  have hown : s.vm.findClass RX10 = some m.cls := findClass_of_methodNamed B.named
  have hlocks := B.notSynchronized
  subst hsz
  have hw := kw_H.start hP0
  generalize hAe : kw_A ad ct s.heap.size = A at hw ⊢
  have hA : ∀ q, s.heap.size ≤ q → A q := fun q h => by rw [← hAe]; exact Or.inr h
  have hinX10 : ∀ w ∈ wsX100, w ∈ wsX10_beliefs := by decide +kernel
  have hl := lv_entry ([.ref (ad 0), .int (nI t), .int k1, .int lane, .int i1]) (n := 8) (Nat.le_of_ble_eq_true rfl)
  rw [lg_entry_eq]
  generalize (lg_sl ([.ref (ad 0), .int (nI t), .int k1, .int lane, .int i1]) ++ List.replicate (8 - (lg_sl ([.ref (ad 0), .int (nI t), .int k1, .int lane, .int i1])).length) Slot.unset).toArray = ls at hl ⊢
  have hl : lv_has ls 8 [(0, .ref (ad 0)), (1, .int (nI t)), (2, .int k1), (3, .int lane), (4, .int i1)] := hl
  have S0 : CallFix pg m cod cX10_beliefs 8 s _ wsX10_beliefs RX10 := ⟨hx, hb, hml, hown, hts⟩
  have hfr : ∀ j, j ≠ 0 → ct j = ct j := fun _ _ => rfl
  refine lv_aload_n hx hb dX10_beliefs_0 rfl (lv_at hl 0 rfl) ?_
  refine lv_iconst (v := 0) hx hb dX10_beliefs_1 (by decide) ?_
  refine kg_put (v := .int 0) (ty := .int) (C := RX10) (T := TX10) (N := 9) (fs' := [.ref (ad 1), .ref (ad 3), .int (nI nt), .ref (ad 4), .ref (ad 9), .ref (ad 11), .ref (ad 12), .ref (ad 13), .int 0]) hx hb hts hinX10 tyX10 tyX10_ok nmX10 hown hK hw h0 rfl 8 (by decide) (hts (.fieldLink RX10 179 "BetMaker" "latestFault" "I") (by decide +kernel)) (fun _ h9 => h9) rfl (by decide +kernel) rfl rfl (Nat.le_of_ble_eq_true rfl) rfl dX10_beliefs_2 (fun H locs hw => ?_)
  obtain ⟨ct_1, ect_1⟩ : ∃ z, z = kw_up ct 0 (.inr (10, [.ref (ad 1), .ref (ad 3), .int (nI nt), .ref (ad 4), .ref (ad 9), .ref (ad 11), .ref (ad 12), .ref (ad 13), .int 0])) := ⟨_, rfl⟩
  rw [← ect_1] at hw
  have h_2 : ct_1 3 = some (eQ tc 4 6 qt) := by rw [ect_1, kw_up_n (by omega)]; exact h3
  have h_3 : ct_1 0 = some (.inr (10, [.ref (ad 1), .ref (ad 3), .int (nI nt), .ref (ad 4), .ref (ad 9), .ref (ad 11), .ref (ad 12), .ref (ad 13), .int 0])) := by rw [ect_1]; exact kw_up_s
  have hfr_4 : ∀ j, j ≠ 0 → ct_1 j = ct j := fun j a0 => by rw [ect_1]; exact (kw_up_n a0).trans (hfr j a0)
  refine lv_aload_n hx hb dX10_beliefs_5 rfl (lv_at hl 0 rfl) ?_
  refine lv_iload_n hx hb dX10_beliefs_6 rfl (lv_at hl 1 rfl) ?_
  refine kc_v (As := [.int (nI t)]) (rest := []) S0 (c_X10_findTrader l D tc s.heap.size ad ct_1 (t := t) (nt := nt) h_3 h_2 (by omega) (by omega) hqt) (cwV 1 hts gX10_beliefs_X10_findTrader rfl rfl rfl (by decide +kernel) ⟨Nat.le_of_ble_eq_true rfl, Nat.le_of_ble_eq_true rfl⟩) hK hw h_3 rfl rfl hl.1 rfl (Nat.le_of_ble_eq_true rfl) dX10_beliefs_7 ⟨Nat.le_of_ble_eq_true rfl, (Nat.le_of_ble_eq_true rfl)⟩ ?_
  refine lv_astore (lv' := [(5, .ref (ad (30 + t))), (0, .ref (ad 0)), (1, .int (nI t)), (2, .int k1), (3, .int lane), (4, .int i1)]) hx hb dX10_beliefs_10 hl (by decide) rfl (fun ls hl => ?_)
  refine lv_aload_n hx hb dX10_beliefs_12 rfl (lv_at hl 1 rfl) ?_
  refine lv_iload_n hx hb dX10_beliefs_13 rfl (lv_at hl 3 rfl) ?_
  refine kc_v (As := [.int k1]) (rest := []) S0 (c_X10_findSheet_n l D tc s.heap.size ad ct_1 (nt := nt) h_3 hk) (cwV 1 hts gX10_beliefs_X10_findSheet rfl rfl rfl (by decide +kernel) ⟨Nat.le_of_ble_eq_true rfl, Nat.le_of_ble_eq_true rfl⟩) hK hw h_3 rfl rfl hl.1 rfl (Nat.le_of_ble_eq_true rfl) dX10_beliefs_14 ⟨Nat.le_of_ble_eq_true rfl, (Nat.le_of_ble_eq_true rfl)⟩ ?_
  refine lv_astoreN (lv' := [(6, .null), (5, .ref (ad (30 + t))), (0, .ref (ad 0)), (1, .int (nI t)), (2, .int k1), (3, .int lane), (4, .int i1)]) hx hb dX10_beliefs_17 hl (by decide) rfl (fun ls hl => ?_)
  refine lv_aload hx hb dX10_beliefs_19 (lv_at hl 1 rfl) ?_
  refine lv_ifnull hx hb dX10_beliefs_21 ?_
  refine lv_aloadN hx hb dX10_beliefs_24 (lv_at hl 0 rfl) ?_
  refine lv_ifnonnullN hx hb dX10_beliefs_26 ?_
  refine lv_iconst (v := (-1)) hx hb dX10_beliefs_29 (by decide) ?_
  have hq_5 := h_3
  have hend := kw_eq1 hq_5 hfr_4
  rw [hend] at hw
  exact W.iret hx hb hr (fun t ht _ => ⟨rfl, by rw [ht]; exact hw.1, hw.2.2.1, hw.2.1.F ht, by rw [ht]; exact hw.2.2.2⟩) hw.2.1.2.2 dX10_beliefs_30
set_option maxHeartbeats 4000000 in
set_option maxRecDepth 100000 in
theorem c_X10_beliefs_o (l : Launch) (D : va_G) (tc : Nat → ClassId) (sz : Nat) (ad : Nat → Nat) (ct : Nat → Option va_E) {nt t k : Nat} {lf : Int32}   {qt qs : Nat → Option Nat}   {lane i1 : Int32} (h0 : ct 0 = some (.inr (10, [.ref (ad 1), .ref (ad 3), .int (nI nt), .ref (ad 4), .ref (ad 9), .ref (ad 11), .ref (ad 12), .ref (ad 13), .int lf]))) (h3 : ct 3 = some (eQ tc 4 6 qt)) (h11 : ct 11 = some (eQ tc 5 4 qs)) (ht : t < nt) (hnt : nt ≤ 6) (hqt : qt t = some (ad (30 + t))) (hk4 : k < 4) (hqs : qs k = some (ad (20 + k))) (hL : ¬ (0 ≤ lane ∧ lane ≤ 2)) : Met l yX10_beliefs wsX10_beliefs ({ frames := 3, cells := 0, slots := 0, locals := 84 }) (va_Pc [.ref (ad 0), .int (nI t), .int (nI k), .int lane, .int i1] (kw_B D tc sz ad ct)) (kw_Q D ad (kw_A ad ct sz) (some (.int (-2))) (kw_up ct 0 (.inr (10, [.ref (ad 1), .ref (ad 3), .int (nI nt), .ref (ad 4), .ref (ad 9), .ref (ad 11), .ref (ad 12), .ref (ad 13), .int 0]))) 0) 0 0 (kw_A ad ct sz) := by
  refine Met.ofW (cc := cX10_beliefs) (maxL := 8) (ret := (some .int)) (by decide) rfl ?_
  intro pg en s m args below meth cod s₁ B hml hv
  obtain ⟨rfl, hsz, hP0, hK⟩ := hv
  have hx := B.exec
  have hb := B.bytes
  have hr := B.returns
  have hts := atoms_spec (ws := wsX10_beliefs) B.pre
  have hown : s.vm.findClass RX10 = some m.cls := findClass_of_methodNamed B.named
  have hlocks := B.notSynchronized
  subst hsz
  have hw := kw_H.start hP0
  generalize hAe : kw_A ad ct s.heap.size = A at hw ⊢
  have hA : ∀ q, s.heap.size ≤ q → A q := fun q h => by rw [← hAe]; exact Or.inr h
  have hinX10 : ∀ w ∈ wsX100, w ∈ wsX10_beliefs := by decide +kernel
  have hl := lv_entry ([.ref (ad 0), .int (nI t), .int (nI k), .int lane, .int i1]) (n := 8) (Nat.le_of_ble_eq_true rfl)
  rw [lg_entry_eq]
  generalize (lg_sl ([.ref (ad 0), .int (nI t), .int (nI k), .int lane, .int i1]) ++ List.replicate (8 - (lg_sl ([.ref (ad 0), .int (nI t), .int (nI k), .int lane, .int i1])).length) Slot.unset).toArray = ls at hl ⊢
  have hl : lv_has ls 8 [(0, .ref (ad 0)), (1, .int (nI t)), (2, .int (nI k)), (3, .int lane), (4, .int i1)] := hl
  have S0 : CallFix pg m cod cX10_beliefs 8 s _ wsX10_beliefs RX10 := ⟨hx, hb, hml, hown, hts⟩
  have hfr : ∀ j, j ≠ 0 → ct j = ct j := fun _ _ => rfl
  refine lv_aload_n hx hb dX10_beliefs_0 rfl (lv_at hl 0 rfl) ?_
  refine lv_iconst (v := 0) hx hb dX10_beliefs_1 (by decide) ?_
  refine kg_put (v := .int 0) (ty := .int) (C := RX10) (T := TX10) (N := 9) (fs' := [.ref (ad 1), .ref (ad 3), .int (nI nt), .ref (ad 4), .ref (ad 9), .ref (ad 11), .ref (ad 12), .ref (ad 13), .int 0]) hx hb hts hinX10 tyX10 tyX10_ok nmX10 hown hK hw h0 rfl 8 (by decide) (hts (.fieldLink RX10 179 "BetMaker" "latestFault" "I") (by decide +kernel)) (fun _ h9 => h9) rfl (by decide +kernel) rfl rfl (Nat.le_of_ble_eq_true rfl) rfl dX10_beliefs_2 (fun H locs hw => ?_)
  obtain ⟨ct_1, ect_1⟩ : ∃ z, z = kw_up ct 0 (.inr (10, [.ref (ad 1), .ref (ad 3), .int (nI nt), .ref (ad 4), .ref (ad 9), .ref (ad 11), .ref (ad 12), .ref (ad 13), .int 0])) := ⟨_, rfl⟩
  rw [← ect_1] at hw
  have h_2 : ct_1 3 = some (eQ tc 4 6 qt) := by rw [ect_1, kw_up_n (by omega)]; exact h3
  have h_3 : ct_1 11 = some (eQ tc 5 4 qs) := by rw [ect_1, kw_up_n (by omega)]; exact h11
  have h_4 : ct_1 0 = some (.inr (10, [.ref (ad 1), .ref (ad 3), .int (nI nt), .ref (ad 4), .ref (ad 9), .ref (ad 11), .ref (ad 12), .ref (ad 13), .int 0])) := by rw [ect_1]; exact kw_up_s
  have hfr_5 : ∀ j, j ≠ 0 → ct_1 j = ct j := fun j a0 => by rw [ect_1]; exact (kw_up_n a0).trans (hfr j a0)
  refine lv_aload_n hx hb dX10_beliefs_5 rfl (lv_at hl 0 rfl) ?_
  refine lv_iload_n hx hb dX10_beliefs_6 rfl (lv_at hl 1 rfl) ?_
  refine kc_v (As := [.int (nI t)]) (rest := []) S0 (c_X10_findTrader l D tc s.heap.size ad ct_1 (t := t) (nt := nt) h_4 h_2 (by omega) (by omega) hqt) (cwV 1 hts gX10_beliefs_X10_findTrader rfl rfl rfl (by decide +kernel) ⟨Nat.le_of_ble_eq_true rfl, Nat.le_of_ble_eq_true rfl⟩) hK hw h_4 rfl rfl hl.1 rfl (Nat.le_of_ble_eq_true rfl) dX10_beliefs_7 ⟨Nat.le_of_ble_eq_true rfl, (Nat.le_of_ble_eq_true rfl)⟩ ?_
  refine lv_astore (lv' := [(5, .ref (ad (30 + t))), (0, .ref (ad 0)), (1, .int (nI t)), (2, .int (nI k)), (3, .int lane), (4, .int i1)]) hx hb dX10_beliefs_10 hl (by decide) rfl (fun ls hl => ?_)
  refine lv_aload_n hx hb dX10_beliefs_12 rfl (lv_at hl 1 rfl) ?_
  refine lv_iload_n hx hb dX10_beliefs_13 rfl (lv_at hl 3 rfl) ?_
  refine kc_v (As := [.int (nI k)]) (rest := []) S0 (c_X10_findSheet l D tc s.heap.size ad ct_1 (k := k) (nt := nt) h_4 h_3 hk4 hqs) (cwV 1 hts gX10_beliefs_X10_findSheet rfl rfl rfl (by decide +kernel) ⟨Nat.le_of_ble_eq_true rfl, Nat.le_of_ble_eq_true rfl⟩) hK hw h_4 rfl rfl hl.1 rfl (Nat.le_of_ble_eq_true rfl) dX10_beliefs_14 ⟨Nat.le_of_ble_eq_true rfl, (Nat.le_of_ble_eq_true rfl)⟩ ?_
  refine lv_astore (lv' := [(6, .ref (ad (20 + k))), (5, .ref (ad (30 + t))), (0, .ref (ad 0)), (1, .int (nI t)), (2, .int (nI k)), (3, .int lane), (4, .int i1)]) hx hb dX10_beliefs_17 hl (by decide) rfl (fun ls hl => ?_)
  refine lv_aload hx hb dX10_beliefs_19 (lv_at hl 1 rfl) ?_
  refine lv_ifnull hx hb dX10_beliefs_21 ?_
  refine lv_aload hx hb dX10_beliefs_24 (lv_at hl 0 rfl) ?_
  refine lv_ifnonnull (tgt := 31) hx hb dX10_beliefs_26 (by decide) ?_
  refine lv_aload_n hx hb dX10_beliefs_31 rfl (lv_at hl 2 rfl) ?_
  refine lv_aload hx hb dX10_beliefs_32 (lv_at hl 0 rfl) ?_
  refine lv_iload_n hx hb dX10_beliefs_34 rfl (lv_at hl 5 rfl) ?_
  refine lv_iload hx hb dX10_beliefs_35 (lv_at hl 6 rfl) ?_
  refine kc_v (As := [.ref (ad (20 + k)), .int lane, .int i1]) (rest := []) S0 (c_X10_takeWeights_o l D tc s.heap.size ad ct_1 (k := k) hL) (cwV 3 hts gX10_beliefs_X10_takeWeights rfl rfl rfl (by decide +kernel) ⟨Nat.le_of_ble_eq_true rfl, Nat.le_of_ble_eq_true rfl⟩) hK hw h_4 rfl rfl hl.1 rfl (Nat.le_of_ble_eq_true rfl) dX10_beliefs_37 ⟨Nat.le_of_ble_eq_true rfl, (Nat.le_of_ble_eq_true rfl)⟩ ?_
  refine lv_istore (lv' := [(7, .int (-2)), (6, .ref (ad (20 + k))), (5, .ref (ad (30 + t))), (0, .ref (ad 0)), (1, .int (nI t)), (2, .int (nI k)), (3, .int lane), (4, .int i1)]) hx hb dX10_beliefs_40 hl (by decide) rfl (fun ls hl => ?_)
  refine lv_iload hx hb dX10_beliefs_42 (lv_at hl 0 rfl) ?_
  refine lv_if_le (tgt := 56) hx hb dX10_beliefs_44 (by decide) (fun c_6 => ?_) (fun c_6 => ?_)
  · refine lv_iload hx hb dX10_beliefs_56 (lv_at hl 0 rfl) ?_
    have hq_7 := h_4
    have hend := kw_eq1 hq_7 hfr_5
    rw [hend] at hw
    exact W.iret hx hb hr (fun t ht _ => ⟨rfl, by rw [ht]; exact hw.1, hw.2.2.1, hw.2.1.F ht, by rw [ht]; exact hw.2.2.2⟩) hw.2.1.2.2 dX10_beliefs_58
  · exact absurd c_6 (by decide)
set_option maxHeartbeats 4000000 in
set_option maxRecDepth 100000 in
theorem c_X10_beliefs_f (l : Launch) (D : va_G) (tc : Nat → ClassId) (sz : Nat) (ad : Nat → Nat) (ct : Nat → Option va_E) {N nt n t k : Nat} {b cm lf ln : Int32} {ss g : Int64}  {qt qs : Nat → Option Nat}  {th : Bool} {lane i1 : Int32} (h0 : ct 0 = some (.inr (10, [.ref (ad 1), .ref (ad 3), .int (nI nt), .ref (ad 4), .ref (ad 9), .ref (ad 11), .ref (ad 12), .ref (ad 13), .int lf]))) (h1 : ct 1 = some (.inr (3, [.ref (ad 2), .int (nI N), .int b, .long ss, .long g, .int cm]))) (h3 : ct 3 = some (eQ tc 4 6 qt)) (h11 : ct 11 = some (eQ tc 5 4 qs)) (h20 : ct (20 + k) = some (.inr (6, [.ref (ad (24 + k)), .int (kb (th = true)), .int ln, .int (nI n)]))) (ht : t < nt) (hnt : nt ≤ 6) (hqt : qt t = some (ad (30 + t))) (hk4 : k < 4) (hqs : qs k = some (ad (20 + k))) (hL : 0 ≤ lane ∧ lane ≤ 2) (hdf : ¬ (kDF th ln lane i1 n (nI N) = 0)) (hle : (-10) - kDF th ln lane i1 n (nI N) ≤ 0) : Met l yX10_beliefs wsX10_beliefs ({ frames := 3, cells := 0, slots := 0, locals := 84 }) (va_Pc [.ref (ad 0), .int (nI t), .int (nI k), .int lane, .int i1] (kw_B D tc sz ad ct)) (kw_Q D ad (kw_A ad ct sz) (some (.int ((-10) - kDF th ln lane i1 n (nI N)))) (kw_up ct 0 (.inr (10, [.ref (ad 1), .ref (ad 3), .int (nI nt), .ref (ad 4), .ref (ad 9), .ref (ad 11), .ref (ad 12), .ref (ad 13), .int (kDF th ln lane i1 n (nI N))]))) 0) 0 0 (kw_A ad ct sz) := by
  refine Met.ofW (cc := cX10_beliefs) (maxL := 8) (ret := (some .int)) (by decide) rfl ?_
  intro pg en s m args below meth cod s₁ B hml hv
  obtain ⟨rfl, hsz, hP0, hK⟩ := hv
  have hx := B.exec
  have hb := B.bytes
  have hr := B.returns
  have hts := atoms_spec (ws := wsX10_beliefs) B.pre
  have hown : s.vm.findClass RX10 = some m.cls := findClass_of_methodNamed B.named
  have hlocks := B.notSynchronized
  subst hsz
  have hw := kw_H.start hP0
  generalize hAe : kw_A ad ct s.heap.size = A at hw ⊢
  have hA : ∀ q, s.heap.size ≤ q → A q := fun q h => by rw [← hAe]; exact Or.inr h
  have hinX10 : ∀ w ∈ wsX100, w ∈ wsX10_beliefs := by decide +kernel
  have hl := lv_entry ([.ref (ad 0), .int (nI t), .int (nI k), .int lane, .int i1]) (n := 8) (Nat.le_of_ble_eq_true rfl)
  rw [lg_entry_eq]
  generalize (lg_sl ([.ref (ad 0), .int (nI t), .int (nI k), .int lane, .int i1]) ++ List.replicate (8 - (lg_sl ([.ref (ad 0), .int (nI t), .int (nI k), .int lane, .int i1])).length) Slot.unset).toArray = ls at hl ⊢
  have hl : lv_has ls 8 [(0, .ref (ad 0)), (1, .int (nI t)), (2, .int (nI k)), (3, .int lane), (4, .int i1)] := hl
  have S0 : CallFix pg m cod cX10_beliefs 8 s _ wsX10_beliefs RX10 := ⟨hx, hb, hml, hown, hts⟩
  have hfr : ∀ j, j ≠ 0 → ct j = ct j := fun _ _ => rfl
  refine lv_aload_n hx hb dX10_beliefs_0 rfl (lv_at hl 0 rfl) ?_
  refine lv_iconst (v := 0) hx hb dX10_beliefs_1 (by decide) ?_
  refine kg_put (v := .int 0) (ty := .int) (C := RX10) (T := TX10) (N := 9) (fs' := [.ref (ad 1), .ref (ad 3), .int (nI nt), .ref (ad 4), .ref (ad 9), .ref (ad 11), .ref (ad 12), .ref (ad 13), .int 0]) hx hb hts hinX10 tyX10 tyX10_ok nmX10 hown hK hw h0 rfl 8 (by decide) (hts (.fieldLink RX10 179 "BetMaker" "latestFault" "I") (by decide +kernel)) (fun _ h9 => h9) rfl (by decide +kernel) rfl rfl (Nat.le_of_ble_eq_true rfl) rfl dX10_beliefs_2 (fun H locs hw => ?_)
  obtain ⟨ct_1, ect_1⟩ : ∃ z, z = kw_up ct 0 (.inr (10, [.ref (ad 1), .ref (ad 3), .int (nI nt), .ref (ad 4), .ref (ad 9), .ref (ad 11), .ref (ad 12), .ref (ad 13), .int 0])) := ⟨_, rfl⟩
  rw [← ect_1] at hw
  have h_2 : ct_1 1 = some (.inr (3, [.ref (ad 2), .int (nI N), .int b, .long ss, .long g, .int cm])) := by rw [ect_1, kw_up_n (by omega)]; exact h1
  have h_3 : ct_1 3 = some (eQ tc 4 6 qt) := by rw [ect_1, kw_up_n (by omega)]; exact h3
  have h_4 : ct_1 11 = some (eQ tc 5 4 qs) := by rw [ect_1, kw_up_n (by omega)]; exact h11
  have h_5 : ct_1 (20 + k) = some (.inr (6, [.ref (ad (24 + k)), .int (kb (th = true)), .int ln, .int (nI n)])) := by rw [ect_1, kw_up_n (by omega)]; exact h20
  have h_6 : ct_1 0 = some (.inr (10, [.ref (ad 1), .ref (ad 3), .int (nI nt), .ref (ad 4), .ref (ad 9), .ref (ad 11), .ref (ad 12), .ref (ad 13), .int 0])) := by rw [ect_1]; exact kw_up_s
  have hfr_7 : ∀ j, j ≠ 0 → ct_1 j = ct j := fun j a0 => by rw [ect_1]; exact (kw_up_n a0).trans (hfr j a0)
  refine lv_aload_n hx hb dX10_beliefs_5 rfl (lv_at hl 0 rfl) ?_
  refine lv_iload_n hx hb dX10_beliefs_6 rfl (lv_at hl 1 rfl) ?_
  refine kc_v (As := [.int (nI t)]) (rest := []) S0 (c_X10_findTrader l D tc s.heap.size ad ct_1 (t := t) (nt := nt) h_6 h_3 (by omega) (by omega) hqt) (cwV 1 hts gX10_beliefs_X10_findTrader rfl rfl rfl (by decide +kernel) ⟨Nat.le_of_ble_eq_true rfl, Nat.le_of_ble_eq_true rfl⟩) hK hw h_6 rfl rfl hl.1 rfl (Nat.le_of_ble_eq_true rfl) dX10_beliefs_7 ⟨Nat.le_of_ble_eq_true rfl, (Nat.le_of_ble_eq_true rfl)⟩ ?_
  refine lv_astore (lv' := [(5, .ref (ad (30 + t))), (0, .ref (ad 0)), (1, .int (nI t)), (2, .int (nI k)), (3, .int lane), (4, .int i1)]) hx hb dX10_beliefs_10 hl (by decide) rfl (fun ls hl => ?_)
  refine lv_aload_n hx hb dX10_beliefs_12 rfl (lv_at hl 1 rfl) ?_
  refine lv_iload_n hx hb dX10_beliefs_13 rfl (lv_at hl 3 rfl) ?_
  refine kc_v (As := [.int (nI k)]) (rest := []) S0 (c_X10_findSheet l D tc s.heap.size ad ct_1 (k := k) (nt := nt) h_6 h_4 hk4 hqs) (cwV 1 hts gX10_beliefs_X10_findSheet rfl rfl rfl (by decide +kernel) ⟨Nat.le_of_ble_eq_true rfl, Nat.le_of_ble_eq_true rfl⟩) hK hw h_6 rfl rfl hl.1 rfl (Nat.le_of_ble_eq_true rfl) dX10_beliefs_14 ⟨Nat.le_of_ble_eq_true rfl, (Nat.le_of_ble_eq_true rfl)⟩ ?_
  refine lv_astore (lv' := [(6, .ref (ad (20 + k))), (5, .ref (ad (30 + t))), (0, .ref (ad 0)), (1, .int (nI t)), (2, .int (nI k)), (3, .int lane), (4, .int i1)]) hx hb dX10_beliefs_17 hl (by decide) rfl (fun ls hl => ?_)
  refine lv_aload hx hb dX10_beliefs_19 (lv_at hl 1 rfl) ?_
  refine lv_ifnull hx hb dX10_beliefs_21 ?_
  refine lv_aload hx hb dX10_beliefs_24 (lv_at hl 0 rfl) ?_
  refine lv_ifnonnull (tgt := 31) hx hb dX10_beliefs_26 (by decide) ?_
  refine lv_aload_n hx hb dX10_beliefs_31 rfl (lv_at hl 2 rfl) ?_
  refine lv_aload hx hb dX10_beliefs_32 (lv_at hl 0 rfl) ?_
  refine lv_iload_n hx hb dX10_beliefs_34 rfl (lv_at hl 5 rfl) ?_
  refine lv_iload hx hb dX10_beliefs_35 (lv_at hl 6 rfl) ?_
  refine kc_vu (As := [.ref (ad (20 + k)), .int lane, .int i1]) (rest := []) S0 (c_X10_takeWeights_f l D tc s.heap.size ad ct_1 (k := k) (nt := nt) (N := N) (n := n) h_6 h_2 h_5 hL hdf) (cwV 3 hts gX10_beliefs_X10_takeWeights rfl rfl rfl (by decide +kernel) ⟨Nat.le_of_ble_eq_true rfl, Nat.le_of_ble_eq_true rfl⟩) hK hw hA h_6 rfl rfl hl.1 rfl (Nat.le_of_ble_eq_true rfl) dX10_beliefs_37 ⟨Nat.le_of_ble_eq_true rfl, (Nat.le_of_ble_eq_true rfl)⟩ (fun H locs hw => ?_)
  obtain ⟨ct_8, ect_8⟩ : ∃ z, z = kw_up ct_1 0 (.inr (10, [.ref (ad 1), .ref (ad 3), .int (nI nt), .ref (ad 4), .ref (ad 9), .ref (ad 11), .ref (ad 12), .ref (ad 13), .int (kDF th ln lane i1 n (nI N))])) := ⟨_, rfl⟩
  rw [← ect_8] at hw
  have h_9 : ct_8 1 = some (.inr (3, [.ref (ad 2), .int (nI N), .int b, .long ss, .long g, .int cm])) := by rw [ect_8, kw_up_n (by omega)]; exact h_2
  have h_10 : ct_8 3 = some (eQ tc 4 6 qt) := by rw [ect_8, kw_up_n (by omega)]; exact h_3
  have h_11 : ct_8 11 = some (eQ tc 5 4 qs) := by rw [ect_8, kw_up_n (by omega)]; exact h_4
  have h_12 : ct_8 (20 + k) = some (.inr (6, [.ref (ad (24 + k)), .int (kb (th = true)), .int ln, .int (nI n)])) := by rw [ect_8, kw_up_n (by omega)]; exact h_5
  have h_13 : ct_8 0 = some (.inr (10, [.ref (ad 1), .ref (ad 3), .int (nI nt), .ref (ad 4), .ref (ad 9), .ref (ad 11), .ref (ad 12), .ref (ad 13), .int (kDF th ln lane i1 n (nI N))])) := by rw [ect_8]; exact kw_up_s
  have hfr_14 : ∀ j, j ≠ 0 → ct_8 j = ct j := fun j a0 => by rw [ect_8]; exact (kw_up_n a0).trans (hfr_7 j a0)
  refine lv_istore (lv' := [(7, .int ((-10) - kDF th ln lane i1 n (nI N))), (6, .ref (ad (20 + k))), (5, .ref (ad (30 + t))), (0, .ref (ad 0)), (1, .int (nI t)), (2, .int (nI k)), (3, .int lane), (4, .int i1)]) hx hb dX10_beliefs_40 hl (by decide) rfl (fun ls hl => ?_)
  refine lv_iload hx hb dX10_beliefs_42 (lv_at hl 0 rfl) ?_
  refine lv_if_le (tgt := 56) hx hb dX10_beliefs_44 (by decide) (fun c_15 => ?_) (fun c_15 => ?_)
  · refine lv_iload hx hb dX10_beliefs_56 (lv_at hl 0 rfl) ?_
    have hq_16 := h_13
    have hend := kw_eq1 hq_16 hfr_14
    rw [hend] at hw
    exact W.iret hx hb hr (fun t ht _ => ⟨rfl, by rw [ht]; exact hw.1, hw.2.2.1, hw.2.1.F ht, by rw [ht]; exact hw.2.2.2⟩) hw.2.1.2.2 dX10_beliefs_58
  · exact absurd hle c_15
set_option maxHeartbeats 4000000 in
set_option maxRecDepth 100000 in
theorem c_X10_beliefs_v (l : Launch) (D : va_G) (tc : Nat → ClassId) (sz : Nat) (ad : Nat → Nat) (ct : Nat → Option va_E) {N nt n t k i : Nat} {b cm lf ln : Int32} {ss g : Int64}  {qt qs : Nat → Option Nat} {tk sc : Nat → Int32} {th : Bool} {lane : Int32} (h0 : ct 0 = some (.inr (10, [.ref (ad 1), .ref (ad 3), .int (nI nt), .ref (ad 4), .ref (ad 9), .ref (ad 11), .ref (ad 12), .ref (ad 13), .int lf]))) (h1 : ct 1 = some (.inr (3, [.ref (ad 2), .int (nI N), .int b, .long ss, .long g, .int cm]))) (h3 : ct 3 = some (eQ tc 4 6 qt)) (h11 : ct 11 = some (eQ tc 5 4 qs)) (h13 : ct 13 = some (eI tc 8 tk)) (h20 : ct (20 + k) = some (.inr (6, [.ref (ad (24 + k)), .int (kb (th = true)), .int ln, .int (nI n)]))) (h24 : ct (24 + k) = some (eI tc 24 sc)) (ht : t < nt) (hnt : nt ≤ 6) (hqt : qt t = some (ad (30 + t))) (hk4 : k < 4) (hqs : qs k = some (ad (20 + k))) (hL : 0 ≤ lane ∧ lane ≤ 2) (hdf : kDF th ln lane (nI i) n (nI N) = 0) (hiN : i + N ≤ n) (hn24 : n ≤ 24) (hN : N ≤ 8) (hbad : ¬ (kall (kWc (fun z => sc (i + z))) N = true ∧ ¬ sw (fun z => sc (i + z)) N = 0)) : Met l yX10_beliefs wsX10_beliefs ({ frames := 3, cells := 0, slots := 0, locals := 84 }) (va_Pc [.ref (ad 0), .int (nI t), .int (nI k), .int lane, .int (nI i)] (kw_B D tc sz ad ct)) (kw_Q D ad (kw_A ad ct sz) (some (.int (-2))) (kw_up (kw_up ct 0 (.inr (10, [.ref (ad 1), .ref (ad 3), .int (nI nt), .ref (ad 4), .ref (ad 9), .ref (ad 11), .ref (ad 12), .ref (ad 13), .int 0]))) 13 (eI tc 8 (kCp tk (fun z => sc (i + z)) (kfs (kWc (fun z => sc (i + z))) N)))) 0) 0 0 (kw_A ad ct sz) := by
  refine Met.ofW (cc := cX10_beliefs) (maxL := 8) (ret := (some .int)) (by decide) rfl ?_
  intro pg en s m args below meth cod s₁ B hml hv
  obtain ⟨rfl, hsz, hP0, hK⟩ := hv
  have hx := B.exec
  have hb := B.bytes
  have hr := B.returns
  have hts := atoms_spec (ws := wsX10_beliefs) B.pre
  have hown : s.vm.findClass RX10 = some m.cls := findClass_of_methodNamed B.named
  have hlocks := B.notSynchronized
  subst hsz
  have hw := kw_H.start hP0
  generalize hAe : kw_A ad ct s.heap.size = A at hw ⊢
  have hA : ∀ q, s.heap.size ≤ q → A q := fun q h => by rw [← hAe]; exact Or.inr h
  have hinX10 : ∀ w ∈ wsX100, w ∈ wsX10_beliefs := by decide +kernel
  have hl := lv_entry ([.ref (ad 0), .int (nI t), .int (nI k), .int lane, .int (nI i)]) (n := 8) (Nat.le_of_ble_eq_true rfl)
  rw [lg_entry_eq]
  generalize (lg_sl ([.ref (ad 0), .int (nI t), .int (nI k), .int lane, .int (nI i)]) ++ List.replicate (8 - (lg_sl ([.ref (ad 0), .int (nI t), .int (nI k), .int lane, .int (nI i)])).length) Slot.unset).toArray = ls at hl ⊢
  have hl : lv_has ls 8 [(0, .ref (ad 0)), (1, .int (nI t)), (2, .int (nI k)), (3, .int lane), (4, .int (nI i))] := hl
  have S0 : CallFix pg m cod cX10_beliefs 8 s _ wsX10_beliefs RX10 := ⟨hx, hb, hml, hown, hts⟩
  have hfr : ∀ j, j ≠ 0 → j ≠ 13 → ct j = ct j := fun _ _ _ => rfl
  refine lv_aload_n hx hb dX10_beliefs_0 rfl (lv_at hl 0 rfl) ?_
  refine lv_iconst (v := 0) hx hb dX10_beliefs_1 (by decide) ?_
  refine kg_put (v := .int 0) (ty := .int) (C := RX10) (T := TX10) (N := 9) (fs' := [.ref (ad 1), .ref (ad 3), .int (nI nt), .ref (ad 4), .ref (ad 9), .ref (ad 11), .ref (ad 12), .ref (ad 13), .int 0]) hx hb hts hinX10 tyX10 tyX10_ok nmX10 hown hK hw h0 rfl 8 (by decide) (hts (.fieldLink RX10 179 "BetMaker" "latestFault" "I") (by decide +kernel)) (fun _ h9 => h9) rfl (by decide +kernel) rfl rfl (Nat.le_of_ble_eq_true rfl) rfl dX10_beliefs_2 (fun H locs hw => ?_)
  obtain ⟨ct_1, ect_1⟩ : ∃ z, z = kw_up ct 0 (.inr (10, [.ref (ad 1), .ref (ad 3), .int (nI nt), .ref (ad 4), .ref (ad 9), .ref (ad 11), .ref (ad 12), .ref (ad 13), .int 0])) := ⟨_, rfl⟩
  rw [← ect_1] at hw
  have h_2 : ct_1 1 = some (.inr (3, [.ref (ad 2), .int (nI N), .int b, .long ss, .long g, .int cm])) := by rw [ect_1, kw_up_n (by omega)]; exact h1
  have h_3 : ct_1 3 = some (eQ tc 4 6 qt) := by rw [ect_1, kw_up_n (by omega)]; exact h3
  have h_4 : ct_1 11 = some (eQ tc 5 4 qs) := by rw [ect_1, kw_up_n (by omega)]; exact h11
  have h_5 : ct_1 13 = some (eI tc 8 tk) := by rw [ect_1, kw_up_n (by omega)]; exact h13
  have h_6 : ct_1 (20 + k) = some (.inr (6, [.ref (ad (24 + k)), .int (kb (th = true)), .int ln, .int (nI n)])) := by rw [ect_1, kw_up_n (by omega)]; exact h20
  have h_7 : ct_1 (24 + k) = some (eI tc 24 sc) := by rw [ect_1, kw_up_n (by omega)]; exact h24
  have h_8 : ct_1 0 = some (.inr (10, [.ref (ad 1), .ref (ad 3), .int (nI nt), .ref (ad 4), .ref (ad 9), .ref (ad 11), .ref (ad 12), .ref (ad 13), .int 0])) := by rw [ect_1]; exact kw_up_s
  have hfr_9 : ∀ j, j ≠ 0 → j ≠ 13 → ct_1 j = ct j := fun j a0 a1 => by rw [ect_1]; exact (kw_up_n a0).trans (hfr j a0 a1)
  refine lv_aload_n hx hb dX10_beliefs_5 rfl (lv_at hl 0 rfl) ?_
  refine lv_iload_n hx hb dX10_beliefs_6 rfl (lv_at hl 1 rfl) ?_
  refine kc_v (As := [.int (nI t)]) (rest := []) S0 (c_X10_findTrader l D tc s.heap.size ad ct_1 (t := t) (nt := nt) h_8 h_3 (by omega) (by omega) hqt) (cwV 1 hts gX10_beliefs_X10_findTrader rfl rfl rfl (by decide +kernel) ⟨Nat.le_of_ble_eq_true rfl, Nat.le_of_ble_eq_true rfl⟩) hK hw h_8 rfl rfl hl.1 rfl (Nat.le_of_ble_eq_true rfl) dX10_beliefs_7 ⟨Nat.le_of_ble_eq_true rfl, (Nat.le_of_ble_eq_true rfl)⟩ ?_
  refine lv_astore (lv' := [(5, .ref (ad (30 + t))), (0, .ref (ad 0)), (1, .int (nI t)), (2, .int (nI k)), (3, .int lane), (4, .int (nI i))]) hx hb dX10_beliefs_10 hl (by decide) rfl (fun ls hl => ?_)
  refine lv_aload_n hx hb dX10_beliefs_12 rfl (lv_at hl 1 rfl) ?_
  refine lv_iload_n hx hb dX10_beliefs_13 rfl (lv_at hl 3 rfl) ?_
  refine kc_v (As := [.int (nI k)]) (rest := []) S0 (c_X10_findSheet l D tc s.heap.size ad ct_1 (k := k) (nt := nt) h_8 h_4 hk4 hqs) (cwV 1 hts gX10_beliefs_X10_findSheet rfl rfl rfl (by decide +kernel) ⟨Nat.le_of_ble_eq_true rfl, Nat.le_of_ble_eq_true rfl⟩) hK hw h_8 rfl rfl hl.1 rfl (Nat.le_of_ble_eq_true rfl) dX10_beliefs_14 ⟨Nat.le_of_ble_eq_true rfl, (Nat.le_of_ble_eq_true rfl)⟩ ?_
  refine lv_astore (lv' := [(6, .ref (ad (20 + k))), (5, .ref (ad (30 + t))), (0, .ref (ad 0)), (1, .int (nI t)), (2, .int (nI k)), (3, .int lane), (4, .int (nI i))]) hx hb dX10_beliefs_17 hl (by decide) rfl (fun ls hl => ?_)
  refine lv_aload hx hb dX10_beliefs_19 (lv_at hl 1 rfl) ?_
  refine lv_ifnull hx hb dX10_beliefs_21 ?_
  refine lv_aload hx hb dX10_beliefs_24 (lv_at hl 0 rfl) ?_
  refine lv_ifnonnull (tgt := 31) hx hb dX10_beliefs_26 (by decide) ?_
  refine lv_aload_n hx hb dX10_beliefs_31 rfl (lv_at hl 2 rfl) ?_
  refine lv_aload hx hb dX10_beliefs_32 (lv_at hl 0 rfl) ?_
  refine lv_iload_n hx hb dX10_beliefs_34 rfl (lv_at hl 5 rfl) ?_
  refine lv_iload hx hb dX10_beliefs_35 (lv_at hl 6 rfl) ?_
  refine kc_vu (As := [.ref (ad (20 + k)), .int lane, .int (nI i)]) (rest := []) S0 (c_X10_takeWeights_v l D tc s.heap.size ad ct_1 (k := k) (i := i) (nt := nt) (N := N) (n := n) h_8 h_2 h_5 h_6 h_7 hL hdf hiN hn24 hN hbad) (cwV 3 hts gX10_beliefs_X10_takeWeights rfl rfl rfl (by decide +kernel) ⟨Nat.le_of_ble_eq_true rfl, Nat.le_of_ble_eq_true rfl⟩) hK hw hA h_8 rfl rfl hl.1 rfl (Nat.le_of_ble_eq_true rfl) dX10_beliefs_37 ⟨Nat.le_of_ble_eq_true rfl, (Nat.le_of_ble_eq_true rfl)⟩ (fun H locs hw => ?_)
  obtain ⟨ct_10, ect_10⟩ : ∃ z, z = kw_up ct_1 13 (eI tc 8 (kCp tk (fun z => sc (i + z)) (kfs (kWc (fun z => sc (i + z))) N))) := ⟨_, rfl⟩
  rw [← ect_10] at hw
  have h_11 : ct_10 1 = some (.inr (3, [.ref (ad 2), .int (nI N), .int b, .long ss, .long g, .int cm])) := by rw [ect_10, kw_up_n (by omega)]; exact h_2
  have h_12 : ct_10 3 = some (eQ tc 4 6 qt) := by rw [ect_10, kw_up_n (by omega)]; exact h_3
  have h_13 : ct_10 11 = some (eQ tc 5 4 qs) := by rw [ect_10, kw_up_n (by omega)]; exact h_4
  have h_14 : ct_10 (20 + k) = some (.inr (6, [.ref (ad (24 + k)), .int (kb (th = true)), .int ln, .int (nI n)])) := by rw [ect_10, kw_up_n (by omega)]; exact h_6
  have h_15 : ct_10 (24 + k) = some (eI tc 24 sc) := by rw [ect_10, kw_up_n (by omega)]; exact h_7
  have h_16 : ct_10 0 = some (.inr (10, [.ref (ad 1), .ref (ad 3), .int (nI nt), .ref (ad 4), .ref (ad 9), .ref (ad 11), .ref (ad 12), .ref (ad 13), .int 0])) := by rw [ect_10, kw_up_n (by omega)]; exact h_8
  have h_17 : ct_10 13 = some (eI tc 8 (kCp tk (fun z => sc (i + z)) (kfs (kWc (fun z => sc (i + z))) N))) := by rw [ect_10]; exact kw_up_s
  have hfr_18 : ∀ j, j ≠ 0 → j ≠ 13 → ct_10 j = ct j := fun j a0 a1 => by rw [ect_10]; exact (kw_up_n a1).trans (hfr_9 j a0 a1)
  refine lv_istore (lv' := [(7, .int (-2)), (6, .ref (ad (20 + k))), (5, .ref (ad (30 + t))), (0, .ref (ad 0)), (1, .int (nI t)), (2, .int (nI k)), (3, .int lane), (4, .int (nI i))]) hx hb dX10_beliefs_40 hl (by decide) rfl (fun ls hl => ?_)
  refine lv_iload hx hb dX10_beliefs_42 (lv_at hl 0 rfl) ?_
  refine lv_if_le (tgt := 56) hx hb dX10_beliefs_44 (by decide) (fun c_19 => ?_) (fun c_19 => ?_)
  · refine lv_iload hx hb dX10_beliefs_56 (lv_at hl 0 rfl) ?_
    have hq_20 := h_16
    have hq_21 := h_17
    have hend := kw_eq2 hq_20 hq_21 hfr_18
    rw [hend] at hw
    exact W.iret hx hb hr (fun t ht _ => ⟨rfl, by rw [ht]; exact hw.1, hw.2.2.1, hw.2.1.F ht, by rw [ht]; exact hw.2.2.2⟩) hw.2.1.2.2 dX10_beliefs_58
  · exact absurd c_19 (by decide)
set_option maxHeartbeats 4000000 in
set_option maxRecDepth 100000 in
theorem c_X10_beliefs (l : Launch) (D : va_G) (tc : Nat → ClassId) (sz : Nat) (ad : Nat → Nat) (ct : Nat → Option va_E) {N nt n ci t k i : Nat} {b cm lf ln nb de : Int32} {ss g pu : Int64}  {qt qs : Nat → Option Nat} {tk sc we : Nat → Int32} {th : Bool} {lane : Int32} (h0 : ct 0 = some (.inr (10, [.ref (ad 1), .ref (ad 3), .int (nI nt), .ref (ad 4), .ref (ad 9), .ref (ad 11), .ref (ad 12), .ref (ad 13), .int lf]))) (h1 : ct 1 = some (.inr (3, [.ref (ad 2), .int (nI N), .int b, .long ss, .long g, .int cm]))) (h3 : ct 3 = some (eQ tc 4 6 qt)) (h11 : ct 11 = some (eQ tc 5 4 qs)) (h13 : ct 13 = some (eI tc 8 tk)) (h20 : ct (20 + k) = some (.inr (6, [.ref (ad (24 + k)), .int (kb (th = true)), .int ln, .int (nI n)]))) (h24 : ct (24 + k) = some (eI tc 24 sc)) (h30 : ct (30 + t) = some (.inr (ci, [.int nb, .ref (ad (36 + t)), .ref (ad (42 + t)), .long pu, .int de]))) (h42 : ct (42 + t) = some (eI tc N we)) (ht : t < nt) (hnt : nt ≤ 6) (hqt : qt t = some (ad (30 + t))) (hk4 : k < 4) (hqs : qs k = some (ad (20 + k))) (hci : ci = 5 ∨ ci = 7 ∨ ci = 9) (hL : 0 ≤ lane ∧ lane ≤ 2) (hdf : kDF th ln lane (nI i) n (nI N) = 0) (hiN : i + N ≤ n) (hn24 : n ≤ 24) (hN : N ≤ 8) (hok : kall (kWc (fun z => sc (i + z))) N = true) (hnz : ¬ sw (fun z => sc (i + z)) N = 0) (hle : ¬ (sw (fun z => sc (i + z)) N ≤ 0)) : Met l yX10_beliefs wsX10_beliefs ({ frames := 3, cells := 0, slots := 0, locals := 84 }) (va_Pc [.ref (ad 0), .int (nI t), .int (nI k), .int lane, .int (nI i)] (kw_B D tc sz ad ct)) (kw_Q D ad (kw_A ad ct sz) (some (.int (sw (fun z => sc (i + z)) N))) (kw_up (kw_up (kw_up ct 0 (.inr (10, [.ref (ad 1), .ref (ad 3), .int (nI nt), .ref (ad 4), .ref (ad 9), .ref (ad 11), .ref (ad 12), .ref (ad 13), .int 0]))) 13 (eI tc 8 (kCp tk (fun z => sc (i + z)) N))) (42 + t) (eI tc N (kCp we (kCp tk (fun z => sc (i + z)) N) N))) 0) 0 0 (kw_A ad ct sz) := by
  refine Met.ofW (cc := cX10_beliefs) (maxL := 8) (ret := (some .int)) (by decide) rfl ?_
  intro pg en s m args below meth cod s₁ B hml hv
  obtain ⟨rfl, hsz, hP0, hK⟩ := hv
  have hx := B.exec
  have hb := B.bytes
  have hr := B.returns
  have hts := atoms_spec (ws := wsX10_beliefs) B.pre
  have hown : s.vm.findClass RX10 = some m.cls := findClass_of_methodNamed B.named
  have hlocks := B.notSynchronized
  subst hsz
  have hw := kw_H.start hP0
  generalize hAe : kw_A ad ct s.heap.size = A at hw ⊢
  have hA : ∀ q, s.heap.size ≤ q → A q := fun q h => by rw [← hAe]; exact Or.inr h
  have hinX10 : ∀ w ∈ wsX100, w ∈ wsX10_beliefs := by decide +kernel
  have hl := lv_entry ([.ref (ad 0), .int (nI t), .int (nI k), .int lane, .int (nI i)]) (n := 8) (Nat.le_of_ble_eq_true rfl)
  rw [lg_entry_eq]
  generalize (lg_sl ([.ref (ad 0), .int (nI t), .int (nI k), .int lane, .int (nI i)]) ++ List.replicate (8 - (lg_sl ([.ref (ad 0), .int (nI t), .int (nI k), .int lane, .int (nI i)])).length) Slot.unset).toArray = ls at hl ⊢
  have hl : lv_has ls 8 [(0, .ref (ad 0)), (1, .int (nI t)), (2, .int (nI k)), (3, .int lane), (4, .int (nI i))] := hl
  have S0 : CallFix pg m cod cX10_beliefs 8 s _ wsX10_beliefs RX10 := ⟨hx, hb, hml, hown, hts⟩
  have hfr : ∀ j, j ≠ 0 → j ≠ 13 → j ≠ (42 + t) → ct j = ct j := fun _ _ _ _ => rfl
  refine lv_aload_n hx hb dX10_beliefs_0 rfl (lv_at hl 0 rfl) ?_
  refine lv_iconst (v := 0) hx hb dX10_beliefs_1 (by decide) ?_
  refine kg_put (v := .int 0) (ty := .int) (C := RX10) (T := TX10) (N := 9) (fs' := [.ref (ad 1), .ref (ad 3), .int (nI nt), .ref (ad 4), .ref (ad 9), .ref (ad 11), .ref (ad 12), .ref (ad 13), .int 0]) hx hb hts hinX10 tyX10 tyX10_ok nmX10 hown hK hw h0 rfl 8 (by decide) (hts (.fieldLink RX10 179 "BetMaker" "latestFault" "I") (by decide +kernel)) (fun _ h9 => h9) rfl (by decide +kernel) rfl rfl (Nat.le_of_ble_eq_true rfl) rfl dX10_beliefs_2 (fun H locs hw => ?_)
  obtain ⟨ct_1, ect_1⟩ : ∃ z, z = kw_up ct 0 (.inr (10, [.ref (ad 1), .ref (ad 3), .int (nI nt), .ref (ad 4), .ref (ad 9), .ref (ad 11), .ref (ad 12), .ref (ad 13), .int 0])) := ⟨_, rfl⟩
  rw [← ect_1] at hw
  have h_2 : ct_1 1 = some (.inr (3, [.ref (ad 2), .int (nI N), .int b, .long ss, .long g, .int cm])) := by rw [ect_1, kw_up_n (by omega)]; exact h1
  have h_3 : ct_1 3 = some (eQ tc 4 6 qt) := by rw [ect_1, kw_up_n (by omega)]; exact h3
  have h_4 : ct_1 11 = some (eQ tc 5 4 qs) := by rw [ect_1, kw_up_n (by omega)]; exact h11
  have h_5 : ct_1 13 = some (eI tc 8 tk) := by rw [ect_1, kw_up_n (by omega)]; exact h13
  have h_6 : ct_1 (20 + k) = some (.inr (6, [.ref (ad (24 + k)), .int (kb (th = true)), .int ln, .int (nI n)])) := by rw [ect_1, kw_up_n (by omega)]; exact h20
  have h_7 : ct_1 (24 + k) = some (eI tc 24 sc) := by rw [ect_1, kw_up_n (by omega)]; exact h24
  have h_8 : ct_1 (30 + t) = some (.inr (ci, [.int nb, .ref (ad (36 + t)), .ref (ad (42 + t)), .long pu, .int de])) := by rw [ect_1, kw_up_n (by omega)]; exact h30
  have h_9 : ct_1 (42 + t) = some (eI tc N we) := by rw [ect_1, kw_up_n (by omega)]; exact h42
  have h_10 : ct_1 0 = some (.inr (10, [.ref (ad 1), .ref (ad 3), .int (nI nt), .ref (ad 4), .ref (ad 9), .ref (ad 11), .ref (ad 12), .ref (ad 13), .int 0])) := by rw [ect_1]; exact kw_up_s
  have hfr_11 : ∀ j, j ≠ 0 → j ≠ 13 → j ≠ (42 + t) → ct_1 j = ct j := fun j a0 a1 a2 => by rw [ect_1]; exact (kw_up_n a0).trans (hfr j a0 a1 a2)
  refine lv_aload_n hx hb dX10_beliefs_5 rfl (lv_at hl 0 rfl) ?_
  refine lv_iload_n hx hb dX10_beliefs_6 rfl (lv_at hl 1 rfl) ?_
  refine kc_v (As := [.int (nI t)]) (rest := []) S0 (c_X10_findTrader l D tc s.heap.size ad ct_1 (t := t) (nt := nt) h_10 h_3 (by omega) (by omega) hqt) (cwV 1 hts gX10_beliefs_X10_findTrader rfl rfl rfl (by decide +kernel) ⟨Nat.le_of_ble_eq_true rfl, Nat.le_of_ble_eq_true rfl⟩) hK hw h_10 rfl rfl hl.1 rfl (Nat.le_of_ble_eq_true rfl) dX10_beliefs_7 ⟨Nat.le_of_ble_eq_true rfl, (Nat.le_of_ble_eq_true rfl)⟩ ?_
  refine lv_astore (lv' := [(5, .ref (ad (30 + t))), (0, .ref (ad 0)), (1, .int (nI t)), (2, .int (nI k)), (3, .int lane), (4, .int (nI i))]) hx hb dX10_beliefs_10 hl (by decide) rfl (fun ls hl => ?_)
  refine lv_aload_n hx hb dX10_beliefs_12 rfl (lv_at hl 1 rfl) ?_
  refine lv_iload_n hx hb dX10_beliefs_13 rfl (lv_at hl 3 rfl) ?_
  refine kc_v (As := [.int (nI k)]) (rest := []) S0 (c_X10_findSheet l D tc s.heap.size ad ct_1 (k := k) (nt := nt) h_10 h_4 hk4 hqs) (cwV 1 hts gX10_beliefs_X10_findSheet rfl rfl rfl (by decide +kernel) ⟨Nat.le_of_ble_eq_true rfl, Nat.le_of_ble_eq_true rfl⟩) hK hw h_10 rfl rfl hl.1 rfl (Nat.le_of_ble_eq_true rfl) dX10_beliefs_14 ⟨Nat.le_of_ble_eq_true rfl, (Nat.le_of_ble_eq_true rfl)⟩ ?_
  refine lv_astore (lv' := [(6, .ref (ad (20 + k))), (5, .ref (ad (30 + t))), (0, .ref (ad 0)), (1, .int (nI t)), (2, .int (nI k)), (3, .int lane), (4, .int (nI i))]) hx hb dX10_beliefs_17 hl (by decide) rfl (fun ls hl => ?_)
  refine lv_aload hx hb dX10_beliefs_19 (lv_at hl 1 rfl) ?_
  refine lv_ifnull hx hb dX10_beliefs_21 ?_
  refine lv_aload hx hb dX10_beliefs_24 (lv_at hl 0 rfl) ?_
  refine lv_ifnonnull (tgt := 31) hx hb dX10_beliefs_26 (by decide) ?_
  refine lv_aload_n hx hb dX10_beliefs_31 rfl (lv_at hl 2 rfl) ?_
  refine lv_aload hx hb dX10_beliefs_32 (lv_at hl 0 rfl) ?_
  refine lv_iload_n hx hb dX10_beliefs_34 rfl (lv_at hl 5 rfl) ?_
  refine lv_iload hx hb dX10_beliefs_35 (lv_at hl 6 rfl) ?_
  refine kc_vu (As := [.ref (ad (20 + k)), .int lane, .int (nI i)]) (rest := []) S0 (c_X10_takeWeights l D tc s.heap.size ad ct_1 (k := k) (i := i) (nt := nt) (N := N) (n := n) h_10 h_2 h_5 h_6 h_7 hL hdf hiN hn24 hN hok hnz) (cwV 3 hts gX10_beliefs_X10_takeWeights rfl rfl rfl (by decide +kernel) ⟨Nat.le_of_ble_eq_true rfl, Nat.le_of_ble_eq_true rfl⟩) hK hw hA h_10 rfl rfl hl.1 rfl (Nat.le_of_ble_eq_true rfl) dX10_beliefs_37 ⟨Nat.le_of_ble_eq_true rfl, (Nat.le_of_ble_eq_true rfl)⟩ (fun H locs hw => ?_)
  obtain ⟨ct_12, ect_12⟩ : ∃ z, z = kw_up ct_1 13 (eI tc 8 (kCp tk (fun z => sc (i + z)) N)) := ⟨_, rfl⟩
  rw [← ect_12] at hw
  have h_13 : ct_12 1 = some (.inr (3, [.ref (ad 2), .int (nI N), .int b, .long ss, .long g, .int cm])) := by rw [ect_12, kw_up_n (by omega)]; exact h_2
  have h_14 : ct_12 3 = some (eQ tc 4 6 qt) := by rw [ect_12, kw_up_n (by omega)]; exact h_3
  have h_15 : ct_12 11 = some (eQ tc 5 4 qs) := by rw [ect_12, kw_up_n (by omega)]; exact h_4
  have h_16 : ct_12 (20 + k) = some (.inr (6, [.ref (ad (24 + k)), .int (kb (th = true)), .int ln, .int (nI n)])) := by rw [ect_12, kw_up_n (by omega)]; exact h_6
  have h_17 : ct_12 (24 + k) = some (eI tc 24 sc) := by rw [ect_12, kw_up_n (by omega)]; exact h_7
  have h_18 : ct_12 (30 + t) = some (.inr (ci, [.int nb, .ref (ad (36 + t)), .ref (ad (42 + t)), .long pu, .int de])) := by rw [ect_12, kw_up_n (by omega)]; exact h_8
  have h_19 : ct_12 (42 + t) = some (eI tc N we) := by rw [ect_12, kw_up_n (by omega)]; exact h_9
  have h_20 : ct_12 0 = some (.inr (10, [.ref (ad 1), .ref (ad 3), .int (nI nt), .ref (ad 4), .ref (ad 9), .ref (ad 11), .ref (ad 12), .ref (ad 13), .int 0])) := by rw [ect_12, kw_up_n (by omega)]; exact h_10
  have h_21 : ct_12 13 = some (eI tc 8 (kCp tk (fun z => sc (i + z)) N)) := by rw [ect_12]; exact kw_up_s
  have hfr_22 : ∀ j, j ≠ 0 → j ≠ 13 → j ≠ (42 + t) → ct_12 j = ct j := fun j a0 a1 a2 => by rw [ect_12]; exact (kw_up_n a1).trans (hfr_11 j a0 a1 a2)
  refine lv_istore (lv' := [(7, .int (sw (fun z => sc (i + z)) N)), (6, .ref (ad (20 + k))), (5, .ref (ad (30 + t))), (0, .ref (ad 0)), (1, .int (nI t)), (2, .int (nI k)), (3, .int lane), (4, .int (nI i))]) hx hb dX10_beliefs_40 hl (by decide) rfl (fun ls hl => ?_)
  refine lv_iload hx hb dX10_beliefs_42 (lv_at hl 0 rfl) ?_
  refine lv_if_le (tgt := 56) hx hb dX10_beliefs_44 (by decide) (fun c_23 => ?_) (fun c_23 => ?_)
  · exact absurd c_23 hle
  · refine lv_aload hx hb dX10_beliefs_47 (lv_at hl 2 rfl) ?_
    refine lv_aload_n hx hb dX10_beliefs_49 rfl (lv_at hl 3 rfl) ?_
    refine kg_get (v := .ref (ad 13)) (C := RX10) (T := TX10) (N := 9) hx hb hts hinX10 hown hK hw h_20 rfl 7 (by decide) (hts (.fieldLink RX10 51 "BetMaker" "taken" "[I") (by decide +kernel)) (fun _ h9 => h9) rfl dX10_beliefs_50 ?_
    refine kt_vu (As := [.ref (ad 13)]) (rest := []) S0 hci (c_X5_weighAll l D tc s.heap.size ad ct_12 h_18 h_19 h_21 hci hN (by omega)) (cwV 1 hts gX10_beliefs_X5_weighAll rfl rfl rfl (by decide +kernel) ⟨Nat.le_of_ble_eq_true rfl, Nat.le_of_ble_eq_true rfl⟩) (va_cwU 1 hts gX10_beliefs_X5_weighAll_u190X7 rfl rfl rfl rfl (by decide +kernel) ⟨Nat.le_of_ble_eq_true rfl, Nat.le_of_ble_eq_true rfl⟩) (va_cwU 1 hts gX10_beliefs_X5_weighAll_u190X9 rfl rfl rfl rfl (by decide +kernel) ⟨Nat.le_of_ble_eq_true rfl, Nat.le_of_ble_eq_true rfl⟩) hK hw hA h_18 rfl hl.1 rfl (Nat.le_of_ble_eq_true rfl) dX10_beliefs_53 ⟨Nat.le_of_ble_eq_true rfl, (Nat.le_of_ble_eq_true rfl)⟩ (fun H locs hw => ?_)
    obtain ⟨ct_24, ect_24⟩ : ∃ z, z = kw_up ct_12 (42 + t) (eI tc N (kCp we (kCp tk (fun z => sc (i + z)) N) N)) := ⟨_, rfl⟩
    rw [← ect_24] at hw
    have h_25 : ct_24 1 = some (.inr (3, [.ref (ad 2), .int (nI N), .int b, .long ss, .long g, .int cm])) := by rw [ect_24, kw_up_n (by omega)]; exact h_13
    have h_26 : ct_24 3 = some (eQ tc 4 6 qt) := by rw [ect_24, kw_up_n (by omega)]; exact h_14
    have h_27 : ct_24 11 = some (eQ tc 5 4 qs) := by rw [ect_24, kw_up_n (by omega)]; exact h_15
    have h_28 : ct_24 (20 + k) = some (.inr (6, [.ref (ad (24 + k)), .int (kb (th = true)), .int ln, .int (nI n)])) := by rw [ect_24, kw_up_n (by omega)]; exact h_16
    have h_29 : ct_24 (24 + k) = some (eI tc 24 sc) := by rw [ect_24, kw_up_n (by omega)]; exact h_17
    have h_30 : ct_24 (30 + t) = some (.inr (ci, [.int nb, .ref (ad (36 + t)), .ref (ad (42 + t)), .long pu, .int de])) := by rw [ect_24, kw_up_n (by omega)]; exact h_18
    have h_31 : ct_24 0 = some (.inr (10, [.ref (ad 1), .ref (ad 3), .int (nI nt), .ref (ad 4), .ref (ad 9), .ref (ad 11), .ref (ad 12), .ref (ad 13), .int 0])) := by rw [ect_24, kw_up_n (by omega)]; exact h_20
    have h_32 : ct_24 13 = some (eI tc 8 (kCp tk (fun z => sc (i + z)) N)) := by rw [ect_24, kw_up_n (by omega)]; exact h_21
    have h_33 : ct_24 (42 + t) = some (eI tc N (kCp we (kCp tk (fun z => sc (i + z)) N) N)) := by rw [ect_24]; exact kw_up_s
    have hfr_34 : ∀ j, j ≠ 0 → j ≠ 13 → j ≠ (42 + t) → ct_24 j = ct j := fun j a0 a1 a2 => by rw [ect_24]; exact (kw_up_n a2).trans (hfr_22 j a0 a1 a2)
    refine lv_iload hx hb dX10_beliefs_56 (lv_at hl 0 rfl) ?_
    have hq_35 := h_31
    have hq_36 := h_32
    have hq_37 := h_33
    have hend := kw_eq3 hq_35 hq_36 hq_37 hfr_34
    rw [hend] at hw
    exact W.iret hx hb hr (fun t ht _ => ⟨rfl, by rw [ht]; exact hw.1, hw.2.2.1, hw.2.1.F ht, by rw [ht]; exact hw.2.2.2⟩) hw.2.1.2.2 dX10_beliefs_58
set_option maxHeartbeats 4000000 in
set_option maxRecDepth 100000 in
theorem c_X10_offer_o (l : Launch) (D : va_G) (tc : Nat → ClassId) (sz : Nat) (ad : Nat → Nat) (ct : Nat → Option va_E) {N nt : Nat} {b cm lf : Int32} {ss g : Int64}     {set at1 m1 : Int32} (h0 : ct 0 = some (.inr (10, [.ref (ad 1), .ref (ad 3), .int (nI nt), .ref (ad 4), .ref (ad 9), .ref (ad 11), .ref (ad 12), .ref (ad 13), .int lf]))) (h1 : ct 1 = some (.inr (3, [.ref (ad 2), .int (nI N), .int b, .long ss, .long g, .int cm]))) (hbad : ¬ ((1 ≤ set ∧ set ≤ 1 <<< (nI N &&& 31) - 2) ∧ (1 ≤ at1 ∧ at1 ≤ 99) ∧ 1 ≤ m1 ∧ m1 ≤ 3)) : Met l yX10_offer wsX10_offer ({ frames := 2, cells := 0, slots := 0, locals := 67 }) (va_Pc [.ref (ad 0), .int set, .int at1, .int m1] (kw_B D tc sz ad ct)) (k2_QcV (.int (-2))) 0 0 (fun _ => False) := by
  refine Met.ofW (cc := cX10_offer) (maxL := 4) (ret := (some .int)) (by decide) rfl ?_
  intro pg en s m args below meth cod s₁ B hml hv
  obtain ⟨rfl, hsz, hP0, hK⟩ := hv
  have hx := B.exec
  have hb := B.bytes
  have hr := B.returns
  have hts := atoms_spec (ws := wsX10_offer) B.pre
  have hown : s.vm.findClass RX10 = some m.cls := findClass_of_methodNamed B.named
  have hlocks := B.notSynchronized
  subst hsz
  have hw := kw_H.start hP0
  generalize kw_A ad ct s.heap.size = A at hw
  have hinX10 : ∀ w ∈ wsX100, w ∈ wsX10_offer := by decide +kernel
  have hinX4 : ∀ w ∈ wsX40, w ∈ wsX10_offer := by decide +kernel
  have hl := lv_entry ([.ref (ad 0), .int set, .int at1, .int m1]) (n := 4) (Nat.le_of_ble_eq_true rfl)
  rw [lg_entry_eq]
  generalize (lg_sl ([.ref (ad 0), .int set, .int at1, .int m1]) ++ List.replicate (4 - (lg_sl ([.ref (ad 0), .int set, .int at1, .int m1])).length) Slot.unset).toArray = ls at hl ⊢
  have hl : lv_has ls 4 [(0, .ref (ad 0)), (1, .int set), (2, .int at1), (3, .int m1)] := hl
  have S0 : CallFix pg m cod cX10_offer 4 s _ wsX10_offer RX10 := ⟨hx, hb, hml, hown, hts⟩
  refine lv_aload_n hx hb dX10_offer_0 rfl (lv_at hl 0 rfl) ?_
  refine kg_get (v := .ref (ad 1)) (C := RX10) (T := TX10) (N := 9) hx hb hts hinX10 hown hK hw h0 rfl 0 (by decide) (hts (.fieldLink RX10 12 "BetMaker" "maker" "LBetMaker$Maker;") (by decide +kernel)) (fun _ h9 => h9) rfl dX10_offer_1 ?_
  refine lv_iload_n hx hb dX10_offer_4 rfl (lv_at hl 1 rfl) ?_
  refine kc_v (As := [.int set]) (rest := []) S0 (c_X3_isSet l D tc s.heap.size ad ct (N := N) h1) (cwV 1 hts gX10_offer_X3_isSet rfl rfl rfl (by decide +kernel) ⟨Nat.le_of_ble_eq_true rfl, Nat.le_of_ble_eq_true rfl⟩) hK hw h1 rfl rfl hl.1 rfl (Nat.le_of_ble_eq_true rfl) dX10_offer_5 ⟨Nat.le_of_ble_eq_true rfl, (Nat.le_of_ble_eq_true rfl)⟩ ?_
  refine kb_ifeq (tgt := 32) hx hb dX10_offer_8 (by decide) (fun c_1 => ?_) (fun c_1 => ?_)
  · refine lv_bipush (v := (-2)) hx hb dX10_offer_32 (by decide) ?_
    exact W.iret hx hb hr (fun t ht _ => ⟨rfl, ht⟩) (fun _ h => absurd h List.not_mem_nil) dX10_offer_34
  · refine lv_iload_n hx hb dX10_offer_11 rfl (lv_at hl 2 rfl) ?_
    refine lv_iconst (v := 1) hx hb dX10_offer_12 (by decide) ?_
    refine lv_icmp_lt (tgt := 32) hx hb dX10_offer_13 (by decide) (fun c_2 => ?_) (fun c_2 => ?_)
    · refine lv_bipush (v := (-2)) hx hb dX10_offer_32 (by decide) ?_
      exact W.iret hx hb hr (fun t ht _ => ⟨rfl, ht⟩) (fun _ h => absurd h List.not_mem_nil) dX10_offer_34
    · refine lv_iload_n hx hb dX10_offer_16 rfl (lv_at hl 2 rfl) ?_
      refine lv_bipush (v := 99) hx hb dX10_offer_17 (by decide) ?_
      refine lv_icmp_gt (tgt := 32) hx hb dX10_offer_19 (by decide) (fun c_3 => ?_) (fun c_3 => ?_)
      · refine lv_bipush (v := (-2)) hx hb dX10_offer_32 (by decide) ?_
        exact W.iret hx hb hr (fun t ht _ => ⟨rfl, ht⟩) (fun _ h => absurd h List.not_mem_nil) dX10_offer_34
      · refine lv_iload_n hx hb dX10_offer_22 rfl (lv_at hl 3 rfl) ?_
        refine lv_iconst (v := 1) hx hb dX10_offer_23 (by decide) ?_
        refine lv_icmp_lt (tgt := 32) hx hb dX10_offer_24 (by decide) (fun c_4 => ?_) (fun c_4 => ?_)
        · refine lv_bipush (v := (-2)) hx hb dX10_offer_32 (by decide) ?_
          exact W.iret hx hb hr (fun t ht _ => ⟨rfl, ht⟩) (fun _ h => absurd h List.not_mem_nil) dX10_offer_34
        · refine lv_iload_n hx hb dX10_offer_27 rfl (lv_at hl 3 rfl) ?_
          refine lv_iconst (v := 3) hx hb dX10_offer_28 (by decide) ?_
          refine lv_icmp_le (tgt := 35) hx hb dX10_offer_29 (by decide) (fun c_5 => ?_) (fun c_5 => ?_)
          · exact absurd ⟨c_1, ⟨kq_1 c_2, kq_1 c_3⟩, kq_1 c_4, c_5⟩ hbad
          · refine lv_bipush (v := (-2)) hx hb dX10_offer_32 (by decide) ?_
            exact W.iret hx hb hr (fun t ht _ => ⟨rfl, ht⟩) (fun _ h => absurd h List.not_mem_nil) dX10_offer_34
set_option maxHeartbeats 4000000 in
set_option maxRecDepth 100000 in
theorem c_X10_offer_f (l : Launch) (D : va_G) (tc : Nat → ClassId) (sz : Nat) (ad : Nat → Nat) (ct : Nat → Option va_E) {N nt no : Nat} {b cm lf co bg : Int32} {ss g : Int64}    {se : Bool} {set at1 m1 : Int32} (h0 : ct 0 = some (.inr (10, [.ref (ad 1), .ref (ad 3), .int (nI nt), .ref (ad 4), .ref (ad 9), .ref (ad 11), .ref (ad 12), .ref (ad 13), .int lf]))) (h1 : ct 1 = some (.inr (3, [.ref (ad 2), .int (nI N), .int b, .long ss, .long g, .int cm]))) (h4 : ct 4 = some (.inr (0, [.ref (ad 5), .ref (ad 6), .ref (ad 7), .ref (ad 8), .int (nI no), .int co, .int bg, .int (kb (se = true))]))) (hs : 1 ≤ set ∧ set ≤ 1 <<< (nI N &&& 31) - 2) (hat : (1 ≤ at1 ∧ at1 ≤ 99) ∧ 1 ≤ m1 ∧ m1 ≤ 3) (hfull : no = 6) : Met l yX10_offer wsX10_offer ({ frames := 2, cells := 0, slots := 0, locals := 67 }) (va_Pc [.ref (ad 0), .int set, .int at1, .int m1] (kw_B D tc sz ad ct)) (k2_QcV (.int (-4))) 0 0 (fun _ => False) := by
  refine Met.ofW (cc := cX10_offer) (maxL := 4) (ret := (some .int)) (by decide) rfl ?_
  intro pg en s m args below meth cod s₁ B hml hv
  obtain ⟨rfl, hsz, hP0, hK⟩ := hv
  have hx := B.exec
  have hb := B.bytes
  have hr := B.returns
  have hts := atoms_spec (ws := wsX10_offer) B.pre
  have hown : s.vm.findClass RX10 = some m.cls := findClass_of_methodNamed B.named
  have hlocks := B.notSynchronized
  subst hsz
  have hw := kw_H.start hP0
  generalize kw_A ad ct s.heap.size = A at hw
  have hinX10 : ∀ w ∈ wsX100, w ∈ wsX10_offer := by decide +kernel
  have hinX4 : ∀ w ∈ wsX40, w ∈ wsX10_offer := by decide +kernel
  have hl := lv_entry ([.ref (ad 0), .int set, .int at1, .int m1]) (n := 4) (Nat.le_of_ble_eq_true rfl)
  rw [lg_entry_eq]
  generalize (lg_sl ([.ref (ad 0), .int set, .int at1, .int m1]) ++ List.replicate (4 - (lg_sl ([.ref (ad 0), .int set, .int at1, .int m1])).length) Slot.unset).toArray = ls at hl ⊢
  have hl : lv_has ls 4 [(0, .ref (ad 0)), (1, .int set), (2, .int at1), (3, .int m1)] := hl
  have S0 : CallFix pg m cod cX10_offer 4 s _ wsX10_offer RX10 := ⟨hx, hb, hml, hown, hts⟩
  have ha1 : ¬ (at1 < 1) := kq_4 hat.1.1
  have ha2 : ¬ (99 < at1) := kq_4 hat.1.2
  have ha3 : ¬ (m1 < 1) := kq_4 hat.2.1
  have ha4 : m1 ≤ 3 := hat.2.2
  refine lv_aload_n hx hb dX10_offer_0 rfl (lv_at hl 0 rfl) ?_
  refine kg_get (v := .ref (ad 1)) (C := RX10) (T := TX10) (N := 9) hx hb hts hinX10 hown hK hw h0 rfl 0 (by decide) (hts (.fieldLink RX10 12 "BetMaker" "maker" "LBetMaker$Maker;") (by decide +kernel)) (fun _ h9 => h9) rfl dX10_offer_1 ?_
  refine lv_iload_n hx hb dX10_offer_4 rfl (lv_at hl 1 rfl) ?_
  refine kc_v (As := [.int set]) (rest := []) S0 (c_X3_isSet l D tc s.heap.size ad ct (N := N) h1) (cwV 1 hts gX10_offer_X3_isSet rfl rfl rfl (by decide +kernel) ⟨Nat.le_of_ble_eq_true rfl, Nat.le_of_ble_eq_true rfl⟩) hK hw h1 rfl rfl hl.1 rfl (Nat.le_of_ble_eq_true rfl) dX10_offer_5 ⟨Nat.le_of_ble_eq_true rfl, (Nat.le_of_ble_eq_true rfl)⟩ ?_
  refine kb_ifeq (tgt := 32) hx hb dX10_offer_8 (by decide) (fun c_1 => ?_) (fun c_1 => ?_)
  · exact absurd hs c_1
  · refine lv_iload_n hx hb dX10_offer_11 rfl (lv_at hl 2 rfl) ?_
    refine lv_iconst (v := 1) hx hb dX10_offer_12 (by decide) ?_
    refine lv_icmp_lt (tgt := 32) hx hb dX10_offer_13 (by decide) (fun c_2 => ?_) (fun c_2 => ?_)
    · exact absurd c_2 ha1
    · refine lv_iload_n hx hb dX10_offer_16 rfl (lv_at hl 2 rfl) ?_
      refine lv_bipush (v := 99) hx hb dX10_offer_17 (by decide) ?_
      refine lv_icmp_gt (tgt := 32) hx hb dX10_offer_19 (by decide) (fun c_3 => ?_) (fun c_3 => ?_)
      · exact absurd c_3 ha2
      · refine lv_iload_n hx hb dX10_offer_22 rfl (lv_at hl 3 rfl) ?_
        refine lv_iconst (v := 1) hx hb dX10_offer_23 (by decide) ?_
        refine lv_icmp_lt (tgt := 32) hx hb dX10_offer_24 (by decide) (fun c_4 => ?_) (fun c_4 => ?_)
        · exact absurd c_4 ha3
        · refine lv_iload_n hx hb dX10_offer_27 rfl (lv_at hl 3 rfl) ?_
          refine lv_iconst (v := 3) hx hb dX10_offer_28 (by decide) ?_
          refine lv_icmp_le (tgt := 35) hx hb dX10_offer_29 (by decide) (fun c_5 => ?_) (fun c_5 => ?_)
          · refine lv_aload_n hx hb dX10_offer_35 rfl (lv_at hl 0 rfl) ?_
            refine kg_get (v := .ref (ad 4)) (C := RX10) (T := TX10) (N := 9) hx hb hts hinX10 hown hK hw h0 rfl 3 (by decide) (hts (.fieldLink RX10 27 "BetMaker" "board" "LBetMaker$Board;") (by decide +kernel)) (fun _ h9 => h9) rfl dX10_offer_36 ?_
            refine kc_v (As := []) (rest := []) S0 (c_X0_isFull l D tc s.heap.size ad ct (no := no) h4 (by omega)) (cwV 0 hts gX10_offer_X0_isFull rfl rfl rfl (by decide +kernel) ⟨Nat.le_of_ble_eq_true rfl, Nat.le_of_ble_eq_true rfl⟩) hK hw h4 rfl rfl hl.1 rfl (Nat.le_of_ble_eq_true rfl) dX10_offer_39 ⟨Nat.le_of_ble_eq_true rfl, (Nat.le_of_ble_eq_true rfl)⟩ ?_
            refine kb_ifeq (tgt := 50) hx hb dX10_offer_42 (by decide) (fun c_6 => ?_) (fun c_6 => ?_)
            · exfalso; omega
            · refine lv_bipush (v := (-4)) hx hb dX10_offer_45 (by decide) ?_
              refine lv_goto (tgt := 67) hx hb dX10_offer_47 (by decide) ?_
              exact W.iret hx hb hr (fun t ht _ => ⟨rfl, ht⟩) (fun _ h => absurd h List.not_mem_nil) dX10_offer_67
          · exact absurd ha4 c_5
set_option maxHeartbeats 4000000 in
set_option maxRecDepth 100000 in
theorem c_X10_offer (l : Launch) (D : va_G) (tc : Nat → ClassId) (sz : Nat) (ad : Nat → Nat) (ct : Nat → Option va_E) {N nt no : Nat} {b cm lf co bg : Int32} {ss g : Int64}  {qo : Nat → Option Nat}  {se : Bool} {set at1 m1 : Int32} (h0 : ct 0 = some (.inr (10, [.ref (ad 1), .ref (ad 3), .int (nI nt), .ref (ad 4), .ref (ad 9), .ref (ad 11), .ref (ad 12), .ref (ad 13), .int lf]))) (h1 : ct 1 = some (.inr (3, [.ref (ad 2), .int (nI N), .int b, .long ss, .long g, .int cm]))) (h4 : ct 4 = some (.inr (0, [.ref (ad 5), .ref (ad 6), .ref (ad 7), .ref (ad 8), .int (nI no), .int co, .int bg, .int (kb (se = true))]))) (h5 : ct 5 = some (eQ tc 3 6 qo)) (hs : 1 ≤ set ∧ set ≤ 1 <<< (nI N &&& 31) - 2) (hat : (1 ≤ at1 ∧ at1 ≤ 99) ∧ 1 ≤ m1 ∧ m1 ≤ 3) (hno : no < 6) (hka : ct (60 + no) = none) (hkaa : ad (60 + no) = sz) : Met l yX10_offer wsX10_offer ({ frames := 2, cells := 1, slots := 3, locals := 67 }) (va_Pc [.ref (ad 0), .int set, .int at1, .int m1] (kw_B D tc sz ad ct)) (kw_Q D ad (kw_A ad ct sz) (some (.int (nI no))) (kw_up (kw_up (kw_up ct 4 (.inr (0, [.ref (ad 5), .ref (ad 6), .ref (ad 7), .ref (ad 8), .int (nI (no + 1)), .int co, .int bg, .int (kb (false = true))]))) 5 (eQ tc 3 6 (va_up qo no (some (ad (60 + no)))))) (60 + no) (.inr (4, [.int set, .int at1, .int m1]))) 1) 1 3 (kw_A ad ct sz) := by
  refine Met.ofW (cc := cX10_offer) (maxL := 4) (ret := (some .int)) (by decide) rfl ?_
  intro pg en s m args below meth cod s₁ B hml hv
  obtain ⟨rfl, hsz, hP0, hK⟩ := hv
  have hx := B.exec
  have hb := B.bytes
  have hr := B.returns
  have hts := atoms_spec (ws := wsX10_offer) B.pre
  have hown : s.vm.findClass RX10 = some m.cls := findClass_of_methodNamed B.named
  have hlocks := B.notSynchronized
  subst hsz
  have hw := kw_H.start hP0
  generalize hAe : kw_A ad ct s.heap.size = A at hw ⊢
  have hA : ∀ q, s.heap.size ≤ q → A q := fun q h => by rw [← hAe]; exact Or.inr h
  have hinX10 : ∀ w ∈ wsX100, w ∈ wsX10_offer := by decide +kernel
  have hinX4 : ∀ w ∈ wsX40, w ∈ wsX10_offer := by decide +kernel
  have hl := lv_entry ([.ref (ad 0), .int set, .int at1, .int m1]) (n := 4) (Nat.le_of_ble_eq_true rfl)
  rw [lg_entry_eq]
  generalize (lg_sl ([.ref (ad 0), .int set, .int at1, .int m1]) ++ List.replicate (4 - (lg_sl ([.ref (ad 0), .int set, .int at1, .int m1])).length) Slot.unset).toArray = ls at hl ⊢
  have hl : lv_has ls 4 [(0, .ref (ad 0)), (1, .int set), (2, .int at1), (3, .int m1)] := hl
  have S0 : CallFix pg m cod cX10_offer 4 s _ wsX10_offer RX10 := ⟨hx, hb, hml, hown, hts⟩
  have hfr : ∀ j, j ≠ 4 → j ≠ 5 → j ≠ (60 + no) → ct j = ct j := fun _ _ _ _ => rfl
  have ha1 : ¬ (at1 < 1) := kq_4 hat.1.1
  have ha2 : ¬ (99 < at1) := kq_4 hat.1.2
  have ha3 : ¬ (m1 < 1) := kq_4 hat.2.1
  have ha4 : m1 ≤ 3 := hat.2.2
  refine lv_aload_n hx hb dX10_offer_0 rfl (lv_at hl 0 rfl) ?_
  refine kg_get (v := .ref (ad 1)) (C := RX10) (T := TX10) (N := 9) hx hb hts hinX10 hown hK hw h0 rfl 0 (by decide) (hts (.fieldLink RX10 12 "BetMaker" "maker" "LBetMaker$Maker;") (by decide +kernel)) (fun _ h9 => h9) rfl dX10_offer_1 ?_
  refine lv_iload_n hx hb dX10_offer_4 rfl (lv_at hl 1 rfl) ?_
  refine kc_v (As := [.int set]) (rest := []) S0 (c_X3_isSet l D tc s.heap.size ad ct (N := N) h1) (cwV 1 hts gX10_offer_X3_isSet rfl rfl rfl (by decide +kernel) ⟨Nat.le_of_ble_eq_true rfl, Nat.le_of_ble_eq_true rfl⟩) hK hw h1 rfl rfl hl.1 rfl (Nat.le_of_ble_eq_true rfl) dX10_offer_5 ⟨Nat.le_of_ble_eq_true rfl, (Nat.le_of_ble_eq_true rfl)⟩ ?_
  refine kb_ifeq (tgt := 32) hx hb dX10_offer_8 (by decide) (fun c_1 => ?_) (fun c_1 => ?_)
  · exact absurd hs c_1
  · refine lv_iload_n hx hb dX10_offer_11 rfl (lv_at hl 2 rfl) ?_
    refine lv_iconst (v := 1) hx hb dX10_offer_12 (by decide) ?_
    refine lv_icmp_lt (tgt := 32) hx hb dX10_offer_13 (by decide) (fun c_2 => ?_) (fun c_2 => ?_)
    · exact absurd c_2 ha1
    · refine lv_iload_n hx hb dX10_offer_16 rfl (lv_at hl 2 rfl) ?_
      refine lv_bipush (v := 99) hx hb dX10_offer_17 (by decide) ?_
      refine lv_icmp_gt (tgt := 32) hx hb dX10_offer_19 (by decide) (fun c_3 => ?_) (fun c_3 => ?_)
      · exact absurd c_3 ha2
      · refine lv_iload_n hx hb dX10_offer_22 rfl (lv_at hl 3 rfl) ?_
        refine lv_iconst (v := 1) hx hb dX10_offer_23 (by decide) ?_
        refine lv_icmp_lt (tgt := 32) hx hb dX10_offer_24 (by decide) (fun c_4 => ?_) (fun c_4 => ?_)
        · exact absurd c_4 ha3
        · refine lv_iload_n hx hb dX10_offer_27 rfl (lv_at hl 3 rfl) ?_
          refine lv_iconst (v := 3) hx hb dX10_offer_28 (by decide) ?_
          refine lv_icmp_le (tgt := 35) hx hb dX10_offer_29 (by decide) (fun c_5 => ?_) (fun c_5 => ?_)
          · refine lv_aload_n hx hb dX10_offer_35 rfl (lv_at hl 0 rfl) ?_
            refine kg_get (v := .ref (ad 4)) (C := RX10) (T := TX10) (N := 9) hx hb hts hinX10 hown hK hw h0 rfl 3 (by decide) (hts (.fieldLink RX10 27 "BetMaker" "board" "LBetMaker$Board;") (by decide +kernel)) (fun _ h9 => h9) rfl dX10_offer_36 ?_
            refine kc_v (As := []) (rest := []) S0 (c_X0_isFull l D tc s.heap.size ad ct (no := no) h4 (by omega)) (cwV 0 hts gX10_offer_X0_isFull rfl rfl rfl (by decide +kernel) ⟨Nat.le_of_ble_eq_true rfl, Nat.le_of_ble_eq_true rfl⟩) hK hw h4 rfl rfl hl.1 rfl (Nat.le_of_ble_eq_true rfl) dX10_offer_39 ⟨Nat.le_of_ble_eq_true rfl, (Nat.le_of_ble_eq_true rfl)⟩ ?_
            refine kb_ifeq (tgt := 50) hx hb dX10_offer_42 (by decide) (fun c_6 => ?_) (fun c_6 => ?_)
            · refine lv_aload_n hx hb dX10_offer_50 rfl (lv_at hl 0 rfl) ?_
              refine kg_get (v := .ref (ad 4)) (C := RX10) (T := TX10) (N := 9) hx hb hts hinX10 hown hK hw h0 rfl 3 (by decide) (hts (.fieldLink RX10 27 "BetMaker" "board" "LBetMaker$Board;") (by decide +kernel)) (fun _ h9 => h9) rfl dX10_offer_51 ?_
              refine kg_new (ci := 4) (C := RX4) (T := TX4) (N := 3) (fs := [.int 0, .int 0, .int 0]) hx hb hts hinX4 tyX4 tyX4_ok hown (hts (.classLink RX10 201 RX4) (by decide +kernel)) (hts (.instantiable RX4 3) (by decide +kernel)) (hts (.initialized RX4) (by decide +kernel)) hK hw hA (60 + no) hka hkaa rfl (fun j hj => by rcases (show j = 0 ∨ j = 1 ∨ j = 2 by omega) with rfl | rfl | rfl <;> rfl) (Nat.le_of_ble_eq_true rfl) (Nat.le_of_ble_eq_true rfl) dX10_offer_54 (fun H hw => ?_)
              obtain ⟨ct_7, ect_7⟩ : ∃ z, z = kw_up ct (60 + no) (.inr (4, [.int 0, .int 0, .int 0])) := ⟨_, rfl⟩
              rw [← ect_7] at hw
              have h_8 : ct_7 0 = some (.inr (10, [.ref (ad 1), .ref (ad 3), .int (nI nt), .ref (ad 4), .ref (ad 9), .ref (ad 11), .ref (ad 12), .ref (ad 13), .int lf])) := by rw [ect_7, kw_up_n (by omega)]; exact h0
              have h_9 : ct_7 1 = some (.inr (3, [.ref (ad 2), .int (nI N), .int b, .long ss, .long g, .int cm])) := by rw [ect_7, kw_up_n (by omega)]; exact h1
              have h_10 : ct_7 4 = some (.inr (0, [.ref (ad 5), .ref (ad 6), .ref (ad 7), .ref (ad 8), .int (nI no), .int co, .int bg, .int (kb (se = true))])) := by rw [ect_7, kw_up_n (by omega)]; exact h4
              have h_11 : ct_7 5 = some (eQ tc 3 6 qo) := by rw [ect_7, kw_up_n (by omega)]; exact h5
              have h_12 : ct_7 (60 + no) = some (.inr (4, [.int 0, .int 0, .int 0])) := by rw [ect_7]; exact kw_up_s
              have hfr_13 : ∀ j, j ≠ 4 → j ≠ 5 → j ≠ (60 + no) → ct_7 j = ct j := fun j a0 a1 a2 => by rw [ect_7]; exact (kw_up_n a2).trans (hfr j a0 a1 a2)
              refine lv_dup hx hb dX10_offer_57 rfl ?_
              refine lv_iload_n hx hb dX10_offer_58 rfl (lv_at hl 1 rfl) ?_
              refine lv_iload_n hx hb dX10_offer_59 rfl (lv_at hl 2 rfl) ?_
              refine lv_iload_n hx hb dX10_offer_60 rfl (lv_at hl 3 rfl) ?_
              refine kc_iu (As := [.int set, .int at1, .int m1]) (rest := [.ref (ad (60 + no)), .ref (ad 4)]) S0 (c_X4_init l D tc (s.heap.size + 1) ad ct_7 h_12) (cwI 3 hts gX10_offer_X4_init rfl rfl rfl (hts (.initialized RX4) (by decide +kernel)) (hts (.methodLink RX10 203 yX4_init) (by decide +kernel)) (hts (.instanceMethod yX4_init) (by decide +kernel)) rfl (by decide +kernel) ⟨Nat.le_of_ble_eq_true rfl, Nat.le_of_ble_eq_true rfl⟩) hK hw hA rfl hl.1 rfl (Nat.le_of_ble_eq_true rfl) dX10_offer_61 ⟨Nat.le_of_ble_eq_true rfl, (Nat.le_of_ble_eq_true rfl)⟩ (fun H locs hw => ?_)
              obtain ⟨ct_14, ect_14⟩ : ∃ z, z = kw_up ct_7 (60 + no) (.inr (4, [.int set, .int at1, .int m1])) := ⟨_, rfl⟩
              rw [← ect_14] at hw
              have h_15 : ct_14 0 = some (.inr (10, [.ref (ad 1), .ref (ad 3), .int (nI nt), .ref (ad 4), .ref (ad 9), .ref (ad 11), .ref (ad 12), .ref (ad 13), .int lf])) := by rw [ect_14, kw_up_n (by omega)]; exact h_8
              have h_16 : ct_14 1 = some (.inr (3, [.ref (ad 2), .int (nI N), .int b, .long ss, .long g, .int cm])) := by rw [ect_14, kw_up_n (by omega)]; exact h_9
              have h_17 : ct_14 4 = some (.inr (0, [.ref (ad 5), .ref (ad 6), .ref (ad 7), .ref (ad 8), .int (nI no), .int co, .int bg, .int (kb (se = true))])) := by rw [ect_14, kw_up_n (by omega)]; exact h_10
              have h_18 : ct_14 5 = some (eQ tc 3 6 qo) := by rw [ect_14, kw_up_n (by omega)]; exact h_11
              have h_19 : ct_14 (60 + no) = some (.inr (4, [.int set, .int at1, .int m1])) := by rw [ect_14]; exact kw_up_s
              have hfr_20 : ∀ j, j ≠ 4 → j ≠ 5 → j ≠ (60 + no) → ct_14 j = ct j := fun j a0 a1 a2 => by rw [ect_14]; exact (kw_up_n a2).trans (hfr_13 j a0 a1 a2)
              refine kc_vu (As := [.ref (ad (60 + no))]) (rest := []) S0 (c_X0_add l D tc (s.heap.size + 1) ad ct_14 (fx := no) (no := no) h_17 h_18 h_19 (by omega)) (cwV 1 hts gX10_offer_X0_add rfl rfl rfl (by decide +kernel) ⟨Nat.le_of_ble_eq_true rfl, Nat.le_of_ble_eq_true rfl⟩) hK hw hA h_17 rfl rfl hl.1 rfl (Nat.le_of_ble_eq_true rfl) dX10_offer_64 ⟨Nat.le_of_ble_eq_true rfl, (Nat.le_of_ble_eq_true rfl)⟩ (fun H locs hw => ?_)
              obtain ⟨ct_21, ect_21⟩ : ∃ z, z = kw_up (kw_up ct_14 4 (.inr (0, [.ref (ad 5), .ref (ad 6), .ref (ad 7), .ref (ad 8), .int (nI (no + 1)), .int co, .int bg, .int (kb (false = true))]))) 5 (eQ tc 3 6 (va_up qo no (some (ad (60 + no))))) := ⟨_, rfl⟩
              rw [← ect_21] at hw
              have h_22 : ct_21 0 = some (.inr (10, [.ref (ad 1), .ref (ad 3), .int (nI nt), .ref (ad 4), .ref (ad 9), .ref (ad 11), .ref (ad 12), .ref (ad 13), .int lf])) := by rw [ect_21, kw_up_n (by omega), kw_up_n (by omega)]; exact h_15
              have h_23 : ct_21 1 = some (.inr (3, [.ref (ad 2), .int (nI N), .int b, .long ss, .long g, .int cm])) := by rw [ect_21, kw_up_n (by omega), kw_up_n (by omega)]; exact h_16
              have h_24 : ct_21 (60 + no) = some (.inr (4, [.int set, .int at1, .int m1])) := by rw [ect_21, kw_up_n (by omega), kw_up_n (by omega)]; exact h_19
              have h_25 : ct_21 4 = some (.inr (0, [.ref (ad 5), .ref (ad 6), .ref (ad 7), .ref (ad 8), .int (nI (no + 1)), .int co, .int bg, .int (kb (false = true))])) := by rw [ect_21, kw_up_n (by omega)]; exact kw_up_s
              have h_26 : ct_21 5 = some (eQ tc 3 6 (va_up qo no (some (ad (60 + no))))) := by rw [ect_21]; exact kw_up_s
              have hfr_27 : ∀ j, j ≠ 4 → j ≠ 5 → j ≠ (60 + no) → ct_21 j = ct j := fun j a0 a1 a2 => by rw [ect_21]; exact (kw_up_n a1).trans ((kw_up_n a0).trans (hfr_20 j a0 a1 a2))
              have hq_28 := h_25
              have hq_29 := h_26
              have hq_30 := h_24
              have hend := kw_eq3 hq_28 hq_29 hq_30 hfr_27
              rw [hend] at hw
              refine W.widen (k := 1) (n := 3) (Nat.le_of_ble_eq_true rfl) (Nat.le_of_ble_eq_true rfl) ?_
              exact W.iret hx hb hr (fun t ht _ => ⟨rfl, by rw [ht]; exact hw.1, hw.2.2.1, hw.2.1.F ht, by rw [ht]; exact hw.2.2.2⟩) hw.2.1.2.2 dX10_offer_67
            · exfalso; omega
          · exact absurd ha4 c_5
set_option maxHeartbeats 4000000 in
set_option maxRecDepth 100000 in
theorem c_X10_most_u (l : Launch) (D : va_G) (tc : Nat → ClassId) (sz : Nat) (ad : Nat → Nat) (ct : Nat → Option va_E) {nt no : Nat} {lf co bg : Int32}     {se : Bool} {f1 m1 : Int32} (h0 : ct 0 = some (.inr (10, [.ref (ad 1), .ref (ad 3), .int (nI nt), .ref (ad 4), .ref (ad 9), .ref (ad 11), .ref (ad 12), .ref (ad 13), .int lf]))) (h4 : ct 4 = some (.inr (0, [.ref (ad 5), .ref (ad 6), .ref (ad 7), .ref (ad 8), .int (nI no), .int co, .int bg, .int (kb (se = true))]))) (hf : ¬ (0 ≤ f1 ∧ f1 < nI no)) : Met l yX10_most wsX10_most ({ frames := 2, cells := 0, slots := 0, locals := 52 }) (va_Pc [.ref (ad 0), .int f1, .int m1] (kw_B D tc sz ad ct)) (k2_QcV (.int (-1))) 0 0 (fun _ => False) := by
  refine Met.ofW (cc := cX10_most) (maxL := 4) (ret := (some .int)) (by decide) rfl ?_
  intro pg en s m args below meth cod s₁ B hml hv
  obtain ⟨rfl, hsz, hP0, hK⟩ := hv
  have hx := B.exec
  have hb := B.bytes
  have hr := B.returns
  have hts := atoms_spec (ws := wsX10_most) B.pre
  have hown : s.vm.findClass RX10 = some m.cls := findClass_of_methodNamed B.named
  have hlocks := B.notSynchronized
  subst hsz
  have hw := kw_H.start hP0
  generalize kw_A ad ct s.heap.size = A at hw
  have hinX10 : ∀ w ∈ wsX100, w ∈ wsX10_most := by decide +kernel
  have hl := lv_entry ([.ref (ad 0), .int f1, .int m1]) (n := 4) (Nat.le_of_ble_eq_true rfl)
  rw [lg_entry_eq]
  generalize (lg_sl ([.ref (ad 0), .int f1, .int m1]) ++ List.replicate (4 - (lg_sl ([.ref (ad 0), .int f1, .int m1])).length) Slot.unset).toArray = ls at hl ⊢
  have hl : lv_has ls 4 [(0, .ref (ad 0)), (1, .int f1), (2, .int m1)] := hl
  have S0 : CallFix pg m cod cX10_most 4 s _ wsX10_most RX10 := ⟨hx, hb, hml, hown, hts⟩
  refine lv_aload_n hx hb dX10_most_0 rfl (lv_at hl 0 rfl) ?_
  refine kg_get (v := .ref (ad 4)) (C := RX10) (T := TX10) (N := 9) hx hb hts hinX10 hown hK hw h0 rfl 3 (by decide) (hts (.fieldLink RX10 27 "BetMaker" "board" "LBetMaker$Board;") (by decide +kernel)) (fun _ h9 => h9) rfl dX10_most_1 ?_
  refine lv_iload_n hx hb dX10_most_4 rfl (lv_at hl 1 rfl) ?_
  refine kc_v (As := [.int f1]) (rest := []) S0 (c_X0_find_n l D tc s.heap.size ad ct (no := no) h4 hf) (cwV 1 hts gX10_most_X0_find rfl rfl rfl (by decide +kernel) ⟨Nat.le_of_ble_eq_true rfl, Nat.le_of_ble_eq_true rfl⟩) hK hw h4 rfl rfl hl.1 rfl (Nat.le_of_ble_eq_true rfl) dX10_most_5 ⟨Nat.le_of_ble_eq_true rfl, (Nat.le_of_ble_eq_true rfl)⟩ ?_
  refine lv_astore_nN (lv' := [(3, .null), (0, .ref (ad 0)), (1, .int f1), (2, .int m1)]) hx hb dX10_most_8 rfl hl (by decide) rfl (fun ls hl => ?_)
  refine lv_aload_nN hx hb dX10_most_9 rfl (lv_at hl 0 rfl) ?_
  refine lv_ifnonnullN hx hb dX10_most_10 ?_
  refine lv_iconst (v := (-1)) hx hb dX10_most_13 (by decide) ?_
  exact W.iret hx hb hr (fun t ht _ => ⟨rfl, ht⟩) (fun _ h => absurd h List.not_mem_nil) dX10_most_14
set_option maxHeartbeats 4000000 in
set_option maxRecDepth 100000 in
theorem c_X10_most_o (l : Launch) (D : va_G) (tc : Nat → ClassId) (sz : Nat) (ad : Nat → Nat) (ct : Nat → Option va_E) {nt no fx : Nat} {lf co bg : Int32}   {qo : Nat → Option Nat}  {se : Bool} {m1 : Int32} (h0 : ct 0 = some (.inr (10, [.ref (ad 1), .ref (ad 3), .int (nI nt), .ref (ad 4), .ref (ad 9), .ref (ad 11), .ref (ad 12), .ref (ad 13), .int lf]))) (h4 : ct 4 = some (.inr (0, [.ref (ad 5), .ref (ad 6), .ref (ad 7), .ref (ad 8), .int (nI no), .int co, .int bg, .int (kb (se = true))]))) (h5 : ct 5 = some (eQ tc 3 6 qo)) (hf : fx < no) (hno : no ≤ 6) (hq : qo fx = some (ad (60 + fx))) (hbad : ¬ (0 ≤ m1 ∧ m1 ≤ 3)) : Met l yX10_most wsX10_most ({ frames := 2, cells := 0, slots := 0, locals := 52 }) (va_Pc [.ref (ad 0), .int (nI fx), .int m1] (kw_B D tc sz ad ct)) (k2_QcV (.int (-2))) 0 0 (fun _ => False) := by
  refine Met.ofW (cc := cX10_most) (maxL := 4) (ret := (some .int)) (by decide) rfl ?_
  intro pg en s m args below meth cod s₁ B hml hv
  obtain ⟨rfl, hsz, hP0, hK⟩ := hv
  have hx := B.exec
  have hb := B.bytes
  have hr := B.returns
  have hts := atoms_spec (ws := wsX10_most) B.pre
  have hown : s.vm.findClass RX10 = some m.cls := findClass_of_methodNamed B.named
  have hlocks := B.notSynchronized
  subst hsz
  have hw := kw_H.start hP0
  generalize kw_A ad ct s.heap.size = A at hw
  have hinX10 : ∀ w ∈ wsX100, w ∈ wsX10_most := by decide +kernel
  have hl := lv_entry ([.ref (ad 0), .int (nI fx), .int m1]) (n := 4) (Nat.le_of_ble_eq_true rfl)
  rw [lg_entry_eq]
  generalize (lg_sl ([.ref (ad 0), .int (nI fx), .int m1]) ++ List.replicate (4 - (lg_sl ([.ref (ad 0), .int (nI fx), .int m1])).length) Slot.unset).toArray = ls at hl ⊢
  have hl : lv_has ls 4 [(0, .ref (ad 0)), (1, .int (nI fx)), (2, .int m1)] := hl
  have S0 : CallFix pg m cod cX10_most 4 s _ wsX10_most RX10 := ⟨hx, hb, hml, hown, hts⟩
  refine lv_aload_n hx hb dX10_most_0 rfl (lv_at hl 0 rfl) ?_
  refine kg_get (v := .ref (ad 4)) (C := RX10) (T := TX10) (N := 9) hx hb hts hinX10 hown hK hw h0 rfl 3 (by decide) (hts (.fieldLink RX10 27 "BetMaker" "board" "LBetMaker$Board;") (by decide +kernel)) (fun _ h9 => h9) rfl dX10_most_1 ?_
  refine lv_iload_n hx hb dX10_most_4 rfl (lv_at hl 1 rfl) ?_
  refine kc_v (As := [.int (nI fx)]) (rest := []) S0 (c_X0_find l D tc s.heap.size ad ct (fx := fx) (no := no) h4 h5 (by omega) (by omega) hq) (cwV 1 hts gX10_most_X0_find rfl rfl rfl (by decide +kernel) ⟨Nat.le_of_ble_eq_true rfl, Nat.le_of_ble_eq_true rfl⟩) hK hw h4 rfl rfl hl.1 rfl (Nat.le_of_ble_eq_true rfl) dX10_most_5 ⟨Nat.le_of_ble_eq_true rfl, (Nat.le_of_ble_eq_true rfl)⟩ ?_
  refine lv_astore_n (lv' := [(3, .ref (ad (60 + fx))), (0, .ref (ad 0)), (1, .int (nI fx)), (2, .int m1)]) hx hb dX10_most_8 rfl hl (by decide) rfl (fun ls hl => ?_)
  refine lv_aload_n hx hb dX10_most_9 rfl (lv_at hl 0 rfl) ?_
  refine lv_ifnonnull (tgt := 15) hx hb dX10_most_10 (by decide) ?_
  refine lv_iload_n hx hb dX10_most_15 rfl (lv_at hl 3 rfl) ?_
  refine lv_if_lt (tgt := 24) hx hb dX10_most_16 (by decide) (fun c_1 => ?_) (fun c_1 => ?_)
  · refine lv_bipush (v := (-2)) hx hb dX10_most_24 (by decide) ?_
    exact W.iret hx hb hr (fun t ht _ => ⟨rfl, ht⟩) (fun _ h => absurd h List.not_mem_nil) dX10_most_26
  · refine lv_iload_n hx hb dX10_most_19 rfl (lv_at hl 3 rfl) ?_
    refine lv_iconst (v := 3) hx hb dX10_most_20 (by decide) ?_
    refine lv_icmp_le (tgt := 27) hx hb dX10_most_21 (by decide) (fun c_2 => ?_) (fun c_2 => ?_)
    · exact absurd ⟨kq_1 c_1, c_2⟩ hbad
    · refine lv_bipush (v := (-2)) hx hb dX10_most_24 (by decide) ?_
      exact W.iret hx hb hr (fun t ht _ => ⟨rfl, ht⟩) (fun _ h => absurd h List.not_mem_nil) dX10_most_26
set_option maxHeartbeats 4000000 in
set_option maxRecDepth 100000 in
theorem c_X10_most (l : Launch) (D : va_G) (tc : Nat → ClassId) (sz : Nat) (ad : Nat → Nat) (ct : Nat → Option va_E) {nt no fx : Nat} {lf co bg st oc sh : Int32}   {qo : Nat → Option Nat}  {se : Bool} {m1 : Int32} (h0 : ct 0 = some (.inr (10, [.ref (ad 1), .ref (ad 3), .int (nI nt), .ref (ad 4), .ref (ad 9), .ref (ad 11), .ref (ad 12), .ref (ad 13), .int lf]))) (h4 : ct 4 = some (.inr (0, [.ref (ad 5), .ref (ad 6), .ref (ad 7), .ref (ad 8), .int (nI no), .int co, .int bg, .int (kb (se = true))]))) (h5 : ct 5 = some (eQ tc 3 6 qo)) (h60 : ct (60 + fx) = some (.inr (4, [.int st, .int oc, .int sh]))) (hf : fx < no) (hno : no ≤ 6) (hq : qo fx = some (ad (60 + fx))) (hm1 : 0 ≤ m1 ∧ m1 ≤ 3) : Met l yX10_most wsX10_most ({ frames := 2, cells := 0, slots := 0, locals := 52 }) (va_Pc [.ref (ad 0), .int (nI fx), .int m1] (kw_B D tc sz ad ct)) (kw_Q D ad (kw_A ad ct sz) (some (.int sh)) (kw_up (kw_up ct 4 (.inr (0, [.ref (ad 5), .ref (ad 6), .ref (ad 7), .ref (ad 8), .int (nI no), .int co, .int bg, .int (kb (false = true))]))) (60 + fx) (.inr (4, [.int st, .int oc, .int m1]))) 0) 0 0 (kw_A ad ct sz) := by
  refine Met.ofW (cc := cX10_most) (maxL := 4) (ret := (some .int)) (by decide) rfl ?_
  intro pg en s m args below meth cod s₁ B hml hv
  obtain ⟨rfl, hsz, hP0, hK⟩ := hv
  have hx := B.exec
  have hb := B.bytes
  have hr := B.returns
  have hts := atoms_spec (ws := wsX10_most) B.pre
  have hown : s.vm.findClass RX10 = some m.cls := findClass_of_methodNamed B.named
  have hlocks := B.notSynchronized
  subst hsz
  have hw := kw_H.start hP0
  generalize hAe : kw_A ad ct s.heap.size = A at hw ⊢
  have hA : ∀ q, s.heap.size ≤ q → A q := fun q h => by rw [← hAe]; exact Or.inr h
  have hinX10 : ∀ w ∈ wsX100, w ∈ wsX10_most := by decide +kernel
  have hl := lv_entry ([.ref (ad 0), .int (nI fx), .int m1]) (n := 4) (Nat.le_of_ble_eq_true rfl)
  rw [lg_entry_eq]
  generalize (lg_sl ([.ref (ad 0), .int (nI fx), .int m1]) ++ List.replicate (4 - (lg_sl ([.ref (ad 0), .int (nI fx), .int m1])).length) Slot.unset).toArray = ls at hl ⊢
  have hl : lv_has ls 4 [(0, .ref (ad 0)), (1, .int (nI fx)), (2, .int m1)] := hl
  have S0 : CallFix pg m cod cX10_most 4 s _ wsX10_most RX10 := ⟨hx, hb, hml, hown, hts⟩
  have hfr : ∀ j, j ≠ 4 → j ≠ (60 + fx) → ct j = ct j := fun _ _ _ => rfl
  have hm2 : ¬ (m1 < 0) := kq_4 hm1.1
  have hm3 : m1 ≤ 3 := hm1.2
  refine lv_aload_n hx hb dX10_most_0 rfl (lv_at hl 0 rfl) ?_
  refine kg_get (v := .ref (ad 4)) (C := RX10) (T := TX10) (N := 9) hx hb hts hinX10 hown hK hw h0 rfl 3 (by decide) (hts (.fieldLink RX10 27 "BetMaker" "board" "LBetMaker$Board;") (by decide +kernel)) (fun _ h9 => h9) rfl dX10_most_1 ?_
  refine lv_iload_n hx hb dX10_most_4 rfl (lv_at hl 1 rfl) ?_
  refine kc_v (As := [.int (nI fx)]) (rest := []) S0 (c_X0_find l D tc s.heap.size ad ct (fx := fx) (no := no) h4 h5 (by omega) (by omega) hq) (cwV 1 hts gX10_most_X0_find rfl rfl rfl (by decide +kernel) ⟨Nat.le_of_ble_eq_true rfl, Nat.le_of_ble_eq_true rfl⟩) hK hw h4 rfl rfl hl.1 rfl (Nat.le_of_ble_eq_true rfl) dX10_most_5 ⟨Nat.le_of_ble_eq_true rfl, (Nat.le_of_ble_eq_true rfl)⟩ ?_
  refine lv_astore_n (lv' := [(3, .ref (ad (60 + fx))), (0, .ref (ad 0)), (1, .int (nI fx)), (2, .int m1)]) hx hb dX10_most_8 rfl hl (by decide) rfl (fun ls hl => ?_)
  refine lv_aload_n hx hb dX10_most_9 rfl (lv_at hl 0 rfl) ?_
  refine lv_ifnonnull (tgt := 15) hx hb dX10_most_10 (by decide) ?_
  refine lv_iload_n hx hb dX10_most_15 rfl (lv_at hl 3 rfl) ?_
  refine lv_if_lt (tgt := 24) hx hb dX10_most_16 (by decide) (fun c_1 => ?_) (fun c_1 => ?_)
  · exact absurd c_1 hm2
  · refine lv_iload_n hx hb dX10_most_19 rfl (lv_at hl 3 rfl) ?_
    refine lv_iconst (v := 3) hx hb dX10_most_20 (by decide) ?_
    refine lv_icmp_le (tgt := 27) hx hb dX10_most_21 (by decide) (fun c_2 => ?_) (fun c_2 => ?_)
    · refine lv_aload_n hx hb dX10_most_27 rfl (lv_at hl 1 rfl) ?_
      refine kg_get (v := .ref (ad 4)) (C := RX10) (T := TX10) (N := 9) hx hb hts hinX10 hown hK hw h0 rfl 3 (by decide) (hts (.fieldLink RX10 27 "BetMaker" "board" "LBetMaker$Board;") (by decide +kernel)) (fun _ h9 => h9) rfl dX10_most_28 ?_
      refine lv_aload_n hx hb dX10_most_31 rfl (lv_at hl 0 rfl) ?_
      refine lv_iload_n hx hb dX10_most_32 rfl (lv_at hl 3 rfl) ?_
      refine kc_vu (As := [.ref (ad (60 + fx)), .int m1]) (rest := []) S0 (c_X0_limit l D tc s.heap.size ad ct (fx := fx) (no := no) h4 h60) (cwV 2 hts gX10_most_X0_limit rfl rfl rfl (by decide +kernel) ⟨Nat.le_of_ble_eq_true rfl, Nat.le_of_ble_eq_true rfl⟩) hK hw hA h4 rfl rfl hl.1 rfl (Nat.le_of_ble_eq_true rfl) dX10_most_33 ⟨Nat.le_of_ble_eq_true rfl, (Nat.le_of_ble_eq_true rfl)⟩ (fun H locs hw => ?_)
      obtain ⟨ct_3, ect_3⟩ : ∃ z, z = kw_up (kw_up ct 4 (.inr (0, [.ref (ad 5), .ref (ad 6), .ref (ad 7), .ref (ad 8), .int (nI no), .int co, .int bg, .int (kb (false = true))]))) (60 + fx) (.inr (4, [.int st, .int oc, .int m1])) := ⟨_, rfl⟩
      rw [← ect_3] at hw
      have h_4 : ct_3 0 = some (.inr (10, [.ref (ad 1), .ref (ad 3), .int (nI nt), .ref (ad 4), .ref (ad 9), .ref (ad 11), .ref (ad 12), .ref (ad 13), .int lf])) := by rw [ect_3, kw_up_n (by omega), kw_up_n (by omega)]; exact h0
      have h_5 : ct_3 5 = some (eQ tc 3 6 qo) := by rw [ect_3, kw_up_n (by omega), kw_up_n (by omega)]; exact h5
      have h_6 : ct_3 4 = some (.inr (0, [.ref (ad 5), .ref (ad 6), .ref (ad 7), .ref (ad 8), .int (nI no), .int co, .int bg, .int (kb (false = true))])) := by rw [ect_3, kw_up_n (by omega)]; exact kw_up_s
      have h_7 : ct_3 (60 + fx) = some (.inr (4, [.int st, .int oc, .int m1])) := by rw [ect_3]; exact kw_up_s
      have hfr_8 : ∀ j, j ≠ 4 → j ≠ (60 + fx) → ct_3 j = ct j := fun j a0 a1 => by rw [ect_3]; exact (kw_up_n a1).trans ((kw_up_n a0).trans (hfr j a0 a1))
      have hq_9 := h_6
      have hq_10 := h_7
      have hend := kw_eq2 hq_9 hq_10 hfr_8
      rw [hend] at hw
      exact W.iret hx hb hr (fun t ht _ => ⟨rfl, by rw [ht]; exact hw.1, hw.2.2.1, hw.2.1.F ht, by rw [ht]; exact hw.2.2.2⟩) hw.2.1.2.2 dX10_most_36
    · exact absurd hm3 c_2
