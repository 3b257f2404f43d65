/-! THE CLAIM OUT OF ONE WALK OF THE LAW'S BODY. Your part is whole_start (and what it stands on); all else here is the same for every law, but numbers. -/
def R_law : String := "BetMakerLaw"
def lw_P (b : Addr) (xs : List Int32) (args : Array Value) (s : State) : Prop := args = #[.ref b] ∧ s.IntsAt b xs ∧ xs.length ≤ 2560 ∧ (Jvm.Cond.and given_1 narrow_1).before args s = true
def lw_Q (_ : Array Value) (s : State) (o : Outcome) (t : State) : Prop := o = .returned (some (.int 1)) ∧ Framed s o t [] 600000 7302250
def lw_Z (below : List Frame) (a : Array Value) (s : State) : State → Prop := fun t => ∃ o, t.status = .running ∧ Ended t below o ∧ lw_Q a s o t
/-- the law's own end, with 1 on the stack, nothing written that was there before, its room as the claim has it -/
theorem lw_ret {p : Program} {l : Launch} {e : Env} {s : State} {m : MethodId} {below : List Frame} {meth : Method} {c : Code} {b : Nat} (hx : p.tables.exec = Jvm.exec) (hb : c.code = code) (hr : meth.sig.returnType = ret) (hlocks : meth.locks = false) {pc : Nat} {H : Heap} {ls : Array Slot} (hdg : decode code pc = .ok (.ireturn, 1)) : W p l e room_1 s m #[Value.ref b] below meth c H [] 600000 7302250 (lw_Z below #[Value.ref b] s) (F0 m pc ls [.int 1]) := by
  intro T hT X
  obtain ⟨fs, hret, hrun, hended, hW, hframe⟩ := X.leave (v := some (.int 1)) (hlocks := hlocks) (fun h => by rw [hr] at h; cases h)
  have hmeth' : T.vm.method? m = some meth := X.method'
  refine ⟨T.setFrames fs, ?_, .returned (some (.int 1)), hrun, hended, rfl, ⟨_, rfl⟩, hW, hframe⟩
  jvm_step X.here [X.here.top, hx, hb, hdg, hmeth', hr, ret, narrow_b1]
  (try refine ⟨rfl, ?_⟩); (try refine ⟨rfl, ?_⟩)
  first | (intro acts; rw [hret _ acts rfl rfl rfl]) | rw [hret _ _ rfl rfl rfl]
  exact Steps.refl _
/-- what holds at the law's entry: the machine, the code, the tables' words (any of lw_tbl by 'hts w (by decide +kernel)'), the script of L ints xs at the cell b, what the Statement gives of the start (any of its parts by flat_of_before) -/
def lw_At (p : Program) (s : State) (m : MethodId) (meth : Method) (c : Code) (b L : Nat) (xs : Nat → Int32) : Prop :=
  p.tables.exec = Jvm.exec ∧ c.code = code ∧ meth.sig.returnType = ret ∧ c.maxLocals = 4 ∧ s.vm.findClass R_law = some m.cls ∧ (∀ w ∈ lw_tbl, w.before #[Value.ref b] s = true) ∧ va_X b L xs s s.heap ∧ b < s.heap.size ∧ meth.locks = false ∧ (Jvm.Cond.and given_1 narrow_1).before #[Value.ref b] s = true
theorem kI_0 {k : Nat} {tc : Nat → ClassId} {ad : Nat → Nat} {ct : Nat → Option va_E} (h : kI k tc ad ct) : ct 0 ≠ none ∧ ct 200 ≠ none := by
  obtain ⟨N, nt, no, nf, ft, tr, b, cm, da, bs, g, f, pu, ho, kd, de, we, la, sl, ce, tl, ca, tk, hN, hO, -⟩ := h
  exact ⟨kw_some hO.1, kw_some hO.2.1⟩
theorem klen {L k : Nat} (hL : L ≤ 2560) (hk : k ≤ 512) (h : ¬ nI L - 5 < nI (5 * k)) : 5 * k + 5 ≤ L := by
  have h2 : ¬ (nI L - nI 5).toInt < (nI (5 * k)).toInt := fun q => h (Int32.lt_iff_toInt_lt.mpr q)
  rw [pk_sub_toInt (by omega) (by omega), nI_toInt (by omega)] at h2
  omega
set_option maxHeartbeats 4000000 in
theorem law_loop {p : Program} {l : Launch} {e : Env} {s : State} {m : MethodId} {below : List Frame} {meth : Method} {c : Code} {b L : Nat} {xs : Nat → Int32} {D : va_G} {tc : Nat → ClassId} (C0 : kLwC p s m c b L xs D tc) (hr : meth.sig.returnType = ret) (hlocks : meth.locks = false) : ∀ (n k : Nat), k ≤ 512 → 513 ≤ k + n → ∀ (ad : Nat → Nat) (ct : Nat → Option va_E) (z : Nat) (H : Heap) (locs : List Loc) (ls : Array Slot), kI k tc ad ct → kw_H D ad (fun q : Nat => s.heap.size ≤ q) s.heap ct H locs z → lv_has ls 4 [(0, .ref b), (1, .ref (ad 0)), (2, .ref (ad 200)), (3, .int (nI (5 * k)))] → W p l e room_1 s m #[Value.ref b] below meth c H locs (39 + 6 * k) (873 + 42 * k) (lw_Z below #[Value.ref b] s) (F0 m 18 ls []) := by
  intro n
  induction n with
  | zero =>
    intro k h1 h2
    exact absurd h2 (by omega)
  | succ n ih =>
    intro k hk hkn ad0 ct z H locs ls hI0 hw0 hl0
    obtain ⟨hx, hb, hml, hown, hts, hX, hbl, hK, hL2⟩ := id C0
    have hbA : ¬ (fun q : Nat => s.heap.size ≤ q) b := Nat.not_le.mpr hbl
    have g0 : kre ad0 ct z 0 = ad0 0 := kre_x (kI_0 hI0).1
    have g2 : kre ad0 ct z 200 = ad0 200 := kre_x (kI_0 hI0).2
    have hI : kI k tc (kre ad0 ct z) ct := kI_re (fun j hj => kre_x hj) hI0
    have hw := hw0.re (ad' := kre ad0 ct z) (fun j hj => kre_x hj)
    have hz : ∀ j, ct j = none → kre ad0 ct z j = kAz z j := fun j hj => kre_n hj
    have hl : lv_has ls 4 [(0, .ref b), (1, .ref (kre ad0 ct z 0)), (2, .ref (kre ad0 ct z 200)), (3, .int (nI (5 * k)))] := by rw [g0, g2]; exact hl0
    generalize kre ad0 ct z = ad at hI hw hz hl
    refine lv_iload_n hx hb dL_law_18 rfl (lv_at hl 3 rfl) ?_
    refine lv_aload_n hx hb dL_law_19 rfl (lv_at hl 0 rfl) ?_
    refine va_slen hx hb hX hbl hbA hw.2.1 dL_law_20 ?_
    refine lv_iconst (v := 5) hx hb dL_law_21 (by decide) ?_
    refine lv_isub hx hb dL_law_22 ?_
    refine lv_icmp_gt (tgt := 1289) hx hb dL_law_23 (by decide) (fun c1 => ?_) (fun c1 => ?_)
    · refine lv_iconst (v := 1) hx hb dL_law_1289 (by decide) ?_
      refine va_forget (fun q hq => hw.2.1.2.2 q hq) ?_
      refine W.widen (k := 600000) (n := 7302250) (by omega) (by omega) ?_
      exact lw_ret hx hb hr hlocks dL_law_1290
    · have hlen : 5 * k + 5 ≤ L := klen hL2 hk c1
      have hkk : k < 512 := by omega
      have K : ∀ (ct3 : Nat → Option va_E) (z3 : Nat) (H1 : Heap) (locs1 : List Loc), kw_H D ad (fun q : Nat => s.heap.size ≤ q) s.heap ct3 H1 locs1 z3 → kI (k + 1) tc ad ct3 → W p l e room_1 s m #[Value.ref b] below meth c H1 locs1 (39 + 6 * k + 3 + 3) (873 + 42 * k + 21 + 21) (lw_Z below #[Value.ref b] s) (F0 m 1283 ls []) := by
        intro ct3 z3 H1 locs1 hw3 hI3
        refine lv_iinc (v := nI (5 * (k + 1))) (lv' := [(3, .int (nI (5 * (k + 1)))), (0, .ref b), (1, .ref (ad 0)), (2, .ref (ad 200))]) hx hb dL_law_1283 hl (k := 3) rfl (nI_add (5 * k) 5) (by decide) rfl (fun ls hl => ?_)
        refine lv_goto (tgt := 18) hx hb dL_law_1286 (by decide) ?_
        have h9 := ih (k + 1) hkk (by omega) ad ct3 z3 H1 locs1 ls hI3 hw3 (lv_sub hl [1, 2, 3, 0] rfl)
        exact W.widen (k := 39 + 6 * (k + 1)) (n := 873 + 42 * (k + 1)) (by omega) (by omega) h9
      have hc : 39 + 6 * k + 6 ≤ 600000 := by omega
      have hs : 873 + 42 * k + 42 ≤ 7302250 := by omega
      refine lv_aload_n hx hb dL_law_26 rfl (lv_at hl 0 rfl) ?_
      refine lv_iload_n hx hb dL_law_27 rfl (lv_at hl 3 rfl) ?_
      refine kg_sld hx hb hX hbl hbA hw.2.1 (5 * k) rfl (by omega) hL2 dL_law_28 ?_
      refine lv_bipush (v := 31) hx hb dL_law_29 (by decide) ?_
      refine lv_iand hx hb dL_law_31 ?_
      obtain ⟨j, hj, ej⟩ := k31 (xs (5 * k))
      rcases (show j = 0 ∨ j = 1 ∨ j = 2 ∨ j = 3 ∨ j = 4 ∨ j = 5 ∨ j = 6 ∨ j = 7 ∨ j = 8 ∨ j = 9 ∨ j = 10 ∨ j = 11 ∨ j = 12 ∨ j = 13 ∨ j = 14 ∨ j = 15 ∨ j = 16 ∨ j = 17 ∨ j = 18 ∨ j = 19 ∨ j = 20 ∨ j = 21 ∨ j = 22 ∨ j = 23 ∨ j = 24 ∨ j = 25 ∨ j = 26 ∨ j = 27 ∨ j = 28 ∨ j = 29 ∨ j = 30 ∨ j = 31 by omega) with rfl | rfl | rfl | rfl | rfl | rfl | rfl | rfl | rfl | rfl | rfl | rfl | rfl | rfl | rfl | rfl | rfl | rfl | rfl | rfl | rfl | rfl | rfl | rfl | rfl | rfl | rfl | rfl | rfl | rfl | rfl | rfl
      · exact lv_tableIn (off := 144) (tgt := 176) hx hb dL_law_32 (by rw [ej]; decide) (by rw [ej]; decide) (by rw [ej]; decide) (by decide) (lc_0 C0 hkk hlen hI hz hw hl hc hs K)
      · exact lv_tableIn (off := 177) (tgt := 209) hx hb dL_law_32 (by rw [ej]; decide) (by rw [ej]; decide) (by rw [ej]; decide) (by decide) (lc_1 C0 hkk hlen hI hz hw hl hc hs K)
      · exact lv_tableIn (off := 240) (tgt := 272) hx hb dL_law_32 (by rw [ej]; decide) (by rw [ej]; decide) (by rw [ej]; decide) (by decide) (lc_2 C0 hkk hlen hI hz hw hl hc hs K)
      · exact lv_tableIn (off := 264) (tgt := 296) hx hb dL_law_32 (by rw [ej]; decide) (by rw [ej]; decide) (by rw [ej]; decide) (by decide) (lc_3 C0 hkk hlen hI hz hw hl hc hs K)
      · exact lv_tableIn (off := 308) (tgt := 340) hx hb dL_law_32 (by rw [ej]; decide) (by rw [ej]; decide) (by rw [ej]; decide) (by decide) (lc_4 C0 hkk hlen hI hz hw hl hc hs K)
      · exact lv_tableIn (off := 351) (tgt := 383) hx hb dL_law_32 (by rw [ej]; decide) (by rw [ej]; decide) (by rw [ej]; decide) (by decide) (lc_5 C0 hkk hlen hI hz hw hl hc hs K)
      · exact lv_tableIn (off := 394) (tgt := 426) hx hb dL_law_32 (by rw [ej]; decide) (by rw [ej]; decide) (by rw [ej]; decide) (by decide) (lc_6 C0 hkk hlen hI hz hw hl hc hs K)
      · exact lv_tableIn (off := 417) (tgt := 449) hx hb dL_law_32 (by rw [ej]; decide) (by rw [ej]; decide) (by rw [ej]; decide) (by decide) (lc_7 C0 hkk hlen hI hz hw hl hc hs K)
      · exact lv_tableIn (off := 451) (tgt := 483) hx hb dL_law_32 (by rw [ej]; decide) (by rw [ej]; decide) (by rw [ej]; decide) (by decide) (lc_8 C0 hkk hlen hI hz hw hl hc hs K)
      · exact lv_tableIn (off := 475) (tgt := 507) hx hb dL_law_32 (by rw [ej]; decide) (by rw [ej]; decide) (by rw [ej]; decide) (by decide) (lc_9 C0 hkk hlen hI hz hw hl hc hs K)
      · exact lv_tableIn (off := 509) (tgt := 541) hx hb dL_law_32 (by rw [ej]; decide) (by rw [ej]; decide) (by rw [ej]; decide) (by decide) (lc_10 C0 hkk hlen hI hz hw hl hc hs K)
      · exact lv_tableIn (off := 552) (tgt := 584) hx hb dL_law_32 (by rw [ej]; decide) (by rw [ej]; decide) (by rw [ej]; decide) (by decide) (lc_11 C0 hkk hlen hI hz hw hl hc hs K)
      · exact lv_tableIn (off := 605) (tgt := 637) hx hb dL_law_32 (by rw [ej]; decide) (by rw [ej]; decide) (by rw [ej]; decide) (by decide) (lc_12 C0 hkk hlen hI hz hw hl hc hs K)
      · exact lv_tableIn (off := 649) (tgt := 681) hx hb dL_law_32 (by rw [ej]; decide) (by rw [ej]; decide) (by rw [ej]; decide) (by decide) (lc_13 C0 hkk hlen hI hz hw hl hc hs K)
      · exact lv_tableIn (off := 683) (tgt := 715) hx hb dL_law_32 (by rw [ej]; decide) (by rw [ej]; decide) (by rw [ej]; decide) (by decide) (lc_14 C0 hkk hlen hI hz hw hl hc hs K)
      · exact lv_tableIn (off := 726) (tgt := 758) hx hb dL_law_32 (by rw [ej]; decide) (by rw [ej]; decide) (by rw [ej]; decide) (by decide) (lc_15 C0 hkk hlen hI hz hw hl hc hs K)
      · exact lv_tableIn (off := 759) (tgt := 791) hx hb dL_law_32 (by rw [ej]; decide) (by rw [ej]; decide) (by rw [ej]; decide) (by decide) (lc_16 C0 hkk hlen hI hz hw hl hc hs K)
      · exact lv_tableIn (off := 772) (tgt := 804) hx hb dL_law_32 (by rw [ej]; decide) (by rw [ej]; decide) (by rw [ej]; decide) (by decide) (lc_17 C0 hkk hlen hI hz hw hl hc hs K)
      · exact lv_tableIn (off := 795) (tgt := 827) hx hb dL_law_32 (by rw [ej]; decide) (by rw [ej]; decide) (by rw [ej]; decide) (by decide) (lc_18 C0 hkk hlen hI hz hw hl hc hs K)
      · exact lv_tableIn (off := 848) (tgt := 880) hx hb dL_law_32 (by rw [ej]; decide) (by rw [ej]; decide) (by rw [ej]; decide) (by decide) (lc_19 C0 hkk hlen hI hz hw hl hc hs K)
      · exact lv_tableIn (off := 882) (tgt := 914) hx hb dL_law_32 (by rw [ej]; decide) (by rw [ej]; decide) (by rw [ej]; decide) (by decide) (lc_20 C0 hkk hlen hI hz hw hl hc hs K)
      · exact lv_tableIn (off := 926) (tgt := 958) hx hb dL_law_32 (by rw [ej]; decide) (by rw [ej]; decide) (by rw [ej]; decide) (by decide) (lc_21 C0 hkk hlen hI hz hw hl hc hs K)
      · exact lv_tableIn (off := 970) (tgt := 1002) hx hb dL_law_32 (by rw [ej]; decide) (by rw [ej]; decide) (by rw [ej]; decide) (by decide) (lc_22 C0 hkk hlen hI hz hw hl hc hs K)
      · exact lv_tableIn (off := 1013) (tgt := 1045) hx hb dL_law_32 (by rw [ej]; decide) (by rw [ej]; decide) (by rw [ej]; decide) (by decide) (lc_23 C0 hkk hlen hI hz hw hl hc hs K)
      · exact lv_tableIn (off := 1036) (tgt := 1068) hx hb dL_law_32 (by rw [ej]; decide) (by rw [ej]; decide) (by rw [ej]; decide) (by decide) (lc_24 C0 hkk hlen hI hz hw hl hc hs K)
      · exact lv_tableIn (off := 1079) (tgt := 1111) hx hb dL_law_32 (by rw [ej]; decide) (by rw [ej]; decide) (by rw [ej]; decide) (by decide) (lc_25 C0 hkk hlen hI hz hw hl hc hs K)
      · exact lv_tableIn (off := 1123) (tgt := 1155) hx hb dL_law_32 (by rw [ej]; decide) (by rw [ej]; decide) (by rw [ej]; decide) (by decide) (lc_26 C0 hkk hlen hI hz hw hl hc hs K)
      · exact lv_tableIn (off := 1146) (tgt := 1178) hx hb dL_law_32 (by rw [ej]; decide) (by rw [ej]; decide) (by rw [ej]; decide) (by decide) (lc_27 C0 hkk hlen hI hz hw hl hc hs K)
      · exact lv_tableIn (off := 1169) (tgt := 1201) hx hb dL_law_32 (by rw [ej]; decide) (by rw [ej]; decide) (by rw [ej]; decide) (by decide) (lc_28 C0 hkk hlen hI hz hw hl hc hs K)
      · exact lv_tableIn (off := 1202) (tgt := 1234) hx hb dL_law_32 (by rw [ej]; decide) (by rw [ej]; decide) (by rw [ej]; decide) (by decide) (lc_29 C0 hkk hlen hI hz hw hl hc hs K)
      · exact lv_tableIn (off := 1215) (tgt := 1247) hx hb dL_law_32 (by rw [ej]; decide) (by rw [ej]; decide) (by rw [ej]; decide) (by decide) (lc_30 C0 hkk hlen hI hz hw hl hc hs K)
      · exact lv_tableIn (off := 1228) (tgt := 1260) hx hb dL_law_32 (by rw [ej]; decide) (by rw [ej]; decide) (by rw [ej]; decide) (by decide) (lc_31 C0 hkk hlen hI hz hw hl hc hs K)
