set_option maxHeartbeats 4000000 in
theorem o_price {l : Launch} {D : va_G} {tc : Nat → ClassId} {ad : Nat → Nat} {ct : Nat → Option va_E} {z kk : Nat} (hkk : kk < 512) (hI : kI kk tc ad ct) (hz : ∀ j, ct j = none → ad j = kAz z j) (a1 : Int32) : kOp l D tc ad ct z kk 25 29 [.int a1] true := by
  obtain ⟨N, nt, no, nf, ft, tr, b, cm, da, bs, g, f, pu, ho, kd, de, we, la, sl, ce, tl, ca, tk, hNb, hO, hM, hT, hB, hF, hS, h13, hG⟩ := id hI
  obtain ⟨hN2, hN, b0, hb1, hb2, rfl⟩ := id hNb
  obtain ⟨h0, h200, h12⟩ := id hO
  obtain ⟨h1, ⟨fC, h2, hf⟩, h201⟩ := id hM
  obtain ⟨hnt, h202, h203, h204, h205, h206, qt, ci, hoC, weC, h3, hTf, hT1, hTn⟩ := id hT
  obtain ⟨hno, os, oc, om, nw, brR, mm, co, bg, se, qo, rw1, br, cv, h210, h211, h212, h213, h214, h4, h5, h6, h7, h8, hOf, hom, hm3, ho9, hse, hOn⟩ := id hB
  obtain ⟨hnf, h215, h216, qf, cf, sm, sq, wC, h9, h10, hFf, hF1, hFn⟩ := id hF
  obtain ⟨h207, h208, h209, qs, th, ln, n, sc, h11, hSf⟩ := id hS
  by_cases hs : 1 ≤ a1 ∧ a1 ≤ 1 <<< (nI N &&& 31) - 2
  · have k1 : kCl l D tc ad ct z 25 0 [.int a1] (.long (kSP (nI b0) N fC (su f N) a1)) ct 0 := kCl_p (c_X10_price l D tc z ad ct (nt := nt) (N := N) h0 h1 h2 hN hs) cw_X10_price h0 rfl rfl
    have k2 : kCl l D tc ad ct (z + 0) 29 200 [.int a1] (.long (su (fun c => (kbit a1 c).toInt64 * kPr (nI b0) N f (su f N) c) N)) ct 0 := kCl_p (c_X11_price l D tc (z + 0) ad ct (N := N) (nt := nt) (no := no) (nf := nf) h200 h201 hN ((kset_i hN2 hN).mpr hs)) cw_X11_price h200 rfl rfl
    exact ⟨_, ct, 0, ct, ct, (show ∃ a : Int64, _ = Value.long a from ⟨_, rfl⟩), by decide, k1, kCl_v (congrArg Value.long (kprice_e hf)) k2, fun _ _ h => h, kI_s hI⟩
  · have k1 : kCl l D tc ad ct z 25 0 [.int a1] (.long (-9223372036854775808)) ct 0 := kCl_p (c_X10_price_n l D tc z ad ct (nt := nt) (N := N) h0 h1 hs) cw_X10_price h0 rfl rfl
    have k2 : kCl l D tc ad ct (z + 0) 29 200 [.int a1] (.long (-9223372036854775808)) ct 0 := kCl_p (c_X11_price_n l D tc (z + 0) ad ct (N := N) (nt := nt) (no := no) (nf := nf) h200 (fun q => hs ((kset_i hN2 hN).mp q))) cw_X11_price h200 rfl rfl
    exact ⟨_, ct, 0, ct, ct, (show ∃ a : Int64, _ = Value.long a from ⟨_, rfl⟩), by decide, k1, k2, fun _ _ h => h, kI_s hI⟩

set_option maxHeartbeats 4000000 in
theorem o_quote {l : Launch} {D : va_G} {tc : Nat → ClassId} {ad : Nat → Nat} {ct : Nat → Option va_E} {z kk : Nat} (hkk : kk < 512) (hI : kI kk tc ad ct) (hz : ∀ j, ct j = none → ad j = kAz z j) (a1 : Int32) (a2 : Int32) (a3 : Int32) : kOp l D tc ad ct z kk 30 34 [.int a1, .int a2, .int a3] true := by
  obtain ⟨N, nt, no, nf, ft, tr, b, cm, da, bs, g, f, pu, ho, kd, de, we, la, sl, ce, tl, ca, tk, hNb, hO, hM, hT, hB, hF, hS, h13, hG⟩ := id hI
  obtain ⟨hN2, hN, b0, hb1, hb2, rfl⟩ := id hNb
  obtain ⟨h0, h200, h12⟩ := id hO
  obtain ⟨h1, ⟨fC, h2, hf⟩, h201⟩ := id hM
  obtain ⟨hnt, h202, h203, h204, h205, h206, qt, ci, hoC, weC, h3, hTf, hT1, hTn⟩ := id hT
  obtain ⟨hno, os, oc, om, nw, brR, mm, co, bg, se, qo, rw1, br, cv, h210, h211, h212, h213, h214, h4, h5, h6, h7, h8, hOf, hom, hm3, ho9, hse, hOn⟩ := id hB
  obtain ⟨hnf, h215, h216, qf, cf, sm, sq, wC, h9, h10, hFf, hF1, hFn⟩ := id hF
  obtain ⟨h207, h208, h209, qs, th, ln, n, sc, h11, hSf⟩ := id hS
  by_cases ht0 : 0 ≤ a1 ∧ a1 < nI nt
  · obtain ⟨t, ht, rfl⟩ := kidx (by omega) ht0
    obtain ⟨⟨hqt, hci⟩, h30, h36, h42⟩ := hTf t ht
    obtain ⟨hkd, hho, hwe, hw1, hwz⟩ := hT1 t ht
    by_cases hor : (1 ≤ a2 ∧ a2 ≤ 1 <<< (nI N &&& 31) - 2) ∧ ¬ a3 = 0 ∧ (-1000) ≤ a3 ∧ a3 ≤ 1000
    · have k1 : kCl l D tc ad ct z 30 0 [.int (nI t), .int a2, .int a3] (.long (kCost (nI b0) N fC (su f N) a2 a3)) ct 0 := kCl_p (c_X10_quote l D tc z ad ct (t := t) (nt := nt) (N := N) (ho := (fun _ => 0)) h0 h1 h2 h3 ht hnt hqt hN hor) cw_X10_quote h0 rfl rfl
      have k2 : kCl l D tc ad ct (z + 0) 34 200 [.int (nI t), .int a2, .int a3] (.long (kPd (nI b0) N f a2 a3.toInt64)) ct 0 := kCl_p (c_X11_quote l D tc (z + 0) ad ct (N := N) (nt := nt) (no := no) (nf := nf) h200 h201 hN ht0 ((kset_i hN2 hN).mpr hor.1) (kshr_i.mpr hor.2)) cw_X11_quote h200 rfl rfl
      exact ⟨_, ct, 0, ct, ct, (show ∃ a : Int64, _ = Value.long a from ⟨_, rfl⟩), by decide, k1, kCl_v (congrArg Value.long (kCost_pd (kset_b hN2 hN hor.1) hf)) k2, fun _ _ h => h, kI_s hI⟩
    · have k1 : kCl l D tc ad ct z 30 0 [.int (nI t), .int a2, .int a3] (.long (-9223372036854775808)) ct 0 := kCl_p (c_X10_quote_m l D tc z ad ct (t := t) (nt := nt) (N := N) (ho := (fun _ => 0)) h0 h1 h3 ht hnt hqt hor) cw_X10_quote h0 rfl rfl
      have k2 : kCl l D tc ad ct (z + 0) 34 200 [.int (nI t), .int a2, .int a3] (.long (-9223372036854775808)) ct 0 := kCl_p (c_X11_quote_n l D tc (z + 0) ad ct (N := N) (nt := nt) (no := no) (nf := nf) h200 (fun q => hor ⟨(kset_i hN2 hN).mp q.2.1, kshr_i.mp q.2.2⟩)) cw_X11_quote h200 rfl rfl
      exact ⟨_, ct, 0, ct, ct, (show ∃ a : Int64, _ = Value.long a from ⟨_, rfl⟩), by decide, k1, k2, fun _ _ h => h, kI_s hI⟩
  · have k1 : kCl l D tc ad ct z 30 0 [.int a1, .int a2, .int a3] (.long (-9223372036854775808)) ct 0 := kCl_p (c_X10_quote_n l D tc z ad ct (nt := nt) h0 ht0) cw_X10_quote h0 rfl rfl
    have k2 : kCl l D tc ad ct (z + 0) 34 200 [.int a1, .int a2, .int a3] (.long (-9223372036854775808)) ct 0 := kCl_p (c_X11_quote_n l D tc (z + 0) ad ct (N := N) (nt := nt) (no := no) (nf := nf) h200 (fun q => ht0 q.1)) cw_X11_quote h200 rfl rfl
    exact ⟨_, ct, 0, ct, ct, (show ∃ a : Int64, _ = Value.long a from ⟨_, rfl⟩), by decide, k1, k2, fun _ _ h => h, kI_s hI⟩

set_option maxHeartbeats 4000000 in
theorem o_barred {l : Launch} {D : va_G} {tc : Nat → ClassId} {ad : Nat → Nat} {ct : Nat → Option va_E} {z kk : Nat} (hkk : kk < 512) (hI : kI kk tc ad ct) (hz : ∀ j, ct j = none → ad j = kAz z j) (a1 : Int32) (a2 : Int32) (a3 : Int32) : kOp l D tc ad ct z kk 35 39 [.int a1, .int a2, .int a3] false := by
  obtain ⟨N, nt, no, nf, ft, tr, b, cm, da, bs, g, f, pu, ho, kd, de, we, la, sl, ce, tl, ca, tk, hNb, hO, hM, hT, hB, hF, hS, h13, hG⟩ := id hI
  obtain ⟨hN2, hN, b0, hb1, hb2, rfl⟩ := id hNb
  obtain ⟨h0, h200, h12⟩ := id hO
  obtain ⟨h1, ⟨fC, h2, hf⟩, h201⟩ := id hM
  obtain ⟨hnt, h202, h203, h204, h205, h206, qt, ci, hoC, weC, h3, hTf, hT1, hTn⟩ := id hT
  obtain ⟨hno, os, oc, om, nw, brR, mm, co, bg, se, qo, rw1, br, cv, h210, h211, h212, h213, h214, h4, h5, h6, h7, h8, hOf, hom, hm3, ho9, hse, hOn⟩ := id hB
  obtain ⟨hnf, h215, h216, qf, cf, sm, sq, wC, h9, h10, hFf, hF1, hFn⟩ := id hF
  obtain ⟨h207, h208, h209, qs, th, ln, n, sc, h11, hSf⟩ := id hS
  by_cases ht0 : 0 ≤ a1 ∧ a1 < nI nt
  · obtain ⟨t, ht, rfl⟩ := kidx (by omega) ht0
    obtain ⟨⟨hqt, hci⟩, h30, h36, h42⟩ := hTf t ht
    obtain ⟨hkd, hho, hwe, hw1, hwz⟩ := hT1 t ht
    by_cases hor : (1 ≤ a2 ∧ a2 ≤ 1 <<< (nI N &&& 31) - 2) ∧ ¬ a3 = 0 ∧ (-1000) ≤ a3 ∧ a3 ≤ 1000
    · by_cases hm : cm = (-9)
      · have k1 : kCl l D tc ad ct z 35 0 [.int (nI t), .int a2, .int a3] (.int (kWb (nI b0) N fC (su f N) a2 a3 (pu t) (hoC t))) ct 0 := kCl_p (c_X10_barred l D tc z ad ct (t := t) (nt := nt) (N := N) h0 h1 h2 h3 h30 h36 ht hnt hqt hci hN hor hm) cw_X10_barred h0 rfl rfl
        have k2 : kCl l D tc ad ct (z + 0) 39 200 [.int (nI t), .int a2, .int a3] (.int (kWy (nI b0) N f a2 a3.toInt64 (pu t) (fun c => ho (8 * t + c)))) ct 0 := kCl_p (c_X11_barred l D tc (z + 0) ad ct (t := t) (N := N) (nt := nt) (no := no) (nf := nf) h200 h201 h203 h205 ht hnt hN hN2 ((kset_i hN2 hN).mpr hor.1) (kshr_i.mpr hor.2) hm) cw_X11_barred h200 rfl rfl
        exact ⟨_, ct, 0, ct, ct, (show ∃ a : Int32, _ = Value.int a from ⟨_, rfl⟩), by decide, k1, kCl_v (congrArg Value.int (kWb_y (kset_b hN2 hN hor.1) (by omega) hf hho)) k2, fun _ _ h => h, kI_s hI⟩
      · have k1 : kCl l D tc ad ct z 35 0 [.int (nI t), .int a2, .int a3] (.int (-3)) ct 0 := kCl_p (c_X10_barred_s l D tc z ad ct (t := t) (nt := nt) (N := N) (ho := (fun _ => 0)) h0 h1 h3 ht hnt hqt hor hm) cw_X10_barred h0 rfl rfl
        have k2 : kCl l D tc ad ct (z + 0) 39 200 [.int (nI t), .int a2, .int a3] (.int (-3)) ct 0 := kCl_p (c_X11_barred_s l D tc (z + 0) ad ct (N := N) (nt := nt) (no := no) (nf := nf) h200 ht0 ((kset_i hN2 hN).mpr hor.1) (kshr_i.mpr hor.2) hm) cw_X11_barred h200 rfl rfl
        exact ⟨_, ct, 0, ct, ct, (show ∃ a : Int32, _ = Value.int a from ⟨_, rfl⟩), by decide, k1, k2, fun _ _ h => h, kI_s hI⟩
    · have k1 : kCl l D tc ad ct z 35 0 [.int (nI t), .int a2, .int a3] (.int (-2)) ct 0 := kCl_p (c_X10_barred_o l D tc z ad ct (t := t) (nt := nt) (N := N) (ho := (fun _ => 0)) h0 h1 h3 ht hnt hqt hor) cw_X10_barred h0 rfl rfl
      have k2 : kCl l D tc ad ct (z + 0) 39 200 [.int (nI t), .int a2, .int a3] (.int (-2)) ct 0 := kCl_p (c_X11_barred_o l D tc (z + 0) ad ct (N := N) (nt := nt) (no := no) (nf := nf) h200 ht0 (fun q => hor ⟨(kset_i hN2 hN).mp q.1, kshr_i.mp q.2⟩)) cw_X11_barred h200 rfl rfl
      exact ⟨_, ct, 0, ct, ct, (show ∃ a : Int32, _ = Value.int a from ⟨_, rfl⟩), by decide, k1, k2, fun _ _ h => h, kI_s hI⟩
  · have k1 : kCl l D tc ad ct z 35 0 [.int a1, .int a2, .int a3] (.int (-1)) ct 0 := kCl_p (c_X10_barred_u l D tc z ad ct (nt := nt) h0 ht0) cw_X10_barred h0 rfl rfl
    have k2 : kCl l D tc ad ct (z + 0) 39 200 [.int a1, .int a2, .int a3] (.int (-1)) ct 0 := kCl_p (c_X11_barred_u l D tc (z + 0) ad ct (N := N) (nt := nt) (no := no) (nf := nf) h200 ht0) cw_X11_barred h200 rfl rfl
    exact ⟨_, ct, 0, ct, ct, (show ∃ a : Int32, _ = Value.int a from ⟨_, rfl⟩), by decide, k1, k2, fun _ _ h => h, kI_s hI⟩

set_option maxHeartbeats 4000000 in
theorem o_about {l : Launch} {D : va_G} {tc : Nat → ClassId} {ad : Nat → Nat} {ct : Nat → Option va_E} {z kk : Nat} (hkk : kk < 512) (hI : kI kk tc ad ct) (hz : ∀ j, ct j = none → ad j = kAz z j) (a1 : Int32) (a2 : Int32) : kOp l D tc ad ct z kk 49 53 [.int a1, .int a2] true := by
  obtain ⟨N, nt, no, nf, ft, tr, b, cm, da, bs, g, f, pu, ho, kd, de, we, la, sl, ce, tl, ca, tk, hNb, hO, hM, hT, hB, hF, hS, h13, hG⟩ := id hI
  obtain ⟨hN2, hN, b0, hb1, hb2, rfl⟩ := id hNb
  obtain ⟨h0, h200, h12⟩ := id hO
  obtain ⟨h1, ⟨fC, h2, hf⟩, h201⟩ := id hM
  obtain ⟨hnt, h202, h203, h204, h205, h206, qt, ci, hoC, weC, h3, hTf, hT1, hTn⟩ := id hT
  obtain ⟨hno, os, oc, om, nw, brR, mm, co, bg, se, qo, rw1, br, cv, h210, h211, h212, h213, h214, h4, h5, h6, h7, h8, hOf, hom, hm3, ho9, hse, hOn⟩ := id hB
  obtain ⟨hnf, h215, h216, qf, cf, sm, sq, wC, h9, h10, hFf, hF1, hFn⟩ := id hF
  obtain ⟨h207, h208, h209, qs, th, ln, n, sc, h11, hSf⟩ := id hS
  by_cases hc0 : 0 ≤ a1 ∧ a1 < nI N
  · obtain ⟨c, hc, rfl⟩ := kidx (by omega) hc0
    by_cases w0 : a2 = 0
    · subst w0
      have k1 : kCl l D tc ad ct z 49 0 [.int (nI c), .int 0] (.long (fC c)) ct 0 := kCl_p (c_X10_about_0 l D tc z ad ct (c := c) (nt := nt) (N := N) h0 h1 h2 hc hN) cw_X10_about h0 rfl rfl
      have k2 : kCl l D tc ad ct (z + 0) 53 200 [.int (nI c), .int 0] (.long (f c)) ct 0 := kCl_p (c_X11_about_0 l D tc (z + 0) ad ct (c := c) (N := N) (nt := nt) (no := no) (nf := nf) h200 h201 hc hN) cw_X11_about h200 rfl rfl
      exact ⟨_, ct, 0, ct, ct, (show ∃ a : Int64, _ = Value.long a from ⟨_, rfl⟩), by decide, k1, kCl_v (congrArg Value.long (hf c hc)) k2, fun _ _ h => h, kI_s hI⟩
    · by_cases w1 : a2 = 1
      · subst w1
        have k1 : kCl l D tc ad ct z 49 0 [.int (nI c), .int 1] (.long (kPr (nI b0) N fC (su f N) c)) ct 0 := kCl_p (c_X10_about_1 l D tc z ad ct (c := c) (nt := nt) (N := N) h0 h1 h2 hc hN) cw_X10_about h0 rfl rfl
        have k2 : kCl l D tc ad ct (z + 0) 53 200 [.int (nI c), .int 1] (.long (kPr (nI b0) N f (su f N) c)) ct 0 := kCl_p (c_X11_about_1 l D tc (z + 0) ad ct (c := c) (N := N) (nt := nt) (no := no) (nf := nf) h200 h201 hc hN) cw_X11_about h200 rfl rfl
        exact ⟨_, ct, 0, ct, ct, (show ∃ a : Int64, _ = Value.long a from ⟨_, rfl⟩), by decide, k1, kCl_v (congrArg Value.long (kPr_cong (hf c hc))) k2, fun _ _ h => h, kI_s hI⟩
      · by_cases w2 : a2 = 2
        · subst w2
          have k1 : kCl l D tc ad ct z 49 0 [.int (nI c), .int 2] (.long ((nI (kcn (fun z => !decide (hoC z c ≤ 0)) nt)).toInt64)) ct 0 := kCl_p (c_X10_about_2 l D tc z ad ct (c := c) (ho := hoC) (nt := nt) (N := N) h0 h1 h3 hc hN hnt hTf) cw_X10_about h0 rfl rfl
          have k2 : kCl l D tc ad ct (z + 0) 53 200 [.int (nI c), .int 2] (.long (kHd ho c nt)) ct 0 := kCl_p (c_X11_about_2 l D tc (z + 0) ad ct (c := c) (N := N) (nt := nt) (no := no) (nf := nf) h200 h205 hc hN hnt) cw_X11_about h200 rfl rfl
          exact ⟨_, ct, 0, ct, ct, (show ∃ a : Int64, _ = Value.long a from ⟨_, rfl⟩), by decide, k1, kCl_v (congrArg Value.long ((nI_l (Nat.lt_of_le_of_lt (kcn_le _ _) (by omega))).trans (kHd_e (hc := hoC) (fun t ht => (hT1 t ht).2.1 c hc)).symm)) k2, fun _ _ h => h, kI_s hI⟩
        · have k1 : kCl l D tc ad ct z 49 0 [.int (nI c), .int a2] (.long (-9223372036854775808)) ct 0 := kCl_p (c_X10_about_d l D tc z ad ct (nt := nt) (N := N) h0 h1 hc0 w0 w1 w2) cw_X10_about h0 rfl rfl
          have k2 : kCl l D tc ad ct (z + 0) 53 200 [.int (nI c), .int a2] (.long (-9223372036854775808)) ct 0 := kCl_p (c_X11_about_d l D tc (z + 0) ad ct (N := N) (nt := nt) (no := no) (nf := nf) h200 hc0 w0 w1 w2) cw_X11_about h200 rfl rfl
          exact ⟨_, ct, 0, ct, ct, (show ∃ a : Int64, _ = Value.long a from ⟨_, rfl⟩), by decide, k1, k2, fun _ _ h => h, kI_s hI⟩
  · have k1 : kCl l D tc ad ct z 49 0 [.int a1, .int a2] (.long (-9223372036854775808)) ct 0 := kCl_p (c_X10_about_n l D tc z ad ct (nt := nt) (N := N) h0 h1 hc0) cw_X10_about h0 rfl rfl
    have k2 : kCl l D tc ad ct (z + 0) 53 200 [.int a1, .int a2] (.long (-9223372036854775808)) ct 0 := kCl_p (c_X11_about_n l D tc (z + 0) ad ct (N := N) (nt := nt) (no := no) (nf := nf) h200 hc0) cw_X11_about h200 rfl rfl
    exact ⟨_, ct, 0, ct, ct, (show ∃ a : Int64, _ = Value.long a from ⟨_, rfl⟩), by decide, k1, k2, fun _ _ h => h, kI_s hI⟩

set_option maxHeartbeats 4000000 in
theorem o_maker {l : Launch} {D : va_G} {tc : Nat → ClassId} {ad : Nat → Nat} {ct : Nat → Option va_E} {z kk : Nat} (hkk : kk < 512) (hI : kI kk tc ad ct) (hz : ∀ j, ct j = none → ad j = kAz z j) (a1 : Int32) : kOp l D tc ad ct z kk 54 57 [.int a1] true := by
  obtain ⟨N, nt, no, nf, ft, tr, b, cm, da, bs, g, f, pu, ho, kd, de, we, la, sl, ce, tl, ca, tk, hNb, hO, hM, hT, hB, hF, hS, h13, hG⟩ := id hI
  obtain ⟨hN2, hN, b0, hb1, hb2, rfl⟩ := id hNb
  obtain ⟨h0, h200, h12⟩ := id hO
  obtain ⟨h1, ⟨fC, h2, hf⟩, h201⟩ := id hM
  obtain ⟨hnt, h202, h203, h204, h205, h206, qt, ci, hoC, weC, h3, hTf, hT1, hTn⟩ := id hT
  obtain ⟨hno, os, oc, om, nw, brR, mm, co, bg, se, qo, rw1, br, cv, h210, h211, h212, h213, h214, h4, h5, h6, h7, h8, hOf, hom, hm3, ho9, hse, hOn⟩ := id hB
  obtain ⟨hnf, h215, h216, qf, cf, sm, sq, wC, h9, h10, hFf, hF1, hFn⟩ := id hF
  obtain ⟨h207, h208, h209, qs, th, ln, n, sc, h11, hSf⟩ := id hS
  by_cases w0 : a1 = 0
  · subst w0
    have k1 : kCl l D tc ad ct z 54 0 [.int 0] (.long (4 * (nI b0).toInt64 * (su f N) + (nI N).toInt64 * su (fun c => fC c * fC c) N - (su f N) * (su f N))) ct 0 := kCl_p (c_X10_maker_0 l D tc z ad ct (nt := nt) (N := N) h0 h1 h2 hN) cw_X10_maker h0 rfl rfl
    have k2 : kCl l D tc ad ct (z + 0) 57 200 [.int 0] (.long (kLv (nI b0) N f 0 0)) ct 0 := kCl_p (c_X11_maker_0 l D tc (z + 0) ad ct (N := N) (nt := nt) (no := no) (nf := nf) h200 h201 hN) cw_X11_maker h200 rfl rfl
    exact ⟨_, ct, 0, ct, ct, (show ∃ a : Int64, _ = Value.long a from ⟨_, rfl⟩), by decide, k1, kCl_v (congrArg Value.long (by rw [kLv_0, su_cong (f := fun c => fC c * fC c) (g := fun c => f c * f c) (fun c hc => by rw [hf c hc])])) k2, fun _ _ h => h, kI_s hI⟩
  · by_cases w1 : a1 = 1
    · subst w1
      have k1 : kCl l D tc ad ct z 54 0 [.int 1] (.long g) ct 0 := kCl_p (c_X10_maker_1 l D tc z ad ct (nt := nt) (N := N) h0 h1) cw_X10_maker h0 rfl rfl
      have k2 : kCl l D tc ad ct (z + 0) 57 200 [.int 1] (.long g) ct 0 := kCl_p (c_X11_maker_1 l D tc (z + 0) ad ct (N := N) (nt := nt) (no := no) (nf := nf) h200) cw_X11_maker h200 rfl rfl
      exact ⟨_, ct, 0, ct, ct, (show ∃ a : Int64, _ = Value.long a from ⟨_, rfl⟩), by decide, k1, k2, fun _ _ h => h, kI_s hI⟩
    · by_cases w2 : a1 = 2
      · subst w2
        by_cases hm : cm = (-9)
        · have k1 : kCl l D tc ad ct z 54 0 [.int 2] (.long (if ¬ cm = (-9) then g else g - kU (nI b0) N * kMx fC (N - 1))) ct 0 := kCl_p (c_X10_maker_2 l D tc z ad ct (nt := nt) (N := N) h0 h1 h2 hN hN2) cw_X10_maker h0 rfl rfl
          have k2 : kCl l D tc ad ct (z + 0) 57 200 [.int 2] (.long (kWr g (kU (nI b0) N) ho nt N)) ct 0 := kCl_p (c_X11_maker_2 l D tc (z + 0) ad ct (N := N) (nt := nt) (no := no) (nf := nf) h200 h205 hm hN hnt) cw_X11_maker h200 rfl rfl
          exact ⟨_, ct, 0, ct, ct, (show ∃ a : Int64, _ = Value.long a from ⟨_, rfl⟩), by decide, k1, kCl_v (congrArg Value.long (kworst hb2 hN2 hN hkk hm hf hG)) k2, fun _ _ h => h, kI_s hI⟩
        · have k1 : kCl l D tc ad ct z 54 0 [.int 2] (.long (if ¬ cm = (-9) then g else g - kU (nI b0) N * kMx fC (N - 1))) ct 0 := kCl_p (c_X10_maker_2 l D tc z ad ct (nt := nt) (N := N) h0 h1 h2 hN hN2) cw_X10_maker h0 rfl rfl
          have k2 : kCl l D tc ad ct (z + 0) 57 200 [.int 2] (.long g) ct 0 := kCl_p (c_X11_maker_2c l D tc (z + 0) ad ct (N := N) (nt := nt) (no := no) (nf := nf) h200 hm) cw_X11_maker h200 rfl rfl
          exact ⟨_, ct, 0, ct, ct, (show ∃ a : Int64, _ = Value.long a from ⟨_, rfl⟩), by decide, k1, kCl_v (congrArg Value.long (if_pos hm)) k2, fun _ _ h => h, kI_s hI⟩
      · by_cases w3 : a1 = 3
        · subst w3
          have k1 : kCl l D tc ad ct z 54 0 [.int 3] (.long (kU (nI b0) N)) ct 0 := kCl_p (c_X10_maker_3 l D tc z ad ct (nt := nt) (N := N) h0 h1) cw_X10_maker h0 rfl rfl
          have k2 : kCl l D tc ad ct (z + 0) 57 200 [.int 3] (.long (kU (nI b0) N)) ct 0 := kCl_p (c_X11_maker_3 l D tc (z + 0) ad ct (N := N) (nt := nt) (no := no) (nf := nf) h200) cw_X11_maker h200 rfl rfl
          exact ⟨_, ct, 0, ct, ct, (show ∃ a : Int64, _ = Value.long a from ⟨_, rfl⟩), by decide, k1, k2, fun _ _ h => h, kI_s hI⟩
        · by_cases w4 : a1 = 4
          · subst w4
            have k1 : kCl l D tc ad ct z 54 0 [.int 4] (.long cm.toInt64) ct 0 := kCl_p (c_X10_maker_4 l D tc z ad ct (nt := nt) (N := N) h0 h1) cw_X10_maker h0 rfl rfl
            have k2 : kCl l D tc ad ct (z + 0) 57 200 [.int 4] (.long cm.toInt64) ct 0 := kCl_p (c_X11_maker_4 l D tc (z + 0) ad ct (N := N) (nt := nt) (no := no) (nf := nf) h200) cw_X11_maker h200 rfl rfl
            exact ⟨_, ct, 0, ct, ct, (show ∃ a : Int64, _ = Value.long a from ⟨_, rfl⟩), by decide, k1, k2, fun _ _ h => h, kI_s hI⟩
          · have k1 : kCl l D tc ad ct z 54 0 [.int a1] (.long (-9223372036854775808)) ct 0 := kCl_p (c_X10_maker_d l D tc z ad ct w0 w1 w2 w3 w4) cw_X10_maker h0 rfl rfl
            have k2 : kCl l D tc ad ct (z + 0) 57 200 [.int a1] (.long (-9223372036854775808)) ct 0 := kCl_p (c_X11_maker_d l D tc (z + 0) ad ct (N := N) (nt := nt) (no := no) (nf := nf) h200 w0 w1 w2 w3 w4) cw_X11_maker h200 rfl rfl
            exact ⟨_, ct, 0, ct, ct, (show ∃ a : Int64, _ = Value.long a from ⟨_, rfl⟩), by decide, k1, k2, fun _ _ h => h, kI_s hI⟩

set_option maxHeartbeats 4000000 in
theorem o_of {l : Launch} {D : va_G} {tc : Nat → ClassId} {ad : Nat → Nat} {ct : Nat → Option va_E} {z kk : Nat} (hkk : kk < 512) (hI : kI kk tc ad ct) (hz : ∀ j, ct j = none → ad j = kAz z j) (a1 : Int32) (a2 : Int32) : kOp l D tc ad ct z kk 58 61 [.int a1, .int a2] true := by
  obtain ⟨N, nt, no, nf, ft, tr, b, cm, da, bs, g, f, pu, ho, kd, de, we, la, sl, ce, tl, ca, tk, hNb, hO, hM, hT, hB, hF, hS, h13, hG⟩ := id hI
  obtain ⟨hN2, hN, b0, hb1, hb2, rfl⟩ := id hNb
  obtain ⟨h0, h200, h12⟩ := id hO
  obtain ⟨h1, ⟨fC, h2, hf⟩, h201⟩ := id hM
  obtain ⟨hnt, h202, h203, h204, h205, h206, qt, ci, hoC, weC, h3, hTf, hT1, hTn⟩ := id hT
  obtain ⟨hno, os, oc, om, nw, brR, mm, co, bg, se, qo, rw1, br, cv, h210, h211, h212, h213, h214, h4, h5, h6, h7, h8, hOf, hom, hm3, ho9, hse, hOn⟩ := id hB
  obtain ⟨hnf, h215, h216, qf, cf, sm, sq, wC, h9, h10, hFf, hF1, hFn⟩ := id hF
  obtain ⟨h207, h208, h209, qs, th, ln, n, sc, h11, hSf⟩ := id hS
  by_cases ht0 : 0 ≤ a1 ∧ a1 < nI nt
  · obtain ⟨t, ht, rfl⟩ := kidx (by omega) ht0
    obtain ⟨⟨hqt, hci⟩, h30, h36, h42⟩ := hTf t ht
    obtain ⟨hkd, hho, hwe, hw1, hwz⟩ := hT1 t ht
    by_cases wa : 0 ≤ a2 - 10 ∧ a2 - 10 < nI N
    · obtain ⟨c, hc, rfl⟩ := kof (a := 10) (by omega) wa
      have k1 : kCl l D tc ad ct z 58 0 [.int (nI t), .int (nI (10 + c))] (.long ((hoC t) c)) ct 0 := kCl_p (c_X10_of_h l D tc z ad ct (t := t) (c := c) (nt := nt) (N := N) h0 h1 h3 h30 h36 ht hnt hqt hci hc hN) cw_X10_of h0 rfl rfl
      have k2 : kCl l D tc ad ct (z + 0) 61 200 [.int (nI t), .int (nI (10 + c))] (.long (ho (8 * t + c))) ct 0 := kCl_p (c_X11_of_h l D tc (z + 0) ad ct (t := t) (c := c) (N := N) (nt := nt) (no := no) (nf := nf) h200 h205 ht hnt hc hN) cw_X11_of h200 rfl rfl
      exact ⟨_, ct, 0, ct, ct, (show ∃ a : Int64, _ = Value.long a from ⟨_, rfl⟩), by decide, k1, kCl_v (congrArg Value.long (hho c hc)) k2, fun _ _ h => h, kI_s hI⟩
    · by_cases wb : 0 ≤ a2 - 20 ∧ a2 - 20 < nI N
      · obtain ⟨c, hc, rfl⟩ := kof (a := 20) (by omega) wb
        have k1 : kCl l D tc ad ct z 58 0 [.int (nI t), .int (nI (20 + c))] (.long (((weC t) c).toInt64)) ct 0 := kCl_p (c_X10_of_w l D tc z ad ct (t := t) (c := c) (nt := nt) (N := N) h0 h1 h3 h30 h42 ht hnt hqt hci hc hN) cw_X10_of h0 rfl rfl
        have k2 : kCl l D tc ad ct (z + 0) 61 200 [.int (nI t), .int (nI (20 + c))] (.long ((we (8 * t + c)).toInt64)) ct 0 := kCl_p (c_X11_of_w l D tc (z + 0) ad ct (t := t) (c := c) (N := N) (nt := nt) (no := no) (nf := nf) h200 h206 ht hnt hc hN) cw_X11_of h200 rfl rfl
        exact ⟨_, ct, 0, ct, ct, (show ∃ a : Int64, _ = Value.long a from ⟨_, rfl⟩), by decide, k1, kCl_v (congrArg Value.long (congrArg Int32.toInt64 (hwe c hc))) k2, fun _ _ h => h, kI_s hI⟩
      by_cases w0 : a2 = 0
      · subst w0
        have k1 : kCl l D tc ad ct z 58 0 [.int (nI t), .int 0] (.long (pu t)) ct 0 := kCl_p (c_X10_of_0 l D tc z ad ct (t := t) (nt := nt) h0 h3 h30 ht hnt hqt hci) cw_X10_of h0 rfl rfl
        have k2 : kCl l D tc ad ct (z + 0) 61 200 [.int (nI t), .int 0] (.long (pu t)) ct 0 := kCl_p (c_X11_of_0 l D tc (z + 0) ad ct (t := t) (N := N) (nt := nt) (no := no) (nf := nf) h200 h203 ht hnt hN) cw_X11_of h200 rfl rfl
        exact ⟨_, ct, 0, ct, ct, (show ∃ a : Int64, _ = Value.long a from ⟨_, rfl⟩), by decide, k1, k2, fun _ _ h => h, kI_s hI⟩
      · by_cases w1 : a2 = 1
        · subst w1
          have k1 : kCl l D tc ad ct z 58 0 [.int (nI t), .int 1] (.long (kLst (hoC t) 0 0 N)) ct 0 := kCl_p (c_X10_of_1 l D tc z ad ct (t := t) (nt := nt) h0 h3 h30 h36 ht hnt hqt hci hN) cw_X10_of h0 rfl rfl
          have k2 : kCl l D tc ad ct (z + 0) 61 200 [.int (nI t), .int 1] (.long (kLw (fun c => ho (8 * t + c)) 0 0 (N - 1))) ct 0 := kCl_p (c_X11_of_1 l D tc (z + 0) ad ct (t := t) (N := N) (nt := nt) (no := no) (nf := nf) h200 h205 ht hnt hN hN2) cw_X11_of h200 rfl rfl
          exact ⟨_, ct, 0, ct, ct, (show ∃ a : Int64, _ = Value.long a from ⟨_, rfl⟩), by decide, k1, kCl_v (congrArg Value.long (kLst_0 (by omega) hho)) k2, fun _ _ h => h, kI_s hI⟩
        · by_cases w2 : a2 = 2
          · subst w2
            have k1 : kCl l D tc ad ct z 58 0 [.int (nI t), .int 2] (.long ((de t).toInt64)) ct 0 := kCl_p (c_X10_of_2 l D tc z ad ct (t := t) (nt := nt) h0 h3 h30 ht hnt hqt hci) cw_X10_of h0 rfl rfl
            have k2 : kCl l D tc ad ct (z + 0) 61 200 [.int (nI t), .int 2] (.long ((de t).toInt64)) ct 0 := kCl_p (c_X11_of_2 l D tc (z + 0) ad ct (t := t) (N := N) (nt := nt) (no := no) (nf := nf) h200 h204 ht hnt hN) cw_X11_of h200 rfl rfl
            exact ⟨_, ct, 0, ct, ct, (show ∃ a : Int64, _ = Value.long a from ⟨_, rfl⟩), by decide, k1, k2, fun _ _ h => h, kI_s hI⟩
          · by_cases w3 : a2 = 3
            · subst w3
              rcases hkd with ⟨e5, e6⟩ | ⟨e5, e6⟩ | ⟨e5, e6⟩
              · rw [e5] at h30
                have k1 : kCl l D tc ad ct z 58 0 [.int (nI t), .int 3] (.long ((0 : Int32).toInt64)) ct 0 := kCl_p (c_X10_of_35 l D tc z ad ct (t := t) (nt := nt) h0 h3 h30 ht hnt hqt) cw_X10_of h0 rfl rfl
                have k2 : kCl l D tc ad ct (z + 0) 61 200 [.int (nI t), .int 3] (.long ((kd t).toInt64)) ct 0 := kCl_p (c_X11_of_3 l D tc (z + 0) ad ct (t := t) (N := N) (nt := nt) (no := no) (nf := nf) h200 h202 ht hnt hN) cw_X11_of h200 rfl rfl
                exact ⟨_, ct, 0, ct, ct, (show ∃ a : Int64, _ = Value.long a from ⟨_, rfl⟩), by decide, k1, kCl_v (congrArg Value.long (by rw [e6])) k2, fun _ _ h => h, kI_s hI⟩
              · rw [e5] at h30
                have k1 : kCl l D tc ad ct z 58 0 [.int (nI t), .int 3] (.long ((1 : Int32).toInt64)) ct 0 := kCl_p (c_X10_of_39 l D tc z ad ct (t := t) (nt := nt) h0 h3 h30 ht hnt hqt) cw_X10_of h0 rfl rfl
                have k2 : kCl l D tc ad ct (z + 0) 61 200 [.int (nI t), .int 3] (.long ((kd t).toInt64)) ct 0 := kCl_p (c_X11_of_3 l D tc (z + 0) ad ct (t := t) (N := N) (nt := nt) (no := no) (nf := nf) h200 h202 ht hnt hN) cw_X11_of h200 rfl rfl
                exact ⟨_, ct, 0, ct, ct, (show ∃ a : Int64, _ = Value.long a from ⟨_, rfl⟩), by decide, k1, kCl_v (congrArg Value.long (by rw [e6])) k2, fun _ _ h => h, kI_s hI⟩
              · rw [e5] at h30
                have k1 : kCl l D tc ad ct z 58 0 [.int (nI t), .int 3] (.long ((2 : Int32).toInt64)) ct 0 := kCl_p (c_X10_of_37 l D tc z ad ct (t := t) (nt := nt) h0 h3 h30 ht hnt hqt) cw_X10_of h0 rfl rfl
                have k2 : kCl l D tc ad ct (z + 0) 61 200 [.int (nI t), .int 3] (.long ((kd t).toInt64)) ct 0 := kCl_p (c_X11_of_3 l D tc (z + 0) ad ct (t := t) (N := N) (nt := nt) (no := no) (nf := nf) h200 h202 ht hnt hN) cw_X11_of h200 rfl rfl
                exact ⟨_, ct, 0, ct, ct, (show ∃ a : Int64, _ = Value.long a from ⟨_, rfl⟩), by decide, k1, kCl_v (congrArg Value.long (by rw [e6])) k2, fun _ _ h => h, kI_s hI⟩
            · by_cases w4 : a2 = 4
              · subst w4
                have k1 : kCl l D tc ad ct z 58 0 [.int (nI t), .int 4] (.long (su (fun c => ((weC t) c).toInt64) N)) ct 0 := kCl_p (c_X10_of_4 l D tc z ad ct (t := t) (nt := nt) h0 h3 h30 h42 ht hnt hqt hci hN) cw_X10_of h0 rfl rfl
                have k2 : kCl l D tc ad ct (z + 0) 61 200 [.int (nI t), .int 4] (.long ((sw (fun c => we (8 * t + c)) N).toInt64)) ct 0 := kCl_p (c_X11_of_4 l D tc (z + 0) ad ct (t := t) (N := N) (nt := nt) (no := no) (nf := nf) h200 h206 ht hnt hN) cw_X11_of h200 rfl rfl
                exact ⟨_, ct, 0, ct, ct, (show ∃ a : Int64, _ = Value.long a from ⟨_, rfl⟩), by decide, k1, kCl_v (congrArg Value.long ((su_cong (fun c hc => by rw [hwe c hc])).trans (kw1_64 hw1 (by omega)).symm)) k2, fun _ _ h => h, kI_s hI⟩
              · have k1 : kCl l D tc ad ct z 58 0 [.int (nI t), .int a2] (.long (-9223372036854775808)) ct 0 := kCl_p (c_X10_of_d l D tc z ad ct (t := t) (nt := nt) (N := N) h0 h1 h3 ht hnt hqt wa wb w0 w1 w2 w3 w4) cw_X10_of h0 rfl rfl
                have k2 : kCl l D tc ad ct (z + 0) 61 200 [.int (nI t), .int a2] (.long (-9223372036854775808)) ct 0 := kCl_p (c_X11_of_d l D tc (z + 0) ad ct (N := N) (nt := nt) (no := no) (nf := nf) h200 ht0 wa wb w0 w1 w2 w3 w4) cw_X11_of h200 rfl rfl
                exact ⟨_, ct, 0, ct, ct, (show ∃ a : Int64, _ = Value.long a from ⟨_, rfl⟩), by decide, k1, k2, fun _ _ h => h, kI_s hI⟩
  · have k1 : kCl l D tc ad ct z 58 0 [.int a1, .int a2] (.long (-9223372036854775808)) ct 0 := kCl_p (c_X10_of_n l D tc z ad ct (nt := nt) h0 ht0) cw_X10_of h0 rfl rfl
    have k2 : kCl l D tc ad ct (z + 0) 61 200 [.int a1, .int a2] (.long (-9223372036854775808)) ct 0 := kCl_p (c_X11_of_n l D tc (z + 0) ad ct (N := N) (nt := nt) (no := no) (nf := nf) h200 ht0) cw_X11_of h200 rfl rfl
    exact ⟨_, ct, 0, ct, ct, (show ∃ a : Int64, _ = Value.long a from ⟨_, rfl⟩), by decide, k1, k2, fun _ _ h => h, kI_s hI⟩

set_option maxHeartbeats 4000000 in
theorem o_worth {l : Launch} {D : va_G} {tc : Nat → ClassId} {ad : Nat → Nat} {ct : Nat → Option va_E} {z kk : Nat} (hkk : kk < 512) (hI : kI kk tc ad ct) (hz : ∀ j, ct j = none → ad j = kAz z j) (a1 : Int32) (a2 : Int32) (a3 : Int32) : kOp l D tc ad ct z kk 71 74 [.int a1, .int a2, .int a3] true := by
  obtain ⟨N, nt, no, nf, ft, tr, b, cm, da, bs, g, f, pu, ho, kd, de, we, la, sl, ce, tl, ca, tk, hNb, hO, hM, hT, hB, hF, hS, h13, hG⟩ := id hI
  obtain ⟨hN2, hN, b0, hb1, hb2, rfl⟩ := id hNb
  obtain ⟨h0, h200, h12⟩ := id hO
  obtain ⟨h1, ⟨fC, h2, hf⟩, h201⟩ := id hM
  obtain ⟨hnt, h202, h203, h204, h205, h206, qt, ci, hoC, weC, h3, hTf, hT1, hTn⟩ := id hT
  obtain ⟨hno, os, oc, om, nw, brR, mm, co, bg, se, qo, rw1, br, cv, h210, h211, h212, h213, h214, h4, h5, h6, h7, h8, hOf, hom, hm3, ho9, hse, hOn⟩ := id hB
  obtain ⟨hnf, h215, h216, qf, cf, sm, sq, wC, h9, h10, hFf, hF1, hFn⟩ := id hF
  obtain ⟨h207, h208, h209, qs, th, ln, n, sc, h11, hSf⟩ := id hS
  by_cases ht0 : 0 ≤ a1 ∧ a1 < nI nt
  · obtain ⟨t, ht, rfl⟩ := kidx (by omega) ht0
    obtain ⟨⟨hqt, hci⟩, h30, h36, h42⟩ := hTf t ht
    obtain ⟨hkd, hho, hwe, hw1, hwz⟩ := hT1 t ht
    by_cases hor : (1 ≤ a2 ∧ a2 ≤ 1 <<< (nI N &&& 31) - 2) ∧ ¬ a3 = 0 ∧ (-1000) ≤ a3 ∧ a3 ≤ 1000
    · have k1 : kCl l D tc ad ct z 71 0 [.int (nI t), .int a2, .int a3] (.long (kWt (nI b0) N fC (su f N) (weC t) a2 a3)) ct 0 := kCl_p (c_X10_worth l D tc z ad ct (t := t) (nt := nt) (N := N) h0 h1 h2 h3 h30 h42 ht hnt hqt hci hN hor) cw_X10_worth h0 rfl rfl
      have k2 : kCl l D tc ad ct (z + 0) 74 200 [.int (nI t), .int a2, .int a3] (.long (kWo (nI b0) N f (fun c => we (8 * t + c)) a2 a3.toInt64)) ct 0 := kCl_p (c_X11_worth l D tc (z + 0) ad ct (t := t) (N := N) (nt := nt) (no := no) (nf := nf) h200 h201 h206 ht hnt hN ((kset_i hN2 hN).mpr hor.1) (kshr_i.mpr hor.2)) cw_X11_worth h200 rfl rfl
      exact ⟨_, ct, 0, ct, ct, (show ∃ a : Int64, _ = Value.long a from ⟨_, rfl⟩), by decide, k1, kCl_v (congrArg Value.long (kWt_o (kset_b hN2 hN hor.1) hN hf hwe hw1)) k2, fun _ _ h => h, kI_s hI⟩
    · have k1 : kCl l D tc ad ct z 71 0 [.int (nI t), .int a2, .int a3] (.long (-9223372036854775808)) ct 0 := kCl_p (c_X10_worth_m l D tc z ad ct (t := t) (nt := nt) (N := N) (ho := (fun _ => 0)) h0 h1 h3 ht hnt hqt hor) cw_X10_worth h0 rfl rfl
      have k2 : kCl l D tc ad ct (z + 0) 74 200 [.int (nI t), .int a2, .int a3] (.long (-9223372036854775808)) ct 0 := kCl_p (c_X11_worth_n l D tc (z + 0) ad ct (N := N) (nt := nt) (no := no) (nf := nf) h200 (fun q => hor ⟨(kset_i hN2 hN).mp q.2.1, kshr_i.mp q.2.2⟩)) cw_X11_worth h200 rfl rfl
      exact ⟨_, ct, 0, ct, ct, (show ∃ a : Int64, _ = Value.long a from ⟨_, rfl⟩), by decide, k1, k2, fun _ _ h => h, kI_s hI⟩
  · have k1 : kCl l D tc ad ct z 71 0 [.int a1, .int a2, .int a3] (.long (-9223372036854775808)) ct 0 := kCl_p (c_X10_worth_n l D tc z ad ct (nt := nt) h0 ht0) cw_X10_worth h0 rfl rfl
    have k2 : kCl l D tc ad ct (z + 0) 74 200 [.int a1, .int a2, .int a3] (.long (-9223372036854775808)) ct 0 := kCl_p (c_X11_worth_n l D tc (z + 0) ad ct (N := N) (nt := nt) (no := no) (nf := nf) h200 (fun q => ht0 q.1)) cw_X11_worth h200 rfl rfl
    exact ⟨_, ct, 0, ct, ct, (show ∃ a : Int64, _ = Value.long a from ⟨_, rfl⟩), by decide, k1, k2, fun _ _ h => h, kI_s hI⟩

set_option maxHeartbeats 4000000 in
theorem o_best {l : Launch} {D : va_G} {tc : Nat → ClassId} {ad : Nat → Nat} {ct : Nat → Option va_E} {z kk : Nat} (hkk : kk < 512) (hI : kI kk tc ad ct) (hz : ∀ j, ct j = none → ad j = kAz z j) (a1 : Int32) (a2 : Int32) : kOp l D tc ad ct z kk 75 78 [.int a1, .int a2] true := by
  obtain ⟨N, nt, no, nf, ft, tr, b, cm, da, bs, g, f, pu, ho, kd, de, we, la, sl, ce, tl, ca, tk, hNb, hO, hM, hT, hB, hF, hS, h13, hG⟩ := id hI
  obtain ⟨hN2, hN, b0, hb1, hb2, rfl⟩ := id hNb
  obtain ⟨h0, h200, h12⟩ := id hO
  obtain ⟨h1, ⟨fC, h2, hf⟩, h201⟩ := id hM
  obtain ⟨hnt, h202, h203, h204, h205, h206, qt, ci, hoC, weC, h3, hTf, hT1, hTn⟩ := id hT
  obtain ⟨hno, os, oc, om, nw, brR, mm, co, bg, se, qo, rw1, br, cv, h210, h211, h212, h213, h214, h4, h5, h6, h7, h8, hOf, hom, hm3, ho9, hse, hOn⟩ := id hB
  obtain ⟨hnf, h215, h216, qf, cf, sm, sq, wC, h9, h10, hFf, hF1, hFn⟩ := id hF
  obtain ⟨h207, h208, h209, qs, th, ln, n, sc, h11, hSf⟩ := id hS
  by_cases ht0 : 0 ≤ a1 ∧ a1 < nI nt
  · obtain ⟨t, ht, rfl⟩ := kidx (by omega) ht0
    obtain ⟨⟨hqt, hci⟩, h30, h36, h42⟩ := hTf t ht
    obtain ⟨hkd, hho, hwe, hw1, hwz⟩ := hT1 t ht
    by_cases hor : (1 ≤ a2 ∧ a2 ≤ 1 <<< (nI N &&& 31) - 2) ∧ cm = (-9)
    · have k1 : kCl l D tc ad ct z 75 0 [.int (nI t), .int a2] (.long ((kBs (fun x => kWt (nI b0) N fC (su f N) (weC t) a2 x) (fun x => decide (kWb (nI b0) N fC (su f N) a2 x (pu t) (hoC t) = 0)) 100).1.toInt64)) ct 0 := kCl_p (c_X10_best l D tc z ad ct (t := t) (nt := nt) (N := N) h0 h1 h2 h3 h30 h36 h42 ht hnt hqt hci hN hor.1 hor.2) cw_X10_best h0 rfl rfl
      have k2 : kCl l D tc ad ct (z + 0) 78 200 [.int (nI t), .int a2] (.long ((kBs (fun x => kWo (nI b0) N f (fun c => we (8 * t + c)) a2 x.toInt64) (fun x => decide (kWy (nI b0) N f a2 x.toInt64 (pu t) (fun c => ho (8 * t + c)) = 0)) 100).1.toInt64)) ct 0 := kCl_p (c_X11_best l D tc (z + 0) ad ct (t := t) (N := N) (nt := nt) (no := no) (nf := nf) h200 h201 h203 h205 h206 ht hnt hN hN2 ((kset_i hN2 hN).mpr hor.1) hor.2) cw_X11_best h200 rfl rfl
      exact ⟨_, ct, 0, ct, ct, (show ∃ a : Int64, _ = Value.long a from ⟨_, rfl⟩), by decide, k1, kCl_v (congrArg Value.long (congrArg (fun z => z.1.toInt64) (kBs_cong (fun x => kWt_o (kset_b hN2 hN hor.1) hN hf hwe hw1) (fun x => by rw [kWb_y (kset_b hN2 hN hor.1) (by omega) hf hho]) 100))) k2, fun _ _ h => h, kI_s hI⟩
    · have k1 : kCl l D tc ad ct z 75 0 [.int (nI t), .int a2] (.long (-9223372036854775808)) ct 0 := kCl_p (c_X10_best_m l D tc z ad ct (t := t) (nt := nt) (N := N) h0 h1 h3 ht hnt hqt hor) cw_X10_best h0 rfl rfl
      have k2 : kCl l D tc ad ct (z + 0) 78 200 [.int (nI t), .int a2] (.long (-9223372036854775808)) ct 0 := kCl_p (c_X11_best_n l D tc (z + 0) ad ct (N := N) (nt := nt) (no := no) (nf := nf) h200 (fun q => hor ⟨(kset_i hN2 hN).mp q.2.1, q.2.2⟩)) cw_X11_best h200 rfl rfl
      exact ⟨_, ct, 0, ct, ct, (show ∃ a : Int64, _ = Value.long a from ⟨_, rfl⟩), by decide, k1, k2, fun _ _ h => h, kI_s hI⟩
  · have k1 : kCl l D tc ad ct z 75 0 [.int a1, .int a2] (.long (-9223372036854775808)) ct 0 := kCl_p (c_X10_best_n l D tc z ad ct (nt := nt) h0 ht0) cw_X10_best h0 rfl rfl
    have k2 : kCl l D tc ad ct (z + 0) 78 200 [.int a1, .int a2] (.long (-9223372036854775808)) ct 0 := kCl_p (c_X11_best_n l D tc (z + 0) ad ct (N := N) (nt := nt) (no := no) (nf := nf) h200 (fun q => ht0 q.1)) cw_X11_best h200 rfl rfl
    exact ⟨_, ct, 0, ct, ct, (show ∃ a : Int64, _ = Value.long a from ⟨_, rfl⟩), by decide, k1, k2, fun _ _ h => h, kI_s hI⟩

set_option maxHeartbeats 4000000 in
theorem o_score {l : Launch} {D : va_G} {tc : Nat → ClassId} {ad : Nat → Nat} {ct : Nat → Option va_E} {z kk : Nat} (hkk : kk < 512) (hI : kI kk tc ad ct) (hz : ∀ j, ct j = none → ad j = kAz z j) (a1 : Int32) (a2 : Int32) : kOp l D tc ad ct z kk 100 103 [.int a1, .int a2] true := by
  obtain ⟨N, nt, no, nf, ft, tr, b, cm, da, bs, g, f, pu, ho, kd, de, we, la, sl, ce, tl, ca, tk, hNb, hO, hM, hT, hB, hF, hS, h13, hG⟩ := id hI
  obtain ⟨hN2, hN, b0, hb1, hb2, rfl⟩ := id hNb
  obtain ⟨h0, h200, h12⟩ := id hO
  obtain ⟨h1, ⟨fC, h2, hf⟩, h201⟩ := id hM
  obtain ⟨hnt, h202, h203, h204, h205, h206, qt, ci, hoC, weC, h3, hTf, hT1, hTn⟩ := id hT
  obtain ⟨hno, os, oc, om, nw, brR, mm, co, bg, se, qo, rw1, br, cv, h210, h211, h212, h213, h214, h4, h5, h6, h7, h8, hOf, hom, hm3, ho9, hse, hOn⟩ := id hB
  obtain ⟨hnf, h215, h216, qf, cf, sm, sq, wC, h9, h10, hFf, hF1, hFn⟩ := id hF
  obtain ⟨h207, h208, h209, qs, th, ln, n, sc, h11, hSf⟩ := id hS
  by_cases hf0 : 0 ≤ a1 ∧ a1 < nI nf
  · obtain ⟨fx, hfx, rfl⟩ := kidx (by omega) hf0
    obtain ⟨⟨hqf, hcf⟩, h100, h140⟩ := hFf fx hfx
    obtain ⟨hca, hwC, hv1, hvz, hsm, hsq⟩ := hF1 fx hfx
    by_cases hwh : 0 ≤ a2 ∧ a2 ≤ 1
    · obtain ⟨u, d, hu3, hd3, hd0, hdd, huu, huu2⟩ := kscore hN hcf hv1 hvz
      have eS : su (fun c => (tl (8 * fx + c)).toInt64 * (tl (8 * fx + c)).toInt64) N = su (fun c => (tl (8 * fx + c) * tl (8 * fx + c)).toInt64) N := by obtain ⟨B, -, x1, x2⟩ := kw1_sq hv1; exact x2.trans x1.symm
      have eW := hwC (cf fx) hcf
      have k1 : kCl l D tc ad ct z 100 0 [.int (nI fx), .int a2] (.long (if a2 = 0 then (2 * (sm fx) * ((wC fx) (cf fx)).toInt64 - (sq fx)) / lN (Nat.gcd u d) else ((sm fx) * (sm fx)) / lN (Nat.gcd u d))) ct 0 := kCl_p (c_X10_score l D tc z ad ct (fx := fx) (nt := nt) (nf := nf) (cf := (cf fx)) h0 h9 h10 h100 h140 hfx hnf hqf hN hcf hwh (by rw [hsm]; exact hdd) hd0 hd3 (by rw [hsm, hsq, eW]; exact huu) hu3) cw_X10_score h0 rfl rfl
      have k2 : kCl l D tc ad ct (z + 0) 103 200 [.int (nI fx), .int a2] (.long (if a2 = 0 then (2 * su (fun c => (tl (8 * fx + c)).toInt64) N * (tl (8 * fx + (cf fx))).toInt64 - su (fun c => (tl (8 * fx + c)).toInt64 * (tl (8 * fx + c)).toInt64) N) / lN (Nat.gcd u d) else (su (fun c => (tl (8 * fx + c)).toInt64) N * su (fun c => (tl (8 * fx + c)).toInt64) N) / lN (Nat.gcd u d))) ct 0 := kCl_p (c_X11_score l D tc (z + 0) ad ct (f := fx) (cf := (cf fx)) (N := N) (nt := nt) (no := no) (nf := nf) h200 h215 h216 hfx hnf hN ((k64_in (lo := 0) (hi := 1) (by decide) (by decide)).mpr hwh) hca hcf hdd hd0 (by omega) (by rw [eS]; exact huu2) (by omega)) cw_X11_score h200 rfl rfl
      exact ⟨_, ct, 0, ct, ct, (show ∃ a : Int64, _ = Value.long a from ⟨_, rfl⟩), by decide, k1, kCl_v (congrArg Value.long (by rw [hsm, hsq, eW, eS])) k2, fun _ _ h => h, kI_s hI⟩
    · have k1 : kCl l D tc ad ct z 100 0 [.int (nI fx), .int a2] (.long (-9223372036854775808)) ct 0 := kCl_p (c_X10_score_m l D tc z ad ct (fx := fx) (nt := nt) (nf := nf) (cf := (cf fx)) h0 h9 h10 h100 hfx hnf hqf hwh) cw_X10_score h0 rfl rfl
      have k2 : kCl l D tc ad ct (z + 0) 103 200 [.int (nI fx), .int a2] (.long (-9223372036854775808)) ct 0 := kCl_p (c_X11_score_n l D tc (z + 0) ad ct (N := N) (nt := nt) (no := no) (nf := nf) h200 (fun q => hwh ((k64_in (lo := 0) (hi := 1) (by decide) (by decide)).mp q.2))) cw_X11_score h200 rfl rfl
      exact ⟨_, ct, 0, ct, ct, (show ∃ a : Int64, _ = Value.long a from ⟨_, rfl⟩), by decide, k1, k2, fun _ _ h => h, kI_s hI⟩
  · have k1 : kCl l D tc ad ct z 100 0 [.int a1, .int a2] (.long (-9223372036854775808)) ct 0 := kCl_p (c_X10_score_n l D tc z ad ct (nt := nt) (nf := nf) h0 h9 hf0) cw_X10_score h0 rfl rfl
    have k2 : kCl l D tc ad ct (z + 0) 103 200 [.int a1, .int a2] (.long (-9223372036854775808)) ct 0 := kCl_p (c_X11_score_n l D tc (z + 0) ad ct (N := N) (nt := nt) (no := no) (nf := nf) h200 (fun q => hf0 q.1)) cw_X11_score h200 rfl rfl
    exact ⟨_, ct, 0, ct, ct, (show ∃ a : Int64, _ = Value.long a from ⟨_, rfl⟩), by decide, k1, k2, fun _ _ h => h, kI_s hI⟩

set_option maxHeartbeats 4000000 in
theorem o_honest {l : Launch} {D : va_G} {tc : Nat → ClassId} {ad : Nat → Nat} {ct : Nat → Option va_E} {z kk : Nat} (hkk : kk < 512) (hI : kI kk tc ad ct) (hz : ∀ j, ct j = none → ad j = kAz z j) (a1 : Int32) (a2 : Int32) (a3 : Int32) : kOp l D tc ad ct z kk 104 107 [.int a1, .int a2, .int a3] true := by
  obtain ⟨N, nt, no, nf, ft, tr, b, cm, da, bs, g, f, pu, ho, kd, de, we, la, sl, ce, tl, ca, tk, hNb, hO, hM, hT, hB, hF, hS, h13, hG⟩ := id hI
  obtain ⟨hN2, hN, b0, hb1, hb2, rfl⟩ := id hNb
  obtain ⟨h0, h200, h12⟩ := id hO
  obtain ⟨h1, ⟨fC, h2, hf⟩, h201⟩ := id hM
  obtain ⟨hnt, h202, h203, h204, h205, h206, qt, ci, hoC, weC, h3, hTf, hT1, hTn⟩ := id hT
  obtain ⟨hno, os, oc, om, nw, brR, mm, co, bg, se, qo, rw1, br, cv, h210, h211, h212, h213, h214, h4, h5, h6, h7, h8, hOf, hom, hm3, ho9, hse, hOn⟩ := id hB
  obtain ⟨hnf, h215, h216, qf, cf, sm, sq, wC, h9, h10, hFf, hF1, hFn⟩ := id hF
  obtain ⟨h207, h208, h209, qs, th, ln, n, sc, h11, hSf⟩ := id hS
  by_cases ht0 : 0 ≤ a1 ∧ a1 < nI nt
  · obtain ⟨t, ht, rfl⟩ := kidx (by omega) ht0
    obtain ⟨⟨hqt, hci⟩, h30, h36, h42⟩ := hTf t ht
    obtain ⟨hkd, hho, hwe, hw1, hwz⟩ := hT1 t ht
    by_cases hf0 : 0 ≤ a2 ∧ a2 < nI nf
    · obtain ⟨fx, hfx, rfl⟩ := kidx (by omega) hf0
      obtain ⟨⟨hqf, hcf⟩, h100, h140⟩ := hFf fx hfx
      obtain ⟨hca, hwC, hv1, hvz, hsm, hsq⟩ := hF1 fx hfx
      by_cases hwh : 0 ≤ a3 ∧ a3 ≤ 1
      · obtain ⟨u, d, hu3, hd3, hd0, hdd, huu, huu2⟩ := khonest hN hv1 hvz hw1 hwz
        have eS : su (fun c => (tl (8 * fx + c)).toInt64 * (tl (8 * fx + c)).toInt64) N = su (fun c => (tl (8 * fx + c) * tl (8 * fx + c)).toInt64) N := by obtain ⟨B, -, x1, x2⟩ := kw1_sq hv1; exact x2.trans x1.symm
        have eW : (sw (fun c => we (8 * t + c)) N).toInt64 = su (fun c => (we (8 * t + c)).toInt64) N := kw1_64 hw1 (by omega)
        have eV : su (fun c => (weC t c).toInt64) N = su (fun c => (we (8 * t + c)).toInt64) N := su_cong (fun c hc => by rw [hwe c hc])
        have eU : su (fun c => (weC t c).toInt64 * (2 * sm fx * (wC fx c).toInt64 - sq fx)) N = 2 * su (fun c => (tl (8 * fx + c)).toInt64) N * su (fun c => (we (8 * t + c)).toInt64 * (tl (8 * fx + c)).toInt64) N - su (fun c => (tl (8 * fx + c) * tl (8 * fx + c)).toInt64) N * su (fun c => (we (8 * t + c)).toInt64) N := by rw [← hsm, ← hsq, ← kUH_e]; exact su_cong (fun c hc => by rw [hwe c hc, hwC c hc])
        have k1 : kCl l D tc ad ct z 104 0 [.int (nI t), .int (nI fx), .int a3] (.long (if a3 = 0 then (su (fun c => ((weC t) c).toInt64 * (2 * (sm fx) * ((wC fx) c).toInt64 - (sq fx))) N) / lN (Nat.gcd u d) else ((sm fx) * (sm fx) * su (fun c => ((weC t) c).toInt64) N) / lN (Nat.gcd u d))) ct 0 := kCl_p (c_X10_honest l D tc z ad ct (t := t) (fx := fx) (nt := nt) (N := N) (nf := nf) (cf := (cf fx)) h0 h1 h3 h9 h10 h30 h42 h100 h140 ht hnt hqt hfx hnf hqf hci hN hwh (by rw [hsm, eV]; exact hdd) hd0 hd3 (by rw [eU]; exact huu) hu3) cw_X10_honest h0 rfl rfl
        have k2 : kCl l D tc ad ct (z + 0) 107 200 [.int (nI t), .int (nI fx), .int a3] (.long (if a3 = 0 then (2 * su (fun c => (tl (8 * fx + c)).toInt64) N * su (fun c => (we (8 * t + c)).toInt64 * (tl (8 * fx + c)).toInt64) N - su (fun c => (tl (8 * fx + c)).toInt64 * (tl (8 * fx + c)).toInt64) N * (sw (fun c => we (8 * t + c)) N).toInt64) / lN (Nat.gcd u d) else (su (fun c => (tl (8 * fx + c)).toInt64) N * su (fun c => (tl (8 * fx + c)).toInt64) N * (sw (fun c => we (8 * t + c)) N).toInt64) / lN (Nat.gcd u d))) ct 0 := kCl_p (c_X11_honest l D tc (z + 0) ad ct (t := t) (f := fx) (N := N) (nt := nt) (no := no) (nf := nf) h200 h206 h215 ht hnt hfx hnf hN ((k64_in (lo := 0) (hi := 1) (by decide) (by decide)).mpr hwh) (by rw [eW]; exact hdd) hd0 (by omega) (by rw [eS, eW]; exact huu2) (by omega)) cw_X11_honest h200 rfl rfl
        exact ⟨_, ct, 0, ct, ct, (show ∃ a : Int64, _ = Value.long a from ⟨_, rfl⟩), by decide, k1, kCl_v (congrArg Value.long (by rw [eU, eV, eS, eW, hsm])) k2, fun _ _ h => h, kI_s hI⟩
      · have k1 : kCl l D tc ad ct z 104 0 [.int (nI t), .int (nI fx), .int a3] (.long (-9223372036854775808)) ct 0 := kCl_p (c_X10_honest_m l D tc z ad ct (t := t) (fx := fx) (nt := nt) (nf := nf) h0 h3 h9 h10 ht hnt hqt hfx hnf hqf hwh) cw_X10_honest h0 rfl rfl
        have k2 : kCl l D tc ad ct (z + 0) 107 200 [.int (nI t), .int (nI fx), .int a3] (.long (-9223372036854775808)) ct 0 := kCl_p (c_X11_honest_n l D tc (z + 0) ad ct (N := N) (nt := nt) (no := no) (nf := nf) h200 (fun q => hwh ((k64_in (lo := 0) (hi := 1) (by decide) (by decide)).mp q.2.2))) cw_X11_honest h200 rfl rfl
        exact ⟨_, ct, 0, ct, ct, (show ∃ a : Int64, _ = Value.long a from ⟨_, rfl⟩), by decide, k1, k2, fun _ _ h => h, kI_s hI⟩
    · have k1 : kCl l D tc ad ct z 104 0 [.int (nI t), .int a2, .int a3] (.long (-9223372036854775808)) ct 0 := kCl_p (c_X10_honest_n3 l D tc z ad ct (t := t) (nt := nt) (nf := nf) h0 h3 h9 ht hnt hqt hf0) cw_X10_honest h0 rfl rfl
      have k2 : kCl l D tc ad ct (z + 0) 107 200 [.int (nI t), .int a2, .int a3] (.long (-9223372036854775808)) ct 0 := kCl_p (c_X11_honest_n l D tc (z + 0) ad ct (N := N) (nt := nt) (no := no) (nf := nf) h200 (fun q => hf0 q.2.1)) cw_X11_honest h200 rfl rfl
      exact ⟨_, ct, 0, ct, ct, (show ∃ a : Int64, _ = Value.long a from ⟨_, rfl⟩), by decide, k1, k2, fun _ _ h => h, kI_s hI⟩
  · by_cases hf0 : 0 ≤ a2 ∧ a2 < nI nf
    · obtain ⟨fx, hfx, rfl⟩ := kidx (by omega) hf0
      obtain ⟨⟨hqf, hcf⟩, h100, h140⟩ := hFf fx hfx
      obtain ⟨hca, hwC, hv1, hvz, hsm, hsq⟩ := hF1 fx hfx
      have k1 : kCl l D tc ad ct z 104 0 [.int a1, .int (nI fx), .int a3] (.long (-9223372036854775808)) ct 0 := kCl_p (c_X10_honest_n2 l D tc z ad ct (fx := fx) (nt := nt) (nf := nf) h0 h9 h10 ht0 hfx hnf hqf) cw_X10_honest h0 rfl rfl
      have k2 : kCl l D tc ad ct (z + 0) 107 200 [.int a1, .int (nI fx), .int a3] (.long (-9223372036854775808)) ct 0 := kCl_p (c_X11_honest_n l D tc (z + 0) ad ct (N := N) (nt := nt) (no := no) (nf := nf) h200 (fun q => ht0 q.1)) cw_X11_honest h200 rfl rfl
      exact ⟨_, ct, 0, ct, ct, (show ∃ a : Int64, _ = Value.long a from ⟨_, rfl⟩), by decide, k1, k2, fun _ _ h => h, kI_s hI⟩
    · have k1 : kCl l D tc ad ct z 104 0 [.int a1, .int a2, .int a3] (.long (-9223372036854775808)) ct 0 := kCl_p (c_X10_honest_n1 l D tc z ad ct (nt := nt) (nf := nf) h0 h9 ht0 hf0) cw_X10_honest h0 rfl rfl
      have k2 : kCl l D tc ad ct (z + 0) 107 200 [.int a1, .int a2, .int a3] (.long (-9223372036854775808)) ct 0 := kCl_p (c_X11_honest_n l D tc (z + 0) ad ct (N := N) (nt := nt) (no := no) (nf := nf) h200 (fun q => ht0 q.1)) cw_X11_honest h200 rfl rfl
      exact ⟨_, ct, 0, ct, ct, (show ∃ a : Int64, _ = Value.long a from ⟨_, rfl⟩), by decide, k1, k2, fun _ _ h => h, kI_s hI⟩

set_option maxHeartbeats 4000000 in
theorem o_held {l : Launch} {D : va_G} {tc : Nat → ClassId} {ad : Nat → Nat} {ct : Nat → Option va_E} {z kk : Nat} (hkk : kk < 512) (hI : kI kk tc ad ct) (hz : ∀ j, ct j = none → ad j = kAz z j) (a1 : Int32) (a2 : Int32) (a3 : Int32) : kOp l D tc ad ct z kk 108 111 [.int a1, .int a2, .int a3] true := by
  obtain ⟨N, nt, no, nf, ft, tr, b, cm, da, bs, g, f, pu, ho, kd, de, we, la, sl, ce, tl, ca, tk, hNb, hO, hM, hT, hB, hF, hS, h13, hG⟩ := id hI
  obtain ⟨hN2, hN, b0, hb1, hb2, rfl⟩ := id hNb
  obtain ⟨h0, h200, h12⟩ := id hO
  obtain ⟨h1, ⟨fC, h2, hf⟩, h201⟩ := id hM
  obtain ⟨hnt, h202, h203, h204, h205, h206, qt, ci, hoC, weC, h3, hTf, hT1, hTn⟩ := id hT
  obtain ⟨hno, os, oc, om, nw, brR, mm, co, bg, se, qo, rw1, br, cv, h210, h211, h212, h213, h214, h4, h5, h6, h7, h8, hOf, hom, hm3, ho9, hse, hOn⟩ := id hB
  obtain ⟨hnf, h215, h216, qf, cf, sm, sq, wC, h9, h10, hFf, hF1, hFn⟩ := id hF
  obtain ⟨h207, h208, h209, qs, th, ln, n, sc, h11, hSf⟩ := id hS
  by_cases hok : (0 ≤ a1 ∧ a1 < nI N) ∧ 0 ≤ a2 ∧ a2 ≤ 10
  · obtain ⟨hc0, htt⟩ := hok
    obtain ⟨c, hc, rfl⟩ := kidx (by omega) hc0
    have eG : kcn (fun z => decide (10 * (wC z c).toInt64 = a2.toInt64 * sm z)) nf = kcn (kGv N tl c a2.toInt64) nf := kcn_cong (fun f hf9 => by obtain ⟨g1, g2, g3, g4, g5, g6⟩ := hF1 f hf9; rw [kGv, g2 c hc, g5])
    have eC : kcn (fun z => decide (cf z = c) && decide (10 * (wC z c).toInt64 = a2.toInt64 * sm z)) nf = kcn (kGc N tl ca c a2.toInt64) nf := kcn_cong (fun f hf9 => by obtain ⟨g1, g2, g3, g4, g5, g6⟩ := hF1 f hf9; have h8 := (hFf f hf9).1.2; rw [kGc, kGv, g2 c hc, g5, g1, Bool.and_comm, show decide (nI (cf f) = nI c) = decide (cf f = c) from decide_eq_decide.mpr (nI_eq (by omega) (by omega))])
    by_cases w0 : a3 = 0
    · subst w0
      have k1 : kCl l D tc ad ct z 108 0 [.int (nI c), .int a2, .int 0] (.long ((nI (kcn (fun z => decide (10 * (wC z c).toInt64 = a2.toInt64 * sm z)) nf)).toInt64)) ct 0 := kCl_p (c_X10_held_0 l D tc z ad ct (c := c) (w := wC) (nt := nt) (N := N) (nf := nf) h0 h1 h9 h10 hc hN hnf htt hFf) cw_X10_held h0 rfl rfl
      have k2 : kCl l D tc ad ct (z + 0) 111 200 [.int (nI c), .int a2, .int 0] (.long ((nI (kcn (kGv N tl c a2.toInt64) nf)).toInt64)) ct 0 := kCl_p (c_X11_held_0 l D tc (z + 0) ad ct (c := c) (N := N) (nt := nt) (no := no) (nf := nf) h200 h215 h216 hc hN hnf ((k64_in (lo := 0) (hi := 10) (by decide) (by decide)).mpr htt)) cw_X11_held h200 rfl rfl
      exact ⟨_, ct, 0, ct, ct, (show ∃ a : Int64, _ = Value.long a from ⟨_, rfl⟩), by decide, k1, kCl_v (congrArg Value.long (by rw [eG])) k2, fun _ _ h => h, kI_s hI⟩
    · by_cases w1 : a3 = 1
      · subst w1
        have k1 : kCl l D tc ad ct z 108 0 [.int (nI c), .int a2, .int 1] (.long ((nI (kcn (fun z => decide (cf z = c) && decide (10 * (wC z c).toInt64 = a2.toInt64 * sm z)) nf)).toInt64)) ct 0 := kCl_p (c_X10_held_1 l D tc z ad ct (c := c) (w := wC) (nt := nt) (N := N) (nf := nf) h0 h1 h9 h10 hc hN hnf htt hFf) cw_X10_held h0 rfl rfl
        have k2 : kCl l D tc ad ct (z + 0) 111 200 [.int (nI c), .int a2, .int 1] (.long ((nI (kcn (kGc N tl ca c a2.toInt64) nf)).toInt64)) ct 0 := kCl_p (c_X11_held_1 l D tc (z + 0) ad ct (c := c) (N := N) (nt := nt) (no := no) (nf := nf) h200 h215 h216 hc hN hnf ((k64_in (lo := 0) (hi := 10) (by decide) (by decide)).mpr htt)) cw_X11_held h200 rfl rfl
        exact ⟨_, ct, 0, ct, ct, (show ∃ a : Int64, _ = Value.long a from ⟨_, rfl⟩), by decide, k1, kCl_v (congrArg Value.long (by rw [eC])) k2, fun _ _ h => h, kI_s hI⟩
      · by_cases w2 : a3 = 2
        · subst w2
          by_cases hbig : kcn (kGv N tl c a2.toInt64) nf ≤ 15
          · have k1 : kCl l D tc ad ct z 108 0 [.int (nI c), .int a2, .int 2] (.long (kHc a2 (kcn (fun z => decide (cf z = c) && decide (10 * (wC z c).toInt64 = a2.toInt64 * sm z)) nf) (kcn (fun z => decide (10 * (wC z c).toInt64 = a2.toInt64 * sm z)) nf) (kcn (fun z => decide (10 * (wC z c).toInt64 = a2.toInt64 * sm z)) nf + 1))) ct 0 := kCl_p (c_X10_held_2 l D tc z ad ct (c := c) (w := wC) (nt := nt) (N := N) (nf := nf) h0 h1 h9 h10 hc hN hnf htt hFf (by rw [eG]; exact hbig)) cw_X10_held h0 rfl rfl
            have k2 : kCl l D tc ad ct (z + 0) 111 200 [.int (nI c), .int a2, .int 2] (.long (kHs a2.toInt64 (kcn (kGc N tl ca c a2.toInt64) nf) (kcn (kGv N tl c a2.toInt64) nf) (kcn (kGv N tl c a2.toInt64) nf + 1))) ct 0 := kCl_p (c_X11_held_2 l D tc (z + 0) ad ct (c := c) (N := N) (nt := nt) (no := no) (nf := nf) h200 h215 h216 hc hN hnf ((k64_in (lo := 0) (hi := 10) (by decide) (by decide)).mpr htt) hbig) cw_X11_held h200 rfl rfl
            exact ⟨_, ct, 0, ct, ct, (show ∃ a : Int64, _ = Value.long a from ⟨_, rfl⟩), by decide, k1, kCl_v (congrArg Value.long (by rw [eG, eC]; exact kHc_s htt _ _ _)) k2, fun _ _ h => h, kI_s hI⟩
          · have k1 : kCl l D tc ad ct z 108 0 [.int (nI c), .int a2, .int 2] (.long (-9223372036854775808)) ct 0 := kCl_p (c_X10_held_2b l D tc z ad ct (c := c) (w := wC) (nt := nt) (N := N) (nf := nf) h0 h1 h9 h10 hc hN hnf htt hFf (by rw [eG]; omega)) cw_X10_held h0 rfl rfl
            have k2 : kCl l D tc ad ct (z + 0) 111 200 [.int (nI c), .int a2, .int 2] (.long (-9223372036854775808)) ct 0 := kCl_p (c_X11_held_2b l D tc (z + 0) ad ct (c := c) (N := N) (nt := nt) (no := no) (nf := nf) h200 h215 h216 hc hN hnf ((k64_in (lo := 0) (hi := 10) (by decide) (by decide)).mpr htt) (by omega)) cw_X11_held h200 rfl rfl
            exact ⟨_, ct, 0, ct, ct, (show ∃ a : Int64, _ = Value.long a from ⟨_, rfl⟩), by decide, k1, k2, fun _ _ h => h, kI_s hI⟩
        · have k1 : kCl l D tc ad ct z 108 0 [.int (nI c), .int a2, .int a3] (.long (-9223372036854775808)) ct 0 := kCl_p (c_X10_held_d l D tc z ad ct (c := c) (w := wC) (nt := nt) (N := N) (nf := nf) h0 h1 h9 h10 hc hN hnf htt hFf w0 w1 w2) cw_X10_held h0 rfl rfl
          have k2 : kCl l D tc ad ct (z + 0) 111 200 [.int (nI c), .int a2, .int a3] (.long (-9223372036854775808)) ct 0 := kCl_p (c_X11_held_n l D tc (z + 0) ad ct (N := N) (nt := nt) (no := no) (nf := nf) h200 (fun q => by have q2 := (k64_in (lo := 0) (hi := 2) (by decide) (by decide)).mp q.2.2; obtain ⟨y, hy, rfl⟩ := kofN2 (k := 2) (by omega) q2.1 q2.2; rcases (show y = 0 ∨ y = 1 ∨ y = 2 by omega) with rfl | rfl | rfl; exact w0 rfl; exact w1 rfl; exact w2 rfl)) cw_X11_held h200 rfl rfl
          exact ⟨_, ct, 0, ct, ct, (show ∃ a : Int64, _ = Value.long a from ⟨_, rfl⟩), by decide, k1, k2, fun _ _ h => h, kI_s hI⟩
  · have k1 : kCl l D tc ad ct z 108 0 [.int a1, .int a2, .int a3] (.long (-9223372036854775808)) ct 0 := kCl_p (c_X10_held_n l D tc z ad ct (nt := nt) (N := N) h0 h1 hok) cw_X10_held h0 rfl rfl
    have k2 : kCl l D tc ad ct (z + 0) 111 200 [.int a1, .int a2, .int a3] (.long (-9223372036854775808)) ct 0 := kCl_p (c_X11_held_n l D tc (z + 0) ad ct (N := N) (nt := nt) (no := no) (nf := nf) h200 (fun q => hok ⟨q.1, (k64_in (lo := 0) (hi := 10) (by decide) (by decide)).mp q.2.1⟩)) cw_X11_held h200 rfl rfl
    exact ⟨_, ct, 0, ct, ct, (show ∃ a : Int64, _ = Value.long a from ⟨_, rfl⟩), by decide, k1, k2, fun _ _ h => h, kI_s hI⟩

set_option maxHeartbeats 4000000 in
theorem o_trace {l : Launch} {D : va_G} {tc : Nat → ClassId} {ad : Nat → Nat} {ct : Nat → Option va_E} {z kk : Nat} (hkk : kk < 512) (hI : kI kk tc ad ct) (hz : ∀ j, ct j = none → ad j = kAz z j) : kOp l D tc ad ct z kk 140 143 [] false := by
  obtain ⟨N, nt, no, nf, ft, tr, b, cm, da, bs, g, f, pu, ho, kd, de, we, la, sl, ce, tl, ca, tk, hNb, hO, hM, hT, hB, hF, hS, h13, hG⟩ := id hI
  obtain ⟨hN2, hN, b0, hb1, hb2, rfl⟩ := id hNb
  obtain ⟨h0, h200, h12⟩ := id hO
  obtain ⟨h1, ⟨fC, h2, hf⟩, h201⟩ := id hM
  obtain ⟨hnt, h202, h203, h204, h205, h206, qt, ci, hoC, weC, h3, hTf, hT1, hTn⟩ := id hT
  obtain ⟨hno, os, oc, om, nw, brR, mm, co, bg, se, qo, rw1, br, cv, h210, h211, h212, h213, h214, h4, h5, h6, h7, h8, hOf, hom, hm3, ho9, hse, hOn⟩ := id hB
  obtain ⟨hnf, h215, h216, qf, cf, sm, sq, wC, h9, h10, hFf, hF1, hFn⟩ := id hF
  obtain ⟨h207, h208, h209, qs, th, ln, n, sc, h11, hSf⟩ := id hS
  have k1 : kCl l D tc ad ct z 140 0 [] (.int tr) ct 0 := kCl_p (c_X10_trace l D tc z ad ct (nt := nt) h0 h12) cw_X10_trace h0 rfl rfl
  have k2 : kCl l D tc ad ct (z + 0) 143 200 [] (.int tr) ct 0 := kCl_p (c_X11_trace l D tc (z + 0) ad ct (N := N) (nt := nt) (no := no) (nf := nf) h200) cw_X11_trace h200 rfl rfl
  exact ⟨_, ct, 0, ct, ct, (show ∃ a : Int32, _ = Value.int a from ⟨_, rfl⟩), by decide, k1, k2, fun _ _ h => h, kI_s hI⟩

set_option maxHeartbeats 4000000 in
theorem o_fault {l : Launch} {D : va_G} {tc : Nat → ClassId} {ad : Nat → Nat} {ct : Nat → Option va_E} {z kk : Nat} (hkk : kk < 512) (hI : kI kk tc ad ct) (hz : ∀ j, ct j = none → ad j = kAz z j) : kOp l D tc ad ct z kk 144 147 [] false := by
  obtain ⟨N, nt, no, nf, ft, tr, b, cm, da, bs, g, f, pu, ho, kd, de, we, la, sl, ce, tl, ca, tk, hNb, hO, hM, hT, hB, hF, hS, h13, hG⟩ := id hI
  obtain ⟨hN2, hN, b0, hb1, hb2, rfl⟩ := id hNb
  obtain ⟨h0, h200, h12⟩ := id hO
  obtain ⟨h1, ⟨fC, h2, hf⟩, h201⟩ := id hM
  obtain ⟨hnt, h202, h203, h204, h205, h206, qt, ci, hoC, weC, h3, hTf, hT1, hTn⟩ := id hT
  obtain ⟨hno, os, oc, om, nw, brR, mm, co, bg, se, qo, rw1, br, cv, h210, h211, h212, h213, h214, h4, h5, h6, h7, h8, hOf, hom, hm3, ho9, hse, hOn⟩ := id hB
  obtain ⟨hnf, h215, h216, qf, cf, sm, sq, wC, h9, h10, hFf, hF1, hFn⟩ := id hF
  obtain ⟨h207, h208, h209, qs, th, ln, n, sc, h11, hSf⟩ := id hS
  have k1 : kCl l D tc ad ct z 144 0 [] (.int ft) ct 0 := kCl_p (c_X10_fault l D tc z ad ct (nt := nt) h0) cw_X10_fault h0 rfl rfl
  have k2 : kCl l D tc ad ct (z + 0) 147 200 [] (.int ft) ct 0 := kCl_p (c_X11_fault l D tc (z + 0) ad ct (N := N) (nt := nt) (no := no) (nf := nf) h200) cw_X11_fault h200 rfl rfl
  exact ⟨_, ct, 0, ct, ct, (show ∃ a : Int32, _ = Value.int a from ⟨_, rfl⟩), by decide, k1, k2, fun _ _ h => h, kI_s hI⟩

set_option maxHeartbeats 4000000 in
theorem o_told {l : Launch} {D : va_G} {tc : Nat → ClassId} {ad : Nat → Nat} {ct : Nat → Option va_E} {z kk : Nat} (hkk : kk < 512) (hI : kI kk tc ad ct) (hz : ∀ j, ct j = none → ad j = kAz z j) (a1 : Int32) : kOp l D tc ad ct z kk 148 151 [.int a1] false := by
  obtain ⟨N, nt, no, nf, ft, tr, b, cm, da, bs, g, f, pu, ho, kd, de, we, la, sl, ce, tl, ca, tk, hNb, hO, hM, hT, hB, hF, hS, h13, hG⟩ := id hI
  obtain ⟨hN2, hN, b0, hb1, hb2, rfl⟩ := id hNb
  obtain ⟨h0, h200, h12⟩ := id hO
  obtain ⟨h1, ⟨fC, h2, hf⟩, h201⟩ := id hM
  obtain ⟨hnt, h202, h203, h204, h205, h206, qt, ci, hoC, weC, h3, hTf, hT1, hTn⟩ := id hT
  obtain ⟨hno, os, oc, om, nw, brR, mm, co, bg, se, qo, rw1, br, cv, h210, h211, h212, h213, h214, h4, h5, h6, h7, h8, hOf, hom, hm3, ho9, hse, hOn⟩ := id hB
  obtain ⟨hnf, h215, h216, qf, cf, sm, sq, wC, h9, h10, hFf, hF1, hFn⟩ := id hF
  obtain ⟨h207, h208, h209, qs, th, ln, n, sc, h11, hSf⟩ := id hS
  by_cases w0 : a1 = 0
  · subst w0
    have k1 : kCl l D tc ad ct z 148 0 [.int 0] (.int (nI N)) ct 0 := kCl_p (c_X10_told_0 l D tc z ad ct (nt := nt) (N := N) h0 h1) cw_X10_told h0 rfl rfl
    have k2 : kCl l D tc ad ct (z + 0) 151 200 [.int 0] (.int (nI N)) ct 0 := kCl_p (c_X11_told_0 l D tc (z + 0) ad ct (N := N) (nt := nt) (no := no) (nf := nf) h200) cw_X11_told h200 rfl rfl
    exact ⟨_, ct, 0, ct, ct, (show ∃ a : Int32, _ = Value.int a from ⟨_, rfl⟩), by decide, k1, k2, fun _ _ h => h, kI_s hI⟩
  · by_cases w1 : a1 = 1
    · subst w1
      have k1 : kCl l D tc ad ct z 148 0 [.int 1] (.int (nI b0)) ct 0 := kCl_p (c_X10_told_1 l D tc z ad ct (nt := nt) (N := N) h0 h1) cw_X10_told h0 rfl rfl
      have k2 : kCl l D tc ad ct (z + 0) 151 200 [.int 1] (.int (nI b0)) ct 0 := kCl_p (c_X11_told_1 l D tc (z + 0) ad ct (N := N) (nt := nt) (no := no) (nf := nf) h200) cw_X11_told h200 rfl rfl
      exact ⟨_, ct, 0, ct, ct, (show ∃ a : Int32, _ = Value.int a from ⟨_, rfl⟩), by decide, k1, k2, fun _ _ h => h, kI_s hI⟩
    · by_cases w2 : a1 = 2
      · subst w2
        have k1 : kCl l D tc ad ct z 148 0 [.int 2] (.int (nI nt)) ct 0 := kCl_p (c_X10_told_2 l D tc z ad ct (nt := nt) h0) cw_X10_told h0 rfl rfl
        have k2 : kCl l D tc ad ct (z + 0) 151 200 [.int 2] (.int (nI nt)) ct 0 := kCl_p (c_X11_told_2 l D tc (z + 0) ad ct (N := N) (nt := nt) (no := no) (nf := nf) h200) cw_X11_told h200 rfl rfl
        exact ⟨_, ct, 0, ct, ct, (show ∃ a : Int32, _ = Value.int a from ⟨_, rfl⟩), by decide, k1, k2, fun _ _ h => h, kI_s hI⟩
      · by_cases w3 : a1 = 3
        · subst w3
          have k1 : kCl l D tc ad ct z 148 0 [.int 3] (.int (nI no)) ct 0 := kCl_p (c_X10_told_3 l D tc z ad ct (nt := nt) (no := no) h0 h4) cw_X10_told h0 rfl rfl
          have k2 : kCl l D tc ad ct (z + 0) 151 200 [.int 3] (.int (nI no)) ct 0 := kCl_p (c_X11_told_3 l D tc (z + 0) ad ct (N := N) (nt := nt) (no := no) (nf := nf) h200) cw_X11_told h200 rfl rfl
          exact ⟨_, ct, 0, ct, ct, (show ∃ a : Int32, _ = Value.int a from ⟨_, rfl⟩), by decide, k1, k2, fun _ _ h => h, kI_s hI⟩
        · by_cases w4 : a1 = 4
          · subst w4
            have k1 : kCl l D tc ad ct z 148 0 [.int 4] (.int (nI nf)) ct 0 := kCl_p (c_X10_told_4 l D tc z ad ct (nt := nt) (nf := nf) h0 h9) cw_X10_told h0 rfl rfl
            have k2 : kCl l D tc ad ct (z + 0) 151 200 [.int 4] (.int (nI nf)) ct 0 := kCl_p (c_X11_told_4 l D tc (z + 0) ad ct (N := N) (nt := nt) (no := no) (nf := nf) h200) cw_X11_told h200 rfl rfl
            exact ⟨_, ct, 0, ct, ct, (show ∃ a : Int32, _ = Value.int a from ⟨_, rfl⟩), by decide, k1, k2, fun _ _ h => h, kI_s hI⟩
          · by_cases w5 : a1 = 5
            · subst w5
              have k1 : kCl l D tc ad ct z 148 0 [.int 5] (.int (sw de nt)) ct 0 := kCl_p (c_X10_told_5 l D tc z ad ct (nt := nt) h0 h3 hnt hTf) cw_X10_told h0 rfl rfl
              have k2 : kCl l D tc ad ct (z + 0) 151 200 [.int 5] (.int da) ct 0 := kCl_p (c_X11_told_5 l D tc (z + 0) ad ct (N := N) (nt := nt) (no := no) (nf := nf) h200) cw_X11_told h200 rfl rfl
              exact ⟨_, ct, 0, ct, ct, (show ∃ a : Int32, _ = Value.int a from ⟨_, rfl⟩), by decide, k1, kCl_v (congrArg Value.int (hG.1.symm)) k2, fun _ _ h => h, kI_s hI⟩
            · have k1 : kCl l D tc ad ct z 148 0 [.int a1] (.int (-2)) ct 0 := kCl_p (c_X10_told_d l D tc z ad ct w0 w1 w2 w3 w4 w5) cw_X10_told h0 rfl rfl
              have k2 : kCl l D tc ad ct (z + 0) 151 200 [.int a1] (.int (-2)) ct 0 := kCl_p (c_X11_told_d l D tc (z + 0) ad ct (N := N) (nt := nt) (no := no) (nf := nf) h200 w0 w1 w2 w3 w4 w5) cw_X11_told h200 rfl rfl
              exact ⟨_, ct, 0, ct, ct, (show ∃ a : Int32, _ = Value.int a from ⟨_, rfl⟩), by decide, k1, k2, fun _ _ h => h, kI_s hI⟩
