set_option maxHeartbeats 4000000 in
theorem lc_8 {p : Program} {l : Launch} {e : Env} {s : State} {m : MethodId} {below : List Frame} {meth : Method} {c : Code} {b L : Nat} {xs : Nat → Int32} {D : va_G} {tc : Nat → ClassId} (C0 : kLwC p s m c b L xs D tc) : kCase p l e s m below meth c b L xs D tc 483 := by
  obtain ⟨hx, hb, hml, hown, hts, hX, hbl, hK, hL2⟩ := C0
  intro ad ct z k cells slots H locs ls Q hkk hL hI hz hw hl hc hs K
  have hA : ∀ q : Nat, s.heap.size ≤ q → (fun q : Nat => s.heap.size ≤ q) q := fun _ h => h
  have hbA : ¬ (fun q : Nat => s.heap.size ≤ q) b := Nat.not_le.mpr hbl
  have S0 : CallFix p m c code 4 s #[Value.ref b] wsL_law RL := ⟨hx, hb, hml, hown, hts⟩
  obtain ⟨v, ct1, dn, ct2, ct3, ⟨a, rfl⟩, hdn, k1, k2, hsub, hI3⟩ := o_maker (l := l) (D := D) hkk hI hz (xs (5 * k + 1))
  refine lv_aload_n hx hb dL_law_483 rfl (lv_at hl 1 rfl) ?_
  refine lv_aload_n hx hb dL_law_484 rfl (lv_at hl 0 rfl) ?_
  refine lv_iload_n hx hb dL_law_485 rfl (lv_at hl 3 rfl) ?_
  refine lv_iconst (v := 1) hx hb dL_law_486 (by decide) ?_
  refine lv_iadd hx hb dL_law_487 ?_
  refine kg_sld hx hb hX hbl hbA hw.2.1 (5 * k + 1) (nI_add (5 * k) 1) (by omega) hL2 dL_law_488 ?_
  refine W.eq (g2 := F0 m 489 ls (([.int (xs (5 * k + 1))] : List Value).reverse ++ .ref (ad 0) :: [])) rfl ?_
  refine k1 S0 hK hw hA hl.1 (Nat.le_of_ble_eq_true rfl) dL_law_489 (by omega) (by omega) (fun H1 locs1 hw1 => ?_)
  refine W.eq (g2 := F0 m 492 ls [.long a]) rfl ?_
  refine lv_aload_n hx hb dL_law_492 rfl (lv_at hl 2 rfl) ?_
  refine lv_aload_n hx hb dL_law_493 rfl (lv_at hl 0 rfl) ?_
  refine lv_iload_n hx hb dL_law_494 rfl (lv_at hl 3 rfl) ?_
  refine lv_iconst (v := 1) hx hb dL_law_495 (by decide) ?_
  refine lv_iadd hx hb dL_law_496 ?_
  refine kg_sld hx hb hX hbl hbA hw1.2.1 (5 * k + 1) (nI_add (5 * k) 1) (by omega) hL2 dL_law_497 ?_
  refine W.eq (g2 := F0 m 498 ls (([.int (xs (5 * k + 1))] : List Value).reverse ++ .ref (ad 200) :: [.long a])) rfl ?_
  refine k2 S0 hK hw1 hA hl.1 (Nat.le_of_ble_eq_true rfl) dL_law_498 (by omega) (by omega) (fun H2 locs2 hw2 => ?_)
  refine W.eq (g2 := F0 m 501 ls [.long a, .long a]) rfl ?_
  refine W.lcmp hx hb dL_law_501 ?_
  exact kl_eq (tgt := 1283) hx hb dL_law_502 (by decide) (fun _ => K _ _ _ _ (hw2.part hsub) hI3) (fun q => absurd rfl q)

set_option maxHeartbeats 4000000 in
theorem lc_9 {p : Program} {l : Launch} {e : Env} {s : State} {m : MethodId} {below : List Frame} {meth : Method} {c : Code} {b L : Nat} {xs : Nat → Int32} {D : va_G} {tc : Nat → ClassId} (C0 : kLwC p s m c b L xs D tc) : kCase p l e s m below meth c b L xs D tc 507 := by
  obtain ⟨hx, hb, hml, hown, hts, hX, hbl, hK, hL2⟩ := C0
  intro ad ct z k cells slots H locs ls Q hkk hL hI hz hw hl hc hs K
  have hA : ∀ q : Nat, s.heap.size ≤ q → (fun q : Nat => s.heap.size ≤ q) q := fun _ h => h
  have hbA : ¬ (fun q : Nat => s.heap.size ≤ q) b := Nat.not_le.mpr hbl
  have S0 : CallFix p m c code 4 s #[Value.ref b] wsL_law RL := ⟨hx, hb, hml, hown, hts⟩
  obtain ⟨v, ct1, dn, ct2, ct3, ⟨a, rfl⟩, hdn, k1, k2, hsub, hI3⟩ := o_of (l := l) (D := D) hkk hI hz (xs (5 * k + 1)) (xs (5 * k + 2))
  refine lv_aload_n hx hb dL_law_507 rfl (lv_at hl 1 rfl) ?_
  refine lv_aload_n hx hb dL_law_508 rfl (lv_at hl 0 rfl) ?_
  refine lv_iload_n hx hb dL_law_509 rfl (lv_at hl 3 rfl) ?_
  refine lv_iconst (v := 1) hx hb dL_law_510 (by decide) ?_
  refine lv_iadd hx hb dL_law_511 ?_
  refine kg_sld hx hb hX hbl hbA hw.2.1 (5 * k + 1) (nI_add (5 * k) 1) (by omega) hL2 dL_law_512 ?_
  refine lv_aload_n hx hb dL_law_513 rfl (lv_at hl 0 rfl) ?_
  refine lv_iload_n hx hb dL_law_514 rfl (lv_at hl 3 rfl) ?_
  refine lv_iconst (v := 2) hx hb dL_law_515 (by decide) ?_
  refine lv_iadd hx hb dL_law_516 ?_
  refine kg_sld hx hb hX hbl hbA hw.2.1 (5 * k + 2) (nI_add (5 * k) 2) (by omega) hL2 dL_law_517 ?_
  refine W.eq (g2 := F0 m 518 ls (([.int (xs (5 * k + 1)), .int (xs (5 * k + 2))] : List Value).reverse ++ .ref (ad 0) :: [])) rfl ?_
  refine k1 S0 hK hw hA hl.1 (Nat.le_of_ble_eq_true rfl) dL_law_518 (by omega) (by omega) (fun H1 locs1 hw1 => ?_)
  refine W.eq (g2 := F0 m 521 ls [.long a]) rfl ?_
  refine lv_aload_n hx hb dL_law_521 rfl (lv_at hl 2 rfl) ?_
  refine lv_aload_n hx hb dL_law_522 rfl (lv_at hl 0 rfl) ?_
  refine lv_iload_n hx hb dL_law_523 rfl (lv_at hl 3 rfl) ?_
  refine lv_iconst (v := 1) hx hb dL_law_524 (by decide) ?_
  refine lv_iadd hx hb dL_law_525 ?_
  refine kg_sld hx hb hX hbl hbA hw1.2.1 (5 * k + 1) (nI_add (5 * k) 1) (by omega) hL2 dL_law_526 ?_
  refine lv_aload_n hx hb dL_law_527 rfl (lv_at hl 0 rfl) ?_
  refine lv_iload_n hx hb dL_law_528 rfl (lv_at hl 3 rfl) ?_
  refine lv_iconst (v := 2) hx hb dL_law_529 (by decide) ?_
  refine lv_iadd hx hb dL_law_530 ?_
  refine kg_sld hx hb hX hbl hbA hw1.2.1 (5 * k + 2) (nI_add (5 * k) 2) (by omega) hL2 dL_law_531 ?_
  refine W.eq (g2 := F0 m 532 ls (([.int (xs (5 * k + 1)), .int (xs (5 * k + 2))] : List Value).reverse ++ .ref (ad 200) :: [.long a])) rfl ?_
  refine k2 S0 hK hw1 hA hl.1 (Nat.le_of_ble_eq_true rfl) dL_law_532 (by omega) (by omega) (fun H2 locs2 hw2 => ?_)
  refine W.eq (g2 := F0 m 535 ls [.long a, .long a]) rfl ?_
  refine W.lcmp hx hb dL_law_535 ?_
  exact kl_eq (tgt := 1283) hx hb dL_law_536 (by decide) (fun _ => K _ _ _ _ (hw2.part hsub) hI3) (fun q => absurd rfl q)

set_option maxHeartbeats 4000000 in
theorem lc_10 {p : Program} {l : Launch} {e : Env} {s : State} {m : MethodId} {below : List Frame} {meth : Method} {c : Code} {b L : Nat} {xs : Nat → Int32} {D : va_G} {tc : Nat → ClassId} (C0 : kLwC p s m c b L xs D tc) : kCase p l e s m below meth c b L xs D tc 541 := by
  obtain ⟨hx, hb, hml, hown, hts, hX, hbl, hK, hL2⟩ := C0
  intro ad ct z k cells slots H locs ls Q hkk hL hI hz hw hl hc hs K
  have hA : ∀ q : Nat, s.heap.size ≤ q → (fun q : Nat => s.heap.size ≤ q) q := fun _ h => h
  have hbA : ¬ (fun q : Nat => s.heap.size ≤ q) b := Nat.not_le.mpr hbl
  have S0 : CallFix p m c code 4 s #[Value.ref b] wsL_law RL := ⟨hx, hb, hml, hown, hts⟩
  obtain ⟨v, ct1, dn, ct2, ct3, ⟨a, rfl⟩, hdn, k1, k2, hsub, hI3⟩ := o_believe (l := l) (D := D) hkk hI hz (xs (5 * k + 1)) (xs (5 * k + 2)) (xs (5 * k + 3))
  refine lv_aload_n hx hb dL_law_541 rfl (lv_at hl 1 rfl) ?_
  refine lv_aload_n hx hb dL_law_542 rfl (lv_at hl 0 rfl) ?_
  refine lv_iload_n hx hb dL_law_543 rfl (lv_at hl 3 rfl) ?_
  refine lv_iconst (v := 1) hx hb dL_law_544 (by decide) ?_
  refine lv_iadd hx hb dL_law_545 ?_
  refine kg_sld hx hb hX hbl hbA hw.2.1 (5 * k + 1) (nI_add (5 * k) 1) (by omega) hL2 dL_law_546 ?_
  refine lv_aload_n hx hb dL_law_547 rfl (lv_at hl 0 rfl) ?_
  refine lv_iload_n hx hb dL_law_548 rfl (lv_at hl 3 rfl) ?_
  refine lv_iconst (v := 2) hx hb dL_law_549 (by decide) ?_
  refine lv_iadd hx hb dL_law_550 ?_
  refine kg_sld hx hb hX hbl hbA hw.2.1 (5 * k + 2) (nI_add (5 * k) 2) (by omega) hL2 dL_law_551 ?_
  refine lv_aload_n hx hb dL_law_552 rfl (lv_at hl 0 rfl) ?_
  refine lv_iload_n hx hb dL_law_553 rfl (lv_at hl 3 rfl) ?_
  refine lv_iconst (v := 3) hx hb dL_law_554 (by decide) ?_
  refine lv_iadd hx hb dL_law_555 ?_
  refine kg_sld hx hb hX hbl hbA hw.2.1 (5 * k + 3) (nI_add (5 * k) 3) (by omega) hL2 dL_law_556 ?_
  refine W.eq (g2 := F0 m 557 ls (([.int (xs (5 * k + 1)), .int (xs (5 * k + 2)), .int (xs (5 * k + 3))] : List Value).reverse ++ .ref (ad 0) :: [])) rfl ?_
  refine k1 S0 hK hw hA hl.1 (Nat.le_of_ble_eq_true rfl) dL_law_557 (by omega) (by omega) (fun H1 locs1 hw1 => ?_)
  refine W.eq (g2 := F0 m 560 ls [.int a]) rfl ?_
  refine lv_aload_n hx hb dL_law_560 rfl (lv_at hl 2 rfl) ?_
  refine lv_aload_n hx hb dL_law_561 rfl (lv_at hl 0 rfl) ?_
  refine lv_iload_n hx hb dL_law_562 rfl (lv_at hl 3 rfl) ?_
  refine lv_iconst (v := 1) hx hb dL_law_563 (by decide) ?_
  refine lv_iadd hx hb dL_law_564 ?_
  refine kg_sld hx hb hX hbl hbA hw1.2.1 (5 * k + 1) (nI_add (5 * k) 1) (by omega) hL2 dL_law_565 ?_
  refine lv_aload_n hx hb dL_law_566 rfl (lv_at hl 0 rfl) ?_
  refine lv_iload_n hx hb dL_law_567 rfl (lv_at hl 3 rfl) ?_
  refine lv_iconst (v := 2) hx hb dL_law_568 (by decide) ?_
  refine lv_iadd hx hb dL_law_569 ?_
  refine kg_sld hx hb hX hbl hbA hw1.2.1 (5 * k + 2) (nI_add (5 * k) 2) (by omega) hL2 dL_law_570 ?_
  refine lv_aload_n hx hb dL_law_571 rfl (lv_at hl 0 rfl) ?_
  refine lv_iload_n hx hb dL_law_572 rfl (lv_at hl 3 rfl) ?_
  refine lv_iconst (v := 3) hx hb dL_law_573 (by decide) ?_
  refine lv_iadd hx hb dL_law_574 ?_
  refine kg_sld hx hb hX hbl hbA hw1.2.1 (5 * k + 3) (nI_add (5 * k) 3) (by omega) hL2 dL_law_575 ?_
  refine W.eq (g2 := F0 m 576 ls (([.int (xs (5 * k + 1)), .int (xs (5 * k + 2)), .int (xs (5 * k + 3))] : List Value).reverse ++ .ref (ad 200) :: [.int a])) rfl ?_
  refine k2 S0 hK hw1 hA hl.1 (Nat.le_of_ble_eq_true rfl) dL_law_576 (by omega) (by omega) (fun H2 locs2 hw2 => ?_)
  refine W.eq (g2 := F0 m 579 ls [.int a, .int a]) rfl ?_
  exact lv_icmp_eq (tgt := 1283) hx hb dL_law_579 (by decide) (fun _ => K _ _ _ _ (hw2.part hsub) hI3) (fun q => absurd rfl q)

set_option maxHeartbeats 4000000 in
theorem lc_11 {p : Program} {l : Launch} {e : Env} {s : State} {m : MethodId} {below : List Frame} {meth : Method} {c : Code} {b L : Nat} {xs : Nat → Int32} {D : va_G} {tc : Nat → ClassId} (C0 : kLwC p s m c b L xs D tc) : kCase p l e s m below meth c b L xs D tc 584 := by
  obtain ⟨hx, hb, hml, hown, hts, hX, hbl, hK, hL2⟩ := C0
  intro ad ct z k cells slots H locs ls Q hkk hL hI hz hw hl hc hs K
  have hA : ∀ q : Nat, s.heap.size ≤ q → (fun q : Nat => s.heap.size ≤ q) q := fun _ h => h
  have hbA : ¬ (fun q : Nat => s.heap.size ≤ q) b := Nat.not_le.mpr hbl
  have S0 : CallFix p m c code 4 s #[Value.ref b] wsL_law RL := ⟨hx, hb, hml, hown, hts⟩
  obtain ⟨v, ct1, dn, ct2, ct3, ⟨a, rfl⟩, hdn, k1, k2, hsub, hI3⟩ := o_beliefs (l := l) (D := D) hkk hI hz (xs (5 * k + 1)) (xs (5 * k + 2)) (xs (5 * k + 3)) (xs (5 * k + 4))
  refine lv_aload_n hx hb dL_law_584 rfl (lv_at hl 1 rfl) ?_
  refine lv_aload_n hx hb dL_law_585 rfl (lv_at hl 0 rfl) ?_
  refine lv_iload_n hx hb dL_law_586 rfl (lv_at hl 3 rfl) ?_
  refine lv_iconst (v := 1) hx hb dL_law_587 (by decide) ?_
  refine lv_iadd hx hb dL_law_588 ?_
  refine kg_sld hx hb hX hbl hbA hw.2.1 (5 * k + 1) (nI_add (5 * k) 1) (by omega) hL2 dL_law_589 ?_
  refine lv_aload_n hx hb dL_law_590 rfl (lv_at hl 0 rfl) ?_
  refine lv_iload_n hx hb dL_law_591 rfl (lv_at hl 3 rfl) ?_
  refine lv_iconst (v := 2) hx hb dL_law_592 (by decide) ?_
  refine lv_iadd hx hb dL_law_593 ?_
  refine kg_sld hx hb hX hbl hbA hw.2.1 (5 * k + 2) (nI_add (5 * k) 2) (by omega) hL2 dL_law_594 ?_
  refine lv_aload_n hx hb dL_law_595 rfl (lv_at hl 0 rfl) ?_
  refine lv_iload_n hx hb dL_law_596 rfl (lv_at hl 3 rfl) ?_
  refine lv_iconst (v := 3) hx hb dL_law_597 (by decide) ?_
  refine lv_iadd hx hb dL_law_598 ?_
  refine kg_sld hx hb hX hbl hbA hw.2.1 (5 * k + 3) (nI_add (5 * k) 3) (by omega) hL2 dL_law_599 ?_
  refine lv_aload_n hx hb dL_law_600 rfl (lv_at hl 0 rfl) ?_
  refine lv_iload_n hx hb dL_law_601 rfl (lv_at hl 3 rfl) ?_
  refine lv_iconst (v := 4) hx hb dL_law_602 (by decide) ?_
  refine lv_iadd hx hb dL_law_603 ?_
  refine kg_sld hx hb hX hbl hbA hw.2.1 (5 * k + 4) (nI_add (5 * k) 4) (by omega) hL2 dL_law_604 ?_
  refine W.eq (g2 := F0 m 605 ls (([.int (xs (5 * k + 1)), .int (xs (5 * k + 2)), .int (xs (5 * k + 3)), .int (xs (5 * k + 4))] : List Value).reverse ++ .ref (ad 0) :: [])) rfl ?_
  refine k1 S0 hK hw hA hl.1 (Nat.le_of_ble_eq_true rfl) dL_law_605 (by omega) (by omega) (fun H1 locs1 hw1 => ?_)
  refine W.eq (g2 := F0 m 608 ls [.int a]) rfl ?_
  refine lv_aload_n hx hb dL_law_608 rfl (lv_at hl 2 rfl) ?_
  refine lv_aload_n hx hb dL_law_609 rfl (lv_at hl 0 rfl) ?_
  refine lv_iload_n hx hb dL_law_610 rfl (lv_at hl 3 rfl) ?_
  refine lv_iconst (v := 1) hx hb dL_law_611 (by decide) ?_
  refine lv_iadd hx hb dL_law_612 ?_
  refine kg_sld hx hb hX hbl hbA hw1.2.1 (5 * k + 1) (nI_add (5 * k) 1) (by omega) hL2 dL_law_613 ?_
  refine lv_aload_n hx hb dL_law_614 rfl (lv_at hl 0 rfl) ?_
  refine lv_iload_n hx hb dL_law_615 rfl (lv_at hl 3 rfl) ?_
  refine lv_iconst (v := 2) hx hb dL_law_616 (by decide) ?_
  refine lv_iadd hx hb dL_law_617 ?_
  refine kg_sld hx hb hX hbl hbA hw1.2.1 (5 * k + 2) (nI_add (5 * k) 2) (by omega) hL2 dL_law_618 ?_
  refine lv_aload_n hx hb dL_law_619 rfl (lv_at hl 0 rfl) ?_
  refine lv_iload_n hx hb dL_law_620 rfl (lv_at hl 3 rfl) ?_
  refine lv_iconst (v := 3) hx hb dL_law_621 (by decide) ?_
  refine lv_iadd hx hb dL_law_622 ?_
  refine kg_sld hx hb hX hbl hbA hw1.2.1 (5 * k + 3) (nI_add (5 * k) 3) (by omega) hL2 dL_law_623 ?_
  refine lv_aload_n hx hb dL_law_624 rfl (lv_at hl 0 rfl) ?_
  refine lv_iload_n hx hb dL_law_625 rfl (lv_at hl 3 rfl) ?_
  refine lv_iconst (v := 4) hx hb dL_law_626 (by decide) ?_
  refine lv_iadd hx hb dL_law_627 ?_
  refine kg_sld hx hb hX hbl hbA hw1.2.1 (5 * k + 4) (nI_add (5 * k) 4) (by omega) hL2 dL_law_628 ?_
  refine W.eq (g2 := F0 m 629 ls (([.int (xs (5 * k + 1)), .int (xs (5 * k + 2)), .int (xs (5 * k + 3)), .int (xs (5 * k + 4))] : List Value).reverse ++ .ref (ad 200) :: [.int a])) rfl ?_
  refine k2 S0 hK hw1 hA hl.1 (Nat.le_of_ble_eq_true rfl) dL_law_629 (by omega) (by omega) (fun H2 locs2 hw2 => ?_)
  refine W.eq (g2 := F0 m 632 ls [.int a, .int a]) rfl ?_
  exact lv_icmp_eq (tgt := 1283) hx hb dL_law_632 (by decide) (fun _ => K _ _ _ _ (hw2.part hsub) hI3) (fun q => absurd rfl q)

set_option maxHeartbeats 4000000 in
theorem lc_12 {p : Program} {l : Launch} {e : Env} {s : State} {m : MethodId} {below : List Frame} {meth : Method} {c : Code} {b L : Nat} {xs : Nat → Int32} {D : va_G} {tc : Nat → ClassId} (C0 : kLwC p s m c b L xs D tc) : kCase p l e s m below meth c b L xs D tc 637 := by
  obtain ⟨hx, hb, hml, hown, hts, hX, hbl, hK, hL2⟩ := C0
  intro ad ct z k cells slots H locs ls Q hkk hL hI hz hw hl hc hs K
  have hA : ∀ q : Nat, s.heap.size ≤ q → (fun q : Nat => s.heap.size ≤ q) q := fun _ h => h
  have hbA : ¬ (fun q : Nat => s.heap.size ≤ q) b := Nat.not_le.mpr hbl
  have S0 : CallFix p m c code 4 s #[Value.ref b] wsL_law RL := ⟨hx, hb, hml, hown, hts⟩
  obtain ⟨v, ct1, dn, ct2, ct3, ⟨a, rfl⟩, hdn, k1, k2, hsub, hI3⟩ := o_worth (l := l) (D := D) hkk hI hz (xs (5 * k + 1)) (xs (5 * k + 2)) (xs (5 * k + 3))
  refine lv_aload_n hx hb dL_law_637 rfl (lv_at hl 1 rfl) ?_
  refine lv_aload_n hx hb dL_law_638 rfl (lv_at hl 0 rfl) ?_
  refine lv_iload_n hx hb dL_law_639 rfl (lv_at hl 3 rfl) ?_
  refine lv_iconst (v := 1) hx hb dL_law_640 (by decide) ?_
  refine lv_iadd hx hb dL_law_641 ?_
  refine kg_sld hx hb hX hbl hbA hw.2.1 (5 * k + 1) (nI_add (5 * k) 1) (by omega) hL2 dL_law_642 ?_
  refine lv_aload_n hx hb dL_law_643 rfl (lv_at hl 0 rfl) ?_
  refine lv_iload_n hx hb dL_law_644 rfl (lv_at hl 3 rfl) ?_
  refine lv_iconst (v := 2) hx hb dL_law_645 (by decide) ?_
  refine lv_iadd hx hb dL_law_646 ?_
  refine kg_sld hx hb hX hbl hbA hw.2.1 (5 * k + 2) (nI_add (5 * k) 2) (by omega) hL2 dL_law_647 ?_
  refine lv_aload_n hx hb dL_law_648 rfl (lv_at hl 0 rfl) ?_
  refine lv_iload_n hx hb dL_law_649 rfl (lv_at hl 3 rfl) ?_
  refine lv_iconst (v := 3) hx hb dL_law_650 (by decide) ?_
  refine lv_iadd hx hb dL_law_651 ?_
  refine kg_sld hx hb hX hbl hbA hw.2.1 (5 * k + 3) (nI_add (5 * k) 3) (by omega) hL2 dL_law_652 ?_
  refine W.eq (g2 := F0 m 653 ls (([.int (xs (5 * k + 1)), .int (xs (5 * k + 2)), .int (xs (5 * k + 3))] : List Value).reverse ++ .ref (ad 0) :: [])) rfl ?_
  refine k1 S0 hK hw hA hl.1 (Nat.le_of_ble_eq_true rfl) dL_law_653 (by omega) (by omega) (fun H1 locs1 hw1 => ?_)
  refine W.eq (g2 := F0 m 656 ls [.long a]) rfl ?_
  refine lv_aload_n hx hb dL_law_656 rfl (lv_at hl 2 rfl) ?_
  refine lv_aload_n hx hb dL_law_657 rfl (lv_at hl 0 rfl) ?_
  refine lv_iload_n hx hb dL_law_658 rfl (lv_at hl 3 rfl) ?_
  refine lv_iconst (v := 1) hx hb dL_law_659 (by decide) ?_
  refine lv_iadd hx hb dL_law_660 ?_
  refine kg_sld hx hb hX hbl hbA hw1.2.1 (5 * k + 1) (nI_add (5 * k) 1) (by omega) hL2 dL_law_661 ?_
  refine lv_aload_n hx hb dL_law_662 rfl (lv_at hl 0 rfl) ?_
  refine lv_iload_n hx hb dL_law_663 rfl (lv_at hl 3 rfl) ?_
  refine lv_iconst (v := 2) hx hb dL_law_664 (by decide) ?_
  refine lv_iadd hx hb dL_law_665 ?_
  refine kg_sld hx hb hX hbl hbA hw1.2.1 (5 * k + 2) (nI_add (5 * k) 2) (by omega) hL2 dL_law_666 ?_
  refine lv_aload_n hx hb dL_law_667 rfl (lv_at hl 0 rfl) ?_
  refine lv_iload_n hx hb dL_law_668 rfl (lv_at hl 3 rfl) ?_
  refine lv_iconst (v := 3) hx hb dL_law_669 (by decide) ?_
  refine lv_iadd hx hb dL_law_670 ?_
  refine kg_sld hx hb hX hbl hbA hw1.2.1 (5 * k + 3) (nI_add (5 * k) 3) (by omega) hL2 dL_law_671 ?_
  refine W.eq (g2 := F0 m 672 ls (([.int (xs (5 * k + 1)), .int (xs (5 * k + 2)), .int (xs (5 * k + 3))] : List Value).reverse ++ .ref (ad 200) :: [.long a])) rfl ?_
  refine k2 S0 hK hw1 hA hl.1 (Nat.le_of_ble_eq_true rfl) dL_law_672 (by omega) (by omega) (fun H2 locs2 hw2 => ?_)
  refine W.eq (g2 := F0 m 675 ls [.long a, .long a]) rfl ?_
  refine W.lcmp hx hb dL_law_675 ?_
  exact kl_eq (tgt := 1283) hx hb dL_law_676 (by decide) (fun _ => K _ _ _ _ (hw2.part hsub) hI3) (fun q => absurd rfl q)

set_option maxHeartbeats 4000000 in
theorem lc_13 {p : Program} {l : Launch} {e : Env} {s : State} {m : MethodId} {below : List Frame} {meth : Method} {c : Code} {b L : Nat} {xs : Nat → Int32} {D : va_G} {tc : Nat → ClassId} (C0 : kLwC p s m c b L xs D tc) : kCase p l e s m below meth c b L xs D tc 681 := by
  obtain ⟨hx, hb, hml, hown, hts, hX, hbl, hK, hL2⟩ := C0
  intro ad ct z k cells slots H locs ls Q hkk hL hI hz hw hl hc hs K
  have hA : ∀ q : Nat, s.heap.size ≤ q → (fun q : Nat => s.heap.size ≤ q) q := fun _ h => h
  have hbA : ¬ (fun q : Nat => s.heap.size ≤ q) b := Nat.not_le.mpr hbl
  have S0 : CallFix p m c code 4 s #[Value.ref b] wsL_law RL := ⟨hx, hb, hml, hown, hts⟩
  obtain ⟨v, ct1, dn, ct2, ct3, ⟨a, rfl⟩, hdn, k1, k2, hsub, hI3⟩ := o_best (l := l) (D := D) hkk hI hz (xs (5 * k + 1)) (xs (5 * k + 2))
  refine lv_aload_n hx hb dL_law_681 rfl (lv_at hl 1 rfl) ?_
  refine lv_aload_n hx hb dL_law_682 rfl (lv_at hl 0 rfl) ?_
  refine lv_iload_n hx hb dL_law_683 rfl (lv_at hl 3 rfl) ?_
  refine lv_iconst (v := 1) hx hb dL_law_684 (by decide) ?_
  refine lv_iadd hx hb dL_law_685 ?_
  refine kg_sld hx hb hX hbl hbA hw.2.1 (5 * k + 1) (nI_add (5 * k) 1) (by omega) hL2 dL_law_686 ?_
  refine lv_aload_n hx hb dL_law_687 rfl (lv_at hl 0 rfl) ?_
  refine lv_iload_n hx hb dL_law_688 rfl (lv_at hl 3 rfl) ?_
  refine lv_iconst (v := 2) hx hb dL_law_689 (by decide) ?_
  refine lv_iadd hx hb dL_law_690 ?_
  refine kg_sld hx hb hX hbl hbA hw.2.1 (5 * k + 2) (nI_add (5 * k) 2) (by omega) hL2 dL_law_691 ?_
  refine W.eq (g2 := F0 m 692 ls (([.int (xs (5 * k + 1)), .int (xs (5 * k + 2))] : List Value).reverse ++ .ref (ad 0) :: [])) rfl ?_
  refine k1 S0 hK hw hA hl.1 (Nat.le_of_ble_eq_true rfl) dL_law_692 (by omega) (by omega) (fun H1 locs1 hw1 => ?_)
  refine W.eq (g2 := F0 m 695 ls [.long a]) rfl ?_
  refine lv_aload_n hx hb dL_law_695 rfl (lv_at hl 2 rfl) ?_
  refine lv_aload_n hx hb dL_law_696 rfl (lv_at hl 0 rfl) ?_
  refine lv_iload_n hx hb dL_law_697 rfl (lv_at hl 3 rfl) ?_
  refine lv_iconst (v := 1) hx hb dL_law_698 (by decide) ?_
  refine lv_iadd hx hb dL_law_699 ?_
  refine kg_sld hx hb hX hbl hbA hw1.2.1 (5 * k + 1) (nI_add (5 * k) 1) (by omega) hL2 dL_law_700 ?_
  refine lv_aload_n hx hb dL_law_701 rfl (lv_at hl 0 rfl) ?_
  refine lv_iload_n hx hb dL_law_702 rfl (lv_at hl 3 rfl) ?_
  refine lv_iconst (v := 2) hx hb dL_law_703 (by decide) ?_
  refine lv_iadd hx hb dL_law_704 ?_
  refine kg_sld hx hb hX hbl hbA hw1.2.1 (5 * k + 2) (nI_add (5 * k) 2) (by omega) hL2 dL_law_705 ?_
  refine W.eq (g2 := F0 m 706 ls (([.int (xs (5 * k + 1)), .int (xs (5 * k + 2))] : List Value).reverse ++ .ref (ad 200) :: [.long a])) rfl ?_
  refine k2 S0 hK hw1 hA hl.1 (Nat.le_of_ble_eq_true rfl) dL_law_706 (by omega) (by omega) (fun H2 locs2 hw2 => ?_)
  refine W.eq (g2 := F0 m 709 ls [.long a, .long a]) rfl ?_
  refine W.lcmp hx hb dL_law_709 ?_
  exact kl_eq (tgt := 1283) hx hb dL_law_710 (by decide) (fun _ => K _ _ _ _ (hw2.part hsub) hI3) (fun q => absurd rfl q)

set_option maxHeartbeats 4000000 in
theorem lc_14 {p : Program} {l : Launch} {e : Env} {s : State} {m : MethodId} {below : List Frame} {meth : Method} {c : Code} {b L : Nat} {xs : Nat → Int32} {D : va_G} {tc : Nat → ClassId} (C0 : kLwC p s m c b L xs D tc) : kCase p l e s m below meth c b L xs D tc 715 := by
  obtain ⟨hx, hb, hml, hown, hts, hX, hbl, hK, hL2⟩ := C0
  intro ad ct z k cells slots H locs ls Q hkk hL hI hz hw hl hc hs K
  have hA : ∀ q : Nat, s.heap.size ≤ q → (fun q : Nat => s.heap.size ≤ q) q := fun _ h => h
  have hbA : ¬ (fun q : Nat => s.heap.size ≤ q) b := Nat.not_le.mpr hbl
  have S0 : CallFix p m c code 4 s #[Value.ref b] wsL_law RL := ⟨hx, hb, hml, hown, hts⟩
  obtain ⟨v, ct1, dn, ct2, ct3, ⟨a, rfl⟩, hdn, k1, k2, hsub, hI3⟩ := o_offer (l := l) (D := D) hkk hI hz (xs (5 * k + 1)) (xs (5 * k + 2)) (xs (5 * k + 3))
  refine lv_aload_n hx hb dL_law_715 rfl (lv_at hl 1 rfl) ?_
  refine lv_aload_n hx hb dL_law_716 rfl (lv_at hl 0 rfl) ?_
  refine lv_iload_n hx hb dL_law_717 rfl (lv_at hl 3 rfl) ?_
  refine lv_iconst (v := 1) hx hb dL_law_718 (by decide) ?_
  refine lv_iadd hx hb dL_law_719 ?_
  refine kg_sld hx hb hX hbl hbA hw.2.1 (5 * k + 1) (nI_add (5 * k) 1) (by omega) hL2 dL_law_720 ?_
  refine lv_aload_n hx hb dL_law_721 rfl (lv_at hl 0 rfl) ?_
  refine lv_iload_n hx hb dL_law_722 rfl (lv_at hl 3 rfl) ?_
  refine lv_iconst (v := 2) hx hb dL_law_723 (by decide) ?_
  refine lv_iadd hx hb dL_law_724 ?_
  refine kg_sld hx hb hX hbl hbA hw.2.1 (5 * k + 2) (nI_add (5 * k) 2) (by omega) hL2 dL_law_725 ?_
  refine lv_aload_n hx hb dL_law_726 rfl (lv_at hl 0 rfl) ?_
  refine lv_iload_n hx hb dL_law_727 rfl (lv_at hl 3 rfl) ?_
  refine lv_iconst (v := 3) hx hb dL_law_728 (by decide) ?_
  refine lv_iadd hx hb dL_law_729 ?_
  refine kg_sld hx hb hX hbl hbA hw.2.1 (5 * k + 3) (nI_add (5 * k) 3) (by omega) hL2 dL_law_730 ?_
  refine W.eq (g2 := F0 m 731 ls (([.int (xs (5 * k + 1)), .int (xs (5 * k + 2)), .int (xs (5 * k + 3))] : List Value).reverse ++ .ref (ad 0) :: [])) rfl ?_
  refine k1 S0 hK hw hA hl.1 (Nat.le_of_ble_eq_true rfl) dL_law_731 (by omega) (by omega) (fun H1 locs1 hw1 => ?_)
  refine W.eq (g2 := F0 m 734 ls [.int a]) rfl ?_
  refine lv_aload_n hx hb dL_law_734 rfl (lv_at hl 2 rfl) ?_
  refine lv_aload_n hx hb dL_law_735 rfl (lv_at hl 0 rfl) ?_
  refine lv_iload_n hx hb dL_law_736 rfl (lv_at hl 3 rfl) ?_
  refine lv_iconst (v := 1) hx hb dL_law_737 (by decide) ?_
  refine lv_iadd hx hb dL_law_738 ?_
  refine kg_sld hx hb hX hbl hbA hw1.2.1 (5 * k + 1) (nI_add (5 * k) 1) (by omega) hL2 dL_law_739 ?_
  refine lv_aload_n hx hb dL_law_740 rfl (lv_at hl 0 rfl) ?_
  refine lv_iload_n hx hb dL_law_741 rfl (lv_at hl 3 rfl) ?_
  refine lv_iconst (v := 2) hx hb dL_law_742 (by decide) ?_
  refine lv_iadd hx hb dL_law_743 ?_
  refine kg_sld hx hb hX hbl hbA hw1.2.1 (5 * k + 2) (nI_add (5 * k) 2) (by omega) hL2 dL_law_744 ?_
  refine lv_aload_n hx hb dL_law_745 rfl (lv_at hl 0 rfl) ?_
  refine lv_iload_n hx hb dL_law_746 rfl (lv_at hl 3 rfl) ?_
  refine lv_iconst (v := 3) hx hb dL_law_747 (by decide) ?_
  refine lv_iadd hx hb dL_law_748 ?_
  refine kg_sld hx hb hX hbl hbA hw1.2.1 (5 * k + 3) (nI_add (5 * k) 3) (by omega) hL2 dL_law_749 ?_
  refine W.eq (g2 := F0 m 750 ls (([.int (xs (5 * k + 1)), .int (xs (5 * k + 2)), .int (xs (5 * k + 3))] : List Value).reverse ++ .ref (ad 200) :: [.int a])) rfl ?_
  refine k2 S0 hK hw1 hA hl.1 (Nat.le_of_ble_eq_true rfl) dL_law_750 (by omega) (by omega) (fun H2 locs2 hw2 => ?_)
  refine W.eq (g2 := F0 m 753 ls [.int a, .int a]) rfl ?_
  exact lv_icmp_eq (tgt := 1283) hx hb dL_law_753 (by decide) (fun _ => K _ _ _ _ (hw2.part hsub) hI3) (fun q => absurd rfl q)

set_option maxHeartbeats 4000000 in
theorem lc_15 {p : Program} {l : Launch} {e : Env} {s : State} {m : MethodId} {below : List Frame} {meth : Method} {c : Code} {b L : Nat} {xs : Nat → Int32} {D : va_G} {tc : Nat → ClassId} (C0 : kLwC p s m c b L xs D tc) : kCase p l e s m below meth c b L xs D tc 758 := by
  obtain ⟨hx, hb, hml, hown, hts, hX, hbl, hK, hL2⟩ := C0
  intro ad ct z k cells slots H locs ls Q hkk hL hI hz hw hl hc hs K
  have hA : ∀ q : Nat, s.heap.size ≤ q → (fun q : Nat => s.heap.size ≤ q) q := fun _ h => h
  have hbA : ¬ (fun q : Nat => s.heap.size ≤ q) b := Nat.not_le.mpr hbl
  have S0 : CallFix p m c code 4 s #[Value.ref b] wsL_law RL := ⟨hx, hb, hml, hown, hts⟩
  obtain ⟨v, ct1, dn, ct2, ct3, ⟨a, rfl⟩, hdn, k1, k2, hsub, hI3⟩ := o_most (l := l) (D := D) hkk hI hz (xs (5 * k + 1)) (xs (5 * k + 2))
  refine lv_aload_n hx hb dL_law_758 rfl (lv_at hl 1 rfl) ?_
  refine lv_aload_n hx hb dL_law_759 rfl (lv_at hl 0 rfl) ?_
  refine lv_iload_n hx hb dL_law_760 rfl (lv_at hl 3 rfl) ?_
  refine lv_iconst (v := 1) hx hb dL_law_761 (by decide) ?_
  refine lv_iadd hx hb dL_law_762 ?_
  refine kg_sld hx hb hX hbl hbA hw.2.1 (5 * k + 1) (nI_add (5 * k) 1) (by omega) hL2 dL_law_763 ?_
  refine lv_aload_n hx hb dL_law_764 rfl (lv_at hl 0 rfl) ?_
  refine lv_iload_n hx hb dL_law_765 rfl (lv_at hl 3 rfl) ?_
  refine lv_iconst (v := 2) hx hb dL_law_766 (by decide) ?_
  refine lv_iadd hx hb dL_law_767 ?_
  refine kg_sld hx hb hX hbl hbA hw.2.1 (5 * k + 2) (nI_add (5 * k) 2) (by omega) hL2 dL_law_768 ?_
  refine W.eq (g2 := F0 m 769 ls (([.int (xs (5 * k + 1)), .int (xs (5 * k + 2))] : List Value).reverse ++ .ref (ad 0) :: [])) rfl ?_
  refine k1 S0 hK hw hA hl.1 (Nat.le_of_ble_eq_true rfl) dL_law_769 (by omega) (by omega) (fun H1 locs1 hw1 => ?_)
  refine W.eq (g2 := F0 m 772 ls [.int a]) rfl ?_
  refine lv_aload_n hx hb dL_law_772 rfl (lv_at hl 2 rfl) ?_
  refine lv_aload_n hx hb dL_law_773 rfl (lv_at hl 0 rfl) ?_
  refine lv_iload_n hx hb dL_law_774 rfl (lv_at hl 3 rfl) ?_
  refine lv_iconst (v := 1) hx hb dL_law_775 (by decide) ?_
  refine lv_iadd hx hb dL_law_776 ?_
  refine kg_sld hx hb hX hbl hbA hw1.2.1 (5 * k + 1) (nI_add (5 * k) 1) (by omega) hL2 dL_law_777 ?_
  refine lv_aload_n hx hb dL_law_778 rfl (lv_at hl 0 rfl) ?_
  refine lv_iload_n hx hb dL_law_779 rfl (lv_at hl 3 rfl) ?_
  refine lv_iconst (v := 2) hx hb dL_law_780 (by decide) ?_
  refine lv_iadd hx hb dL_law_781 ?_
  refine kg_sld hx hb hX hbl hbA hw1.2.1 (5 * k + 2) (nI_add (5 * k) 2) (by omega) hL2 dL_law_782 ?_
  refine W.eq (g2 := F0 m 783 ls (([.int (xs (5 * k + 1)), .int (xs (5 * k + 2))] : List Value).reverse ++ .ref (ad 200) :: [.int a])) rfl ?_
  refine k2 S0 hK hw1 hA hl.1 (Nat.le_of_ble_eq_true rfl) dL_law_783 (by omega) (by omega) (fun H2 locs2 hw2 => ?_)
  refine W.eq (g2 := F0 m 786 ls [.int a, .int a]) rfl ?_
  exact lv_icmp_eq (tgt := 1283) hx hb dL_law_786 (by decide) (fun _ => K _ _ _ _ (hw2.part hsub) hI3) (fun q => absurd rfl q)
