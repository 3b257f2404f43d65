set_option maxHeartbeats 4000000 in
theorem lc_16 {p : Program} {l : Launch} {e : Env} {s : State} {m : MethodId} {below : List Frame} {meth : Method} {c : Code} {b L : Nat} {xs : Nat → Int32} {D : va_G} {tc : Nat → ClassId} (C0 : kLwC p s m c b L xs D tc) : kCase p l e s m below meth c b L xs D tc 791 := by
  obtain ⟨hx, hb, hml, hown, hts, hX, hbl, hK, hL2⟩ := C0
  intro ad ct z k cells slots H locs ls Q hkk hL hI hz hw hl hc hs K
  have hA : ∀ q : Nat, s.heap.size ≤ q → (fun q : Nat => s.heap.size ≤ q) q := fun _ h => h
  have hbA : ¬ (fun q : Nat => s.heap.size ≤ q) b := Nat.not_le.mpr hbl
  have S0 : CallFix p m c code 4 s #[Value.ref b] wsL_law RL := ⟨hx, hb, hml, hown, hts⟩
  obtain ⟨v, ct1, dn, ct2, ct3, ⟨a, rfl⟩, hdn, k1, k2, hsub, hI3⟩ := o_sure (l := l) (D := D) hkk hI hz
  refine lv_aload_n hx hb dL_law_791 rfl (lv_at hl 1 rfl) ?_
  refine W.eq (g2 := F0 m 792 ls (([] : List Value).reverse ++ .ref (ad 0) :: [])) rfl ?_
  refine k1 S0 hK hw hA hl.1 (Nat.le_of_ble_eq_true rfl) dL_law_792 (by omega) (by omega) (fun H1 locs1 hw1 => ?_)
  refine W.eq (g2 := F0 m 795 ls [.int a]) rfl ?_
  refine lv_aload_n hx hb dL_law_795 rfl (lv_at hl 2 rfl) ?_
  refine W.eq (g2 := F0 m 796 ls (([] : List Value).reverse ++ .ref (ad 200) :: [.int a])) rfl ?_
  refine k2 S0 hK hw1 hA hl.1 (Nat.le_of_ble_eq_true rfl) dL_law_796 (by omega) (by omega) (fun H2 locs2 hw2 => ?_)
  refine W.eq (g2 := F0 m 799 ls [.int a, .int a]) rfl ?_
  exact lv_icmp_eq (tgt := 1283) hx hb dL_law_799 (by decide) (fun _ => K _ _ _ _ (hw2.part hsub) hI3) (fun q => absurd rfl q)

set_option maxHeartbeats 4000000 in
theorem lc_17 {p : Program} {l : Launch} {e : Env} {s : State} {m : MethodId} {below : List Frame} {meth : Method} {c : Code} {b L : Nat} {xs : Nat → Int32} {D : va_G} {tc : Nat → ClassId} (C0 : kLwC p s m c b L xs D tc) : kCase p l e s m below meth c b L xs D tc 804 := by
  obtain ⟨hx, hb, hml, hown, hts, hX, hbl, hK, hL2⟩ := C0
  intro ad ct z k cells slots H locs ls Q hkk hL hI hz hw hl hc hs K
  have hA : ∀ q : Nat, s.heap.size ≤ q → (fun q : Nat => s.heap.size ≤ q) q := fun _ h => h
  have hbA : ¬ (fun q : Nat => s.heap.size ≤ q) b := Nat.not_le.mpr hbl
  have S0 : CallFix p m c code 4 s #[Value.ref b] wsL_law RL := ⟨hx, hb, hml, hown, hts⟩
  obtain ⟨v, ct1, dn, ct2, ct3, ⟨a, rfl⟩, hdn, k1, k2, hsub, hI3⟩ := o_bundle (l := l) (D := D) hkk hI hz (xs (5 * k + 1))
  refine lv_aload_n hx hb dL_law_804 rfl (lv_at hl 1 rfl) ?_
  refine lv_aload_n hx hb dL_law_805 rfl (lv_at hl 0 rfl) ?_
  refine lv_iload_n hx hb dL_law_806 rfl (lv_at hl 3 rfl) ?_
  refine lv_iconst (v := 1) hx hb dL_law_807 (by decide) ?_
  refine lv_iadd hx hb dL_law_808 ?_
  refine kg_sld hx hb hX hbl hbA hw.2.1 (5 * k + 1) (nI_add (5 * k) 1) (by omega) hL2 dL_law_809 ?_
  refine W.eq (g2 := F0 m 810 ls (([.int (xs (5 * k + 1))] : List Value).reverse ++ .ref (ad 0) :: [])) rfl ?_
  refine k1 S0 hK hw hA hl.1 (Nat.le_of_ble_eq_true rfl) dL_law_810 (by omega) (by omega) (fun H1 locs1 hw1 => ?_)
  refine W.eq (g2 := F0 m 813 ls [.int a]) rfl ?_
  refine lv_aload_n hx hb dL_law_813 rfl (lv_at hl 2 rfl) ?_
  refine lv_aload_n hx hb dL_law_814 rfl (lv_at hl 0 rfl) ?_
  refine lv_iload_n hx hb dL_law_815 rfl (lv_at hl 3 rfl) ?_
  refine lv_iconst (v := 1) hx hb dL_law_816 (by decide) ?_
  refine lv_iadd hx hb dL_law_817 ?_
  refine kg_sld hx hb hX hbl hbA hw1.2.1 (5 * k + 1) (nI_add (5 * k) 1) (by omega) hL2 dL_law_818 ?_
  refine W.eq (g2 := F0 m 819 ls (([.int (xs (5 * k + 1))] : List Value).reverse ++ .ref (ad 200) :: [.int a])) rfl ?_
  refine k2 S0 hK hw1 hA hl.1 (Nat.le_of_ble_eq_true rfl) dL_law_819 (by omega) (by omega) (fun H2 locs2 hw2 => ?_)
  refine W.eq (g2 := F0 m 822 ls [.int a, .int a]) rfl ?_
  exact lv_icmp_eq (tgt := 1283) hx hb dL_law_822 (by decide) (fun _ => K _ _ _ _ (hw2.part hsub) hI3) (fun q => absurd rfl q)

set_option maxHeartbeats 4000000 in
theorem lc_18 {p : Program} {l : Launch} {e : Env} {s : State} {m : MethodId} {below : List Frame} {meth : Method} {c : Code} {b L : Nat} {xs : Nat → Int32} {D : va_G} {tc : Nat → ClassId} (C0 : kLwC p s m c b L xs D tc) : kCase p l e s m below meth c b L xs D tc 827 := by
  obtain ⟨hx, hb, hml, hown, hts, hX, hbl, hK, hL2⟩ := C0
  intro ad ct z k cells slots H locs ls Q hkk hL hI hz hw hl hc hs K
  have hA : ∀ q : Nat, s.heap.size ≤ q → (fun q : Nat => s.heap.size ≤ q) q := fun _ h => h
  have hbA : ¬ (fun q : Nat => s.heap.size ≤ q) b := Nat.not_le.mpr hbl
  have S0 : CallFix p m c code 4 s #[Value.ref b] wsL_law RL := ⟨hx, hb, hml, hown, hts⟩
  obtain ⟨v, ct1, dn, ct2, ct3, ⟨a, rfl⟩, hdn, k1, k2, hsub, hI3⟩ := o_forecast (l := l) (D := D) hkk hI hz (xs (5 * k + 1)) (xs (5 * k + 2)) (xs (5 * k + 3)) (xs (5 * k + 4))
  refine lv_aload_n hx hb dL_law_827 rfl (lv_at hl 1 rfl) ?_
  refine lv_aload_n hx hb dL_law_828 rfl (lv_at hl 0 rfl) ?_
  refine lv_iload_n hx hb dL_law_829 rfl (lv_at hl 3 rfl) ?_
  refine lv_iconst (v := 1) hx hb dL_law_830 (by decide) ?_
  refine lv_iadd hx hb dL_law_831 ?_
  refine kg_sld hx hb hX hbl hbA hw.2.1 (5 * k + 1) (nI_add (5 * k) 1) (by omega) hL2 dL_law_832 ?_
  refine lv_aload_n hx hb dL_law_833 rfl (lv_at hl 0 rfl) ?_
  refine lv_iload_n hx hb dL_law_834 rfl (lv_at hl 3 rfl) ?_
  refine lv_iconst (v := 2) hx hb dL_law_835 (by decide) ?_
  refine lv_iadd hx hb dL_law_836 ?_
  refine kg_sld hx hb hX hbl hbA hw.2.1 (5 * k + 2) (nI_add (5 * k) 2) (by omega) hL2 dL_law_837 ?_
  refine lv_aload_n hx hb dL_law_838 rfl (lv_at hl 0 rfl) ?_
  refine lv_iload_n hx hb dL_law_839 rfl (lv_at hl 3 rfl) ?_
  refine lv_iconst (v := 3) hx hb dL_law_840 (by decide) ?_
  refine lv_iadd hx hb dL_law_841 ?_
  refine kg_sld hx hb hX hbl hbA hw.2.1 (5 * k + 3) (nI_add (5 * k) 3) (by omega) hL2 dL_law_842 ?_
  refine lv_aload_n hx hb dL_law_843 rfl (lv_at hl 0 rfl) ?_
  refine lv_iload_n hx hb dL_law_844 rfl (lv_at hl 3 rfl) ?_
  refine lv_iconst (v := 4) hx hb dL_law_845 (by decide) ?_
  refine lv_iadd hx hb dL_law_846 ?_
  refine kg_sld hx hb hX hbl hbA hw.2.1 (5 * k + 4) (nI_add (5 * k) 4) (by omega) hL2 dL_law_847 ?_
  refine W.eq (g2 := F0 m 848 ls (([.int (xs (5 * k + 1)), .int (xs (5 * k + 2)), .int (xs (5 * k + 3)), .int (xs (5 * k + 4))] : List Value).reverse ++ .ref (ad 0) :: [])) rfl ?_
  refine k1 S0 hK hw hA hl.1 (Nat.le_of_ble_eq_true rfl) dL_law_848 (by omega) (by omega) (fun H1 locs1 hw1 => ?_)
  refine W.eq (g2 := F0 m 851 ls [.int a]) rfl ?_
  refine lv_aload_n hx hb dL_law_851 rfl (lv_at hl 2 rfl) ?_
  refine lv_aload_n hx hb dL_law_852 rfl (lv_at hl 0 rfl) ?_
  refine lv_iload_n hx hb dL_law_853 rfl (lv_at hl 3 rfl) ?_
  refine lv_iconst (v := 1) hx hb dL_law_854 (by decide) ?_
  refine lv_iadd hx hb dL_law_855 ?_
  refine kg_sld hx hb hX hbl hbA hw1.2.1 (5 * k + 1) (nI_add (5 * k) 1) (by omega) hL2 dL_law_856 ?_
  refine lv_aload_n hx hb dL_law_857 rfl (lv_at hl 0 rfl) ?_
  refine lv_iload_n hx hb dL_law_858 rfl (lv_at hl 3 rfl) ?_
  refine lv_iconst (v := 2) hx hb dL_law_859 (by decide) ?_
  refine lv_iadd hx hb dL_law_860 ?_
  refine kg_sld hx hb hX hbl hbA hw1.2.1 (5 * k + 2) (nI_add (5 * k) 2) (by omega) hL2 dL_law_861 ?_
  refine lv_aload_n hx hb dL_law_862 rfl (lv_at hl 0 rfl) ?_
  refine lv_iload_n hx hb dL_law_863 rfl (lv_at hl 3 rfl) ?_
  refine lv_iconst (v := 3) hx hb dL_law_864 (by decide) ?_
  refine lv_iadd hx hb dL_law_865 ?_
  refine kg_sld hx hb hX hbl hbA hw1.2.1 (5 * k + 3) (nI_add (5 * k) 3) (by omega) hL2 dL_law_866 ?_
  refine lv_aload_n hx hb dL_law_867 rfl (lv_at hl 0 rfl) ?_
  refine lv_iload_n hx hb dL_law_868 rfl (lv_at hl 3 rfl) ?_
  refine lv_iconst (v := 4) hx hb dL_law_869 (by decide) ?_
  refine lv_iadd hx hb dL_law_870 ?_
  refine kg_sld hx hb hX hbl hbA hw1.2.1 (5 * k + 4) (nI_add (5 * k) 4) (by omega) hL2 dL_law_871 ?_
  refine W.eq (g2 := F0 m 872 ls (([.int (xs (5 * k + 1)), .int (xs (5 * k + 2)), .int (xs (5 * k + 3)), .int (xs (5 * k + 4))] : List Value).reverse ++ .ref (ad 200) :: [.int a])) rfl ?_
  refine k2 S0 hK hw1 hA hl.1 (Nat.le_of_ble_eq_true rfl) dL_law_872 (by omega) (by omega) (fun H2 locs2 hw2 => ?_)
  refine W.eq (g2 := F0 m 875 ls [.int a, .int a]) rfl ?_
  exact lv_icmp_eq (tgt := 1283) hx hb dL_law_875 (by decide) (fun _ => K _ _ _ _ (hw2.part hsub) hI3) (fun q => absurd rfl q)

set_option maxHeartbeats 4000000 in
theorem lc_19 {p : Program} {l : Launch} {e : Env} {s : State} {m : MethodId} {below : List Frame} {meth : Method} {c : Code} {b L : Nat} {xs : Nat → Int32} {D : va_G} {tc : Nat → ClassId} (C0 : kLwC p s m c b L xs D tc) : kCase p l e s m below meth c b L xs D tc 880 := by
  obtain ⟨hx, hb, hml, hown, hts, hX, hbl, hK, hL2⟩ := C0
  intro ad ct z k cells slots H locs ls Q hkk hL hI hz hw hl hc hs K
  have hA : ∀ q : Nat, s.heap.size ≤ q → (fun q : Nat => s.heap.size ≤ q) q := fun _ h => h
  have hbA : ¬ (fun q : Nat => s.heap.size ≤ q) b := Nat.not_le.mpr hbl
  have S0 : CallFix p m c code 4 s #[Value.ref b] wsL_law RL := ⟨hx, hb, hml, hown, hts⟩
  obtain ⟨v, ct1, dn, ct2, ct3, ⟨a, rfl⟩, hdn, k1, k2, hsub, hI3⟩ := o_score (l := l) (D := D) hkk hI hz (xs (5 * k + 1)) (xs (5 * k + 2))
  refine lv_aload_n hx hb dL_law_880 rfl (lv_at hl 1 rfl) ?_
  refine lv_aload_n hx hb dL_law_881 rfl (lv_at hl 0 rfl) ?_
  refine lv_iload_n hx hb dL_law_882 rfl (lv_at hl 3 rfl) ?_
  refine lv_iconst (v := 1) hx hb dL_law_883 (by decide) ?_
  refine lv_iadd hx hb dL_law_884 ?_
  refine kg_sld hx hb hX hbl hbA hw.2.1 (5 * k + 1) (nI_add (5 * k) 1) (by omega) hL2 dL_law_885 ?_
  refine lv_aload_n hx hb dL_law_886 rfl (lv_at hl 0 rfl) ?_
  refine lv_iload_n hx hb dL_law_887 rfl (lv_at hl 3 rfl) ?_
  refine lv_iconst (v := 2) hx hb dL_law_888 (by decide) ?_
  refine lv_iadd hx hb dL_law_889 ?_
  refine kg_sld hx hb hX hbl hbA hw.2.1 (5 * k + 2) (nI_add (5 * k) 2) (by omega) hL2 dL_law_890 ?_
  refine W.eq (g2 := F0 m 891 ls (([.int (xs (5 * k + 1)), .int (xs (5 * k + 2))] : List Value).reverse ++ .ref (ad 0) :: [])) rfl ?_
  refine k1 S0 hK hw hA hl.1 (Nat.le_of_ble_eq_true rfl) dL_law_891 (by omega) (by omega) (fun H1 locs1 hw1 => ?_)
  refine W.eq (g2 := F0 m 894 ls [.long a]) rfl ?_
  refine lv_aload_n hx hb dL_law_894 rfl (lv_at hl 2 rfl) ?_
  refine lv_aload_n hx hb dL_law_895 rfl (lv_at hl 0 rfl) ?_
  refine lv_iload_n hx hb dL_law_896 rfl (lv_at hl 3 rfl) ?_
  refine lv_iconst (v := 1) hx hb dL_law_897 (by decide) ?_
  refine lv_iadd hx hb dL_law_898 ?_
  refine kg_sld hx hb hX hbl hbA hw1.2.1 (5 * k + 1) (nI_add (5 * k) 1) (by omega) hL2 dL_law_899 ?_
  refine lv_aload_n hx hb dL_law_900 rfl (lv_at hl 0 rfl) ?_
  refine lv_iload_n hx hb dL_law_901 rfl (lv_at hl 3 rfl) ?_
  refine lv_iconst (v := 2) hx hb dL_law_902 (by decide) ?_
  refine lv_iadd hx hb dL_law_903 ?_
  refine kg_sld hx hb hX hbl hbA hw1.2.1 (5 * k + 2) (nI_add (5 * k) 2) (by omega) hL2 dL_law_904 ?_
  refine W.eq (g2 := F0 m 905 ls (([.int (xs (5 * k + 1)), .int (xs (5 * k + 2))] : List Value).reverse ++ .ref (ad 200) :: [.long a])) rfl ?_
  refine k2 S0 hK hw1 hA hl.1 (Nat.le_of_ble_eq_true rfl) dL_law_905 (by omega) (by omega) (fun H2 locs2 hw2 => ?_)
  refine W.eq (g2 := F0 m 908 ls [.long a, .long a]) rfl ?_
  refine W.lcmp hx hb dL_law_908 ?_
  exact kl_eq (tgt := 1283) hx hb dL_law_909 (by decide) (fun _ => K _ _ _ _ (hw2.part hsub) hI3) (fun q => absurd rfl q)

set_option maxHeartbeats 4000000 in
theorem lc_20 {p : Program} {l : Launch} {e : Env} {s : State} {m : MethodId} {below : List Frame} {meth : Method} {c : Code} {b L : Nat} {xs : Nat → Int32} {D : va_G} {tc : Nat → ClassId} (C0 : kLwC p s m c b L xs D tc) : kCase p l e s m below meth c b L xs D tc 914 := by
  obtain ⟨hx, hb, hml, hown, hts, hX, hbl, hK, hL2⟩ := C0
  intro ad ct z k cells slots H locs ls Q hkk hL hI hz hw hl hc hs K
  have hA : ∀ q : Nat, s.heap.size ≤ q → (fun q : Nat => s.heap.size ≤ q) q := fun _ h => h
  have hbA : ¬ (fun q : Nat => s.heap.size ≤ q) b := Nat.not_le.mpr hbl
  have S0 : CallFix p m c code 4 s #[Value.ref b] wsL_law RL := ⟨hx, hb, hml, hown, hts⟩
  obtain ⟨v, ct1, dn, ct2, ct3, ⟨a, rfl⟩, hdn, k1, k2, hsub, hI3⟩ := o_honest (l := l) (D := D) hkk hI hz (xs (5 * k + 1)) (xs (5 * k + 2)) (xs (5 * k + 3))
  refine lv_aload_n hx hb dL_law_914 rfl (lv_at hl 1 rfl) ?_
  refine lv_aload_n hx hb dL_law_915 rfl (lv_at hl 0 rfl) ?_
  refine lv_iload_n hx hb dL_law_916 rfl (lv_at hl 3 rfl) ?_
  refine lv_iconst (v := 1) hx hb dL_law_917 (by decide) ?_
  refine lv_iadd hx hb dL_law_918 ?_
  refine kg_sld hx hb hX hbl hbA hw.2.1 (5 * k + 1) (nI_add (5 * k) 1) (by omega) hL2 dL_law_919 ?_
  refine lv_aload_n hx hb dL_law_920 rfl (lv_at hl 0 rfl) ?_
  refine lv_iload_n hx hb dL_law_921 rfl (lv_at hl 3 rfl) ?_
  refine lv_iconst (v := 2) hx hb dL_law_922 (by decide) ?_
  refine lv_iadd hx hb dL_law_923 ?_
  refine kg_sld hx hb hX hbl hbA hw.2.1 (5 * k + 2) (nI_add (5 * k) 2) (by omega) hL2 dL_law_924 ?_
  refine lv_aload_n hx hb dL_law_925 rfl (lv_at hl 0 rfl) ?_
  refine lv_iload_n hx hb dL_law_926 rfl (lv_at hl 3 rfl) ?_
  refine lv_iconst (v := 3) hx hb dL_law_927 (by decide) ?_
  refine lv_iadd hx hb dL_law_928 ?_
  refine kg_sld hx hb hX hbl hbA hw.2.1 (5 * k + 3) (nI_add (5 * k) 3) (by omega) hL2 dL_law_929 ?_
  refine W.eq (g2 := F0 m 930 ls (([.int (xs (5 * k + 1)), .int (xs (5 * k + 2)), .int (xs (5 * k + 3))] : List Value).reverse ++ .ref (ad 0) :: [])) rfl ?_
  refine k1 S0 hK hw hA hl.1 (Nat.le_of_ble_eq_true rfl) dL_law_930 (by omega) (by omega) (fun H1 locs1 hw1 => ?_)
  refine W.eq (g2 := F0 m 933 ls [.long a]) rfl ?_
  refine lv_aload_n hx hb dL_law_933 rfl (lv_at hl 2 rfl) ?_
  refine lv_aload_n hx hb dL_law_934 rfl (lv_at hl 0 rfl) ?_
  refine lv_iload_n hx hb dL_law_935 rfl (lv_at hl 3 rfl) ?_
  refine lv_iconst (v := 1) hx hb dL_law_936 (by decide) ?_
  refine lv_iadd hx hb dL_law_937 ?_
  refine kg_sld hx hb hX hbl hbA hw1.2.1 (5 * k + 1) (nI_add (5 * k) 1) (by omega) hL2 dL_law_938 ?_
  refine lv_aload_n hx hb dL_law_939 rfl (lv_at hl 0 rfl) ?_
  refine lv_iload_n hx hb dL_law_940 rfl (lv_at hl 3 rfl) ?_
  refine lv_iconst (v := 2) hx hb dL_law_941 (by decide) ?_
  refine lv_iadd hx hb dL_law_942 ?_
  refine kg_sld hx hb hX hbl hbA hw1.2.1 (5 * k + 2) (nI_add (5 * k) 2) (by omega) hL2 dL_law_943 ?_
  refine lv_aload_n hx hb dL_law_944 rfl (lv_at hl 0 rfl) ?_
  refine lv_iload_n hx hb dL_law_945 rfl (lv_at hl 3 rfl) ?_
  refine lv_iconst (v := 3) hx hb dL_law_946 (by decide) ?_
  refine lv_iadd hx hb dL_law_947 ?_
  refine kg_sld hx hb hX hbl hbA hw1.2.1 (5 * k + 3) (nI_add (5 * k) 3) (by omega) hL2 dL_law_948 ?_
  refine W.eq (g2 := F0 m 949 ls (([.int (xs (5 * k + 1)), .int (xs (5 * k + 2)), .int (xs (5 * k + 3))] : List Value).reverse ++ .ref (ad 200) :: [.long a])) rfl ?_
  refine k2 S0 hK hw1 hA hl.1 (Nat.le_of_ble_eq_true rfl) dL_law_949 (by omega) (by omega) (fun H2 locs2 hw2 => ?_)
  refine W.eq (g2 := F0 m 952 ls [.long a, .long a]) rfl ?_
  refine W.lcmp hx hb dL_law_952 ?_
  exact kl_eq (tgt := 1283) hx hb dL_law_953 (by decide) (fun _ => K _ _ _ _ (hw2.part hsub) hI3) (fun q => absurd rfl q)

set_option maxHeartbeats 4000000 in
theorem lc_21 {p : Program} {l : Launch} {e : Env} {s : State} {m : MethodId} {below : List Frame} {meth : Method} {c : Code} {b L : Nat} {xs : Nat → Int32} {D : va_G} {tc : Nat → ClassId} (C0 : kLwC p s m c b L xs D tc) : kCase p l e s m below meth c b L xs D tc 958 := by
  obtain ⟨hx, hb, hml, hown, hts, hX, hbl, hK, hL2⟩ := C0
  intro ad ct z k cells slots H locs ls Q hkk hL hI hz hw hl hc hs K
  have hA : ∀ q : Nat, s.heap.size ≤ q → (fun q : Nat => s.heap.size ≤ q) q := fun _ h => h
  have hbA : ¬ (fun q : Nat => s.heap.size ≤ q) b := Nat.not_le.mpr hbl
  have S0 : CallFix p m c code 4 s #[Value.ref b] wsL_law RL := ⟨hx, hb, hml, hown, hts⟩
  obtain ⟨v, ct1, dn, ct2, ct3, ⟨a, rfl⟩, hdn, k1, k2, hsub, hI3⟩ := o_held (l := l) (D := D) hkk hI hz (xs (5 * k + 1)) (xs (5 * k + 2)) (xs (5 * k + 3))
  refine lv_aload_n hx hb dL_law_958 rfl (lv_at hl 1 rfl) ?_
  refine lv_aload_n hx hb dL_law_959 rfl (lv_at hl 0 rfl) ?_
  refine lv_iload_n hx hb dL_law_960 rfl (lv_at hl 3 rfl) ?_
  refine lv_iconst (v := 1) hx hb dL_law_961 (by decide) ?_
  refine lv_iadd hx hb dL_law_962 ?_
  refine kg_sld hx hb hX hbl hbA hw.2.1 (5 * k + 1) (nI_add (5 * k) 1) (by omega) hL2 dL_law_963 ?_
  refine lv_aload_n hx hb dL_law_964 rfl (lv_at hl 0 rfl) ?_
  refine lv_iload_n hx hb dL_law_965 rfl (lv_at hl 3 rfl) ?_
  refine lv_iconst (v := 2) hx hb dL_law_966 (by decide) ?_
  refine lv_iadd hx hb dL_law_967 ?_
  refine kg_sld hx hb hX hbl hbA hw.2.1 (5 * k + 2) (nI_add (5 * k) 2) (by omega) hL2 dL_law_968 ?_
  refine lv_aload_n hx hb dL_law_969 rfl (lv_at hl 0 rfl) ?_
  refine lv_iload_n hx hb dL_law_970 rfl (lv_at hl 3 rfl) ?_
  refine lv_iconst (v := 3) hx hb dL_law_971 (by decide) ?_
  refine lv_iadd hx hb dL_law_972 ?_
  refine kg_sld hx hb hX hbl hbA hw.2.1 (5 * k + 3) (nI_add (5 * k) 3) (by omega) hL2 dL_law_973 ?_
  refine W.eq (g2 := F0 m 974 ls (([.int (xs (5 * k + 1)), .int (xs (5 * k + 2)), .int (xs (5 * k + 3))] : List Value).reverse ++ .ref (ad 0) :: [])) rfl ?_
  refine k1 S0 hK hw hA hl.1 (Nat.le_of_ble_eq_true rfl) dL_law_974 (by omega) (by omega) (fun H1 locs1 hw1 => ?_)
  refine W.eq (g2 := F0 m 977 ls [.long a]) rfl ?_
  refine lv_aload_n hx hb dL_law_977 rfl (lv_at hl 2 rfl) ?_
  refine lv_aload_n hx hb dL_law_978 rfl (lv_at hl 0 rfl) ?_
  refine lv_iload_n hx hb dL_law_979 rfl (lv_at hl 3 rfl) ?_
  refine lv_iconst (v := 1) hx hb dL_law_980 (by decide) ?_
  refine lv_iadd hx hb dL_law_981 ?_
  refine kg_sld hx hb hX hbl hbA hw1.2.1 (5 * k + 1) (nI_add (5 * k) 1) (by omega) hL2 dL_law_982 ?_
  refine lv_aload_n hx hb dL_law_983 rfl (lv_at hl 0 rfl) ?_
  refine lv_iload_n hx hb dL_law_984 rfl (lv_at hl 3 rfl) ?_
  refine lv_iconst (v := 2) hx hb dL_law_985 (by decide) ?_
  refine lv_iadd hx hb dL_law_986 ?_
  refine kg_sld hx hb hX hbl hbA hw1.2.1 (5 * k + 2) (nI_add (5 * k) 2) (by omega) hL2 dL_law_987 ?_
  refine lv_aload_n hx hb dL_law_988 rfl (lv_at hl 0 rfl) ?_
  refine lv_iload_n hx hb dL_law_989 rfl (lv_at hl 3 rfl) ?_
  refine lv_iconst (v := 3) hx hb dL_law_990 (by decide) ?_
  refine lv_iadd hx hb dL_law_991 ?_
  refine kg_sld hx hb hX hbl hbA hw1.2.1 (5 * k + 3) (nI_add (5 * k) 3) (by omega) hL2 dL_law_992 ?_
  refine W.eq (g2 := F0 m 993 ls (([.int (xs (5 * k + 1)), .int (xs (5 * k + 2)), .int (xs (5 * k + 3))] : List Value).reverse ++ .ref (ad 200) :: [.long a])) rfl ?_
  refine k2 S0 hK hw1 hA hl.1 (Nat.le_of_ble_eq_true rfl) dL_law_993 (by omega) (by omega) (fun H2 locs2 hw2 => ?_)
  refine W.eq (g2 := F0 m 996 ls [.long a, .long a]) rfl ?_
  refine W.lcmp hx hb dL_law_996 ?_
  exact kl_eq (tgt := 1283) hx hb dL_law_997 (by decide) (fun _ => K _ _ _ _ (hw2.part hsub) hI3) (fun q => absurd rfl q)

set_option maxHeartbeats 4000000 in
theorem lc_22 {p : Program} {l : Launch} {e : Env} {s : State} {m : MethodId} {below : List Frame} {meth : Method} {c : Code} {b L : Nat} {xs : Nat → Int32} {D : va_G} {tc : Nat → ClassId} (C0 : kLwC p s m c b L xs D tc) : kCase p l e s m below meth c b L xs D tc 1002 := by
  obtain ⟨hx, hb, hml, hown, hts, hX, hbl, hK, hL2⟩ := C0
  intro ad ct z k cells slots H locs ls Q hkk hL hI hz hw hl hc hs K
  have hA : ∀ q : Nat, s.heap.size ≤ q → (fun q : Nat => s.heap.size ≤ q) q := fun _ h => h
  have hbA : ¬ (fun q : Nat => s.heap.size ≤ q) b := Nat.not_le.mpr hbl
  have S0 : CallFix p m c code 4 s #[Value.ref b] wsL_law RL := ⟨hx, hb, hml, hown, hts⟩
  obtain ⟨v, ct1, dn, ct2, ct3, ⟨a, rfl⟩, hdn, k1, k2, hsub, hI3⟩ := o_sheet (l := l) (D := D) hkk hI hz (xs (5 * k + 1)) (xs (5 * k + 2)) (xs (5 * k + 3))
  refine lv_aload_n hx hb dL_law_1002 rfl (lv_at hl 1 rfl) ?_
  refine lv_aload_n hx hb dL_law_1003 rfl (lv_at hl 0 rfl) ?_
  refine lv_iload_n hx hb dL_law_1004 rfl (lv_at hl 3 rfl) ?_
  refine lv_iconst (v := 1) hx hb dL_law_1005 (by decide) ?_
  refine lv_iadd hx hb dL_law_1006 ?_
  refine kg_sld hx hb hX hbl hbA hw.2.1 (5 * k + 1) (nI_add (5 * k) 1) (by omega) hL2 dL_law_1007 ?_
  refine lv_aload_n hx hb dL_law_1008 rfl (lv_at hl 0 rfl) ?_
  refine lv_iload_n hx hb dL_law_1009 rfl (lv_at hl 3 rfl) ?_
  refine lv_iconst (v := 2) hx hb dL_law_1010 (by decide) ?_
  refine lv_iadd hx hb dL_law_1011 ?_
  refine kg_sld hx hb hX hbl hbA hw.2.1 (5 * k + 2) (nI_add (5 * k) 2) (by omega) hL2 dL_law_1012 ?_
  refine lv_aload_n hx hb dL_law_1013 rfl (lv_at hl 0 rfl) ?_
  refine lv_iload_n hx hb dL_law_1014 rfl (lv_at hl 3 rfl) ?_
  refine lv_iconst (v := 3) hx hb dL_law_1015 (by decide) ?_
  refine lv_iadd hx hb dL_law_1016 ?_
  refine kg_sld hx hb hX hbl hbA hw.2.1 (5 * k + 3) (nI_add (5 * k) 3) (by omega) hL2 dL_law_1017 ?_
  refine W.eq (g2 := F0 m 1018 ls (([.int (xs (5 * k + 1)), .int (xs (5 * k + 2)), .int (xs (5 * k + 3))] : List Value).reverse ++ .ref (ad 0) :: [])) rfl ?_
  refine k1 S0 hK hw hA hl.1 (Nat.le_of_ble_eq_true rfl) dL_law_1018 (by omega) (by omega) (fun H1 locs1 hw1 => ?_)
  refine W.eq (g2 := F0 m 1021 ls [.int a]) rfl ?_
  refine lv_aload_n hx hb dL_law_1021 rfl (lv_at hl 2 rfl) ?_
  refine lv_aload_n hx hb dL_law_1022 rfl (lv_at hl 0 rfl) ?_
  refine lv_iload_n hx hb dL_law_1023 rfl (lv_at hl 3 rfl) ?_
  refine lv_iconst (v := 1) hx hb dL_law_1024 (by decide) ?_
  refine lv_iadd hx hb dL_law_1025 ?_
  refine kg_sld hx hb hX hbl hbA hw1.2.1 (5 * k + 1) (nI_add (5 * k) 1) (by omega) hL2 dL_law_1026 ?_
  refine lv_aload_n hx hb dL_law_1027 rfl (lv_at hl 0 rfl) ?_
  refine lv_iload_n hx hb dL_law_1028 rfl (lv_at hl 3 rfl) ?_
  refine lv_iconst (v := 2) hx hb dL_law_1029 (by decide) ?_
  refine lv_iadd hx hb dL_law_1030 ?_
  refine kg_sld hx hb hX hbl hbA hw1.2.1 (5 * k + 2) (nI_add (5 * k) 2) (by omega) hL2 dL_law_1031 ?_
  refine lv_aload_n hx hb dL_law_1032 rfl (lv_at hl 0 rfl) ?_
  refine lv_iload_n hx hb dL_law_1033 rfl (lv_at hl 3 rfl) ?_
  refine lv_iconst (v := 3) hx hb dL_law_1034 (by decide) ?_
  refine lv_iadd hx hb dL_law_1035 ?_
  refine kg_sld hx hb hX hbl hbA hw1.2.1 (5 * k + 3) (nI_add (5 * k) 3) (by omega) hL2 dL_law_1036 ?_
  refine W.eq (g2 := F0 m 1037 ls (([.int (xs (5 * k + 1)), .int (xs (5 * k + 2)), .int (xs (5 * k + 3))] : List Value).reverse ++ .ref (ad 200) :: [.int a])) rfl ?_
  refine k2 S0 hK hw1 hA hl.1 (Nat.le_of_ble_eq_true rfl) dL_law_1037 (by omega) (by omega) (fun H2 locs2 hw2 => ?_)
  refine W.eq (g2 := F0 m 1040 ls [.int a, .int a]) rfl ?_
  exact lv_icmp_eq (tgt := 1283) hx hb dL_law_1040 (by decide) (fun _ => K _ _ _ _ (hw2.part hsub) hI3) (fun q => absurd rfl q)

set_option maxHeartbeats 4000000 in
theorem lc_23 {p : Program} {l : Launch} {e : Env} {s : State} {m : MethodId} {below : List Frame} {meth : Method} {c : Code} {b L : Nat} {xs : Nat → Int32} {D : va_G} {tc : Nat → ClassId} (C0 : kLwC p s m c b L xs D tc) : kCase p l e s m below meth c b L xs D tc 1045 := by
  obtain ⟨hx, hb, hml, hown, hts, hX, hbl, hK, hL2⟩ := C0
  intro ad ct z k cells slots H locs ls Q hkk hL hI hz hw hl hc hs K
  have hA : ∀ q : Nat, s.heap.size ≤ q → (fun q : Nat => s.heap.size ≤ q) q := fun _ h => h
  have hbA : ¬ (fun q : Nat => s.heap.size ≤ q) b := Nat.not_le.mpr hbl
  have S0 : CallFix p m c code 4 s #[Value.ref b] wsL_law RL := ⟨hx, hb, hml, hown, hts⟩
  obtain ⟨v, ct1, dn, ct2, ct3, ⟨a, rfl⟩, hdn, k1, k2, hsub, hI3⟩ := o_lose (l := l) (D := D) hkk hI hz (xs (5 * k + 1))
  refine lv_aload_n hx hb dL_law_1045 rfl (lv_at hl 1 rfl) ?_
  refine lv_aload_n hx hb dL_law_1046 rfl (lv_at hl 0 rfl) ?_
  refine lv_iload_n hx hb dL_law_1047 rfl (lv_at hl 3 rfl) ?_
  refine lv_iconst (v := 1) hx hb dL_law_1048 (by decide) ?_
  refine lv_iadd hx hb dL_law_1049 ?_
  refine kg_sld hx hb hX hbl hbA hw.2.1 (5 * k + 1) (nI_add (5 * k) 1) (by omega) hL2 dL_law_1050 ?_
  refine W.eq (g2 := F0 m 1051 ls (([.int (xs (5 * k + 1))] : List Value).reverse ++ .ref (ad 0) :: [])) rfl ?_
  refine k1 S0 hK hw hA hl.1 (Nat.le_of_ble_eq_true rfl) dL_law_1051 (by omega) (by omega) (fun H1 locs1 hw1 => ?_)
  refine W.eq (g2 := F0 m 1054 ls [.int a]) rfl ?_
  refine lv_aload_n hx hb dL_law_1054 rfl (lv_at hl 2 rfl) ?_
  refine lv_aload_n hx hb dL_law_1055 rfl (lv_at hl 0 rfl) ?_
  refine lv_iload_n hx hb dL_law_1056 rfl (lv_at hl 3 rfl) ?_
  refine lv_iconst (v := 1) hx hb dL_law_1057 (by decide) ?_
  refine lv_iadd hx hb dL_law_1058 ?_
  refine kg_sld hx hb hX hbl hbA hw1.2.1 (5 * k + 1) (nI_add (5 * k) 1) (by omega) hL2 dL_law_1059 ?_
  refine W.eq (g2 := F0 m 1060 ls (([.int (xs (5 * k + 1))] : List Value).reverse ++ .ref (ad 200) :: [.int a])) rfl ?_
  refine k2 S0 hK hw1 hA hl.1 (Nat.le_of_ble_eq_true rfl) dL_law_1060 (by omega) (by omega) (fun H2 locs2 hw2 => ?_)
  refine W.eq (g2 := F0 m 1063 ls [.int a, .int a]) rfl ?_
  exact lv_icmp_eq (tgt := 1283) hx hb dL_law_1063 (by decide) (fun _ => K _ _ _ _ (hw2.part hsub) hI3) (fun q => absurd rfl q)
