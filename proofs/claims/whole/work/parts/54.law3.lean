set_option maxHeartbeats 4000000 in
theorem lc_24 {p : Program} {l : Launch} {e : Env} {s : State} {m : MethodId} {below : List Frame} {meth : Method} {c : Code} {b L : Nat} {xs : Nat → Int32} {D : va_G} {tc : Nat → ClassId} (C0 : kLwC p s m c b L xs D tc) : kCase p l e s m below meth c b L xs D tc 1068 := by
  obtain ⟨hx, hb, hml, hown, hts, hX, hbl, hK, hL2⟩ := C0
  intro ad ct z k cells slots H locs ls Q hkk hL hI hz hw hl hc hs K
  have hA : ∀ q : Nat, s.heap.size ≤ q → (fun q : Nat => s.heap.size ≤ q) q := fun _ h => h
  have hbA : ¬ (fun q : Nat => s.heap.size ≤ q) b := Nat.not_le.mpr hbl
  have S0 : CallFix p m c code 4 s #[Value.ref b] wsL_law RL := ⟨hx, hb, hml, hown, hts⟩
  obtain ⟨v, ct1, dn, ct2, ct3, ⟨a, rfl⟩, hdn, k1, k2, hsub, hI3⟩ := o_put (l := l) (D := D) hkk hI hz (xs (5 * k + 1)) (xs (5 * k + 2)) (xs (5 * k + 3))
  refine lv_aload_n hx hb dL_law_1068 rfl (lv_at hl 1 rfl) ?_
  refine lv_aload_n hx hb dL_law_1069 rfl (lv_at hl 0 rfl) ?_
  refine lv_iload_n hx hb dL_law_1070 rfl (lv_at hl 3 rfl) ?_
  refine lv_iconst (v := 1) hx hb dL_law_1071 (by decide) ?_
  refine lv_iadd hx hb dL_law_1072 ?_
  refine kg_sld hx hb hX hbl hbA hw.2.1 (5 * k + 1) (nI_add (5 * k) 1) (by omega) hL2 dL_law_1073 ?_
  refine lv_aload_n hx hb dL_law_1074 rfl (lv_at hl 0 rfl) ?_
  refine lv_iload_n hx hb dL_law_1075 rfl (lv_at hl 3 rfl) ?_
  refine lv_iconst (v := 2) hx hb dL_law_1076 (by decide) ?_
  refine lv_iadd hx hb dL_law_1077 ?_
  refine kg_sld hx hb hX hbl hbA hw.2.1 (5 * k + 2) (nI_add (5 * k) 2) (by omega) hL2 dL_law_1078 ?_
  refine lv_aload_n hx hb dL_law_1079 rfl (lv_at hl 0 rfl) ?_
  refine lv_iload_n hx hb dL_law_1080 rfl (lv_at hl 3 rfl) ?_
  refine lv_iconst (v := 3) hx hb dL_law_1081 (by decide) ?_
  refine lv_iadd hx hb dL_law_1082 ?_
  refine kg_sld hx hb hX hbl hbA hw.2.1 (5 * k + 3) (nI_add (5 * k) 3) (by omega) hL2 dL_law_1083 ?_
  refine W.eq (g2 := F0 m 1084 ls (([.int (xs (5 * k + 1)), .int (xs (5 * k + 2)), .int (xs (5 * k + 3))] : List Value).reverse ++ .ref (ad 0) :: [])) rfl ?_
  refine k1 S0 hK hw hA hl.1 (Nat.le_of_ble_eq_true rfl) dL_law_1084 (by omega) (by omega) (fun H1 locs1 hw1 => ?_)
  refine W.eq (g2 := F0 m 1087 ls [.int a]) rfl ?_
  refine lv_aload_n hx hb dL_law_1087 rfl (lv_at hl 2 rfl) ?_
  refine lv_aload_n hx hb dL_law_1088 rfl (lv_at hl 0 rfl) ?_
  refine lv_iload_n hx hb dL_law_1089 rfl (lv_at hl 3 rfl) ?_
  refine lv_iconst (v := 1) hx hb dL_law_1090 (by decide) ?_
  refine lv_iadd hx hb dL_law_1091 ?_
  refine kg_sld hx hb hX hbl hbA hw1.2.1 (5 * k + 1) (nI_add (5 * k) 1) (by omega) hL2 dL_law_1092 ?_
  refine lv_aload_n hx hb dL_law_1093 rfl (lv_at hl 0 rfl) ?_
  refine lv_iload_n hx hb dL_law_1094 rfl (lv_at hl 3 rfl) ?_
  refine lv_iconst (v := 2) hx hb dL_law_1095 (by decide) ?_
  refine lv_iadd hx hb dL_law_1096 ?_
  refine kg_sld hx hb hX hbl hbA hw1.2.1 (5 * k + 2) (nI_add (5 * k) 2) (by omega) hL2 dL_law_1097 ?_
  refine lv_aload_n hx hb dL_law_1098 rfl (lv_at hl 0 rfl) ?_
  refine lv_iload_n hx hb dL_law_1099 rfl (lv_at hl 3 rfl) ?_
  refine lv_iconst (v := 3) hx hb dL_law_1100 (by decide) ?_
  refine lv_iadd hx hb dL_law_1101 ?_
  refine kg_sld hx hb hX hbl hbA hw1.2.1 (5 * k + 3) (nI_add (5 * k) 3) (by omega) hL2 dL_law_1102 ?_
  refine W.eq (g2 := F0 m 1103 ls (([.int (xs (5 * k + 1)), .int (xs (5 * k + 2)), .int (xs (5 * k + 3))] : List Value).reverse ++ .ref (ad 200) :: [.int a])) rfl ?_
  refine k2 S0 hK hw1 hA hl.1 (Nat.le_of_ble_eq_true rfl) dL_law_1103 (by omega) (by omega) (fun H2 locs2 hw2 => ?_)
  refine W.eq (g2 := F0 m 1106 ls [.int a, .int a]) rfl ?_
  exact lv_icmp_eq (tgt := 1283) hx hb dL_law_1106 (by decide) (fun _ => K _ _ _ _ (hw2.part hsub) hI3) (fun q => absurd rfl q)

set_option maxHeartbeats 4000000 in
theorem lc_25 {p : Program} {l : Launch} {e : Env} {s : State} {m : MethodId} {below : List Frame} {meth : Method} {c : Code} {b L : Nat} {xs : Nat → Int32} {D : va_G} {tc : Nat → ClassId} (C0 : kLwC p s m c b L xs D tc) : kCase p l e s m below meth c b L xs D tc 1111 := by
  obtain ⟨hx, hb, hml, hown, hts, hX, hbl, hK, hL2⟩ := C0
  intro ad ct z k cells slots H locs ls Q hkk hL hI hz hw hl hc hs K
  have hA : ∀ q : Nat, s.heap.size ≤ q → (fun q : Nat => s.heap.size ≤ q) q := fun _ h => h
  have hbA : ¬ (fun q : Nat => s.heap.size ≤ q) b := Nat.not_le.mpr hbl
  have S0 : CallFix p m c code 4 s #[Value.ref b] wsL_law RL := ⟨hx, hb, hml, hown, hts⟩
  obtain ⟨v, ct1, dn, ct2, ct3, ⟨a, rfl⟩, hdn, k1, k2, hsub, hI3⟩ := o_at (l := l) (D := D) hkk hI hz (xs (5 * k + 1)) (xs (5 * k + 2)) (xs (5 * k + 3))
  refine lv_aload_n hx hb dL_law_1111 rfl (lv_at hl 1 rfl) ?_
  refine lv_aload_n hx hb dL_law_1112 rfl (lv_at hl 0 rfl) ?_
  refine lv_iload_n hx hb dL_law_1113 rfl (lv_at hl 3 rfl) ?_
  refine lv_iconst (v := 1) hx hb dL_law_1114 (by decide) ?_
  refine lv_iadd hx hb dL_law_1115 ?_
  refine kg_sld hx hb hX hbl hbA hw.2.1 (5 * k + 1) (nI_add (5 * k) 1) (by omega) hL2 dL_law_1116 ?_
  refine lv_aload_n hx hb dL_law_1117 rfl (lv_at hl 0 rfl) ?_
  refine lv_iload_n hx hb dL_law_1118 rfl (lv_at hl 3 rfl) ?_
  refine lv_iconst (v := 2) hx hb dL_law_1119 (by decide) ?_
  refine lv_iadd hx hb dL_law_1120 ?_
  refine kg_sld hx hb hX hbl hbA hw.2.1 (5 * k + 2) (nI_add (5 * k) 2) (by omega) hL2 dL_law_1121 ?_
  refine lv_aload_n hx hb dL_law_1122 rfl (lv_at hl 0 rfl) ?_
  refine lv_iload_n hx hb dL_law_1123 rfl (lv_at hl 3 rfl) ?_
  refine lv_iconst (v := 3) hx hb dL_law_1124 (by decide) ?_
  refine lv_iadd hx hb dL_law_1125 ?_
  refine kg_sld hx hb hX hbl hbA hw.2.1 (5 * k + 3) (nI_add (5 * k) 3) (by omega) hL2 dL_law_1126 ?_
  refine W.eq (g2 := F0 m 1127 ls (([.int (xs (5 * k + 1)), .int (xs (5 * k + 2)), .int (xs (5 * k + 3))] : List Value).reverse ++ .ref (ad 0) :: [])) rfl ?_
  refine k1 S0 hK hw hA hl.1 (Nat.le_of_ble_eq_true rfl) dL_law_1127 (by omega) (by omega) (fun H1 locs1 hw1 => ?_)
  refine W.eq (g2 := F0 m 1130 ls [.long a]) rfl ?_
  refine lv_aload_n hx hb dL_law_1130 rfl (lv_at hl 2 rfl) ?_
  refine lv_aload_n hx hb dL_law_1131 rfl (lv_at hl 0 rfl) ?_
  refine lv_iload_n hx hb dL_law_1132 rfl (lv_at hl 3 rfl) ?_
  refine lv_iconst (v := 1) hx hb dL_law_1133 (by decide) ?_
  refine lv_iadd hx hb dL_law_1134 ?_
  refine kg_sld hx hb hX hbl hbA hw1.2.1 (5 * k + 1) (nI_add (5 * k) 1) (by omega) hL2 dL_law_1135 ?_
  refine lv_aload_n hx hb dL_law_1136 rfl (lv_at hl 0 rfl) ?_
  refine lv_iload_n hx hb dL_law_1137 rfl (lv_at hl 3 rfl) ?_
  refine lv_iconst (v := 2) hx hb dL_law_1138 (by decide) ?_
  refine lv_iadd hx hb dL_law_1139 ?_
  refine kg_sld hx hb hX hbl hbA hw1.2.1 (5 * k + 2) (nI_add (5 * k) 2) (by omega) hL2 dL_law_1140 ?_
  refine lv_aload_n hx hb dL_law_1141 rfl (lv_at hl 0 rfl) ?_
  refine lv_iload_n hx hb dL_law_1142 rfl (lv_at hl 3 rfl) ?_
  refine lv_iconst (v := 3) hx hb dL_law_1143 (by decide) ?_
  refine lv_iadd hx hb dL_law_1144 ?_
  refine kg_sld hx hb hX hbl hbA hw1.2.1 (5 * k + 3) (nI_add (5 * k) 3) (by omega) hL2 dL_law_1145 ?_
  refine W.eq (g2 := F0 m 1146 ls (([.int (xs (5 * k + 1)), .int (xs (5 * k + 2)), .int (xs (5 * k + 3))] : List Value).reverse ++ .ref (ad 200) :: [.long a])) rfl ?_
  refine k2 S0 hK hw1 hA hl.1 (Nat.le_of_ble_eq_true rfl) dL_law_1146 (by omega) (by omega) (fun H2 locs2 hw2 => ?_)
  refine W.eq (g2 := F0 m 1149 ls [.long a, .long a]) rfl ?_
  refine W.lcmp hx hb dL_law_1149 ?_
  exact kl_eq (tgt := 1283) hx hb dL_law_1150 (by decide) (fun _ => K _ _ _ _ (hw2.part hsub) hI3) (fun q => absurd rfl q)

set_option maxHeartbeats 4000000 in
theorem lc_26 {p : Program} {l : Launch} {e : Env} {s : State} {m : MethodId} {below : List Frame} {meth : Method} {c : Code} {b L : Nat} {xs : Nat → Int32} {D : va_G} {tc : Nat → ClassId} (C0 : kLwC p s m c b L xs D tc) : kCase p l e s m below meth c b L xs D tc 1155 := by
  obtain ⟨hx, hb, hml, hown, hts, hX, hbl, hK, hL2⟩ := C0
  intro ad ct z k cells slots H locs ls Q hkk hL hI hz hw hl hc hs K
  have hA : ∀ q : Nat, s.heap.size ≤ q → (fun q : Nat => s.heap.size ≤ q) q := fun _ h => h
  have hbA : ¬ (fun q : Nat => s.heap.size ≤ q) b := Nat.not_le.mpr hbl
  have S0 : CallFix p m c code 4 s #[Value.ref b] wsL_law RL := ⟨hx, hb, hml, hown, hts⟩
  obtain ⟨v, ct1, dn, ct2, ct3, ⟨a, rfl⟩, hdn, k1, k2, hsub, hI3⟩ := o_tell (l := l) (D := D) hkk hI hz (xs (5 * k + 1))
  refine lv_aload_n hx hb dL_law_1155 rfl (lv_at hl 1 rfl) ?_
  refine lv_aload_n hx hb dL_law_1156 rfl (lv_at hl 0 rfl) ?_
  refine lv_iload_n hx hb dL_law_1157 rfl (lv_at hl 3 rfl) ?_
  refine lv_iconst (v := 1) hx hb dL_law_1158 (by decide) ?_
  refine lv_iadd hx hb dL_law_1159 ?_
  refine kg_sld hx hb hX hbl hbA hw.2.1 (5 * k + 1) (nI_add (5 * k) 1) (by omega) hL2 dL_law_1160 ?_
  refine W.eq (g2 := F0 m 1161 ls (([.int (xs (5 * k + 1))] : List Value).reverse ++ .ref (ad 0) :: [])) rfl ?_
  refine k1 S0 hK hw hA hl.1 (Nat.le_of_ble_eq_true rfl) dL_law_1161 (by omega) (by omega) (fun H1 locs1 hw1 => ?_)
  refine W.eq (g2 := F0 m 1164 ls [.int a]) rfl ?_
  refine lv_aload_n hx hb dL_law_1164 rfl (lv_at hl 2 rfl) ?_
  refine lv_aload_n hx hb dL_law_1165 rfl (lv_at hl 0 rfl) ?_
  refine lv_iload_n hx hb dL_law_1166 rfl (lv_at hl 3 rfl) ?_
  refine lv_iconst (v := 1) hx hb dL_law_1167 (by decide) ?_
  refine lv_iadd hx hb dL_law_1168 ?_
  refine kg_sld hx hb hX hbl hbA hw1.2.1 (5 * k + 1) (nI_add (5 * k) 1) (by omega) hL2 dL_law_1169 ?_
  refine W.eq (g2 := F0 m 1170 ls (([.int (xs (5 * k + 1))] : List Value).reverse ++ .ref (ad 200) :: [.int a])) rfl ?_
  refine k2 S0 hK hw1 hA hl.1 (Nat.le_of_ble_eq_true rfl) dL_law_1170 (by omega) (by omega) (fun H2 locs2 hw2 => ?_)
  refine W.eq (g2 := F0 m 1173 ls [.int a, .int a]) rfl ?_
  exact lv_icmp_eq (tgt := 1283) hx hb dL_law_1173 (by decide) (fun _ => K _ _ _ _ (hw2.part hsub) hI3) (fun q => absurd rfl q)

set_option maxHeartbeats 4000000 in
theorem lc_27 {p : Program} {l : Launch} {e : Env} {s : State} {m : MethodId} {below : List Frame} {meth : Method} {c : Code} {b L : Nat} {xs : Nat → Int32} {D : va_G} {tc : Nat → ClassId} (C0 : kLwC p s m c b L xs D tc) : kCase p l e s m below meth c b L xs D tc 1178 := by
  obtain ⟨hx, hb, hml, hown, hts, hX, hbl, hK, hL2⟩ := C0
  intro ad ct z k cells slots H locs ls Q hkk hL hI hz hw hl hc hs K
  have hA : ∀ q : Nat, s.heap.size ≤ q → (fun q : Nat => s.heap.size ≤ q) q := fun _ h => h
  have hbA : ¬ (fun q : Nat => s.heap.size ≤ q) b := Nat.not_le.mpr hbl
  have S0 : CallFix p m c code 4 s #[Value.ref b] wsL_law RL := ⟨hx, hb, hml, hown, hts⟩
  obtain ⟨v, ct1, dn, ct2, ct3, ⟨a, rfl⟩, hdn, k1, k2, hsub, hI3⟩ := o_greet (l := l) (D := D) hkk hI hz (xs (5 * k + 1))
  refine lv_aload_n hx hb dL_law_1178 rfl (lv_at hl 1 rfl) ?_
  refine lv_aload_n hx hb dL_law_1179 rfl (lv_at hl 0 rfl) ?_
  refine lv_iload_n hx hb dL_law_1180 rfl (lv_at hl 3 rfl) ?_
  refine lv_iconst (v := 1) hx hb dL_law_1181 (by decide) ?_
  refine lv_iadd hx hb dL_law_1182 ?_
  refine kg_sld hx hb hX hbl hbA hw.2.1 (5 * k + 1) (nI_add (5 * k) 1) (by omega) hL2 dL_law_1183 ?_
  refine W.eq (g2 := F0 m 1184 ls (([.int (xs (5 * k + 1))] : List Value).reverse ++ .ref (ad 0) :: [])) rfl ?_
  refine k1 S0 hK hw hA hl.1 (Nat.le_of_ble_eq_true rfl) dL_law_1184 (by omega) (by omega) (fun H1 locs1 hw1 => ?_)
  refine W.eq (g2 := F0 m 1187 ls [.int a]) rfl ?_
  refine lv_aload_n hx hb dL_law_1187 rfl (lv_at hl 2 rfl) ?_
  refine lv_aload_n hx hb dL_law_1188 rfl (lv_at hl 0 rfl) ?_
  refine lv_iload_n hx hb dL_law_1189 rfl (lv_at hl 3 rfl) ?_
  refine lv_iconst (v := 1) hx hb dL_law_1190 (by decide) ?_
  refine lv_iadd hx hb dL_law_1191 ?_
  refine kg_sld hx hb hX hbl hbA hw1.2.1 (5 * k + 1) (nI_add (5 * k) 1) (by omega) hL2 dL_law_1192 ?_
  refine W.eq (g2 := F0 m 1193 ls (([.int (xs (5 * k + 1))] : List Value).reverse ++ .ref (ad 200) :: [.int a])) rfl ?_
  refine k2 S0 hK hw1 hA hl.1 (Nat.le_of_ble_eq_true rfl) dL_law_1193 (by omega) (by omega) (fun H2 locs2 hw2 => ?_)
  refine W.eq (g2 := F0 m 1196 ls [.int a, .int a]) rfl ?_
  exact lv_icmp_eq (tgt := 1283) hx hb dL_law_1196 (by decide) (fun _ => K _ _ _ _ (hw2.part hsub) hI3) (fun q => absurd rfl q)

set_option maxHeartbeats 4000000 in
theorem lc_28 {p : Program} {l : Launch} {e : Env} {s : State} {m : MethodId} {below : List Frame} {meth : Method} {c : Code} {b L : Nat} {xs : Nat → Int32} {D : va_G} {tc : Nat → ClassId} (C0 : kLwC p s m c b L xs D tc) : kCase p l e s m below meth c b L xs D tc 1201 := by
  obtain ⟨hx, hb, hml, hown, hts, hX, hbl, hK, hL2⟩ := C0
  intro ad ct z k cells slots H locs ls Q hkk hL hI hz hw hl hc hs K
  have hA : ∀ q : Nat, s.heap.size ≤ q → (fun q : Nat => s.heap.size ≤ q) q := fun _ h => h
  have hbA : ¬ (fun q : Nat => s.heap.size ≤ q) b := Nat.not_le.mpr hbl
  have S0 : CallFix p m c code 4 s #[Value.ref b] wsL_law RL := ⟨hx, hb, hml, hown, hts⟩
  obtain ⟨v, ct1, dn, ct2, ct3, ⟨a, rfl⟩, hdn, k1, k2, hsub, hI3⟩ := o_as (l := l) (D := D) hkk hI hz (xs (5 * k + 1)) (xs (5 * k + 2))
  refine lv_aload_n hx hb dL_law_1201 rfl (lv_at hl 1 rfl) ?_
  refine lv_aload_n hx hb dL_law_1202 rfl (lv_at hl 0 rfl) ?_
  refine lv_iload_n hx hb dL_law_1203 rfl (lv_at hl 3 rfl) ?_
  refine lv_iconst (v := 1) hx hb dL_law_1204 (by decide) ?_
  refine lv_iadd hx hb dL_law_1205 ?_
  refine kg_sld hx hb hX hbl hbA hw.2.1 (5 * k + 1) (nI_add (5 * k) 1) (by omega) hL2 dL_law_1206 ?_
  refine lv_aload_n hx hb dL_law_1207 rfl (lv_at hl 0 rfl) ?_
  refine lv_iload_n hx hb dL_law_1208 rfl (lv_at hl 3 rfl) ?_
  refine lv_iconst (v := 2) hx hb dL_law_1209 (by decide) ?_
  refine lv_iadd hx hb dL_law_1210 ?_
  refine kg_sld hx hb hX hbl hbA hw.2.1 (5 * k + 2) (nI_add (5 * k) 2) (by omega) hL2 dL_law_1211 ?_
  refine W.eq (g2 := F0 m 1212 ls (([.int (xs (5 * k + 1)), .int (xs (5 * k + 2))] : List Value).reverse ++ .ref (ad 0) :: [])) rfl ?_
  refine k1 S0 hK hw hA hl.1 (Nat.le_of_ble_eq_true rfl) dL_law_1212 (by omega) (by omega) (fun H1 locs1 hw1 => ?_)
  refine W.eq (g2 := F0 m 1215 ls [.int a]) rfl ?_
  refine lv_aload_n hx hb dL_law_1215 rfl (lv_at hl 2 rfl) ?_
  refine lv_aload_n hx hb dL_law_1216 rfl (lv_at hl 0 rfl) ?_
  refine lv_iload_n hx hb dL_law_1217 rfl (lv_at hl 3 rfl) ?_
  refine lv_iconst (v := 1) hx hb dL_law_1218 (by decide) ?_
  refine lv_iadd hx hb dL_law_1219 ?_
  refine kg_sld hx hb hX hbl hbA hw1.2.1 (5 * k + 1) (nI_add (5 * k) 1) (by omega) hL2 dL_law_1220 ?_
  refine lv_aload_n hx hb dL_law_1221 rfl (lv_at hl 0 rfl) ?_
  refine lv_iload_n hx hb dL_law_1222 rfl (lv_at hl 3 rfl) ?_
  refine lv_iconst (v := 2) hx hb dL_law_1223 (by decide) ?_
  refine lv_iadd hx hb dL_law_1224 ?_
  refine kg_sld hx hb hX hbl hbA hw1.2.1 (5 * k + 2) (nI_add (5 * k) 2) (by omega) hL2 dL_law_1225 ?_
  refine W.eq (g2 := F0 m 1226 ls (([.int (xs (5 * k + 1)), .int (xs (5 * k + 2))] : List Value).reverse ++ .ref (ad 200) :: [.int a])) rfl ?_
  refine k2 S0 hK hw1 hA hl.1 (Nat.le_of_ble_eq_true rfl) dL_law_1226 (by omega) (by omega) (fun H2 locs2 hw2 => ?_)
  refine W.eq (g2 := F0 m 1229 ls [.int a, .int a]) rfl ?_
  exact lv_icmp_eq (tgt := 1283) hx hb dL_law_1229 (by decide) (fun _ => K _ _ _ _ (hw2.part hsub) hI3) (fun q => absurd rfl q)

set_option maxHeartbeats 4000000 in
theorem lc_29 {p : Program} {l : Launch} {e : Env} {s : State} {m : MethodId} {below : List Frame} {meth : Method} {c : Code} {b L : Nat} {xs : Nat → Int32} {D : va_G} {tc : Nat → ClassId} (C0 : kLwC p s m c b L xs D tc) : kCase p l e s m below meth c b L xs D tc 1234 := by
  obtain ⟨hx, hb, hml, hown, hts, hX, hbl, hK, hL2⟩ := C0
  intro ad ct z k cells slots H locs ls Q hkk hL hI hz hw hl hc hs K
  have hA : ∀ q : Nat, s.heap.size ≤ q → (fun q : Nat => s.heap.size ≤ q) q := fun _ h => h
  have hbA : ¬ (fun q : Nat => s.heap.size ≤ q) b := Nat.not_le.mpr hbl
  have S0 : CallFix p m c code 4 s #[Value.ref b] wsL_law RL := ⟨hx, hb, hml, hown, hts⟩
  obtain ⟨v, ct1, dn, ct2, ct3, ⟨a, rfl⟩, hdn, k1, k2, hsub, hI3⟩ := o_trace (l := l) (D := D) hkk hI hz
  refine lv_aload_n hx hb dL_law_1234 rfl (lv_at hl 1 rfl) ?_
  refine W.eq (g2 := F0 m 1235 ls (([] : List Value).reverse ++ .ref (ad 0) :: [])) rfl ?_
  refine k1 S0 hK hw hA hl.1 (Nat.le_of_ble_eq_true rfl) dL_law_1235 (by omega) (by omega) (fun H1 locs1 hw1 => ?_)
  refine W.eq (g2 := F0 m 1238 ls [.int a]) rfl ?_
  refine lv_aload_n hx hb dL_law_1238 rfl (lv_at hl 2 rfl) ?_
  refine W.eq (g2 := F0 m 1239 ls (([] : List Value).reverse ++ .ref (ad 200) :: [.int a])) rfl ?_
  refine k2 S0 hK hw1 hA hl.1 (Nat.le_of_ble_eq_true rfl) dL_law_1239 (by omega) (by omega) (fun H2 locs2 hw2 => ?_)
  refine W.eq (g2 := F0 m 1242 ls [.int a, .int a]) rfl ?_
  exact lv_icmp_eq (tgt := 1283) hx hb dL_law_1242 (by decide) (fun _ => K _ _ _ _ (hw2.part hsub) hI3) (fun q => absurd rfl q)

set_option maxHeartbeats 4000000 in
theorem lc_30 {p : Program} {l : Launch} {e : Env} {s : State} {m : MethodId} {below : List Frame} {meth : Method} {c : Code} {b L : Nat} {xs : Nat → Int32} {D : va_G} {tc : Nat → ClassId} (C0 : kLwC p s m c b L xs D tc) : kCase p l e s m below meth c b L xs D tc 1247 := by
  obtain ⟨hx, hb, hml, hown, hts, hX, hbl, hK, hL2⟩ := C0
  intro ad ct z k cells slots H locs ls Q hkk hL hI hz hw hl hc hs K
  have hA : ∀ q : Nat, s.heap.size ≤ q → (fun q : Nat => s.heap.size ≤ q) q := fun _ h => h
  have hbA : ¬ (fun q : Nat => s.heap.size ≤ q) b := Nat.not_le.mpr hbl
  have S0 : CallFix p m c code 4 s #[Value.ref b] wsL_law RL := ⟨hx, hb, hml, hown, hts⟩
  obtain ⟨v, ct1, dn, ct2, ct3, ⟨a, rfl⟩, hdn, k1, k2, hsub, hI3⟩ := o_fault (l := l) (D := D) hkk hI hz
  refine lv_aload_n hx hb dL_law_1247 rfl (lv_at hl 1 rfl) ?_
  refine W.eq (g2 := F0 m 1248 ls (([] : List Value).reverse ++ .ref (ad 0) :: [])) rfl ?_
  refine k1 S0 hK hw hA hl.1 (Nat.le_of_ble_eq_true rfl) dL_law_1248 (by omega) (by omega) (fun H1 locs1 hw1 => ?_)
  refine W.eq (g2 := F0 m 1251 ls [.int a]) rfl ?_
  refine lv_aload_n hx hb dL_law_1251 rfl (lv_at hl 2 rfl) ?_
  refine W.eq (g2 := F0 m 1252 ls (([] : List Value).reverse ++ .ref (ad 200) :: [.int a])) rfl ?_
  refine k2 S0 hK hw1 hA hl.1 (Nat.le_of_ble_eq_true rfl) dL_law_1252 (by omega) (by omega) (fun H2 locs2 hw2 => ?_)
  refine W.eq (g2 := F0 m 1255 ls [.int a, .int a]) rfl ?_
  exact lv_icmp_eq (tgt := 1283) hx hb dL_law_1255 (by decide) (fun _ => K _ _ _ _ (hw2.part hsub) hI3) (fun q => absurd rfl q)

set_option maxHeartbeats 4000000 in
theorem lc_31 {p : Program} {l : Launch} {e : Env} {s : State} {m : MethodId} {below : List Frame} {meth : Method} {c : Code} {b L : Nat} {xs : Nat → Int32} {D : va_G} {tc : Nat → ClassId} (C0 : kLwC p s m c b L xs D tc) : kCase p l e s m below meth c b L xs D tc 1260 := by
  obtain ⟨hx, hb, hml, hown, hts, hX, hbl, hK, hL2⟩ := C0
  intro ad ct z k cells slots H locs ls Q hkk hL hI hz hw hl hc hs K
  have hA : ∀ q : Nat, s.heap.size ≤ q → (fun q : Nat => s.heap.size ≤ q) q := fun _ h => h
  have hbA : ¬ (fun q : Nat => s.heap.size ≤ q) b := Nat.not_le.mpr hbl
  have S0 : CallFix p m c code 4 s #[Value.ref b] wsL_law RL := ⟨hx, hb, hml, hown, hts⟩
  obtain ⟨v, ct1, dn, ct2, ct3, ⟨a, rfl⟩, hdn, k1, k2, hsub, hI3⟩ := o_told (l := l) (D := D) hkk hI hz (xs (5 * k + 1))
  refine lv_aload_n hx hb dL_law_1260 rfl (lv_at hl 1 rfl) ?_
  refine lv_aload_n hx hb dL_law_1261 rfl (lv_at hl 0 rfl) ?_
  refine lv_iload_n hx hb dL_law_1262 rfl (lv_at hl 3 rfl) ?_
  refine lv_iconst (v := 1) hx hb dL_law_1263 (by decide) ?_
  refine lv_iadd hx hb dL_law_1264 ?_
  refine kg_sld hx hb hX hbl hbA hw.2.1 (5 * k + 1) (nI_add (5 * k) 1) (by omega) hL2 dL_law_1265 ?_
  refine W.eq (g2 := F0 m 1266 ls (([.int (xs (5 * k + 1))] : List Value).reverse ++ .ref (ad 0) :: [])) rfl ?_
  refine k1 S0 hK hw hA hl.1 (Nat.le_of_ble_eq_true rfl) dL_law_1266 (by omega) (by omega) (fun H1 locs1 hw1 => ?_)
  refine W.eq (g2 := F0 m 1269 ls [.int a]) rfl ?_
  refine lv_aload_n hx hb dL_law_1269 rfl (lv_at hl 2 rfl) ?_
  refine lv_aload_n hx hb dL_law_1270 rfl (lv_at hl 0 rfl) ?_
  refine lv_iload_n hx hb dL_law_1271 rfl (lv_at hl 3 rfl) ?_
  refine lv_iconst (v := 1) hx hb dL_law_1272 (by decide) ?_
  refine lv_iadd hx hb dL_law_1273 ?_
  refine kg_sld hx hb hX hbl hbA hw1.2.1 (5 * k + 1) (nI_add (5 * k) 1) (by omega) hL2 dL_law_1274 ?_
  refine W.eq (g2 := F0 m 1275 ls (([.int (xs (5 * k + 1))] : List Value).reverse ++ .ref (ad 200) :: [.int a])) rfl ?_
  refine k2 S0 hK hw1 hA hl.1 (Nat.le_of_ble_eq_true rfl) dL_law_1275 (by omega) (by omega) (fun H2 locs2 hw2 => ?_)
  refine W.eq (g2 := F0 m 1278 ls [.int a, .int a]) rfl ?_
  exact lv_icmp_eq (tgt := 1283) hx hb dL_law_1278 (by decide) (fun _ => K _ _ _ _ (hw2.part hsub) hI3) (fun q => absurd rfl q)
