set_option maxHeartbeats 4000000 in
theorem lc_0 {p : Program} {l : Launch} {e : Env} {s : State} {m : MethodId} {below : List Frame} {meth : Method} {c : Code} {b L : Nat} {xs : Nat → Int32} {D : va_G} {tc : Nat → ClassId} (C0 : kLwC p s m c b L xs D tc) : kCase p l e s m below meth c b L xs D tc 176 := by
  obtain ⟨hx, hb, hml, hown, hts, hX, hbl, hK, hL2⟩ := C0
  intro ad ct z k cells slots H locs ls Q hkk hL hI hz hw hl hc hs K
  have hA : ∀ q : Nat, s.heap.size ≤ q → (fun q : Nat => s.heap.size ≤ q) q := fun _ h => h
  have hbA : ¬ (fun q : Nat => s.heap.size ≤ q) b := Nat.not_le.mpr hbl
  have S0 : CallFix p m c code 4 s #[Value.ref b] wsL_law RL := ⟨hx, hb, hml, hown, hts⟩
  obtain ⟨v, ct1, dn, ct2, ct3, ⟨a, rfl⟩, hdn, k1, k2, hsub, hI3⟩ := o_begin (l := l) (D := D) hkk hI hz (xs (5 * k + 1)) (xs (5 * k + 2))
  refine lv_aload_n hx hb dL_law_176 rfl (lv_at hl 1 rfl) ?_
  refine lv_aload_n hx hb dL_law_177 rfl (lv_at hl 0 rfl) ?_
  refine lv_iload_n hx hb dL_law_178 rfl (lv_at hl 3 rfl) ?_
  refine lv_iconst (v := 1) hx hb dL_law_179 (by decide) ?_
  refine lv_iadd hx hb dL_law_180 ?_
  refine kg_sld hx hb hX hbl hbA hw.2.1 (5 * k + 1) (nI_add (5 * k) 1) (by omega) hL2 dL_law_181 ?_
  refine lv_aload_n hx hb dL_law_182 rfl (lv_at hl 0 rfl) ?_
  refine lv_iload_n hx hb dL_law_183 rfl (lv_at hl 3 rfl) ?_
  refine lv_iconst (v := 2) hx hb dL_law_184 (by decide) ?_
  refine lv_iadd hx hb dL_law_185 ?_
  refine kg_sld hx hb hX hbl hbA hw.2.1 (5 * k + 2) (nI_add (5 * k) 2) (by omega) hL2 dL_law_186 ?_
  refine W.eq (g2 := F0 m 187 ls (([.int (xs (5 * k + 1)), .int (xs (5 * k + 2))] : List Value).reverse ++ .ref (ad 0) :: [])) rfl ?_
  refine k1 S0 hK hw hA hl.1 (Nat.le_of_ble_eq_true rfl) dL_law_187 (by omega) (by omega) (fun H1 locs1 hw1 => ?_)
  refine W.eq (g2 := F0 m 190 ls [.int a]) rfl ?_
  refine lv_aload_n hx hb dL_law_190 rfl (lv_at hl 2 rfl) ?_
  refine lv_aload_n hx hb dL_law_191 rfl (lv_at hl 0 rfl) ?_
  refine lv_iload_n hx hb dL_law_192 rfl (lv_at hl 3 rfl) ?_
  refine lv_iconst (v := 1) hx hb dL_law_193 (by decide) ?_
  refine lv_iadd hx hb dL_law_194 ?_
  refine kg_sld hx hb hX hbl hbA hw1.2.1 (5 * k + 1) (nI_add (5 * k) 1) (by omega) hL2 dL_law_195 ?_
  refine lv_aload_n hx hb dL_law_196 rfl (lv_at hl 0 rfl) ?_
  refine lv_iload_n hx hb dL_law_197 rfl (lv_at hl 3 rfl) ?_
  refine lv_iconst (v := 2) hx hb dL_law_198 (by decide) ?_
  refine lv_iadd hx hb dL_law_199 ?_
  refine kg_sld hx hb hX hbl hbA hw1.2.1 (5 * k + 2) (nI_add (5 * k) 2) (by omega) hL2 dL_law_200 ?_
  refine W.eq (g2 := F0 m 201 ls (([.int (xs (5 * k + 1)), .int (xs (5 * k + 2))] : List Value).reverse ++ .ref (ad 200) :: [.int a])) rfl ?_
  refine k2 S0 hK hw1 hA hl.1 (Nat.le_of_ble_eq_true rfl) dL_law_201 (by omega) (by omega) (fun H2 locs2 hw2 => ?_)
  refine W.eq (g2 := F0 m 204 ls [.int a, .int a]) rfl ?_
  exact lv_icmp_eq (tgt := 1283) hx hb dL_law_204 (by decide) (fun _ => K _ _ _ _ (hw2.part hsub) hI3) (fun q => absurd rfl q)

set_option maxHeartbeats 4000000 in
theorem lc_1 {p : Program} {l : Launch} {e : Env} {s : State} {m : MethodId} {below : List Frame} {meth : Method} {c : Code} {b L : Nat} {xs : Nat → Int32} {D : va_G} {tc : Nat → ClassId} (C0 : kLwC p s m c b L xs D tc) : kCase p l e s m below meth c b L xs D tc 209 := by
  obtain ⟨hx, hb, hml, hown, hts, hX, hbl, hK, hL2⟩ := C0
  intro ad ct z k cells slots H locs ls Q hkk hL hI hz hw hl hc hs K
  have hA : ∀ q : Nat, s.heap.size ≤ q → (fun q : Nat => s.heap.size ≤ q) q := fun _ h => h
  have hbA : ¬ (fun q : Nat => s.heap.size ≤ q) b := Nat.not_le.mpr hbl
  have S0 : CallFix p m c code 4 s #[Value.ref b] wsL_law RL := ⟨hx, hb, hml, hown, hts⟩
  obtain ⟨v, ct1, dn, ct2, ct3, ⟨a, rfl⟩, hdn, k1, k2, hsub, hI3⟩ := o_trader (l := l) (D := D) hkk hI hz (xs (5 * k + 1)) ((((xs (5 * k + 2))).toInt64 <<< ((32 : Int32).toInt64 &&& 63)) ||| (((xs (5 * k + 3))).toInt64 &&& 4294967295))
  refine lv_aload_n hx hb dL_law_209 rfl (lv_at hl 1 rfl) ?_
  refine lv_aload_n hx hb dL_law_210 rfl (lv_at hl 0 rfl) ?_
  refine lv_iload_n hx hb dL_law_211 rfl (lv_at hl 3 rfl) ?_
  refine lv_iconst (v := 1) hx hb dL_law_212 (by decide) ?_
  refine lv_iadd hx hb dL_law_213 ?_
  refine kg_sld hx hb hX hbl hbA hw.2.1 (5 * k + 1) (nI_add (5 * k) 1) (by omega) hL2 dL_law_214 ?_
  refine lv_aload_n hx hb dL_law_215 rfl (lv_at hl 0 rfl) ?_
  refine lv_iload_n hx hb dL_law_216 rfl (lv_at hl 3 rfl) ?_
  refine lv_iconst (v := 2) hx hb dL_law_217 (by decide) ?_
  refine lv_iadd hx hb dL_law_218 ?_
  refine kg_sld hx hb hX hbl hbA hw.2.1 (5 * k + 2) (nI_add (5 * k) 2) (by omega) hL2 dL_law_219 ?_
  refine lv_i2l (v := ((xs (5 * k + 2))).toInt64) hx hb dL_law_220 rfl ?_
  refine lv_bipush (v := 32) hx hb dL_law_221 (by decide) ?_
  refine lv_lshl (v := ((xs (5 * k + 2))).toInt64 <<< ((32 : Int32).toInt64 &&& 63)) hx hb dL_law_223 rfl ?_
  refine lv_aload_n hx hb dL_law_224 rfl (lv_at hl 0 rfl) ?_
  refine lv_iload_n hx hb dL_law_225 rfl (lv_at hl 3 rfl) ?_
  refine lv_iconst (v := 3) hx hb dL_law_226 (by decide) ?_
  refine lv_iadd hx hb dL_law_227 ?_
  refine kg_sld hx hb hX hbl hbA hw.2.1 (5 * k + 3) (nI_add (5 * k) 3) (by omega) hL2 dL_law_228 ?_
  refine lv_i2l (v := ((xs (5 * k + 3))).toInt64) hx hb dL_law_229 rfl ?_
  refine lv_ldc2 (v := 4294967295) hx hb hown (hts (.constantLong RL 18 (4294967295)) (by decide +kernel)) dL_law_230 ?_
  refine lv_land hx hb dL_law_233 ?_
  refine lv_lor hx hb dL_law_234 ?_
  refine W.eq (g2 := F0 m 235 ls (([.int (xs (5 * k + 1)), .long ((((xs (5 * k + 2))).toInt64 <<< ((32 : Int32).toInt64 &&& 63)) ||| (((xs (5 * k + 3))).toInt64 &&& 4294967295))] : List Value).reverse ++ .ref (ad 0) :: [])) rfl ?_
  refine k1 S0 hK hw hA hl.1 (Nat.le_of_ble_eq_true rfl) dL_law_235 (by omega) (by omega) (fun H1 locs1 hw1 => ?_)
  refine W.eq (g2 := F0 m 238 ls [.int a]) rfl ?_
  refine lv_aload_n hx hb dL_law_238 rfl (lv_at hl 2 rfl) ?_
  refine lv_aload_n hx hb dL_law_239 rfl (lv_at hl 0 rfl) ?_
  refine lv_iload_n hx hb dL_law_240 rfl (lv_at hl 3 rfl) ?_
  refine lv_iconst (v := 1) hx hb dL_law_241 (by decide) ?_
  refine lv_iadd hx hb dL_law_242 ?_
  refine kg_sld hx hb hX hbl hbA hw1.2.1 (5 * k + 1) (nI_add (5 * k) 1) (by omega) hL2 dL_law_243 ?_
  refine lv_aload_n hx hb dL_law_244 rfl (lv_at hl 0 rfl) ?_
  refine lv_iload_n hx hb dL_law_245 rfl (lv_at hl 3 rfl) ?_
  refine lv_iconst (v := 2) hx hb dL_law_246 (by decide) ?_
  refine lv_iadd hx hb dL_law_247 ?_
  refine kg_sld hx hb hX hbl hbA hw1.2.1 (5 * k + 2) (nI_add (5 * k) 2) (by omega) hL2 dL_law_248 ?_
  refine lv_i2l (v := ((xs (5 * k + 2))).toInt64) hx hb dL_law_249 rfl ?_
  refine lv_bipush (v := 32) hx hb dL_law_250 (by decide) ?_
  refine lv_lshl (v := ((xs (5 * k + 2))).toInt64 <<< ((32 : Int32).toInt64 &&& 63)) hx hb dL_law_252 rfl ?_
  refine lv_aload_n hx hb dL_law_253 rfl (lv_at hl 0 rfl) ?_
  refine lv_iload_n hx hb dL_law_254 rfl (lv_at hl 3 rfl) ?_
  refine lv_iconst (v := 3) hx hb dL_law_255 (by decide) ?_
  refine lv_iadd hx hb dL_law_256 ?_
  refine kg_sld hx hb hX hbl hbA hw1.2.1 (5 * k + 3) (nI_add (5 * k) 3) (by omega) hL2 dL_law_257 ?_
  refine lv_i2l (v := ((xs (5 * k + 3))).toInt64) hx hb dL_law_258 rfl ?_
  refine lv_ldc2 (v := 4294967295) hx hb hown (hts (.constantLong RL 18 (4294967295)) (by decide +kernel)) dL_law_259 ?_
  refine lv_land hx hb dL_law_262 ?_
  refine lv_lor hx hb dL_law_263 ?_
  refine W.eq (g2 := F0 m 264 ls (([.int (xs (5 * k + 1)), .long ((((xs (5 * k + 2))).toInt64 <<< ((32 : Int32).toInt64 &&& 63)) ||| (((xs (5 * k + 3))).toInt64 &&& 4294967295))] : List Value).reverse ++ .ref (ad 200) :: [.int a])) rfl ?_
  refine k2 S0 hK hw1 hA hl.1 (Nat.le_of_ble_eq_true rfl) dL_law_264 (by omega) (by omega) (fun H2 locs2 hw2 => ?_)
  refine W.eq (g2 := F0 m 267 ls [.int a, .int a]) rfl ?_
  exact lv_icmp_eq (tgt := 1283) hx hb dL_law_267 (by decide) (fun _ => K _ _ _ _ (hw2.part hsub) hI3) (fun q => absurd rfl q)

set_option maxHeartbeats 4000000 in
theorem lc_2 {p : Program} {l : Launch} {e : Env} {s : State} {m : MethodId} {below : List Frame} {meth : Method} {c : Code} {b L : Nat} {xs : Nat → Int32} {D : va_G} {tc : Nat → ClassId} (C0 : kLwC p s m c b L xs D tc) : kCase p l e s m below meth c b L xs D tc 272 := by
  obtain ⟨hx, hb, hml, hown, hts, hX, hbl, hK, hL2⟩ := C0
  intro ad ct z k cells slots H locs ls Q hkk hL hI hz hw hl hc hs K
  have hA : ∀ q : Nat, s.heap.size ≤ q → (fun q : Nat => s.heap.size ≤ q) q := fun _ h => h
  have hbA : ¬ (fun q : Nat => s.heap.size ≤ q) b := Nat.not_le.mpr hbl
  have S0 : CallFix p m c code 4 s #[Value.ref b] wsL_law RL := ⟨hx, hb, hml, hown, hts⟩
  obtain ⟨v, ct1, dn, ct2, ct3, ⟨a, rfl⟩, hdn, k1, k2, hsub, hI3⟩ := o_price (l := l) (D := D) hkk hI hz (xs (5 * k + 1))
  refine lv_aload_n hx hb dL_law_272 rfl (lv_at hl 1 rfl) ?_
  refine lv_aload_n hx hb dL_law_273 rfl (lv_at hl 0 rfl) ?_
  refine lv_iload_n hx hb dL_law_274 rfl (lv_at hl 3 rfl) ?_
  refine lv_iconst (v := 1) hx hb dL_law_275 (by decide) ?_
  refine lv_iadd hx hb dL_law_276 ?_
  refine kg_sld hx hb hX hbl hbA hw.2.1 (5 * k + 1) (nI_add (5 * k) 1) (by omega) hL2 dL_law_277 ?_
  refine W.eq (g2 := F0 m 278 ls (([.int (xs (5 * k + 1))] : List Value).reverse ++ .ref (ad 0) :: [])) rfl ?_
  refine k1 S0 hK hw hA hl.1 (Nat.le_of_ble_eq_true rfl) dL_law_278 (by omega) (by omega) (fun H1 locs1 hw1 => ?_)
  refine W.eq (g2 := F0 m 281 ls [.long a]) rfl ?_
  refine lv_aload_n hx hb dL_law_281 rfl (lv_at hl 2 rfl) ?_
  refine lv_aload_n hx hb dL_law_282 rfl (lv_at hl 0 rfl) ?_
  refine lv_iload_n hx hb dL_law_283 rfl (lv_at hl 3 rfl) ?_
  refine lv_iconst (v := 1) hx hb dL_law_284 (by decide) ?_
  refine lv_iadd hx hb dL_law_285 ?_
  refine kg_sld hx hb hX hbl hbA hw1.2.1 (5 * k + 1) (nI_add (5 * k) 1) (by omega) hL2 dL_law_286 ?_
  refine W.eq (g2 := F0 m 287 ls (([.int (xs (5 * k + 1))] : List Value).reverse ++ .ref (ad 200) :: [.long a])) rfl ?_
  refine k2 S0 hK hw1 hA hl.1 (Nat.le_of_ble_eq_true rfl) dL_law_287 (by omega) (by omega) (fun H2 locs2 hw2 => ?_)
  refine W.eq (g2 := F0 m 290 ls [.long a, .long a]) rfl ?_
  refine W.lcmp hx hb dL_law_290 ?_
  exact kl_eq (tgt := 1283) hx hb dL_law_291 (by decide) (fun _ => K _ _ _ _ (hw2.part hsub) hI3) (fun q => absurd rfl q)

set_option maxHeartbeats 4000000 in
theorem lc_3 {p : Program} {l : Launch} {e : Env} {s : State} {m : MethodId} {below : List Frame} {meth : Method} {c : Code} {b L : Nat} {xs : Nat → Int32} {D : va_G} {tc : Nat → ClassId} (C0 : kLwC p s m c b L xs D tc) : kCase p l e s m below meth c b L xs D tc 296 := by
  obtain ⟨hx, hb, hml, hown, hts, hX, hbl, hK, hL2⟩ := C0
  intro ad ct z k cells slots H locs ls Q hkk hL hI hz hw hl hc hs K
  have hA : ∀ q : Nat, s.heap.size ≤ q → (fun q : Nat => s.heap.size ≤ q) q := fun _ h => h
  have hbA : ¬ (fun q : Nat => s.heap.size ≤ q) b := Nat.not_le.mpr hbl
  have S0 : CallFix p m c code 4 s #[Value.ref b] wsL_law RL := ⟨hx, hb, hml, hown, hts⟩
  obtain ⟨v, ct1, dn, ct2, ct3, ⟨a, rfl⟩, hdn, k1, k2, hsub, hI3⟩ := o_quote (l := l) (D := D) hkk hI hz (xs (5 * k + 1)) (xs (5 * k + 2)) (xs (5 * k + 3))
  refine lv_aload_n hx hb dL_law_296 rfl (lv_at hl 1 rfl) ?_
  refine lv_aload_n hx hb dL_law_297 rfl (lv_at hl 0 rfl) ?_
  refine lv_iload_n hx hb dL_law_298 rfl (lv_at hl 3 rfl) ?_
  refine lv_iconst (v := 1) hx hb dL_law_299 (by decide) ?_
  refine lv_iadd hx hb dL_law_300 ?_
  refine kg_sld hx hb hX hbl hbA hw.2.1 (5 * k + 1) (nI_add (5 * k) 1) (by omega) hL2 dL_law_301 ?_
  refine lv_aload_n hx hb dL_law_302 rfl (lv_at hl 0 rfl) ?_
  refine lv_iload_n hx hb dL_law_303 rfl (lv_at hl 3 rfl) ?_
  refine lv_iconst (v := 2) hx hb dL_law_304 (by decide) ?_
  refine lv_iadd hx hb dL_law_305 ?_
  refine kg_sld hx hb hX hbl hbA hw.2.1 (5 * k + 2) (nI_add (5 * k) 2) (by omega) hL2 dL_law_306 ?_
  refine lv_aload_n hx hb dL_law_307 rfl (lv_at hl 0 rfl) ?_
  refine lv_iload_n hx hb dL_law_308 rfl (lv_at hl 3 rfl) ?_
  refine lv_iconst (v := 3) hx hb dL_law_309 (by decide) ?_
  refine lv_iadd hx hb dL_law_310 ?_
  refine kg_sld hx hb hX hbl hbA hw.2.1 (5 * k + 3) (nI_add (5 * k) 3) (by omega) hL2 dL_law_311 ?_
  refine W.eq (g2 := F0 m 312 ls (([.int (xs (5 * k + 1)), .int (xs (5 * k + 2)), .int (xs (5 * k + 3))] : List Value).reverse ++ .ref (ad 0) :: [])) rfl ?_
  refine k1 S0 hK hw hA hl.1 (Nat.le_of_ble_eq_true rfl) dL_law_312 (by omega) (by omega) (fun H1 locs1 hw1 => ?_)
  refine W.eq (g2 := F0 m 315 ls [.long a]) rfl ?_
  refine lv_aload_n hx hb dL_law_315 rfl (lv_at hl 2 rfl) ?_
  refine lv_aload_n hx hb dL_law_316 rfl (lv_at hl 0 rfl) ?_
  refine lv_iload_n hx hb dL_law_317 rfl (lv_at hl 3 rfl) ?_
  refine lv_iconst (v := 1) hx hb dL_law_318 (by decide) ?_
  refine lv_iadd hx hb dL_law_319 ?_
  refine kg_sld hx hb hX hbl hbA hw1.2.1 (5 * k + 1) (nI_add (5 * k) 1) (by omega) hL2 dL_law_320 ?_
  refine lv_aload_n hx hb dL_law_321 rfl (lv_at hl 0 rfl) ?_
  refine lv_iload_n hx hb dL_law_322 rfl (lv_at hl 3 rfl) ?_
  refine lv_iconst (v := 2) hx hb dL_law_323 (by decide) ?_
  refine lv_iadd hx hb dL_law_324 ?_
  refine kg_sld hx hb hX hbl hbA hw1.2.1 (5 * k + 2) (nI_add (5 * k) 2) (by omega) hL2 dL_law_325 ?_
  refine lv_aload_n hx hb dL_law_326 rfl (lv_at hl 0 rfl) ?_
  refine lv_iload_n hx hb dL_law_327 rfl (lv_at hl 3 rfl) ?_
  refine lv_iconst (v := 3) hx hb dL_law_328 (by decide) ?_
  refine lv_iadd hx hb dL_law_329 ?_
  refine kg_sld hx hb hX hbl hbA hw1.2.1 (5 * k + 3) (nI_add (5 * k) 3) (by omega) hL2 dL_law_330 ?_
  refine W.eq (g2 := F0 m 331 ls (([.int (xs (5 * k + 1)), .int (xs (5 * k + 2)), .int (xs (5 * k + 3))] : List Value).reverse ++ .ref (ad 200) :: [.long a])) rfl ?_
  refine k2 S0 hK hw1 hA hl.1 (Nat.le_of_ble_eq_true rfl) dL_law_331 (by omega) (by omega) (fun H2 locs2 hw2 => ?_)
  refine W.eq (g2 := F0 m 334 ls [.long a, .long a]) rfl ?_
  refine W.lcmp hx hb dL_law_334 ?_
  exact kl_eq (tgt := 1283) hx hb dL_law_335 (by decide) (fun _ => K _ _ _ _ (hw2.part hsub) hI3) (fun q => absurd rfl q)

set_option maxHeartbeats 4000000 in
theorem lc_4 {p : Program} {l : Launch} {e : Env} {s : State} {m : MethodId} {below : List Frame} {meth : Method} {c : Code} {b L : Nat} {xs : Nat → Int32} {D : va_G} {tc : Nat → ClassId} (C0 : kLwC p s m c b L xs D tc) : kCase p l e s m below meth c b L xs D tc 340 := by
  obtain ⟨hx, hb, hml, hown, hts, hX, hbl, hK, hL2⟩ := C0
  intro ad ct z k cells slots H locs ls Q hkk hL hI hz hw hl hc hs K
  have hA : ∀ q : Nat, s.heap.size ≤ q → (fun q : Nat => s.heap.size ≤ q) q := fun _ h => h
  have hbA : ¬ (fun q : Nat => s.heap.size ≤ q) b := Nat.not_le.mpr hbl
  have S0 : CallFix p m c code 4 s #[Value.ref b] wsL_law RL := ⟨hx, hb, hml, hown, hts⟩
  obtain ⟨v, ct1, dn, ct2, ct3, ⟨a, rfl⟩, hdn, k1, k2, hsub, hI3⟩ := o_barred (l := l) (D := D) hkk hI hz (xs (5 * k + 1)) (xs (5 * k + 2)) (xs (5 * k + 3))
  refine lv_aload_n hx hb dL_law_340 rfl (lv_at hl 1 rfl) ?_
  refine lv_aload_n hx hb dL_law_341 rfl (lv_at hl 0 rfl) ?_
  refine lv_iload_n hx hb dL_law_342 rfl (lv_at hl 3 rfl) ?_
  refine lv_iconst (v := 1) hx hb dL_law_343 (by decide) ?_
  refine lv_iadd hx hb dL_law_344 ?_
  refine kg_sld hx hb hX hbl hbA hw.2.1 (5 * k + 1) (nI_add (5 * k) 1) (by omega) hL2 dL_law_345 ?_
  refine lv_aload_n hx hb dL_law_346 rfl (lv_at hl 0 rfl) ?_
  refine lv_iload_n hx hb dL_law_347 rfl (lv_at hl 3 rfl) ?_
  refine lv_iconst (v := 2) hx hb dL_law_348 (by decide) ?_
  refine lv_iadd hx hb dL_law_349 ?_
  refine kg_sld hx hb hX hbl hbA hw.2.1 (5 * k + 2) (nI_add (5 * k) 2) (by omega) hL2 dL_law_350 ?_
  refine lv_aload_n hx hb dL_law_351 rfl (lv_at hl 0 rfl) ?_
  refine lv_iload_n hx hb dL_law_352 rfl (lv_at hl 3 rfl) ?_
  refine lv_iconst (v := 3) hx hb dL_law_353 (by decide) ?_
  refine lv_iadd hx hb dL_law_354 ?_
  refine kg_sld hx hb hX hbl hbA hw.2.1 (5 * k + 3) (nI_add (5 * k) 3) (by omega) hL2 dL_law_355 ?_
  refine W.eq (g2 := F0 m 356 ls (([.int (xs (5 * k + 1)), .int (xs (5 * k + 2)), .int (xs (5 * k + 3))] : List Value).reverse ++ .ref (ad 0) :: [])) rfl ?_
  refine k1 S0 hK hw hA hl.1 (Nat.le_of_ble_eq_true rfl) dL_law_356 (by omega) (by omega) (fun H1 locs1 hw1 => ?_)
  refine W.eq (g2 := F0 m 359 ls [.int a]) rfl ?_
  refine lv_aload_n hx hb dL_law_359 rfl (lv_at hl 2 rfl) ?_
  refine lv_aload_n hx hb dL_law_360 rfl (lv_at hl 0 rfl) ?_
  refine lv_iload_n hx hb dL_law_361 rfl (lv_at hl 3 rfl) ?_
  refine lv_iconst (v := 1) hx hb dL_law_362 (by decide) ?_
  refine lv_iadd hx hb dL_law_363 ?_
  refine kg_sld hx hb hX hbl hbA hw1.2.1 (5 * k + 1) (nI_add (5 * k) 1) (by omega) hL2 dL_law_364 ?_
  refine lv_aload_n hx hb dL_law_365 rfl (lv_at hl 0 rfl) ?_
  refine lv_iload_n hx hb dL_law_366 rfl (lv_at hl 3 rfl) ?_
  refine lv_iconst (v := 2) hx hb dL_law_367 (by decide) ?_
  refine lv_iadd hx hb dL_law_368 ?_
  refine kg_sld hx hb hX hbl hbA hw1.2.1 (5 * k + 2) (nI_add (5 * k) 2) (by omega) hL2 dL_law_369 ?_
  refine lv_aload_n hx hb dL_law_370 rfl (lv_at hl 0 rfl) ?_
  refine lv_iload_n hx hb dL_law_371 rfl (lv_at hl 3 rfl) ?_
  refine lv_iconst (v := 3) hx hb dL_law_372 (by decide) ?_
  refine lv_iadd hx hb dL_law_373 ?_
  refine kg_sld hx hb hX hbl hbA hw1.2.1 (5 * k + 3) (nI_add (5 * k) 3) (by omega) hL2 dL_law_374 ?_
  refine W.eq (g2 := F0 m 375 ls (([.int (xs (5 * k + 1)), .int (xs (5 * k + 2)), .int (xs (5 * k + 3))] : List Value).reverse ++ .ref (ad 200) :: [.int a])) rfl ?_
  refine k2 S0 hK hw1 hA hl.1 (Nat.le_of_ble_eq_true rfl) dL_law_375 (by omega) (by omega) (fun H2 locs2 hw2 => ?_)
  refine W.eq (g2 := F0 m 378 ls [.int a, .int a]) rfl ?_
  exact lv_icmp_eq (tgt := 1283) hx hb dL_law_378 (by decide) (fun _ => K _ _ _ _ (hw2.part hsub) hI3) (fun q => absurd rfl q)

set_option maxHeartbeats 4000000 in
theorem lc_5 {p : Program} {l : Launch} {e : Env} {s : State} {m : MethodId} {below : List Frame} {meth : Method} {c : Code} {b L : Nat} {xs : Nat → Int32} {D : va_G} {tc : Nat → ClassId} (C0 : kLwC p s m c b L xs D tc) : kCase p l e s m below meth c b L xs D tc 383 := by
  obtain ⟨hx, hb, hml, hown, hts, hX, hbl, hK, hL2⟩ := C0
  intro ad ct z k cells slots H locs ls Q hkk hL hI hz hw hl hc hs K
  have hA : ∀ q : Nat, s.heap.size ≤ q → (fun q : Nat => s.heap.size ≤ q) q := fun _ h => h
  have hbA : ¬ (fun q : Nat => s.heap.size ≤ q) b := Nat.not_le.mpr hbl
  have S0 : CallFix p m c code 4 s #[Value.ref b] wsL_law RL := ⟨hx, hb, hml, hown, hts⟩
  obtain ⟨v, ct1, dn, ct2, ct3, ⟨a, rfl⟩, hdn, k1, k2, hsub, hI3⟩ := o_deal (l := l) (D := D) hkk hI hz (xs (5 * k + 1)) (xs (5 * k + 2)) (xs (5 * k + 3))
  refine lv_aload_n hx hb dL_law_383 rfl (lv_at hl 1 rfl) ?_
  refine lv_aload_n hx hb dL_law_384 rfl (lv_at hl 0 rfl) ?_
  refine lv_iload_n hx hb dL_law_385 rfl (lv_at hl 3 rfl) ?_
  refine lv_iconst (v := 1) hx hb dL_law_386 (by decide) ?_
  refine lv_iadd hx hb dL_law_387 ?_
  refine kg_sld hx hb hX hbl hbA hw.2.1 (5 * k + 1) (nI_add (5 * k) 1) (by omega) hL2 dL_law_388 ?_
  refine lv_aload_n hx hb dL_law_389 rfl (lv_at hl 0 rfl) ?_
  refine lv_iload_n hx hb dL_law_390 rfl (lv_at hl 3 rfl) ?_
  refine lv_iconst (v := 2) hx hb dL_law_391 (by decide) ?_
  refine lv_iadd hx hb dL_law_392 ?_
  refine kg_sld hx hb hX hbl hbA hw.2.1 (5 * k + 2) (nI_add (5 * k) 2) (by omega) hL2 dL_law_393 ?_
  refine lv_aload_n hx hb dL_law_394 rfl (lv_at hl 0 rfl) ?_
  refine lv_iload_n hx hb dL_law_395 rfl (lv_at hl 3 rfl) ?_
  refine lv_iconst (v := 3) hx hb dL_law_396 (by decide) ?_
  refine lv_iadd hx hb dL_law_397 ?_
  refine kg_sld hx hb hX hbl hbA hw.2.1 (5 * k + 3) (nI_add (5 * k) 3) (by omega) hL2 dL_law_398 ?_
  refine W.eq (g2 := F0 m 399 ls (([.int (xs (5 * k + 1)), .int (xs (5 * k + 2)), .int (xs (5 * k + 3))] : List Value).reverse ++ .ref (ad 0) :: [])) rfl ?_
  refine k1 S0 hK hw hA hl.1 (Nat.le_of_ble_eq_true rfl) dL_law_399 (by omega) (by omega) (fun H1 locs1 hw1 => ?_)
  refine W.eq (g2 := F0 m 402 ls [.int a]) rfl ?_
  refine lv_aload_n hx hb dL_law_402 rfl (lv_at hl 2 rfl) ?_
  refine lv_aload_n hx hb dL_law_403 rfl (lv_at hl 0 rfl) ?_
  refine lv_iload_n hx hb dL_law_404 rfl (lv_at hl 3 rfl) ?_
  refine lv_iconst (v := 1) hx hb dL_law_405 (by decide) ?_
  refine lv_iadd hx hb dL_law_406 ?_
  refine kg_sld hx hb hX hbl hbA hw1.2.1 (5 * k + 1) (nI_add (5 * k) 1) (by omega) hL2 dL_law_407 ?_
  refine lv_aload_n hx hb dL_law_408 rfl (lv_at hl 0 rfl) ?_
  refine lv_iload_n hx hb dL_law_409 rfl (lv_at hl 3 rfl) ?_
  refine lv_iconst (v := 2) hx hb dL_law_410 (by decide) ?_
  refine lv_iadd hx hb dL_law_411 ?_
  refine kg_sld hx hb hX hbl hbA hw1.2.1 (5 * k + 2) (nI_add (5 * k) 2) (by omega) hL2 dL_law_412 ?_
  refine lv_aload_n hx hb dL_law_413 rfl (lv_at hl 0 rfl) ?_
  refine lv_iload_n hx hb dL_law_414 rfl (lv_at hl 3 rfl) ?_
  refine lv_iconst (v := 3) hx hb dL_law_415 (by decide) ?_
  refine lv_iadd hx hb dL_law_416 ?_
  refine kg_sld hx hb hX hbl hbA hw1.2.1 (5 * k + 3) (nI_add (5 * k) 3) (by omega) hL2 dL_law_417 ?_
  refine W.eq (g2 := F0 m 418 ls (([.int (xs (5 * k + 1)), .int (xs (5 * k + 2)), .int (xs (5 * k + 3))] : List Value).reverse ++ .ref (ad 200) :: [.int a])) rfl ?_
  refine k2 S0 hK hw1 hA hl.1 (Nat.le_of_ble_eq_true rfl) dL_law_418 (by omega) (by omega) (fun H2 locs2 hw2 => ?_)
  refine W.eq (g2 := F0 m 421 ls [.int a, .int a]) rfl ?_
  exact lv_icmp_eq (tgt := 1283) hx hb dL_law_421 (by decide) (fun _ => K _ _ _ _ (hw2.part hsub) hI3) (fun q => absurd rfl q)

set_option maxHeartbeats 4000000 in
theorem lc_6 {p : Program} {l : Launch} {e : Env} {s : State} {m : MethodId} {below : List Frame} {meth : Method} {c : Code} {b L : Nat} {xs : Nat → Int32} {D : va_G} {tc : Nat → ClassId} (C0 : kLwC p s m c b L xs D tc) : kCase p l e s m below meth c b L xs D tc 426 := by
  obtain ⟨hx, hb, hml, hown, hts, hX, hbl, hK, hL2⟩ := C0
  intro ad ct z k cells slots H locs ls Q hkk hL hI hz hw hl hc hs K
  have hA : ∀ q : Nat, s.heap.size ≤ q → (fun q : Nat => s.heap.size ≤ q) q := fun _ h => h
  have hbA : ¬ (fun q : Nat => s.heap.size ≤ q) b := Nat.not_le.mpr hbl
  have S0 : CallFix p m c code 4 s #[Value.ref b] wsL_law RL := ⟨hx, hb, hml, hown, hts⟩
  obtain ⟨v, ct1, dn, ct2, ct3, ⟨a, rfl⟩, hdn, k1, k2, hsub, hI3⟩ := o_comes (l := l) (D := D) hkk hI hz (xs (5 * k + 1))
  refine lv_aload_n hx hb dL_law_426 rfl (lv_at hl 1 rfl) ?_
  refine lv_aload_n hx hb dL_law_427 rfl (lv_at hl 0 rfl) ?_
  refine lv_iload_n hx hb dL_law_428 rfl (lv_at hl 3 rfl) ?_
  refine lv_iconst (v := 1) hx hb dL_law_429 (by decide) ?_
  refine lv_iadd hx hb dL_law_430 ?_
  refine kg_sld hx hb hX hbl hbA hw.2.1 (5 * k + 1) (nI_add (5 * k) 1) (by omega) hL2 dL_law_431 ?_
  refine W.eq (g2 := F0 m 432 ls (([.int (xs (5 * k + 1))] : List Value).reverse ++ .ref (ad 0) :: [])) rfl ?_
  refine k1 S0 hK hw hA hl.1 (Nat.le_of_ble_eq_true rfl) dL_law_432 (by omega) (by omega) (fun H1 locs1 hw1 => ?_)
  refine W.eq (g2 := F0 m 435 ls [.int a]) rfl ?_
  refine lv_aload_n hx hb dL_law_435 rfl (lv_at hl 2 rfl) ?_
  refine lv_aload_n hx hb dL_law_436 rfl (lv_at hl 0 rfl) ?_
  refine lv_iload_n hx hb dL_law_437 rfl (lv_at hl 3 rfl) ?_
  refine lv_iconst (v := 1) hx hb dL_law_438 (by decide) ?_
  refine lv_iadd hx hb dL_law_439 ?_
  refine kg_sld hx hb hX hbl hbA hw1.2.1 (5 * k + 1) (nI_add (5 * k) 1) (by omega) hL2 dL_law_440 ?_
  refine W.eq (g2 := F0 m 441 ls (([.int (xs (5 * k + 1))] : List Value).reverse ++ .ref (ad 200) :: [.int a])) rfl ?_
  refine k2 S0 hK hw1 hA hl.1 (Nat.le_of_ble_eq_true rfl) dL_law_441 (by omega) (by omega) (fun H2 locs2 hw2 => ?_)
  refine W.eq (g2 := F0 m 444 ls [.int a, .int a]) rfl ?_
  exact lv_icmp_eq (tgt := 1283) hx hb dL_law_444 (by decide) (fun _ => K _ _ _ _ (hw2.part hsub) hI3) (fun q => absurd rfl q)

set_option maxHeartbeats 4000000 in
theorem lc_7 {p : Program} {l : Launch} {e : Env} {s : State} {m : MethodId} {below : List Frame} {meth : Method} {c : Code} {b L : Nat} {xs : Nat → Int32} {D : va_G} {tc : Nat → ClassId} (C0 : kLwC p s m c b L xs D tc) : kCase p l e s m below meth c b L xs D tc 449 := by
  obtain ⟨hx, hb, hml, hown, hts, hX, hbl, hK, hL2⟩ := C0
  intro ad ct z k cells slots H locs ls Q hkk hL hI hz hw hl hc hs K
  have hA : ∀ q : Nat, s.heap.size ≤ q → (fun q : Nat => s.heap.size ≤ q) q := fun _ h => h
  have hbA : ¬ (fun q : Nat => s.heap.size ≤ q) b := Nat.not_le.mpr hbl
  have S0 : CallFix p m c code 4 s #[Value.ref b] wsL_law RL := ⟨hx, hb, hml, hown, hts⟩
  obtain ⟨v, ct1, dn, ct2, ct3, ⟨a, rfl⟩, hdn, k1, k2, hsub, hI3⟩ := o_about (l := l) (D := D) hkk hI hz (xs (5 * k + 1)) (xs (5 * k + 2))
  refine lv_aload_n hx hb dL_law_449 rfl (lv_at hl 1 rfl) ?_
  refine lv_aload_n hx hb dL_law_450 rfl (lv_at hl 0 rfl) ?_
  refine lv_iload_n hx hb dL_law_451 rfl (lv_at hl 3 rfl) ?_
  refine lv_iconst (v := 1) hx hb dL_law_452 (by decide) ?_
  refine lv_iadd hx hb dL_law_453 ?_
  refine kg_sld hx hb hX hbl hbA hw.2.1 (5 * k + 1) (nI_add (5 * k) 1) (by omega) hL2 dL_law_454 ?_
  refine lv_aload_n hx hb dL_law_455 rfl (lv_at hl 0 rfl) ?_
  refine lv_iload_n hx hb dL_law_456 rfl (lv_at hl 3 rfl) ?_
  refine lv_iconst (v := 2) hx hb dL_law_457 (by decide) ?_
  refine lv_iadd hx hb dL_law_458 ?_
  refine kg_sld hx hb hX hbl hbA hw.2.1 (5 * k + 2) (nI_add (5 * k) 2) (by omega) hL2 dL_law_459 ?_
  refine W.eq (g2 := F0 m 460 ls (([.int (xs (5 * k + 1)), .int (xs (5 * k + 2))] : List Value).reverse ++ .ref (ad 0) :: [])) rfl ?_
  refine k1 S0 hK hw hA hl.1 (Nat.le_of_ble_eq_true rfl) dL_law_460 (by omega) (by omega) (fun H1 locs1 hw1 => ?_)
  refine W.eq (g2 := F0 m 463 ls [.long a]) rfl ?_
  refine lv_aload_n hx hb dL_law_463 rfl (lv_at hl 2 rfl) ?_
  refine lv_aload_n hx hb dL_law_464 rfl (lv_at hl 0 rfl) ?_
  refine lv_iload_n hx hb dL_law_465 rfl (lv_at hl 3 rfl) ?_
  refine lv_iconst (v := 1) hx hb dL_law_466 (by decide) ?_
  refine lv_iadd hx hb dL_law_467 ?_
  refine kg_sld hx hb hX hbl hbA hw1.2.1 (5 * k + 1) (nI_add (5 * k) 1) (by omega) hL2 dL_law_468 ?_
  refine lv_aload_n hx hb dL_law_469 rfl (lv_at hl 0 rfl) ?_
  refine lv_iload_n hx hb dL_law_470 rfl (lv_at hl 3 rfl) ?_
  refine lv_iconst (v := 2) hx hb dL_law_471 (by decide) ?_
  refine lv_iadd hx hb dL_law_472 ?_
  refine kg_sld hx hb hX hbl hbA hw1.2.1 (5 * k + 2) (nI_add (5 * k) 2) (by omega) hL2 dL_law_473 ?_
  refine W.eq (g2 := F0 m 474 ls (([.int (xs (5 * k + 1)), .int (xs (5 * k + 2))] : List Value).reverse ++ .ref (ad 200) :: [.long a])) rfl ?_
  refine k2 S0 hK hw1 hA hl.1 (Nat.le_of_ble_eq_true rfl) dL_law_474 (by omega) (by omega) (fun H2 locs2 hw2 => ?_)
  refine W.eq (g2 := F0 m 477 ls [.long a, .long a]) rfl ?_
  refine W.lcmp hx hb dL_law_477 ?_
  exact kl_eq (tgt := 1283) hx hb dL_law_478 (by decide) (fun _ => K _ _ _ _ (hw2.part hsub) hI3) (fun q => absurd rfl q)
