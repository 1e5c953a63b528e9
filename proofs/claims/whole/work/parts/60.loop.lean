/-! the law's loop: a case each -/
section ZL
abbrev n_A (K : z_K) : Nat → Prop := fun q => (z_s K).heap.size ≤ q
abbrev n_X (l : Launch) (K : z_K) (D : va_G) (cI cT cS : ClassId) (ad1 ad2 : Nat → Nat) (b i pc : Nat) (st : List Value) (σ μ : z_M) : Prop :=
  g_X l K D (n_A K) room_1 (lw_Z (z_b K) #[.ref b] (z_s K)) 4 [(cI, .int), (cT, .object RX6), (cS, .object RX5)] 84 2689 (z_ws (D, cI, cT, cS, ad1) shC σ ++ z_ws (D, cI, cT, cS, ad2) shM μ) pc [(0, .ref b), (1, .ref (ad1 0)), (2, .ref (ad2 0)), (3, .int (nI i))] st
def n_C (K : z_K) (D : va_G) (cI cT cS : ClassId) (ad1 ad2 : Nat → Nat) (b L : Nat) (xs : Nat → Int32) (sa : Nat) : Prop :=
  g_F K RL cL_law 4 (n_A K) sa ∧ z_Z (n_A K) (D, cI, cT, cS, ad1) (z_s K) (z_s K).heap ∧ z_Z (n_A K) (D, cI, cT, cS, ad2) (z_s K) (z_s K).heap ∧ va_X b L xs (z_s K) (z_s K).heap ∧ b < (z_s K).heap.size ∧ L ≤ 3072 ∧ z_a K = #[.ref b] ∧ (z_t K).sig.returnType = ret
variable {l : Launch} {K : z_K} {D : va_G} {cI cT cS : ClassId} {ad1 ad2 : Nat → Nat} {b L sa i pc : Nat} {xs : Nat → Int32} {σ μ : z_M} {st : List Value}
theorem n_arg (C : n_C K D cI cT cS ad1 ad2 b L xs sa) (hi : i + 6 ≤ L) (j : Nat) (hj : j < 6) {n : Int} (hn : Int32.ofInt n = nI j) (d0 : decode cL_law pc = .ok (.aload_n 0, 1)) (d1 : decode cL_law (pc + 1) = .ok (.iload_n 3, 1)) (d2 : decode cL_law (pc + 2) = .ok (.iconst n, 1)) (d3 : decode cL_law (pc + 3) = .ok (.iadd, 1)) (d4 : decode cL_law (pc + 4) = .ok (.iaload, 1)) (q : Nat) (hq : pc + 5 = q)
    (kk : n_X l K D cI cT cS ad1 ad2 b i q (.int (xs (i + j)) :: st) σ μ) : n_X l K D cI cT cS ad1 ad2 b i pc st σ μ := by
  subst hq
  refine g_aload_n C.1 d0 0 rfl _ rfl ?_
  refine g_iload_n C.1 d1 3 rfl _ rfl ?_
  refine g_iconst C.1 d2 (nI j) hn _ rfl ?_
  refine g_iadd C.1 d3 _ rfl ?_
  rw [nI_add]
  have hL : L ≤ 3072 := C.2.2.2.2.2.1
  refine n_sld C.1 C.2.2.2.1 C.2.2.2.2.1 (Nat.not_le.mpr C.2.2.2.2.1) (vp_in_nI (by omega) (by omega)) d4 _ rfl ?_
  rw [nI_clamp (by omega)]
  exact kk
theorem n_callC (C : n_C K D cI cT cS ad1 ad2 b L xs sa) {idx d' maxL ar : Nat} {y : MethodName} {bytes : ByteArray} {As rest : List Value} {Pi : Int32 → z_M → Prop}
    (hd : decode cL_law pc = .ok (.invokevirtual idx, 3)) (hl : Cond.methodLink RL idx y ∈ z_tbl) (hI : z_I y bytes maxL (some .int) ar) (hi : Cond.instanceMethod y ∈ z_tbl ∧ Cond.selects y.cls y y ∈ z_tbl) (hn : As.length = ar) (hy : y.cls = RX9)
    (hC : z_C l (D, cI, cT, cS, ad1) shC d' y bytes maxL (some .int) (.ref (z_ad (D, cI, cT, cS, ad1) 0) :: As) σ (z_Pi Pi)) (hst : st = As.reverse ++ .ref (ad1 0) :: rest) (hfr : d' + 1 ≤ 2048) (hrest : (rest.map fun v => v.category).sum ≤ 8) (q : Nat) (hq : pc + 3 = q)
    (kk : ∀ (r : Int32) (σ' : z_M), Pi r σ' → n_X l K D cI cT cS ad1 ad2 b i q (.int r :: rest) σ' μ) : n_X l K D cI cT cS ad1 ad2 b i pc st σ μ :=
  n_call (S := shC) (wa := []) (wb := z_ws (D, cI, cT, cS, ad2) shM μ) (o := 0) (D, cI, cT, cS, ad1) C.1 C.2.1 hd hl hI hi hn (by rw [hy]; exact zc8) rfl hC hst hfr (by show 40 * (d' + 1) ≤ 84000; omega) (Nat.le_of_ble_eq_true rfl) (Nat.le_of_ble_eq_true rfl) hrest q hq kk
theorem n_callM (C : n_C K D cI cT cS ad1 ad2 b L xs sa) {idx d' maxL ar : Nat} {y : MethodName} {bytes : ByteArray} {As rest : List Value} {Pi : Int32 → z_M → Prop}
    (hd : decode cL_law pc = .ok (.invokevirtual idx, 3)) (hl : Cond.methodLink RL idx y ∈ z_tbl) (hI : z_I y bytes maxL (some .int) ar) (hi : Cond.instanceMethod y ∈ z_tbl ∧ Cond.selects y.cls y y ∈ z_tbl) (hn : As.length = ar) (hy : y.cls = RX10)
    (hC : z_C l (D, cI, cT, cS, ad2) shM d' y bytes maxL (some .int) (.ref (z_ad (D, cI, cT, cS, ad2) 0) :: As) μ (z_Pi Pi)) (hst : st = As.reverse ++ .ref (ad2 0) :: rest) (hfr : d' + 1 ≤ 2048) (hrest : (rest.map fun v => v.category).sum ≤ 8) (q : Nat) (hq : pc + 3 = q)
    (kk : ∀ (r : Int32) (μ' : z_M), Pi r μ' → n_X l K D cI cT cS ad1 ad2 b i q (.int r :: rest) σ μ') : n_X l K D cI cT cS ad1 ad2 b i pc st σ μ := by
  refine g_w (ws' := z_ws (D, cI, cT, cS, ad1) shC σ ++ (z_ws (D, cI, cT, cS, ad2) shM μ ++ [])) (by rw [List.append_nil]) ?_
  refine n_call (S := shM) (wa := z_ws (D, cI, cT, cS, ad1) shC σ) (wb := []) (o := 0) (D, cI, cT, cS, ad2) C.1 C.2.2.1 hd hl hI hi hn (by rw [hy]; exact zc9) rfl hC hst hfr (by show 40 * (d' + 1) ≤ 84000; omega) (Nat.le_of_ble_eq_true rfl) (Nat.le_of_ble_eq_true rfl) hrest q hq (fun r μ' h => ?_)
  refine g_w (ws' := z_ws (D, cI, cT, cS, ad1) shC σ ++ z_ws (D, cI, cT, cS, ad2) shM μ') (by rw [List.append_nil]) ?_
  exact kk r μ' h
theorem n_turn (C : n_C K D cI cT cS ad1 ad2 b L xs sa) (next : n_X l K D cI cT cS ad1 ad2 b (i + 6) 18 [] σ μ) : n_X l K D cI cT cS ad1 ad2 b i 1458 [] σ μ := by
  refine g_iinc C.1 dL_law_1458 3 rfl 6 (by decide) [(0, _), (1, _), (2, _), (3, _)] rfl (by decide) 1461 rfl ?_
  refine g_goto C.1 dL_law_1461 18 (by decide) ?_
  rw [show nI i + 6 = nI (i + 6) from nI_add i 6]
  exact next
theorem n_far {i L : Nat} (hi : i ≤ L + 6) (hL : L ≤ 3072) (h : ¬ nI L - 6 < nI i) : i + 6 ≤ L := by
  rw [Int32.lt_iff_toInt_lt] at h
  have e : (nI L - 6).toInt = (L : Int) - 6 := by
    rw [Int32.toInt_sub, nI_toInt (by omega), show (6 : Int32).toInt = 6 by decide, Int.bmod_eq_of_le (by omega) (by omega)]
  rw [e, nI_toInt (by omega)] at h
  omega
theorem nk_person (C : n_C K D cI cT cS ad1 ad2 b L xs sa) (hi : i + 6 ≤ L) (hR : Rel σ μ) (next : ∀ σ' μ' : z_M, Rel σ' μ' → n_X l K D cI cT cS ad1 ad2 b i 1458 [] σ' μ') : n_X l K D cI cT cS ad1 ad2 b i 208 [] σ μ := by
  refine g_aload_n C.1 dL_law_208 1 rfl 209 rfl ?_
  refine n_arg C hi 1 (by decide) rfl dL_law_209 dL_law_210 dL_law_211 dL_law_212 dL_law_213 214 rfl ?_
  refine n_arg C hi 2 (by decide) rfl dL_law_214 dL_law_215 dL_law_216 dL_law_217 dL_law_218 219 rfl ?_
  refine n_callC (As := [.int (xs (i + 1)), .int (xs (i + 2))]) C dL_law_219 m_327 iX9_person ⟨m_328, m_329⟩ rfl rfl (kX9_person σ hR (xs (i + 1)) (xs (i + 2))) rfl (Nat.le_of_ble_eq_true rfl) (Nat.le_of_ble_eq_true rfl) 222 rfl (fun r1 σ' hp1 => ?_)
  obtain ⟨hr1, hR1⟩ := hp1
  refine g_aload_n C.1 dL_law_222 2 rfl 223 rfl ?_
  refine n_arg C hi 1 (by decide) rfl dL_law_223 dL_law_224 dL_law_225 dL_law_226 dL_law_227 228 rfl ?_
  refine n_arg C hi 2 (by decide) rfl dL_law_228 dL_law_229 dL_law_230 dL_law_231 dL_law_232 233 rfl ?_
  refine n_callM (As := [.int (xs (i + 1)), .int (xs (i + 2))]) C dL_law_233 m_991 iX10_person ⟨m_992, m_993⟩ rfl rfl (kX10_person μ hR (xs (i + 1)) (xs (i + 2))) rfl (Nat.le_of_ble_eq_true rfl) (Nat.le_of_ble_eq_true rfl) 236 rfl (fun r2 μ' hp2 => ?_)
  obtain ⟨hr2, hM⟩ := hp2
  exact g_icmp_eq C.1 dL_law_236 1458 (by decide) 239 rfl (fun _ => next σ' μ' (hR1.off hM)) (fun hc => absurd (hr1.trans hr2.symm) hc)
theorem nk_personIs (C : n_C K D cI cT cS ad1 ad2 b L xs sa) (hi : i + 6 ≤ L) (hR : Rel σ μ) (next : ∀ σ' μ' : z_M, Rel σ' μ' → n_X l K D cI cT cS ad1 ad2 b i 1458 [] σ' μ') : n_X l K D cI cT cS ad1 ad2 b i 241 [] σ μ := by
  refine g_aload_n C.1 dL_law_241 1 rfl 242 rfl ?_
  refine n_arg C hi 1 (by decide) rfl dL_law_242 dL_law_243 dL_law_244 dL_law_245 dL_law_246 247 rfl ?_
  refine n_arg C hi 2 (by decide) rfl dL_law_247 dL_law_248 dL_law_249 dL_law_250 dL_law_251 252 rfl ?_
  refine n_callC (As := [.int (xs (i + 1)), .int (xs (i + 2))]) C dL_law_252 m_366 iX9_personIs ⟨m_367, m_368⟩ rfl rfl (kX9_personIs σ hR (xs (i + 1)) (xs (i + 2))) rfl (Nat.le_of_ble_eq_true rfl) (Nat.le_of_ble_eq_true rfl) 255 rfl (fun r1 σ' hp1 => ?_)
  obtain ⟨hr1, hR1⟩ := hp1
  refine g_aload_n C.1 dL_law_255 2 rfl 256 rfl ?_
  refine n_arg C hi 1 (by decide) rfl dL_law_256 dL_law_257 dL_law_258 dL_law_259 dL_law_260 261 rfl ?_
  refine n_arg C hi 2 (by decide) rfl dL_law_261 dL_law_262 dL_law_263 dL_law_264 dL_law_265 266 rfl ?_
  refine n_callM (As := [.int (xs (i + 1)), .int (xs (i + 2))]) C dL_law_266 m_1012 iX10_personIs ⟨m_1013, m_1014⟩ rfl rfl (kX10_personIs μ hR (xs (i + 1)) (xs (i + 2))) rfl (Nat.le_of_ble_eq_true rfl) (Nat.le_of_ble_eq_true rfl) 269 rfl (fun r2 μ' hp2 => ?_)
  obtain ⟨hr2, hM⟩ := hp2
  exact g_icmp_eq C.1 dL_law_269 1458 (by decide) 272 rfl (fun _ => next σ' μ' (hR1.off hM)) (fun hc => absurd (hr1.trans hr2.symm) hc)
theorem nk_become (C : n_C K D cI cT cS ad1 ad2 b L xs sa) (hi : i + 6 ≤ L) (hR : Rel σ μ) (next : ∀ σ' μ' : z_M, Rel σ' μ' → n_X l K D cI cT cS ad1 ad2 b i 1458 [] σ' μ') : n_X l K D cI cT cS ad1 ad2 b i 274 [] σ μ := by
  refine g_aload_n C.1 dL_law_274 1 rfl 275 rfl ?_
  refine n_arg C hi 1 (by decide) rfl dL_law_275 dL_law_276 dL_law_277 dL_law_278 dL_law_279 280 rfl ?_
  refine n_arg C hi 2 (by decide) rfl dL_law_280 dL_law_281 dL_law_282 dL_law_283 dL_law_284 285 rfl ?_
  refine n_callC (As := [.int (xs (i + 1)), .int (xs (i + 2))]) C dL_law_285 m_410 iX9_become ⟨m_411, m_412⟩ rfl rfl (kX9_become σ hR (xs (i + 1)) (xs (i + 2))) rfl (Nat.le_of_ble_eq_true rfl) (Nat.le_of_ble_eq_true rfl) 288 rfl (fun r1 σ' hp1 => ?_)
  obtain ⟨hr1, hR1⟩ := hp1
  refine g_aload_n C.1 dL_law_288 2 rfl 289 rfl ?_
  refine n_arg C hi 1 (by decide) rfl dL_law_289 dL_law_290 dL_law_291 dL_law_292 dL_law_293 294 rfl ?_
  refine n_arg C hi 2 (by decide) rfl dL_law_294 dL_law_295 dL_law_296 dL_law_297 dL_law_298 299 rfl ?_
  refine n_callM (As := [.int (xs (i + 1)), .int (xs (i + 2))]) C dL_law_299 m_1061 iX10_become ⟨m_1062, m_1063⟩ rfl rfl (kX10_become μ hR (xs (i + 1)) (xs (i + 2))) rfl (Nat.le_of_ble_eq_true rfl) (Nat.le_of_ble_eq_true rfl) 302 rfl (fun r2 μ' hp2 => ?_)
  obtain ⟨hr2, hM⟩ := hp2
  exact g_icmp_eq C.1 dL_law_302 1458 (by decide) 305 rfl (fun _ => next σ' μ' (hR1.off hM)) (fun hc => absurd (hr1.trans hr2.symm) hc)
theorem nk_as (C : n_C K D cI cT cS ad1 ad2 b L xs sa) (hi : i + 6 ≤ L) (hR : Rel σ μ) (next : ∀ σ' μ' : z_M, Rel σ' μ' → n_X l K D cI cT cS ad1 ad2 b i 1458 [] σ' μ') : n_X l K D cI cT cS ad1 ad2 b i 307 [] σ μ := by
  refine g_aload_n C.1 dL_law_307 1 rfl 308 rfl ?_
  refine n_arg C hi 1 (by decide) rfl dL_law_308 dL_law_309 dL_law_310 dL_law_311 dL_law_312 313 rfl ?_
  refine n_arg C hi 2 (by decide) rfl dL_law_313 dL_law_314 dL_law_315 dL_law_316 dL_law_317 318 rfl ?_
  refine n_callC (As := [.int (xs (i + 1)), .int (xs (i + 2))]) C dL_law_318 m_414 iX9_as ⟨m_415, m_416⟩ rfl rfl (kX9_as σ hR (xs (i + 1)) (xs (i + 2))) rfl (Nat.le_of_ble_eq_true rfl) (Nat.le_of_ble_eq_true rfl) 321 rfl (fun r1 σ' hp1 => ?_)
  obtain ⟨hr1, hR1⟩ := hp1
  refine g_aload_n C.1 dL_law_321 2 rfl 322 rfl ?_
  refine n_arg C hi 1 (by decide) rfl dL_law_322 dL_law_323 dL_law_324 dL_law_325 dL_law_326 327 rfl ?_
  refine n_arg C hi 2 (by decide) rfl dL_law_327 dL_law_328 dL_law_329 dL_law_330 dL_law_331 332 rfl ?_
  refine n_callM (As := [.int (xs (i + 1)), .int (xs (i + 2))]) C dL_law_332 m_1069 iX10_as ⟨m_1070, m_1071⟩ rfl rfl (kX10_as μ hR (xs (i + 1)) (xs (i + 2))) rfl (Nat.le_of_ble_eq_true rfl) (Nat.le_of_ble_eq_true rfl) 335 rfl (fun r2 μ' hp2 => ?_)
  obtain ⟨hr2, hM⟩ := hp2
  exact g_icmp_eq C.1 dL_law_335 1458 (by decide) 338 rfl (fun _ => next σ' μ' (hR1.off hM)) (fun hc => absurd (hr1.trans hr2.symm) hc)
theorem nk_descends (C : n_C K D cI cT cS ad1 ad2 b L xs sa) (hi : i + 6 ≤ L) (hR : Rel σ μ) (next : ∀ σ' μ' : z_M, Rel σ' μ' → n_X l K D cI cT cS ad1 ad2 b i 1458 [] σ' μ') : n_X l K D cI cT cS ad1 ad2 b i 340 [] σ μ := by
  refine g_aload_n C.1 dL_law_340 1 rfl 341 rfl ?_
  refine n_arg C hi 1 (by decide) rfl dL_law_341 dL_law_342 dL_law_343 dL_law_344 dL_law_345 346 rfl ?_
  refine n_arg C hi 2 (by decide) rfl dL_law_346 dL_law_347 dL_law_348 dL_law_349 dL_law_350 351 rfl ?_
  refine n_callC (As := [.int (xs (i + 1)), .int (xs (i + 2))]) C dL_law_351 m_430 iX9_descends ⟨m_431, m_432⟩ rfl rfl (kX9_descends σ hR (xs (i + 1)) (xs (i + 2))) rfl (Nat.le_of_ble_eq_true rfl) (Nat.le_of_ble_eq_true rfl) 354 rfl (fun r1 σ' hp1 => ?_)
  obtain ⟨hr1, hR1⟩ := hp1
  refine g_aload_n C.1 dL_law_354 2 rfl 355 rfl ?_
  refine n_arg C hi 1 (by decide) rfl dL_law_355 dL_law_356 dL_law_357 dL_law_358 dL_law_359 360 rfl ?_
  refine n_arg C hi 2 (by decide) rfl dL_law_360 dL_law_361 dL_law_362 dL_law_363 dL_law_364 365 rfl ?_
  refine n_callM (As := [.int (xs (i + 1)), .int (xs (i + 2))]) C dL_law_365 m_1074 iX10_descends ⟨m_1075, m_1076⟩ rfl rfl (kX10_descends μ hR (xs (i + 1)) (xs (i + 2))) rfl (Nat.le_of_ble_eq_true rfl) (Nat.le_of_ble_eq_true rfl) 368 rfl (fun r2 μ' hp2 => ?_)
  obtain ⟨hr2, hM⟩ := hp2
  exact g_icmp_eq C.1 dL_law_368 1458 (by decide) 371 rfl (fun _ => next σ' μ' (hR1.off hM)) (fun hc => absurd (hr1.trans hr2.symm) hc)
theorem nk_marries (C : n_C K D cI cT cS ad1 ad2 b L xs sa) (hi : i + 6 ≤ L) (hR : Rel σ μ) (next : ∀ σ' μ' : z_M, Rel σ' μ' → n_X l K D cI cT cS ad1 ad2 b i 1458 [] σ' μ') : n_X l K D cI cT cS ad1 ad2 b i 373 [] σ μ := by
  refine g_aload_n C.1 dL_law_373 1 rfl 374 rfl ?_
  refine n_arg C hi 1 (by decide) rfl dL_law_374 dL_law_375 dL_law_376 dL_law_377 dL_law_378 379 rfl ?_
  refine n_arg C hi 2 (by decide) rfl dL_law_379 dL_law_380 dL_law_381 dL_law_382 dL_law_383 384 rfl ?_
  refine n_callC (As := [.int (xs (i + 1)), .int (xs (i + 2))]) C dL_law_384 m_438 iX9_marries ⟨m_439, m_440⟩ rfl rfl (kX9_marries σ hR (xs (i + 1)) (xs (i + 2))) rfl (Nat.le_of_ble_eq_true rfl) (Nat.le_of_ble_eq_true rfl) 387 rfl (fun r1 σ' hp1 => ?_)
  obtain ⟨hr1, hR1⟩ := hp1
  refine g_aload_n C.1 dL_law_387 2 rfl 388 rfl ?_
  refine n_arg C hi 1 (by decide) rfl dL_law_388 dL_law_389 dL_law_390 dL_law_391 dL_law_392 393 rfl ?_
  refine n_arg C hi 2 (by decide) rfl dL_law_393 dL_law_394 dL_law_395 dL_law_396 dL_law_397 398 rfl ?_
  refine n_callM (As := [.int (xs (i + 1)), .int (xs (i + 2))]) C dL_law_398 m_1078 iX10_marries ⟨m_1079, m_1080⟩ rfl rfl (kX10_marries μ hR (xs (i + 1)) (xs (i + 2))) rfl (Nat.le_of_ble_eq_true rfl) (Nat.le_of_ble_eq_true rfl) 401 rfl (fun r2 μ' hp2 => ?_)
  obtain ⟨hr2, hM⟩ := hp2
  exact g_icmp_eq C.1 dL_law_401 1458 (by decide) 404 rfl (fun _ => next σ' μ' (hR1.off hM)) (fun hc => absurd (hr1.trans hr2.symm) hc)
theorem nk_parts (C : n_C K D cI cT cS ad1 ad2 b L xs sa) (hi : i + 6 ≤ L) (hR : Rel σ μ) (next : ∀ σ' μ' : z_M, Rel σ' μ' → n_X l K D cI cT cS ad1 ad2 b i 1458 [] σ' μ') : n_X l K D cI cT cS ad1 ad2 b i 406 [] σ μ := by
  refine g_aload_n C.1 dL_law_406 1 rfl 407 rfl ?_
  refine n_arg C hi 1 (by decide) rfl dL_law_407 dL_law_408 dL_law_409 dL_law_410 dL_law_411 412 rfl ?_
  refine n_callC (As := [.int (xs (i + 1))]) C dL_law_412 m_451 iX9_parts ⟨m_452, m_453⟩ rfl rfl (kX9_parts σ hR (xs (i + 1))) rfl (Nat.le_of_ble_eq_true rfl) (Nat.le_of_ble_eq_true rfl) 415 rfl (fun r1 σ' hp1 => ?_)
  obtain ⟨hr1, hR1⟩ := hp1
  refine g_aload_n C.1 dL_law_415 2 rfl 416 rfl ?_
  refine n_arg C hi 1 (by decide) rfl dL_law_416 dL_law_417 dL_law_418 dL_law_419 dL_law_420 421 rfl ?_
  refine n_callM (As := [.int (xs (i + 1))]) C dL_law_421 m_1087 iX10_parts ⟨m_1088, m_1089⟩ rfl rfl (kX10_parts μ hR (xs (i + 1))) rfl (Nat.le_of_ble_eq_true rfl) (Nat.le_of_ble_eq_true rfl) 424 rfl (fun r2 μ' hp2 => ?_)
  obtain ⟨hr2, hM⟩ := hp2
  exact g_icmp_eq C.1 dL_law_424 1458 (by decide) 427 rfl (fun _ => next σ' μ' (hR1.off hM)) (fun hc => absurd (hr1.trans hr2.symm) hc)
theorem nk_steps (C : n_C K D cI cT cS ad1 ad2 b L xs sa) (hi : i + 6 ≤ L) (hR : Rel σ μ) (next : ∀ σ' μ' : z_M, Rel σ' μ' → n_X l K D cI cT cS ad1 ad2 b i 1458 [] σ' μ') : n_X l K D cI cT cS ad1 ad2 b i 429 [] σ μ := by
  refine g_aload_n C.1 dL_law_429 1 rfl 430 rfl ?_
  refine n_arg C hi 1 (by decide) rfl dL_law_430 dL_law_431 dL_law_432 dL_law_433 dL_law_434 435 rfl ?_
  refine n_arg C hi 2 (by decide) rfl dL_law_435 dL_law_436 dL_law_437 dL_law_438 dL_law_439 440 rfl ?_
  refine n_callC (As := [.int (xs (i + 1)), .int (xs (i + 2))]) C dL_law_440 m_459 iX9_steps ⟨m_460, m_461⟩ rfl rfl (kX9_steps σ hR (xs (i + 1)) (xs (i + 2))) rfl (Nat.le_of_ble_eq_true rfl) (Nat.le_of_ble_eq_true rfl) 443 rfl (fun r1 σ' hp1 => ?_)
  obtain ⟨hr1, hR1⟩ := hp1
  refine g_aload_n C.1 dL_law_443 2 rfl 444 rfl ?_
  refine n_arg C hi 1 (by decide) rfl dL_law_444 dL_law_445 dL_law_446 dL_law_447 dL_law_448 449 rfl ?_
  refine n_arg C hi 2 (by decide) rfl dL_law_449 dL_law_450 dL_law_451 dL_law_452 dL_law_453 454 rfl ?_
  refine n_callM (As := [.int (xs (i + 1)), .int (xs (i + 2))]) C dL_law_454 m_1092 iX10_steps ⟨m_1093, m_1094⟩ rfl rfl (kX10_steps μ hR (xs (i + 1)) (xs (i + 2))) rfl (Nat.le_of_ble_eq_true rfl) (Nat.le_of_ble_eq_true rfl) 457 rfl (fun r2 μ' hp2 => ?_)
  obtain ⟨hr2, hM⟩ := hp2
  exact g_icmp_eq C.1 dL_law_457 1458 (by decide) 460 rfl (fun _ => next σ' μ' (hR1.off hM)) (fun hc => absurd (hr1.trans hr2.symm) hc)
theorem nk_lets (C : n_C K D cI cT cS ad1 ad2 b L xs sa) (hi : i + 6 ≤ L) (hR : Rel σ μ) (next : ∀ σ' μ' : z_M, Rel σ' μ' → n_X l K D cI cT cS ad1 ad2 b i 1458 [] σ' μ') : n_X l K D cI cT cS ad1 ad2 b i 462 [] σ μ := by
  refine g_aload_n C.1 dL_law_462 1 rfl 463 rfl ?_
  refine n_arg C hi 1 (by decide) rfl dL_law_463 dL_law_464 dL_law_465 dL_law_466 dL_law_467 468 rfl ?_
  refine n_arg C hi 2 (by decide) rfl dL_law_468 dL_law_469 dL_law_470 dL_law_471 dL_law_472 473 rfl ?_
  refine n_callC (As := [.int (xs (i + 1)), .int (xs (i + 2))]) C dL_law_473 m_464 iX9_lets ⟨m_465, m_466⟩ rfl rfl (kX9_lets σ hR (xs (i + 1)) (xs (i + 2))) rfl (Nat.le_of_ble_eq_true rfl) (Nat.le_of_ble_eq_true rfl) 476 rfl (fun r1 σ' hp1 => ?_)
  obtain ⟨hr1, hR1⟩ := hp1
  refine g_aload_n C.1 dL_law_476 2 rfl 477 rfl ?_
  refine n_arg C hi 1 (by decide) rfl dL_law_477 dL_law_478 dL_law_479 dL_law_480 dL_law_481 482 rfl ?_
  refine n_arg C hi 2 (by decide) rfl dL_law_482 dL_law_483 dL_law_484 dL_law_485 dL_law_486 487 rfl ?_
  refine n_callM (As := [.int (xs (i + 1)), .int (xs (i + 2))]) C dL_law_487 m_1100 iX10_lets ⟨m_1101, m_1102⟩ rfl rfl (kX10_lets μ hR (xs (i + 1)) (xs (i + 2))) rfl (Nat.le_of_ble_eq_true rfl) (Nat.le_of_ble_eq_true rfl) 490 rfl (fun r2 μ' hp2 => ?_)
  obtain ⟨hr2, hM⟩ := hp2
  exact g_icmp_eq C.1 dL_law_490 1458 (by decide) 493 rfl (fun _ => next σ' μ' (hR1.off hM)) (fun hc => absurd (hr1.trans hr2.symm) hc)
theorem nk_meets (C : n_C K D cI cT cS ad1 ad2 b L xs sa) (hi : i + 6 ≤ L) (hR : Rel σ μ) (next : ∀ σ' μ' : z_M, Rel σ' μ' → n_X l K D cI cT cS ad1 ad2 b i 1458 [] σ' μ') : n_X l K D cI cT cS ad1 ad2 b i 495 [] σ μ := by
  refine g_aload_n C.1 dL_law_495 1 rfl 496 rfl ?_
  refine n_arg C hi 1 (by decide) rfl dL_law_496 dL_law_497 dL_law_498 dL_law_499 dL_law_500 501 rfl ?_
  refine n_arg C hi 2 (by decide) rfl dL_law_501 dL_law_502 dL_law_503 dL_law_504 dL_law_505 506 rfl ?_
  refine n_arg C hi 3 (by decide) rfl dL_law_506 dL_law_507 dL_law_508 dL_law_509 dL_law_510 511 rfl ?_
  refine n_callC (As := [.int (xs (i + 1)), .int (xs (i + 2)), .int (xs (i + 3))]) C dL_law_511 m_480 iX9_meets ⟨m_481, m_482⟩ rfl rfl (kX9_meets σ hR (xs (i + 1)) (xs (i + 2)) (xs (i + 3))) rfl (Nat.le_of_ble_eq_true rfl) (Nat.le_of_ble_eq_true rfl) 514 rfl (fun r1 σ' hp1 => ?_)
  obtain ⟨hr1, hR1⟩ := hp1
  refine g_aload_n C.1 dL_law_514 2 rfl 515 rfl ?_
  refine n_arg C hi 1 (by decide) rfl dL_law_515 dL_law_516 dL_law_517 dL_law_518 dL_law_519 520 rfl ?_
  refine n_arg C hi 2 (by decide) rfl dL_law_520 dL_law_521 dL_law_522 dL_law_523 dL_law_524 525 rfl ?_
  refine n_arg C hi 3 (by decide) rfl dL_law_525 dL_law_526 dL_law_527 dL_law_528 dL_law_529 530 rfl ?_
  refine n_callM (As := [.int (xs (i + 1)), .int (xs (i + 2)), .int (xs (i + 3))]) C dL_law_530 m_1112 iX10_meets ⟨m_1113, m_1114⟩ rfl rfl (kX10_meets μ hR (xs (i + 1)) (xs (i + 2)) (xs (i + 3))) rfl (Nat.le_of_ble_eq_true rfl) (Nat.le_of_ble_eq_true rfl) 533 rfl (fun r2 μ' hp2 => ?_)
  obtain ⟨hr2, hM⟩ := hp2
  exact g_icmp_eq C.1 dL_law_533 1458 (by decide) 536 rfl (fun _ => next σ' μ' (hR1.off hM)) (fun hc => absurd (hr1.trans hr2.symm) hc)
theorem nk_trade (C : n_C K D cI cT cS ad1 ad2 b L xs sa) (hi : i + 6 ≤ L) (hR : Rel σ μ) (next : ∀ σ' μ' : z_M, Rel σ' μ' → n_X l K D cI cT cS ad1 ad2 b i 1458 [] σ' μ') : n_X l K D cI cT cS ad1 ad2 b i 538 [] σ μ := by
  refine g_aload_n C.1 dL_law_538 1 rfl 539 rfl ?_
  refine n_arg C hi 1 (by decide) rfl dL_law_539 dL_law_540 dL_law_541 dL_law_542 dL_law_543 544 rfl ?_
  refine n_arg C hi 2 (by decide) rfl dL_law_544 dL_law_545 dL_law_546 dL_law_547 dL_law_548 549 rfl ?_
  refine n_callC (As := [.int (xs (i + 1)), .int (xs (i + 2))]) C dL_law_549 m_487 iX9_trade ⟨m_488, m_489⟩ rfl rfl (kX9_trade σ hR (xs (i + 1)) (xs (i + 2))) rfl (Nat.le_of_ble_eq_true rfl) (Nat.le_of_ble_eq_true rfl) 552 rfl (fun r1 σ' hp1 => ?_)
  obtain ⟨hr1, hR1⟩ := hp1
  refine g_aload_n C.1 dL_law_552 2 rfl 553 rfl ?_
  refine n_arg C hi 1 (by decide) rfl dL_law_553 dL_law_554 dL_law_555 dL_law_556 dL_law_557 558 rfl ?_
  refine n_arg C hi 2 (by decide) rfl dL_law_558 dL_law_559 dL_law_560 dL_law_561 dL_law_562 563 rfl ?_
  refine n_callM (As := [.int (xs (i + 1)), .int (xs (i + 2))]) C dL_law_563 m_1116 iX10_trade ⟨m_1117, m_1118⟩ rfl rfl (kX10_trade μ hR (xs (i + 1)) (xs (i + 2))) rfl (Nat.le_of_ble_eq_true rfl) (Nat.le_of_ble_eq_true rfl) 566 rfl (fun r2 μ' hp2 => ?_)
  obtain ⟨hr2, hM⟩ := hp2
  exact g_icmp_eq C.1 dL_law_566 1458 (by decide) 569 rfl (fun _ => next σ' μ' (hR1.off hM)) (fun hc => absurd (hr1.trans hr2.symm) hc)
theorem nk_feed (C : n_C K D cI cT cS ad1 ad2 b L xs sa) (hi : i + 6 ≤ L) (hR : Rel σ μ) (next : ∀ σ' μ' : z_M, Rel σ' μ' → n_X l K D cI cT cS ad1 ad2 b i 1458 [] σ' μ') : n_X l K D cI cT cS ad1 ad2 b i 571 [] σ μ := by
  refine g_aload_n C.1 dL_law_571 1 rfl 572 rfl ?_
  refine n_arg C hi 1 (by decide) rfl dL_law_572 dL_law_573 dL_law_574 dL_law_575 dL_law_576 577 rfl ?_
  refine g_i2l C.1 dL_law_577 578 rfl ?_
  refine g_bipush C.1 dL_law_578 32 (by decide) 580 rfl ?_
  refine g_lshl C.1 dL_law_580 581 rfl ?_
  refine n_arg C hi 2 (by decide) rfl dL_law_581 dL_law_582 dL_law_583 dL_law_584 dL_law_585 586 rfl ?_
  refine g_i2l C.1 dL_law_586 587 rfl ?_
  refine g_ldc2 C.1 dL_law_587 m_1385 590 rfl ?_
  refine g_land C.1 dL_law_590 591 rfl ?_
  refine g_lor C.1 dL_law_591 592 rfl ?_
  refine n_arg C hi 3 (by decide) rfl dL_law_592 dL_law_593 dL_law_594 dL_law_595 dL_law_596 597 rfl ?_
  refine n_callC (As := [.long ((((xs (i + 1)).toInt64) <<< ((32 : Int32).toInt64 &&& 63)) ||| (((xs (i + 2)).toInt64) &&& 4294967295)), .int (xs (i + 3))]) C dL_law_597 m_491 iX9_feed ⟨m_492, m_493⟩ rfl rfl (kX9_feed σ hR ((((xs (i + 1)).toInt64) <<< ((32 : Int32).toInt64 &&& 63)) ||| (((xs (i + 2)).toInt64) &&& 4294967295)) (xs (i + 3))) rfl (Nat.le_of_ble_eq_true rfl) (Nat.le_of_ble_eq_true rfl) 600 rfl (fun r1 σ' hp1 => ?_)
  obtain ⟨hr1, hR1⟩ := hp1
  refine g_aload_n C.1 dL_law_600 2 rfl 601 rfl ?_
  refine n_arg C hi 1 (by decide) rfl dL_law_601 dL_law_602 dL_law_603 dL_law_604 dL_law_605 606 rfl ?_
  refine g_i2l C.1 dL_law_606 607 rfl ?_
  refine g_bipush C.1 dL_law_607 32 (by decide) 609 rfl ?_
  refine g_lshl C.1 dL_law_609 610 rfl ?_
  refine n_arg C hi 2 (by decide) rfl dL_law_610 dL_law_611 dL_law_612 dL_law_613 dL_law_614 615 rfl ?_
  refine g_i2l C.1 dL_law_615 616 rfl ?_
  refine g_ldc2 C.1 dL_law_616 m_1385 619 rfl ?_
  refine g_land C.1 dL_law_619 620 rfl ?_
  refine g_lor C.1 dL_law_620 621 rfl ?_
  refine n_arg C hi 3 (by decide) rfl dL_law_621 dL_law_622 dL_law_623 dL_law_624 dL_law_625 626 rfl ?_
  refine n_callM (As := [.long ((((xs (i + 1)).toInt64) <<< ((32 : Int32).toInt64 &&& 63)) ||| (((xs (i + 2)).toInt64) &&& 4294967295)), .int (xs (i + 3))]) C dL_law_626 m_1120 iX10_feed ⟨m_1121, m_1122⟩ rfl rfl (kX10_feed μ hR ((((xs (i + 1)).toInt64) <<< ((32 : Int32).toInt64 &&& 63)) ||| (((xs (i + 2)).toInt64) &&& 4294967295)) (xs (i + 3))) rfl (Nat.le_of_ble_eq_true rfl) (Nat.le_of_ble_eq_true rfl) 629 rfl (fun r2 μ' hp2 => ?_)
  obtain ⟨hr2, hM⟩ := hp2
  exact g_icmp_eq C.1 dL_law_629 1458 (by decide) 632 rfl (fun _ => next σ' μ' (hR1.off hM)) (fun hc => absurd (hr1.trans hr2.symm) hc)
theorem nk_text (C : n_C K D cI cT cS ad1 ad2 b L xs sa) (hi : i + 6 ≤ L) (hR : Rel σ μ) (next : ∀ σ' μ' : z_M, Rel σ' μ' → n_X l K D cI cT cS ad1 ad2 b i 1458 [] σ' μ') : n_X l K D cI cT cS ad1 ad2 b i 634 [] σ μ := by
  refine g_aload_n C.1 dL_law_634 1 rfl 635 rfl ?_
  refine n_arg C hi 1 (by decide) rfl dL_law_635 dL_law_636 dL_law_637 dL_law_638 dL_law_639 640 rfl ?_
  refine n_callC (As := [.int (xs (i + 1))]) C dL_law_640 m_504 iX9_text ⟨m_505, m_506⟩ rfl rfl (kX9_text σ hR (xs (i + 1))) rfl (Nat.le_of_ble_eq_true rfl) (Nat.le_of_ble_eq_true rfl) 643 rfl (fun r1 σ' hp1 => ?_)
  obtain ⟨hr1, hR1⟩ := hp1
  refine g_aload_n C.1 dL_law_643 2 rfl 644 rfl ?_
  refine n_arg C hi 1 (by decide) rfl dL_law_644 dL_law_645 dL_law_646 dL_law_647 dL_law_648 649 rfl ?_
  refine n_callM (As := [.int (xs (i + 1))]) C dL_law_649 m_1125 iX10_text ⟨m_1126, m_1127⟩ rfl rfl (kX10_text μ hR (xs (i + 1))) rfl (Nat.le_of_ble_eq_true rfl) (Nat.le_of_ble_eq_true rfl) 652 rfl (fun r2 μ' hp2 => ?_)
  obtain ⟨hr2, hM⟩ := hp2
  exact g_icmp_eq C.1 dL_law_652 1458 (by decide) 655 rfl (fun _ => next σ' μ' (hR1.off hM)) (fun hc => absurd (hr1.trans hr2.symm) hc)
theorem nk_untell (C : n_C K D cI cT cS ad1 ad2 b L xs sa) (hi : i + 6 ≤ L) (hR : Rel σ μ) (next : ∀ σ' μ' : z_M, Rel σ' μ' → n_X l K D cI cT cS ad1 ad2 b i 1458 [] σ' μ') : n_X l K D cI cT cS ad1 ad2 b i 657 [] σ μ := by
  refine g_aload_n C.1 dL_law_657 1 rfl 658 rfl ?_
  refine n_arg C hi 1 (by decide) rfl dL_law_658 dL_law_659 dL_law_660 dL_law_661 dL_law_662 663 rfl ?_
  refine n_callC (As := [.int (xs (i + 1))]) C dL_law_663 m_640 iX9_untell ⟨m_641, m_642⟩ rfl rfl (kX9_untell σ hR (xs (i + 1))) rfl (Nat.le_of_ble_eq_true rfl) (Nat.le_of_ble_eq_true rfl) 666 rfl (fun r1 σ' hp1 => ?_)
  obtain ⟨hr1, hR1⟩ := hp1
  refine g_aload_n C.1 dL_law_666 2 rfl 667 rfl ?_
  refine n_arg C hi 1 (by decide) rfl dL_law_667 dL_law_668 dL_law_669 dL_law_670 dL_law_671 672 rfl ?_
  refine n_callM (As := [.int (xs (i + 1))]) C dL_law_672 m_1173 iX10_untell ⟨m_1174, m_1175⟩ rfl rfl (kX10_untell μ hR (xs (i + 1))) rfl (Nat.le_of_ble_eq_true rfl) (Nat.le_of_ble_eq_true rfl) 675 rfl (fun r2 μ' hp2 => ?_)
  obtain ⟨hr2, hM⟩ := hp2
  exact g_icmp_eq C.1 dL_law_675 1458 (by decide) 678 rfl (fun _ => next σ' μ' (hR1.off hM)) (fun hc => absurd (hr1.trans hr2.symm) hc)
theorem nk_law (C : n_C K D cI cT cS ad1 ad2 b L xs sa) (hi : i + 6 ≤ L) (hR : Rel σ μ) (next : ∀ σ' μ' : z_M, Rel σ' μ' → n_X l K D cI cT cS ad1 ad2 b i 1458 [] σ' μ') : n_X l K D cI cT cS ad1 ad2 b i 680 [] σ μ := by
  refine g_aload_n C.1 dL_law_680 1 rfl 681 rfl ?_
  refine n_arg C hi 1 (by decide) rfl dL_law_681 dL_law_682 dL_law_683 dL_law_684 dL_law_685 686 rfl ?_
  refine n_arg C hi 2 (by decide) rfl dL_law_686 dL_law_687 dL_law_688 dL_law_689 dL_law_690 691 rfl ?_
  refine n_arg C hi 3 (by decide) rfl dL_law_691 dL_law_692 dL_law_693 dL_law_694 dL_law_695 696 rfl ?_
  refine n_arg C hi 4 (by decide) rfl dL_law_696 dL_law_697 dL_law_698 dL_law_699 dL_law_700 701 rfl ?_
  refine n_callC (As := [.int (xs (i + 1)), .int (xs (i + 2)), .int (xs (i + 3)), .int (xs (i + 4))]) C dL_law_701 m_645 iX9_law ⟨m_646, m_647⟩ rfl rfl (kX9_law σ hR (xs (i + 1)) (xs (i + 2)) (xs (i + 3)) (xs (i + 4))) rfl (Nat.le_of_ble_eq_true rfl) (Nat.le_of_ble_eq_true rfl) 704 rfl (fun r1 σ' hp1 => ?_)
  obtain ⟨hr1, hR1⟩ := hp1
  refine g_aload_n C.1 dL_law_704 2 rfl 705 rfl ?_
  refine n_arg C hi 1 (by decide) rfl dL_law_705 dL_law_706 dL_law_707 dL_law_708 dL_law_709 710 rfl ?_
  refine n_arg C hi 2 (by decide) rfl dL_law_710 dL_law_711 dL_law_712 dL_law_713 dL_law_714 715 rfl ?_
  refine n_arg C hi 3 (by decide) rfl dL_law_715 dL_law_716 dL_law_717 dL_law_718 dL_law_719 720 rfl ?_
  refine n_arg C hi 4 (by decide) rfl dL_law_720 dL_law_721 dL_law_722 dL_law_723 dL_law_724 725 rfl ?_
  refine n_callM (As := [.int (xs (i + 1)), .int (xs (i + 2)), .int (xs (i + 3)), .int (xs (i + 4))]) C dL_law_725 m_1177 iX10_law ⟨m_1178, m_1179⟩ rfl rfl (kX10_law μ hR (xs (i + 1)) (xs (i + 2)) (xs (i + 3)) (xs (i + 4))) rfl (Nat.le_of_ble_eq_true rfl) (Nat.le_of_ble_eq_true rfl) 728 rfl (fun r2 μ' hp2 => ?_)
  obtain ⟨hr2, hM⟩ := hp2
  exact g_icmp_eq C.1 dL_law_728 1458 (by decide) 731 rfl (fun _ => next σ' μ' (hR1.off hM)) (fun hc => absurd (hr1.trans hr2.symm) hc)
theorem nk_years (C : n_C K D cI cT cS ad1 ad2 b L xs sa) (hi : i + 6 ≤ L) (hR : Rel σ μ) (next : ∀ σ' μ' : z_M, Rel σ' μ' → n_X l K D cI cT cS ad1 ad2 b i 1458 [] σ' μ') : n_X l K D cI cT cS ad1 ad2 b i 733 [] σ μ := by
  refine g_aload_n C.1 dL_law_733 1 rfl 734 rfl ?_
  refine n_arg C hi 1 (by decide) rfl dL_law_734 dL_law_735 dL_law_736 dL_law_737 dL_law_738 739 rfl ?_
  refine n_callC (As := [.int (xs (i + 1))]) C dL_law_739 m_650 iX9_years ⟨m_651, m_652⟩ rfl rfl (kX9_years σ hR (xs (i + 1))) rfl (Nat.le_of_ble_eq_true rfl) (Nat.le_of_ble_eq_true rfl) 742 rfl (fun r1 σ' hp1 => ?_)
  obtain ⟨hr1, hR1⟩ := hp1
  refine g_aload_n C.1 dL_law_742 2 rfl 743 rfl ?_
  refine n_arg C hi 1 (by decide) rfl dL_law_743 dL_law_744 dL_law_745 dL_law_746 dL_law_747 748 rfl ?_
  refine n_callM (As := [.int (xs (i + 1))]) C dL_law_748 m_1181 iX10_years ⟨m_1182, m_1183⟩ rfl rfl (kX10_years μ hR (xs (i + 1))) rfl (Nat.le_of_ble_eq_true rfl) (Nat.le_of_ble_eq_true rfl) 751 rfl (fun r2 μ' hp2 => ?_)
  obtain ⟨hr2, hM⟩ := hp2
  exact g_icmp_eq C.1 dL_law_751 1458 (by decide) 754 rfl (fun _ => next σ' μ' (hR1.off hM)) (fun hc => absurd (hr1.trans hr2.symm) hc)
theorem nk_loose (C : n_C K D cI cT cS ad1 ad2 b L xs sa) (hi : i + 6 ≤ L) (hR : Rel σ μ) (next : ∀ σ' μ' : z_M, Rel σ' μ' → n_X l K D cI cT cS ad1 ad2 b i 1458 [] σ' μ') : n_X l K D cI cT cS ad1 ad2 b i 756 [] σ μ := by
  refine g_aload_n C.1 dL_law_756 1 rfl 757 rfl ?_
  refine n_arg C hi 1 (by decide) rfl dL_law_757 dL_law_758 dL_law_759 dL_law_760 dL_law_761 762 rfl ?_
  refine n_callC (As := [.int (xs (i + 1))]) C dL_law_762 m_681 iX9_loose ⟨m_682, m_683⟩ rfl rfl (kX9_loose σ hR (xs (i + 1))) rfl (Nat.le_of_ble_eq_true rfl) (Nat.le_of_ble_eq_true rfl) 765 rfl (fun r1 σ' hp1 => ?_)
  obtain ⟨hr1, hR1⟩ := hp1
  refine g_aload_n C.1 dL_law_765 2 rfl 766 rfl ?_
  refine n_arg C hi 1 (by decide) rfl dL_law_766 dL_law_767 dL_law_768 dL_law_769 dL_law_770 771 rfl ?_
  refine n_callM (As := [.int (xs (i + 1))]) C dL_law_771 m_1197 iX10_loose ⟨m_1198, m_1199⟩ rfl rfl (kX10_loose μ hR (xs (i + 1))) rfl (Nat.le_of_ble_eq_true rfl) (Nat.le_of_ble_eq_true rfl) 774 rfl (fun r2 μ' hp2 => ?_)
  obtain ⟨hr2, hM⟩ := hp2
  exact g_icmp_eq C.1 dL_law_774 1458 (by decide) 777 rfl (fun _ => next σ' μ' (hR1.off hM)) (fun hc => absurd (hr1.trans hr2.symm) hc)
theorem nk_year (C : n_C K D cI cT cS ad1 ad2 b L xs sa) (hi : i + 6 ≤ L) (hR : Rel σ μ) (next : ∀ σ' μ' : z_M, Rel σ' μ' → n_X l K D cI cT cS ad1 ad2 b i 1458 [] σ' μ') : n_X l K D cI cT cS ad1 ad2 b i 779 [] σ μ := by
  refine g_aload_n C.1 dL_law_779 1 rfl 780 rfl ?_
  refine n_arg C hi 1 (by decide) rfl dL_law_780 dL_law_781 dL_law_782 dL_law_783 dL_law_784 785 rfl ?_
  refine n_callC (As := [.int (xs (i + 1))]) C dL_law_785 m_694 iX9_year ⟨m_695, m_696⟩ rfl rfl (kX9_year σ hR (xs (i + 1))) rfl (Nat.le_of_ble_eq_true rfl) (Nat.le_of_ble_eq_true rfl) 788 rfl (fun r1 σ' hp1 => ?_)
  obtain ⟨hr1, hR1⟩ := hp1
  refine g_aload_n C.1 dL_law_788 2 rfl 789 rfl ?_
  refine n_arg C hi 1 (by decide) rfl dL_law_789 dL_law_790 dL_law_791 dL_law_792 dL_law_793 794 rfl ?_
  refine n_callM (As := [.int (xs (i + 1))]) C dL_law_794 m_1210 iX10_year ⟨m_1211, m_1212⟩ rfl rfl (kX10_year μ hR (xs (i + 1))) rfl (Nat.le_of_ble_eq_true rfl) (Nat.le_of_ble_eq_true rfl) 797 rfl (fun r2 μ' hp2 => ?_)
  obtain ⟨hr2, hM⟩ := hp2
  exact g_icmp_eq C.1 dL_law_797 1458 (by decide) 800 rfl (fun _ => next σ' μ' (hR1.off hM)) (fun hc => absurd (hr1.trans hr2.symm) hc)
theorem nk_seed (C : n_C K D cI cT cS ad1 ad2 b L xs sa) (hi : i + 6 ≤ L) (hR : Rel σ μ) (next : ∀ σ' μ' : z_M, Rel σ' μ' → n_X l K D cI cT cS ad1 ad2 b i 1458 [] σ' μ') : n_X l K D cI cT cS ad1 ad2 b i 802 [] σ μ := by
  refine g_aload_n C.1 dL_law_802 1 rfl 803 rfl ?_
  refine n_arg C hi 1 (by decide) rfl dL_law_803 dL_law_804 dL_law_805 dL_law_806 dL_law_807 808 rfl ?_
  refine n_callC (As := [.int (xs (i + 1))]) C dL_law_808 m_698 iX9_seed ⟨m_699, m_700⟩ rfl rfl (kX9_seed σ hR (xs (i + 1))) rfl (Nat.le_of_ble_eq_true rfl) (Nat.le_of_ble_eq_true rfl) 811 rfl (fun r1 σ' hp1 => ?_)
  obtain ⟨hr1, hR1⟩ := hp1
  refine g_aload_n C.1 dL_law_811 2 rfl 812 rfl ?_
  refine n_arg C hi 1 (by decide) rfl dL_law_812 dL_law_813 dL_law_814 dL_law_815 dL_law_816 817 rfl ?_
  refine n_callM (As := [.int (xs (i + 1))]) C dL_law_817 m_1214 iX10_seed ⟨m_1215, m_1216⟩ rfl rfl (kX10_seed μ hR (xs (i + 1))) rfl (Nat.le_of_ble_eq_true rfl) (Nat.le_of_ble_eq_true rfl) 820 rfl (fun r2 μ' hp2 => ?_)
  obtain ⟨hr2, hM⟩ := hp2
  exact g_icmp_eq C.1 dL_law_820 1458 (by decide) 823 rfl (fun _ => next σ' μ' (hR1.off hM)) (fun hc => absurd (hr1.trans hr2.symm) hc)
theorem nk_then (C : n_C K D cI cT cS ad1 ad2 b L xs sa) (hi : i + 6 ≤ L) (hR : Rel σ μ) (next : ∀ σ' μ' : z_M, Rel σ' μ' → n_X l K D cI cT cS ad1 ad2 b i 1458 [] σ' μ') : n_X l K D cI cT cS ad1 ad2 b i 825 [] σ μ := by
  refine g_aload_n C.1 dL_law_825 1 rfl 826 rfl ?_
  refine n_arg C hi 1 (by decide) rfl dL_law_826 dL_law_827 dL_law_828 dL_law_829 dL_law_830 831 rfl ?_
  refine n_arg C hi 2 (by decide) rfl dL_law_831 dL_law_832 dL_law_833 dL_law_834 dL_law_835 836 rfl ?_
  refine n_callC (As := [.int (xs (i + 1)), .int (xs (i + 2))]) C dL_law_836 m_702 iX9_then ⟨m_703, m_704⟩ rfl rfl (kX9_then σ hR (xs (i + 1)) (xs (i + 2))) rfl (Nat.le_of_ble_eq_true rfl) (Nat.le_of_ble_eq_true rfl) 839 rfl (fun r1 σ' hp1 => ?_)
  obtain ⟨hr1, hR1⟩ := hp1
  refine g_aload_n C.1 dL_law_839 2 rfl 840 rfl ?_
  refine n_arg C hi 1 (by decide) rfl dL_law_840 dL_law_841 dL_law_842 dL_law_843 dL_law_844 845 rfl ?_
  refine n_arg C hi 2 (by decide) rfl dL_law_845 dL_law_846 dL_law_847 dL_law_848 dL_law_849 850 rfl ?_
  refine n_callM (As := [.int (xs (i + 1)), .int (xs (i + 2))]) C dL_law_850 m_1218 iX10_then ⟨m_1219, m_1220⟩ rfl rfl (kX10_then μ hR (xs (i + 1)) (xs (i + 2))) rfl (Nat.le_of_ble_eq_true rfl) (Nat.le_of_ble_eq_true rfl) 853 rfl (fun r2 μ' hp2 => ?_)
  obtain ⟨hr2, hM⟩ := hp2
  exact g_icmp_eq C.1 dL_law_853 1458 (by decide) 856 rfl (fun _ => next σ' μ' (hR1.off hM)) (fun hc => absurd (hr1.trans hr2.symm) hc)
theorem nk_soonest (C : n_C K D cI cT cS ad1 ad2 b L xs sa) (hi : i + 6 ≤ L) (hR : Rel σ μ) (next : ∀ σ' μ' : z_M, Rel σ' μ' → n_X l K D cI cT cS ad1 ad2 b i 1458 [] σ' μ') : n_X l K D cI cT cS ad1 ad2 b i 858 [] σ μ := by
  refine g_aload_n C.1 dL_law_858 1 rfl 859 rfl ?_
  refine n_arg C hi 1 (by decide) rfl dL_law_859 dL_law_860 dL_law_861 dL_law_862 dL_law_863 864 rfl ?_
  refine n_arg C hi 2 (by decide) rfl dL_law_864 dL_law_865 dL_law_866 dL_law_867 dL_law_868 869 rfl ?_
  refine n_callC (As := [.int (xs (i + 1)), .int (xs (i + 2))]) C dL_law_869 m_711 iX9_soonest ⟨m_712, m_713⟩ rfl rfl (kX9_soonest σ hR (xs (i + 1)) (xs (i + 2))) rfl (Nat.le_of_ble_eq_true rfl) (Nat.le_of_ble_eq_true rfl) 872 rfl (fun r1 σ' hp1 => ?_)
  obtain ⟨hr1, hR1⟩ := hp1
  refine g_aload_n C.1 dL_law_872 2 rfl 873 rfl ?_
  refine n_arg C hi 1 (by decide) rfl dL_law_873 dL_law_874 dL_law_875 dL_law_876 dL_law_877 878 rfl ?_
  refine n_arg C hi 2 (by decide) rfl dL_law_878 dL_law_879 dL_law_880 dL_law_881 dL_law_882 883 rfl ?_
  refine n_callM (As := [.int (xs (i + 1)), .int (xs (i + 2))]) C dL_law_883 m_1233 iX10_soonest ⟨m_1234, m_1235⟩ rfl rfl (kX10_soonest μ hR (xs (i + 1)) (xs (i + 2))) rfl (Nat.le_of_ble_eq_true rfl) (Nat.le_of_ble_eq_true rfl) 886 rfl (fun r2 μ' hp2 => ?_)
  obtain ⟨hr2, hM⟩ := hp2
  exact g_icmp_eq C.1 dL_law_886 1458 (by decide) 889 rfl (fun _ => next σ' μ' (hR1.off hM)) (fun hc => absurd (hr1.trans hr2.symm) hc)
theorem nk_match (C : n_C K D cI cT cS ad1 ad2 b L xs sa) (hi : i + 6 ≤ L) (hR : Rel σ μ) (next : ∀ σ' μ' : z_M, Rel σ' μ' → n_X l K D cI cT cS ad1 ad2 b i 1458 [] σ' μ') : n_X l K D cI cT cS ad1 ad2 b i 891 [] σ μ := by
  refine g_aload_n C.1 dL_law_891 1 rfl 892 rfl ?_
  refine n_arg C hi 1 (by decide) rfl dL_law_892 dL_law_893 dL_law_894 dL_law_895 dL_law_896 897 rfl ?_
  refine n_arg C hi 2 (by decide) rfl dL_law_897 dL_law_898 dL_law_899 dL_law_900 dL_law_901 902 rfl ?_
  refine n_arg C hi 3 (by decide) rfl dL_law_902 dL_law_903 dL_law_904 dL_law_905 dL_law_906 907 rfl ?_
  refine n_callC (As := [.int (xs (i + 1)), .int (xs (i + 2)), .int (xs (i + 3))]) C dL_law_907 m_718 iX9_match ⟨m_719, m_720⟩ rfl rfl (kX9_match σ hR (xs (i + 1)) (xs (i + 2)) (xs (i + 3))) rfl (Nat.le_of_ble_eq_true rfl) (Nat.le_of_ble_eq_true rfl) 910 rfl (fun r1 σ' hp1 => ?_)
  obtain ⟨hr1, hR1⟩ := hp1
  refine g_aload_n C.1 dL_law_910 2 rfl 911 rfl ?_
  refine n_arg C hi 1 (by decide) rfl dL_law_911 dL_law_912 dL_law_913 dL_law_914 dL_law_915 916 rfl ?_
  refine n_arg C hi 2 (by decide) rfl dL_law_916 dL_law_917 dL_law_918 dL_law_919 dL_law_920 921 rfl ?_
  refine n_arg C hi 3 (by decide) rfl dL_law_921 dL_law_922 dL_law_923 dL_law_924 dL_law_925 926 rfl ?_
  refine n_callM (As := [.int (xs (i + 1)), .int (xs (i + 2)), .int (xs (i + 3))]) C dL_law_926 m_1237 iX10_match ⟨m_1238, m_1239⟩ rfl rfl (kX10_match μ hR (xs (i + 1)) (xs (i + 2)) (xs (i + 3))) rfl (Nat.le_of_ble_eq_true rfl) (Nat.le_of_ble_eq_true rfl) 929 rfl (fun r2 μ' hp2 => ?_)
  obtain ⟨hr2, hM⟩ := hp2
  exact g_icmp_eq C.1 dL_law_929 1458 (by decide) 932 rfl (fun _ => next σ' μ' (hR1.off hM)) (fun hc => absurd (hr1.trans hr2.symm) hc)
theorem nk_orderFor (C : n_C K D cI cT cS ad1 ad2 b L xs sa) (hi : i + 6 ≤ L) (hR : Rel σ μ) (next : ∀ σ' μ' : z_M, Rel σ' μ' → n_X l K D cI cT cS ad1 ad2 b i 1458 [] σ' μ') : n_X l K D cI cT cS ad1 ad2 b i 934 [] σ μ := by
  refine g_aload_n C.1 dL_law_934 1 rfl 935 rfl ?_
  refine n_arg C hi 1 (by decide) rfl dL_law_935 dL_law_936 dL_law_937 dL_law_938 dL_law_939 940 rfl ?_
  refine n_arg C hi 2 (by decide) rfl dL_law_940 dL_law_941 dL_law_942 dL_law_943 dL_law_944 945 rfl ?_
  refine n_callC (As := [.int (xs (i + 1)), .int (xs (i + 2))]) C dL_law_945 m_731 iX9_orderFor ⟨m_732, m_733⟩ rfl rfl (kX9_orderFor σ hR (xs (i + 1)) (xs (i + 2))) rfl (Nat.le_of_ble_eq_true rfl) (Nat.le_of_ble_eq_true rfl) 948 rfl (fun r1 σ' hp1 => ?_)
  obtain ⟨hr1, hR1⟩ := hp1
  refine g_aload_n C.1 dL_law_948 2 rfl 949 rfl ?_
  refine n_arg C hi 1 (by decide) rfl dL_law_949 dL_law_950 dL_law_951 dL_law_952 dL_law_953 954 rfl ?_
  refine n_arg C hi 2 (by decide) rfl dL_law_954 dL_law_955 dL_law_956 dL_law_957 dL_law_958 959 rfl ?_
  refine n_callM (As := [.int (xs (i + 1)), .int (xs (i + 2))]) C dL_law_959 m_1241 iX10_orderFor ⟨m_1242, m_1243⟩ rfl rfl (kX10_orderFor μ hR (xs (i + 1)) (xs (i + 2))) rfl (Nat.le_of_ble_eq_true rfl) (Nat.le_of_ble_eq_true rfl) 962 rfl (fun r2 μ' hp2 => ?_)
  obtain ⟨hr2, hM⟩ := hp2
  exact g_icmp_eq C.1 dL_law_962 1458 (by decide) 965 rfl (fun _ => next σ' μ' (hR1.off hM)) (fun hc => absurd (hr1.trans hr2.symm) hc)
theorem nk_seers (C : n_C K D cI cT cS ad1 ad2 b L xs sa) (hi : i + 6 ≤ L) (hR : Rel σ μ) (next : ∀ σ' μ' : z_M, Rel σ' μ' → n_X l K D cI cT cS ad1 ad2 b i 1458 [] σ' μ') : n_X l K D cI cT cS ad1 ad2 b i 967 [] σ μ := by
  refine g_aload_n C.1 dL_law_967 1 rfl 968 rfl ?_
  refine n_arg C hi 1 (by decide) rfl dL_law_968 dL_law_969 dL_law_970 dL_law_971 dL_law_972 973 rfl ?_
  refine n_callC (As := [.int (xs (i + 1))]) C dL_law_973 m_740 iX9_seers ⟨m_741, m_742⟩ rfl rfl (kX9_seers σ hR (xs (i + 1))) rfl (Nat.le_of_ble_eq_true rfl) (Nat.le_of_ble_eq_true rfl) 976 rfl (fun r1 σ' hp1 => ?_)
  obtain ⟨hr1, hR1⟩ := hp1
  refine g_aload_n C.1 dL_law_976 2 rfl 977 rfl ?_
  refine n_arg C hi 1 (by decide) rfl dL_law_977 dL_law_978 dL_law_979 dL_law_980 dL_law_981 982 rfl ?_
  refine n_callM (As := [.int (xs (i + 1))]) C dL_law_982 m_1249 iX10_seers ⟨m_1250, m_1251⟩ rfl rfl (kX10_seers μ hR (xs (i + 1))) rfl (Nat.le_of_ble_eq_true rfl) (Nat.le_of_ble_eq_true rfl) 985 rfl (fun r2 μ' hp2 => ?_)
  obtain ⟨hr2, hM⟩ := hp2
  exact g_icmp_eq C.1 dL_law_985 1458 (by decide) 988 rfl (fun _ => next σ' μ' (hR1.off hM)) (fun hc => absurd (hr1.trans hr2.symm) hc)
theorem nk_witnesses (C : n_C K D cI cT cS ad1 ad2 b L xs sa) (hi : i + 6 ≤ L) (hR : Rel σ μ) (next : ∀ σ' μ' : z_M, Rel σ' μ' → n_X l K D cI cT cS ad1 ad2 b i 1458 [] σ' μ') : n_X l K D cI cT cS ad1 ad2 b i 990 [] σ μ := by
  refine g_aload_n C.1 dL_law_990 1 rfl 991 rfl ?_
  refine n_arg C hi 1 (by decide) rfl dL_law_991 dL_law_992 dL_law_993 dL_law_994 dL_law_995 996 rfl ?_
  refine n_callC (As := [.int (xs (i + 1))]) C dL_law_996 m_744 iX9_witnesses ⟨m_745, m_746⟩ rfl rfl (kX9_witnesses σ hR (xs (i + 1))) rfl (Nat.le_of_ble_eq_true rfl) (Nat.le_of_ble_eq_true rfl) 999 rfl (fun r1 σ' hp1 => ?_)
  obtain ⟨hr1, hR1⟩ := hp1
  refine g_aload_n C.1 dL_law_999 2 rfl 1000 rfl ?_
  refine n_arg C hi 1 (by decide) rfl dL_law_1000 dL_law_1001 dL_law_1002 dL_law_1003 dL_law_1004 1005 rfl ?_
  refine n_callM (As := [.int (xs (i + 1))]) C dL_law_1005 m_1253 iX10_witnesses ⟨m_1254, m_1255⟩ rfl rfl (kX10_witnesses μ hR (xs (i + 1))) rfl (Nat.le_of_ble_eq_true rfl) (Nat.le_of_ble_eq_true rfl) 1008 rfl (fun r2 μ' hp2 => ?_)
  obtain ⟨hr2, hM⟩ := hp2
  exact g_icmp_eq C.1 dL_law_1008 1458 (by decide) 1011 rfl (fun _ => next σ' μ' (hR1.off hM)) (fun hc => absurd (hr1.trans hr2.symm) hc)
theorem nk_odds (C : n_C K D cI cT cS ad1 ad2 b L xs sa) (hi : i + 6 ≤ L) (hR : Rel σ μ) (next : ∀ σ' μ' : z_M, Rel σ' μ' → n_X l K D cI cT cS ad1 ad2 b i 1458 [] σ' μ') : n_X l K D cI cT cS ad1 ad2 b i 1013 [] σ μ := by
  refine g_aload_n C.1 dL_law_1013 1 rfl 1014 rfl ?_
  refine n_arg C hi 1 (by decide) rfl dL_law_1014 dL_law_1015 dL_law_1016 dL_law_1017 dL_law_1018 1019 rfl ?_
  refine n_arg C hi 2 (by decide) rfl dL_law_1019 dL_law_1020 dL_law_1021 dL_law_1022 dL_law_1023 1024 rfl ?_
  refine n_callC (As := [.int (xs (i + 1)), .int (xs (i + 2))]) C dL_law_1024 m_757 iX9_odds ⟨m_758, m_759⟩ rfl rfl (kX9_odds σ hR (xs (i + 1)) (xs (i + 2))) rfl (Nat.le_of_ble_eq_true rfl) (Nat.le_of_ble_eq_true rfl) 1027 rfl (fun r1 σ' hp1 => ?_)
  obtain ⟨hr1, hR1⟩ := hp1
  refine g_aload_n C.1 dL_law_1027 2 rfl 1028 rfl ?_
  refine n_arg C hi 1 (by decide) rfl dL_law_1028 dL_law_1029 dL_law_1030 dL_law_1031 dL_law_1032 1033 rfl ?_
  refine n_arg C hi 2 (by decide) rfl dL_law_1033 dL_law_1034 dL_law_1035 dL_law_1036 dL_law_1037 1038 rfl ?_
  refine n_callM (As := [.int (xs (i + 1)), .int (xs (i + 2))]) C dL_law_1038 m_1265 iX10_odds ⟨m_1266, m_1267⟩ rfl rfl (kX10_odds μ hR (xs (i + 1)) (xs (i + 2))) rfl (Nat.le_of_ble_eq_true rfl) (Nat.le_of_ble_eq_true rfl) 1041 rfl (fun r2 μ' hp2 => ?_)
  obtain ⟨hr2, hM⟩ := hp2
  exact g_icmp_eq C.1 dL_law_1041 1458 (by decide) 1044 rfl (fun _ => next σ' μ' (hR1.off hM)) (fun hc => absurd (hr1.trans hr2.symm) hc)
theorem nk_fits (C : n_C K D cI cT cS ad1 ad2 b L xs sa) (hi : i + 6 ≤ L) (hR : Rel σ μ) (next : ∀ σ' μ' : z_M, Rel σ' μ' → n_X l K D cI cT cS ad1 ad2 b i 1458 [] σ' μ') : n_X l K D cI cT cS ad1 ad2 b i 1046 [] σ μ := by
  refine g_aload_n C.1 dL_law_1046 1 rfl 1047 rfl ?_
  refine n_arg C hi 1 (by decide) rfl dL_law_1047 dL_law_1048 dL_law_1049 dL_law_1050 dL_law_1051 1052 rfl ?_
  refine n_arg C hi 2 (by decide) rfl dL_law_1052 dL_law_1053 dL_law_1054 dL_law_1055 dL_law_1056 1057 rfl ?_
  refine n_arg C hi 3 (by decide) rfl dL_law_1057 dL_law_1058 dL_law_1059 dL_law_1060 dL_law_1061 1062 rfl ?_
  refine n_callC (As := [.int (xs (i + 1)), .int (xs (i + 2)), .int (xs (i + 3))]) C dL_law_1062 m_769 iX9_fits ⟨m_770, m_771⟩ rfl rfl (kX9_fits σ hR (xs (i + 1)) (xs (i + 2)) (xs (i + 3))) rfl (Nat.le_of_ble_eq_true rfl) (Nat.le_of_ble_eq_true rfl) 1065 rfl (fun r1 σ' hp1 => ?_)
  obtain ⟨hr1, hR1⟩ := hp1
  refine g_aload_n C.1 dL_law_1065 2 rfl 1066 rfl ?_
  refine n_arg C hi 1 (by decide) rfl dL_law_1066 dL_law_1067 dL_law_1068 dL_law_1069 dL_law_1070 1071 rfl ?_
  refine n_arg C hi 2 (by decide) rfl dL_law_1071 dL_law_1072 dL_law_1073 dL_law_1074 dL_law_1075 1076 rfl ?_
  refine n_arg C hi 3 (by decide) rfl dL_law_1076 dL_law_1077 dL_law_1078 dL_law_1079 dL_law_1080 1081 rfl ?_
  refine n_callM (As := [.int (xs (i + 1)), .int (xs (i + 2)), .int (xs (i + 3))]) C dL_law_1081 m_1269 iX10_fits ⟨m_1270, m_1271⟩ rfl rfl (kX10_fits μ hR (xs (i + 1)) (xs (i + 2)) (xs (i + 3))) rfl (Nat.le_of_ble_eq_true rfl) (Nat.le_of_ble_eq_true rfl) 1084 rfl (fun r2 μ' hp2 => ?_)
  obtain ⟨hr2, hM⟩ := hp2
  exact g_icmp_eq C.1 dL_law_1084 1458 (by decide) 1087 rfl (fun _ => next σ' μ' (hR1.off hM)) (fun hc => absurd (hr1.trans hr2.symm) hc)
theorem nk_voice (C : n_C K D cI cT cS ad1 ad2 b L xs sa) (hi : i + 6 ≤ L) (hR : Rel σ μ) (next : ∀ σ' μ' : z_M, Rel σ' μ' → n_X l K D cI cT cS ad1 ad2 b i 1458 [] σ' μ') : n_X l K D cI cT cS ad1 ad2 b i 1089 [] σ μ := by
  refine g_aload_n C.1 dL_law_1089 1 rfl 1090 rfl ?_
  refine n_arg C hi 1 (by decide) rfl dL_law_1090 dL_law_1091 dL_law_1092 dL_law_1093 dL_law_1094 1095 rfl ?_
  refine n_arg C hi 2 (by decide) rfl dL_law_1095 dL_law_1096 dL_law_1097 dL_law_1098 dL_law_1099 1100 rfl ?_
  refine n_arg C hi 3 (by decide) rfl dL_law_1100 dL_law_1101 dL_law_1102 dL_law_1103 dL_law_1104 1105 rfl ?_
  refine n_callC (As := [.int (xs (i + 1)), .int (xs (i + 2)), .int (xs (i + 3))]) C dL_law_1105 m_791 iX9_voice ⟨m_792, m_793⟩ rfl rfl (kX9_voice σ hR (xs (i + 1)) (xs (i + 2)) (xs (i + 3))) rfl (Nat.le_of_ble_eq_true rfl) (Nat.le_of_ble_eq_true rfl) 1108 rfl (fun r1 σ' hp1 => ?_)
  obtain ⟨hr1, hR1⟩ := hp1
  refine g_aload_n C.1 dL_law_1108 2 rfl 1109 rfl ?_
  refine n_arg C hi 1 (by decide) rfl dL_law_1109 dL_law_1110 dL_law_1111 dL_law_1112 dL_law_1113 1114 rfl ?_
  refine n_arg C hi 2 (by decide) rfl dL_law_1114 dL_law_1115 dL_law_1116 dL_law_1117 dL_law_1118 1119 rfl ?_
  refine n_arg C hi 3 (by decide) rfl dL_law_1119 dL_law_1120 dL_law_1121 dL_law_1122 dL_law_1123 1124 rfl ?_
  refine n_callM (As := [.int (xs (i + 1)), .int (xs (i + 2)), .int (xs (i + 3))]) C dL_law_1124 m_1280 iX10_voice ⟨m_1281, m_1282⟩ rfl rfl (kX10_voice μ hR (xs (i + 1)) (xs (i + 2)) (xs (i + 3))) rfl (Nat.le_of_ble_eq_true rfl) (Nat.le_of_ble_eq_true rfl) 1127 rfl (fun r2 μ' hp2 => ?_)
  obtain ⟨hr2, hM⟩ := hp2
  exact g_icmp_eq C.1 dL_law_1127 1458 (by decide) 1130 rfl (fun _ => next σ' μ' (hR1.off hM)) (fun hc => absurd (hr1.trans hr2.symm) hc)
theorem nk_body (C : n_C K D cI cT cS ad1 ad2 b L xs sa) (hi : i + 6 ≤ L) (hR : Rel σ μ) (next : ∀ σ' μ' : z_M, Rel σ' μ' → n_X l K D cI cT cS ad1 ad2 b i 1458 [] σ' μ') : n_X l K D cI cT cS ad1 ad2 b i 1132 [] σ μ := by
  refine g_aload_n C.1 dL_law_1132 1 rfl 1133 rfl ?_
  refine n_arg C hi 1 (by decide) rfl dL_law_1133 dL_law_1134 dL_law_1135 dL_law_1136 dL_law_1137 1138 rfl ?_
  refine n_callC (As := [.int (xs (i + 1))]) C dL_law_1138 m_832 iX9_body ⟨m_833, m_834⟩ rfl rfl (kX9_body σ hR (xs (i + 1))) rfl (Nat.le_of_ble_eq_true rfl) (Nat.le_of_ble_eq_true rfl) 1141 rfl (fun r1 σ' hp1 => ?_)
  obtain ⟨hr1, hR1⟩ := hp1
  refine g_aload_n C.1 dL_law_1141 2 rfl 1142 rfl ?_
  refine n_arg C hi 1 (by decide) rfl dL_law_1142 dL_law_1143 dL_law_1144 dL_law_1145 dL_law_1146 1147 rfl ?_
  refine n_callM (As := [.int (xs (i + 1))]) C dL_law_1147 m_1329 iX10_body ⟨m_1330, m_1331⟩ rfl rfl (kX10_body μ hR (xs (i + 1))) rfl (Nat.le_of_ble_eq_true rfl) (Nat.le_of_ble_eq_true rfl) 1150 rfl (fun r2 μ' hp2 => ?_)
  obtain ⟨hr2, hM⟩ := hp2
  exact g_icmp_eq C.1 dL_law_1150 1458 (by decide) 1153 rfl (fun _ => next σ' μ' (hR1.off hM)) (fun hc => absurd (hr1.trans hr2.symm) hc)
theorem nk_sheet (C : n_C K D cI cT cS ad1 ad2 b L xs sa) (hi : i + 6 ≤ L) (hR : Rel σ μ) (next : ∀ σ' μ' : z_M, Rel σ' μ' → n_X l K D cI cT cS ad1 ad2 b i 1458 [] σ' μ') : n_X l K D cI cT cS ad1 ad2 b i 1155 [] σ μ := by
  refine g_aload_n C.1 dL_law_1155 1 rfl 1156 rfl ?_
  refine n_arg C hi 1 (by decide) rfl dL_law_1156 dL_law_1157 dL_law_1158 dL_law_1159 dL_law_1160 1161 rfl ?_
  refine n_arg C hi 2 (by decide) rfl dL_law_1161 dL_law_1162 dL_law_1163 dL_law_1164 dL_law_1165 1166 rfl ?_
  refine n_arg C hi 3 (by decide) rfl dL_law_1166 dL_law_1167 dL_law_1168 dL_law_1169 dL_law_1170 1171 rfl ?_
  refine n_callC (As := [.int (xs (i + 1)), .int (xs (i + 2)), .int (xs (i + 3))]) C dL_law_1171 m_841 iX9_sheet ⟨m_842, m_843⟩ rfl rfl (kX9_sheet σ hR (xs (i + 1)) (xs (i + 2)) (xs (i + 3))) rfl (Nat.le_of_ble_eq_true rfl) (Nat.le_of_ble_eq_true rfl) 1174 rfl (fun r1 σ' hp1 => ?_)
  obtain ⟨hr1, hR1⟩ := hp1
  refine g_aload_n C.1 dL_law_1174 2 rfl 1175 rfl ?_
  refine n_arg C hi 1 (by decide) rfl dL_law_1175 dL_law_1176 dL_law_1177 dL_law_1178 dL_law_1179 1180 rfl ?_
  refine n_arg C hi 2 (by decide) rfl dL_law_1180 dL_law_1181 dL_law_1182 dL_law_1183 dL_law_1184 1185 rfl ?_
  refine n_arg C hi 3 (by decide) rfl dL_law_1185 dL_law_1186 dL_law_1187 dL_law_1188 dL_law_1189 1190 rfl ?_
  refine n_callM (As := [.int (xs (i + 1)), .int (xs (i + 2)), .int (xs (i + 3))]) C dL_law_1190 m_1333 iX10_sheet ⟨m_1334, m_1335⟩ rfl rfl (kX10_sheet μ hR (xs (i + 1)) (xs (i + 2)) (xs (i + 3))) rfl (Nat.le_of_ble_eq_true rfl) (Nat.le_of_ble_eq_true rfl) 1193 rfl (fun r2 μ' hp2 => ?_)
  obtain ⟨hr2, hM⟩ := hp2
  exact g_icmp_eq C.1 dL_law_1193 1458 (by decide) 1196 rfl (fun _ => next σ' μ' (hR1.off hM)) (fun hc => absurd (hr1.trans hr2.symm) hc)
theorem nk_put (C : n_C K D cI cT cS ad1 ad2 b L xs sa) (hi : i + 6 ≤ L) (hR : Rel σ μ) (next : ∀ σ' μ' : z_M, Rel σ' μ' → n_X l K D cI cT cS ad1 ad2 b i 1458 [] σ' μ') : n_X l K D cI cT cS ad1 ad2 b i 1198 [] σ μ := by
  refine g_aload_n C.1 dL_law_1198 1 rfl 1199 rfl ?_
  refine n_arg C hi 1 (by decide) rfl dL_law_1199 dL_law_1200 dL_law_1201 dL_law_1202 dL_law_1203 1204 rfl ?_
  refine n_arg C hi 2 (by decide) rfl dL_law_1204 dL_law_1205 dL_law_1206 dL_law_1207 dL_law_1208 1209 rfl ?_
  refine n_arg C hi 3 (by decide) rfl dL_law_1209 dL_law_1210 dL_law_1211 dL_law_1212 dL_law_1213 1214 rfl ?_
  refine n_callC (As := [.int (xs (i + 1)), .int (xs (i + 2)), .int (xs (i + 3))]) C dL_law_1214 m_854 iX9_put ⟨m_855, m_856⟩ rfl rfl (kX9_put σ hR (xs (i + 1)) (xs (i + 2)) (xs (i + 3))) rfl (Nat.le_of_ble_eq_true rfl) (Nat.le_of_ble_eq_true rfl) 1217 rfl (fun r1 σ' hp1 => ?_)
  obtain ⟨hr1, hR1⟩ := hp1
  refine g_aload_n C.1 dL_law_1217 2 rfl 1218 rfl ?_
  refine n_arg C hi 1 (by decide) rfl dL_law_1218 dL_law_1219 dL_law_1220 dL_law_1221 dL_law_1222 1223 rfl ?_
  refine n_arg C hi 2 (by decide) rfl dL_law_1223 dL_law_1224 dL_law_1225 dL_law_1226 dL_law_1227 1228 rfl ?_
  refine n_arg C hi 3 (by decide) rfl dL_law_1228 dL_law_1229 dL_law_1230 dL_law_1231 dL_law_1232 1233 rfl ?_
  refine n_callM (As := [.int (xs (i + 1)), .int (xs (i + 2)), .int (xs (i + 3))]) C dL_law_1233 m_1337 iX10_put ⟨m_1338, m_1339⟩ rfl rfl (kX10_put μ hR (xs (i + 1)) (xs (i + 2)) (xs (i + 3))) rfl (Nat.le_of_ble_eq_true rfl) (Nat.le_of_ble_eq_true rfl) 1236 rfl (fun r2 μ' hp2 => ?_)
  obtain ⟨hr2, hM⟩ := hp2
  exact g_icmp_eq C.1 dL_law_1236 1458 (by decide) 1239 rfl (fun _ => next σ' μ' (hR1.off hM)) (fun hc => absurd (hr1.trans hr2.symm) hc)
theorem nk_move (C : n_C K D cI cT cS ad1 ad2 b L xs sa) (hi : i + 6 ≤ L) (hR : Rel σ μ) (next : ∀ σ' μ' : z_M, Rel σ' μ' → n_X l K D cI cT cS ad1 ad2 b i 1458 [] σ' μ') : n_X l K D cI cT cS ad1 ad2 b i 1241 [] σ μ := by
  refine g_aload_n C.1 dL_law_1241 1 rfl 1242 rfl ?_
  refine n_arg C hi 1 (by decide) rfl dL_law_1242 dL_law_1243 dL_law_1244 dL_law_1245 dL_law_1246 1247 rfl ?_
  refine n_arg C hi 2 (by decide) rfl dL_law_1247 dL_law_1248 dL_law_1249 dL_law_1250 dL_law_1251 1252 rfl ?_
  refine n_arg C hi 3 (by decide) rfl dL_law_1252 dL_law_1253 dL_law_1254 dL_law_1255 dL_law_1256 1257 rfl ?_
  refine n_arg C hi 4 (by decide) rfl dL_law_1257 dL_law_1258 dL_law_1259 dL_law_1260 dL_law_1261 1262 rfl ?_
  refine n_arg C hi 5 (by decide) rfl dL_law_1262 dL_law_1263 dL_law_1264 dL_law_1265 dL_law_1266 1267 rfl ?_
  refine n_callC (As := [.int (xs (i + 1)), .int (xs (i + 2)), .int (xs (i + 3)), .int (xs (i + 4)), .int (xs (i + 5))]) C dL_law_1267 m_867 iX9_move ⟨m_868, m_869⟩ rfl rfl (kX9_move σ hR (xs (i + 1)) (xs (i + 2)) (xs (i + 3)) (xs (i + 4)) (xs (i + 5))) rfl (Nat.le_of_ble_eq_true rfl) (Nat.le_of_ble_eq_true rfl) 1270 rfl (fun r1 σ' hp1 => ?_)
  obtain ⟨hr1, hR1⟩ := hp1
  refine g_aload_n C.1 dL_law_1270 2 rfl 1271 rfl ?_
  refine n_arg C hi 1 (by decide) rfl dL_law_1271 dL_law_1272 dL_law_1273 dL_law_1274 dL_law_1275 1276 rfl ?_
  refine n_arg C hi 2 (by decide) rfl dL_law_1276 dL_law_1277 dL_law_1278 dL_law_1279 dL_law_1280 1281 rfl ?_
  refine n_arg C hi 3 (by decide) rfl dL_law_1281 dL_law_1282 dL_law_1283 dL_law_1284 dL_law_1285 1286 rfl ?_
  refine n_arg C hi 4 (by decide) rfl dL_law_1286 dL_law_1287 dL_law_1288 dL_law_1289 dL_law_1290 1291 rfl ?_
  refine n_arg C hi 5 (by decide) rfl dL_law_1291 dL_law_1292 dL_law_1293 dL_law_1294 dL_law_1295 1296 rfl ?_
  refine n_callM (As := [.int (xs (i + 1)), .int (xs (i + 2)), .int (xs (i + 3)), .int (xs (i + 4)), .int (xs (i + 5))]) C dL_law_1296 m_1345 iX10_move ⟨m_1346, m_1347⟩ rfl rfl (kX10_move μ hR (xs (i + 1)) (xs (i + 2)) (xs (i + 3)) (xs (i + 4)) (xs (i + 5))) rfl (Nat.le_of_ble_eq_true rfl) (Nat.le_of_ble_eq_true rfl) 1299 rfl (fun r2 μ' hp2 => ?_)
  obtain ⟨hr2, hM⟩ := hp2
  exact g_icmp_eq C.1 dL_law_1299 1458 (by decide) 1302 rfl (fun _ => next σ' μ' (hR1.off hM)) (fun hc => absurd (hr1.trans hr2.symm) hc)
theorem nk_seenAll (C : n_C K D cI cT cS ad1 ad2 b L xs sa) (hi : i + 6 ≤ L) (hR : Rel σ μ) (next : ∀ σ' μ' : z_M, Rel σ' μ' → n_X l K D cI cT cS ad1 ad2 b i 1458 [] σ' μ') : n_X l K D cI cT cS ad1 ad2 b i 1304 [] σ μ := by
  refine g_aload_n C.1 dL_law_1304 1 rfl 1305 rfl ?_
  refine n_arg C hi 1 (by decide) rfl dL_law_1305 dL_law_1306 dL_law_1307 dL_law_1308 dL_law_1309 1310 rfl ?_
  refine n_callC (As := [.int (xs (i + 1))]) C dL_law_1310 m_880 iX9_seenAll ⟨m_881, m_882⟩ rfl rfl (kX9_seenAll σ hR (xs (i + 1))) rfl (Nat.le_of_ble_eq_true rfl) (Nat.le_of_ble_eq_true rfl) 1313 rfl (fun r1 σ' hp1 => ?_)
  obtain ⟨hr1, hR1⟩ := hp1
  refine g_aload_n C.1 dL_law_1313 2 rfl 1314 rfl ?_
  refine n_arg C hi 1 (by decide) rfl dL_law_1314 dL_law_1315 dL_law_1316 dL_law_1317 dL_law_1318 1319 rfl ?_
  refine n_callM (As := [.int (xs (i + 1))]) C dL_law_1319 m_1353 iX10_seenAll ⟨m_1354, m_1355⟩ rfl rfl (kX10_seenAll μ hR (xs (i + 1))) rfl (Nat.le_of_ble_eq_true rfl) (Nat.le_of_ble_eq_true rfl) 1322 rfl (fun r2 μ' hp2 => ?_)
  obtain ⟨hr2, hM⟩ := hp2
  exact g_icmp_eq C.1 dL_law_1322 1458 (by decide) 1325 rfl (fun _ => next σ' μ' (hR1.off hM)) (fun hc => absurd (hr1.trans hr2.symm) hc)
theorem nk_judge (C : n_C K D cI cT cS ad1 ad2 b L xs sa) (hi : i + 6 ≤ L) (hR : Rel σ μ) (next : ∀ σ' μ' : z_M, Rel σ' μ' → n_X l K D cI cT cS ad1 ad2 b i 1458 [] σ' μ') : n_X l K D cI cT cS ad1 ad2 b i 1327 [] σ μ := by
  refine g_aload_n C.1 dL_law_1327 1 rfl 1328 rfl ?_
  refine n_arg C hi 1 (by decide) rfl dL_law_1328 dL_law_1329 dL_law_1330 dL_law_1331 dL_law_1332 1333 rfl ?_
  refine n_callC (As := [.int (xs (i + 1))]) C dL_law_1333 m_884 iX9_judge ⟨m_885, m_886⟩ rfl rfl (kX9_judge σ hR (xs (i + 1))) rfl (Nat.le_of_ble_eq_true rfl) (Nat.le_of_ble_eq_true rfl) 1336 rfl (fun r1 σ' hp1 => ?_)
  obtain ⟨hr1, hR1⟩ := hp1
  refine g_aload_n C.1 dL_law_1336 2 rfl 1337 rfl ?_
  refine n_arg C hi 1 (by decide) rfl dL_law_1337 dL_law_1338 dL_law_1339 dL_law_1340 dL_law_1341 1342 rfl ?_
  refine n_callM (As := [.int (xs (i + 1))]) C dL_law_1342 m_1357 iX10_judge ⟨m_1358, m_1359⟩ rfl rfl (kX10_judge μ hR (xs (i + 1))) rfl (Nat.le_of_ble_eq_true rfl) (Nat.le_of_ble_eq_true rfl) 1345 rfl (fun r2 μ' hp2 => ?_)
  obtain ⟨hr2, hM⟩ := hp2
  exact g_icmp_eq C.1 dL_law_1345 1458 (by decide) 1348 rfl (fun _ => next σ' μ' (hR1.off hM)) (fun hc => absurd (hr1.trans hr2.symm) hc)
theorem nk_image (C : n_C K D cI cT cS ad1 ad2 b L xs sa) (hi : i + 6 ≤ L) (hR : Rel σ μ) (next : ∀ σ' μ' : z_M, Rel σ' μ' → n_X l K D cI cT cS ad1 ad2 b i 1458 [] σ' μ') : n_X l K D cI cT cS ad1 ad2 b i 1350 [] σ μ := by
  refine g_aload_n C.1 dL_law_1350 1 rfl 1351 rfl ?_
  refine n_callC (As := []) C dL_law_1351 m_888 iX9_image ⟨m_889, m_890⟩ rfl rfl (kX9_image σ hR) rfl (Nat.le_of_ble_eq_true rfl) (Nat.le_of_ble_eq_true rfl) 1354 rfl (fun r1 σ' hp1 => ?_)
  obtain ⟨hr1, hR1⟩ := hp1
  refine g_aload_n C.1 dL_law_1354 2 rfl 1355 rfl ?_
  refine n_callM (As := []) C dL_law_1355 m_1361 iX10_image ⟨m_1362, m_1363⟩ rfl rfl (kX10_image μ hR) rfl (Nat.le_of_ble_eq_true rfl) (Nat.le_of_ble_eq_true rfl) 1358 rfl (fun r2 μ' hp2 => ?_)
  obtain ⟨hr2, hM⟩ := hp2
  exact g_icmp_eq C.1 dL_law_1358 1458 (by decide) 1361 rfl (fun _ => next σ' μ' (hR1.off hM)) (fun hc => absurd (hr1.trans hr2.symm) hc)
theorem nk_restore (C : n_C K D cI cT cS ad1 ad2 b L xs sa) (hi : i + 6 ≤ L) (hR : Rel σ μ) (next : ∀ σ' μ' : z_M, Rel σ' μ' → n_X l K D cI cT cS ad1 ad2 b i 1458 [] σ' μ') : n_X l K D cI cT cS ad1 ad2 b i 1363 [] σ μ := by
  refine g_aload_n C.1 dL_law_1363 1 rfl 1364 rfl ?_
  refine n_callC (As := []) C dL_law_1364 m_904 iX9_restore ⟨m_905, m_906⟩ rfl rfl (kX9_restore σ hR) rfl (Nat.le_of_ble_eq_true rfl) (Nat.le_of_ble_eq_true rfl) 1367 rfl (fun r1 σ' hp1 => ?_)
  obtain ⟨hr1, hR1⟩ := hp1
  refine g_aload_n C.1 dL_law_1367 2 rfl 1368 rfl ?_
  refine n_callM (As := []) C dL_law_1368 m_1365 iX10_restore ⟨m_1366, m_1367⟩ rfl rfl (kX10_restore μ hR) rfl (Nat.le_of_ble_eq_true rfl) (Nat.le_of_ble_eq_true rfl) 1371 rfl (fun r2 μ' hp2 => ?_)
  obtain ⟨hr2, hM⟩ := hp2
  exact g_icmp_eq C.1 dL_law_1371 1458 (by decide) 1374 rfl (fun _ => next σ' μ' (hR1.off hM)) (fun hc => absurd (hr1.trans hr2.symm) hc)
theorem nk_tell (C : n_C K D cI cT cS ad1 ad2 b L xs sa) (hi : i + 6 ≤ L) (hR : Rel σ μ) (next : ∀ σ' μ' : z_M, Rel σ' μ' → n_X l K D cI cT cS ad1 ad2 b i 1458 [] σ' μ') : n_X l K D cI cT cS ad1 ad2 b i 1376 [] σ μ := by
  refine g_aload_n C.1 dL_law_1376 1 rfl 1377 rfl ?_
  refine n_arg C hi 1 (by decide) rfl dL_law_1377 dL_law_1378 dL_law_1379 dL_law_1380 dL_law_1381 1382 rfl ?_
  refine n_callC (As := [.int (xs (i + 1))]) C dL_law_1382 m_908 iX9_tell ⟨m_909, m_910⟩ rfl rfl (kX9_tell σ hR (xs (i + 1))) rfl (Nat.le_of_ble_eq_true rfl) (Nat.le_of_ble_eq_true rfl) 1385 rfl (fun r1 σ' hp1 => ?_)
  obtain ⟨hr1, hR1⟩ := hp1
  refine g_aload_n C.1 dL_law_1385 2 rfl 1386 rfl ?_
  refine n_arg C hi 1 (by decide) rfl dL_law_1386 dL_law_1387 dL_law_1388 dL_law_1389 dL_law_1390 1391 rfl ?_
  refine n_callM (As := [.int (xs (i + 1))]) C dL_law_1391 m_1369 iX10_tell ⟨m_1370, m_1371⟩ rfl rfl (kX10_tell μ hR (xs (i + 1))) rfl (Nat.le_of_ble_eq_true rfl) (Nat.le_of_ble_eq_true rfl) 1394 rfl (fun r2 μ' hp2 => ?_)
  obtain ⟨hr2, hM⟩ := hp2
  exact g_icmp_eq C.1 dL_law_1394 1458 (by decide) 1397 rfl (fun _ => next σ' μ' (hR1.off hM)) (fun hc => absurd (hr1.trans hr2.symm) hc)
theorem nk_check (C : n_C K D cI cT cS ad1 ad2 b L xs sa) (hi : i + 6 ≤ L) (hR : Rel σ μ) (next : ∀ σ' μ' : z_M, Rel σ' μ' → n_X l K D cI cT cS ad1 ad2 b i 1458 [] σ' μ') : n_X l K D cI cT cS ad1 ad2 b i 1399 [] σ μ := by
  refine g_aload_n C.1 dL_law_1399 1 rfl 1400 rfl ?_
  refine n_callC (As := []) C dL_law_1400 m_912 iX9_check ⟨m_913, m_914⟩ rfl rfl (kX9_check σ hR) rfl (Nat.le_of_ble_eq_true rfl) (Nat.le_of_ble_eq_true rfl) 1403 rfl (fun r1 σ' hp1 => ?_)
  obtain ⟨hr1, hR1⟩ := hp1
  refine g_aload_n C.1 dL_law_1403 2 rfl 1404 rfl ?_
  refine n_callM (As := []) C dL_law_1404 m_1373 iX10_check ⟨m_1374, m_1375⟩ rfl rfl (kX10_check μ hR) rfl (Nat.le_of_ble_eq_true rfl) (Nat.le_of_ble_eq_true rfl) 1407 rfl (fun r2 μ' hp2 => ?_)
  obtain ⟨hr2, hM⟩ := hp2
  exact g_icmp_eq C.1 dL_law_1407 1458 (by decide) 1410 rfl (fun _ => next σ' μ' (hR1.off hM)) (fun hc => absurd (hr1.trans hr2.symm) hc)
theorem nk_count (C : n_C K D cI cT cS ad1 ad2 b L xs sa) (hi : i + 6 ≤ L) (hR : Rel σ μ) (next : ∀ σ' μ' : z_M, Rel σ' μ' → n_X l K D cI cT cS ad1 ad2 b i 1458 [] σ' μ') : n_X l K D cI cT cS ad1 ad2 b i 1412 [] σ μ := by
  refine g_aload_n C.1 dL_law_1412 1 rfl 1413 rfl ?_
  refine n_arg C hi 1 (by decide) rfl dL_law_1413 dL_law_1414 dL_law_1415 dL_law_1416 dL_law_1417 1418 rfl ?_
  refine n_callC (As := [.int (xs (i + 1))]) C dL_law_1418 m_916 iX9_count ⟨m_917, m_918⟩ rfl rfl (kX9_count σ hR (xs (i + 1))) rfl (Nat.le_of_ble_eq_true rfl) (Nat.le_of_ble_eq_true rfl) 1421 rfl (fun r1 σ' hp1 => ?_)
  obtain ⟨hr1, hR1⟩ := hp1
  refine g_aload_n C.1 dL_law_1421 2 rfl 1422 rfl ?_
  refine n_arg C hi 1 (by decide) rfl dL_law_1422 dL_law_1423 dL_law_1424 dL_law_1425 dL_law_1426 1427 rfl ?_
  refine n_callM (As := [.int (xs (i + 1))]) C dL_law_1427 m_1377 iX10_count ⟨m_1378, m_1379⟩ rfl rfl (kX10_count μ hR (xs (i + 1))) rfl (Nat.le_of_ble_eq_true rfl) (Nat.le_of_ble_eq_true rfl) 1430 rfl (fun r2 μ' hp2 => ?_)
  obtain ⟨hr2, hM⟩ := hp2
  exact g_icmp_eq C.1 dL_law_1430 1458 (by decide) 1433 rfl (fun _ => next σ' μ' (hR1.off hM)) (fun hc => absurd (hr1.trans hr2.symm) hc)
theorem nk_told (C : n_C K D cI cT cS ad1 ad2 b L xs sa) (hi : i + 6 ≤ L) (hR : Rel σ μ) (next : ∀ σ' μ' : z_M, Rel σ' μ' → n_X l K D cI cT cS ad1 ad2 b i 1458 [] σ' μ') : n_X l K D cI cT cS ad1 ad2 b i 1435 [] σ μ := by
  refine g_aload_n C.1 dL_law_1435 1 rfl 1436 rfl ?_
  refine n_arg C hi 1 (by decide) rfl dL_law_1436 dL_law_1437 dL_law_1438 dL_law_1439 dL_law_1440 1441 rfl ?_
  refine n_callC (As := [.int (xs (i + 1))]) C dL_law_1441 m_920 iX9_told ⟨m_921, m_922⟩ rfl rfl (kX9_told σ hR (xs (i + 1))) rfl (Nat.le_of_ble_eq_true rfl) (Nat.le_of_ble_eq_true rfl) 1444 rfl (fun r1 σ' hp1 => ?_)
  obtain ⟨hr1, hR1⟩ := hp1
  refine g_aload_n C.1 dL_law_1444 2 rfl 1445 rfl ?_
  refine n_arg C hi 1 (by decide) rfl dL_law_1445 dL_law_1446 dL_law_1447 dL_law_1448 dL_law_1449 1450 rfl ?_
  refine n_callM (As := [.int (xs (i + 1))]) C dL_law_1450 m_1381 iX10_told ⟨m_1382, m_1383⟩ rfl rfl (kX10_told μ hR (xs (i + 1))) rfl (Nat.le_of_ble_eq_true rfl) (Nat.le_of_ble_eq_true rfl) 1453 rfl (fun r2 μ' hp2 => ?_)
  obtain ⟨hr2, hM⟩ := hp2
  exact g_icmp_eq C.1 dL_law_1453 1458 (by decide) 1456 rfl (fun _ => next σ' μ' (hR1.off hM)) (fun hc => absurd (hr1.trans hr2.symm) hc)
set_option maxHeartbeats 2000000 in
theorem n_step (C : n_C K D cI cT cS ad1 ad2 b L xs sa) (hi0 : i ≤ L + 6) (hR : Rel σ μ) (next : i + 6 ≤ L → ∀ σ' μ' : z_M, Rel σ' μ' → n_X l K D cI cT cS ad1 ad2 b (i + 6) 18 [] σ' μ') : n_X l K D cI cT cS ad1 ad2 b i 18 [] σ μ := by
  have hL : L ≤ 3072 := C.2.2.2.2.2.1
  refine g_iload_n C.1 dL_law_18 3 rfl 19 rfl ?_
  refine g_aload_n C.1 dL_law_19 0 rfl 20 rfl ?_
  refine n_slen C.1 C.2.2.2.1 C.2.2.2.2.1 (Nat.not_le.mpr C.2.2.2.2.1) dL_law_20 21 rfl ?_
  refine g_bipush C.1 dL_law_21 6 (by decide) 23 rfl ?_
  refine g_isub C.1 dL_law_23 24 rfl ?_
  refine g_icmp_gt C.1 dL_law_24 1464 (by decide) 27 rfl (fun _ => ?_) (fun hc => ?_)
  · refine g_iconst C.1 dL_law_1464 1 (by decide) 1465 rfl ?_
    exact n_end C.2.2.2.2.2.2.1 C.1 C.2.2.2.2.2.2.2 dL_law_1465 (Nat.le_of_ble_eq_true rfl) (Nat.le_of_ble_eq_true rfl)
  have hi := n_far hi0 hL hc
  refine g_aload_n C.1 dL_law_27 0 rfl 28 rfl ?_
  refine g_iload_n C.1 dL_law_28 3 rfl 29 rfl ?_
  refine n_sld C.1 C.2.2.2.1 C.2.2.2.2.1 (Nat.not_le.mpr C.2.2.2.2.1) (vp_in_nI (by omega) (by omega)) dL_law_29 30 rfl ?_
  refine g_bipush C.1 dL_law_30 63 (by decide) 32 rfl ?_
  refine g_iand C.1 dL_law_32 33 rfl ?_
  have turn : ∀ σ' μ' : z_M, Rel σ' μ' → n_X l K D cI cT cS ad1 ad2 b i 1458 [] σ' μ' := fun σ' μ' h => n_turn C (next hi σ' μ' h)
  generalize xs (nI i).toNatClampNeg &&& 63 = x
  by_cases hx : x.toInt < 0 ∨ 39 < x.toInt
  · exact g_tableOut C.1 dL_law_33 hx 1458 (by decide) (turn σ μ hR)
  have hk : x.toInt = 0 ∨ x.toInt = 1 ∨ x.toInt = 2 ∨ x.toInt = 3 ∨ x.toInt = 4 ∨ x.toInt = 5 ∨ x.toInt = 6 ∨ x.toInt = 7 ∨ x.toInt = 8 ∨ x.toInt = 9 ∨ x.toInt = 10 ∨ x.toInt = 11 ∨ x.toInt = 12 ∨ x.toInt = 13 ∨ x.toInt = 14 ∨ x.toInt = 15 ∨ x.toInt = 16 ∨ x.toInt = 17 ∨ x.toInt = 18 ∨ x.toInt = 19 ∨ x.toInt = 20 ∨ x.toInt = 21 ∨ x.toInt = 22 ∨ x.toInt = 23 ∨ x.toInt = 24 ∨ x.toInt = 25 ∨ x.toInt = 26 ∨ x.toInt = 27 ∨ x.toInt = 28 ∨ x.toInt = 29 ∨ x.toInt = 30 ∨ x.toInt = 31 ∨ x.toInt = 32 ∨ x.toInt = 33 ∨ x.toInt = 34 ∨ x.toInt = 35 ∨ x.toInt = 36 ∨ x.toInt = 37 ∨ x.toInt = 38 ∨ x.toInt = 39 := by omega
  rcases hk with hk | hk | hk | hk | hk | hk | hk | hk | hk | hk | hk | hk | hk | hk | hk | hk | hk | hk | hk | hk | hk | hk | hk | hk | hk | hk | hk | hk | hk | hk | hk | hk | hk | hk | hk | hk | hk | hk | hk | hk
  · exact g_tableIn (off := 175) C.1 dL_law_33 (by rw [hk]; decide) (by rw [hk]; decide) (by rw [hk]; rfl) 208 (by decide) (nk_person C hi hR turn)
  · exact g_tableIn (off := 208) C.1 dL_law_33 (by rw [hk]; decide) (by rw [hk]; decide) (by rw [hk]; rfl) 241 (by decide) (nk_personIs C hi hR turn)
  · exact g_tableIn (off := 241) C.1 dL_law_33 (by rw [hk]; decide) (by rw [hk]; decide) (by rw [hk]; rfl) 274 (by decide) (nk_become C hi hR turn)
  · exact g_tableIn (off := 274) C.1 dL_law_33 (by rw [hk]; decide) (by rw [hk]; decide) (by rw [hk]; rfl) 307 (by decide) (nk_as C hi hR turn)
  · exact g_tableIn (off := 307) C.1 dL_law_33 (by rw [hk]; decide) (by rw [hk]; decide) (by rw [hk]; rfl) 340 (by decide) (nk_descends C hi hR turn)
  · exact g_tableIn (off := 340) C.1 dL_law_33 (by rw [hk]; decide) (by rw [hk]; decide) (by rw [hk]; rfl) 373 (by decide) (nk_marries C hi hR turn)
  · exact g_tableIn (off := 373) C.1 dL_law_33 (by rw [hk]; decide) (by rw [hk]; decide) (by rw [hk]; rfl) 406 (by decide) (nk_parts C hi hR turn)
  · exact g_tableIn (off := 396) C.1 dL_law_33 (by rw [hk]; decide) (by rw [hk]; decide) (by rw [hk]; rfl) 429 (by decide) (nk_steps C hi hR turn)
  · exact g_tableIn (off := 429) C.1 dL_law_33 (by rw [hk]; decide) (by rw [hk]; decide) (by rw [hk]; rfl) 462 (by decide) (nk_lets C hi hR turn)
  · exact g_tableIn (off := 462) C.1 dL_law_33 (by rw [hk]; decide) (by rw [hk]; decide) (by rw [hk]; rfl) 495 (by decide) (nk_meets C hi hR turn)
  · exact g_tableIn (off := 505) C.1 dL_law_33 (by rw [hk]; decide) (by rw [hk]; decide) (by rw [hk]; rfl) 538 (by decide) (nk_trade C hi hR turn)
  · exact g_tableIn (off := 538) C.1 dL_law_33 (by rw [hk]; decide) (by rw [hk]; decide) (by rw [hk]; rfl) 571 (by decide) (nk_feed C hi hR turn)
  · exact g_tableIn (off := 601) C.1 dL_law_33 (by rw [hk]; decide) (by rw [hk]; decide) (by rw [hk]; rfl) 634 (by decide) (nk_text C hi hR turn)
  · exact g_tableIn (off := 624) C.1 dL_law_33 (by rw [hk]; decide) (by rw [hk]; decide) (by rw [hk]; rfl) 657 (by decide) (nk_untell C hi hR turn)
  · exact g_tableIn (off := 647) C.1 dL_law_33 (by rw [hk]; decide) (by rw [hk]; decide) (by rw [hk]; rfl) 680 (by decide) (nk_law C hi hR turn)
  · exact g_tableIn (off := 700) C.1 dL_law_33 (by rw [hk]; decide) (by rw [hk]; decide) (by rw [hk]; rfl) 733 (by decide) (nk_years C hi hR turn)
  · exact g_tableIn (off := 723) C.1 dL_law_33 (by rw [hk]; decide) (by rw [hk]; decide) (by rw [hk]; rfl) 756 (by decide) (nk_loose C hi hR turn)
  · exact g_tableIn (off := 746) C.1 dL_law_33 (by rw [hk]; decide) (by rw [hk]; decide) (by rw [hk]; rfl) 779 (by decide) (nk_year C hi hR turn)
  · exact g_tableIn (off := 769) C.1 dL_law_33 (by rw [hk]; decide) (by rw [hk]; decide) (by rw [hk]; rfl) 802 (by decide) (nk_seed C hi hR turn)
  · exact g_tableIn (off := 792) C.1 dL_law_33 (by rw [hk]; decide) (by rw [hk]; decide) (by rw [hk]; rfl) 825 (by decide) (nk_then C hi hR turn)
  · exact g_tableIn (off := 825) C.1 dL_law_33 (by rw [hk]; decide) (by rw [hk]; decide) (by rw [hk]; rfl) 858 (by decide) (nk_soonest C hi hR turn)
  · exact g_tableIn (off := 858) C.1 dL_law_33 (by rw [hk]; decide) (by rw [hk]; decide) (by rw [hk]; rfl) 891 (by decide) (nk_match C hi hR turn)
  · exact g_tableIn (off := 901) C.1 dL_law_33 (by rw [hk]; decide) (by rw [hk]; decide) (by rw [hk]; rfl) 934 (by decide) (nk_orderFor C hi hR turn)
  · exact g_tableIn (off := 934) C.1 dL_law_33 (by rw [hk]; decide) (by rw [hk]; decide) (by rw [hk]; rfl) 967 (by decide) (nk_seers C hi hR turn)
  · exact g_tableIn (off := 957) C.1 dL_law_33 (by rw [hk]; decide) (by rw [hk]; decide) (by rw [hk]; rfl) 990 (by decide) (nk_witnesses C hi hR turn)
  · exact g_tableIn (off := 980) C.1 dL_law_33 (by rw [hk]; decide) (by rw [hk]; decide) (by rw [hk]; rfl) 1013 (by decide) (nk_odds C hi hR turn)
  · exact g_tableIn (off := 1013) C.1 dL_law_33 (by rw [hk]; decide) (by rw [hk]; decide) (by rw [hk]; rfl) 1046 (by decide) (nk_fits C hi hR turn)
  · exact g_tableIn (off := 1056) C.1 dL_law_33 (by rw [hk]; decide) (by rw [hk]; decide) (by rw [hk]; rfl) 1089 (by decide) (nk_voice C hi hR turn)
  · exact g_tableIn (off := 1099) C.1 dL_law_33 (by rw [hk]; decide) (by rw [hk]; decide) (by rw [hk]; rfl) 1132 (by decide) (nk_body C hi hR turn)
  · exact g_tableIn (off := 1122) C.1 dL_law_33 (by rw [hk]; decide) (by rw [hk]; decide) (by rw [hk]; rfl) 1155 (by decide) (nk_sheet C hi hR turn)
  · exact g_tableIn (off := 1165) C.1 dL_law_33 (by rw [hk]; decide) (by rw [hk]; decide) (by rw [hk]; rfl) 1198 (by decide) (nk_put C hi hR turn)
  · exact g_tableIn (off := 1208) C.1 dL_law_33 (by rw [hk]; decide) (by rw [hk]; decide) (by rw [hk]; rfl) 1241 (by decide) (nk_move C hi hR turn)
  · exact g_tableIn (off := 1271) C.1 dL_law_33 (by rw [hk]; decide) (by rw [hk]; decide) (by rw [hk]; rfl) 1304 (by decide) (nk_seenAll C hi hR turn)
  · exact g_tableIn (off := 1294) C.1 dL_law_33 (by rw [hk]; decide) (by rw [hk]; decide) (by rw [hk]; rfl) 1327 (by decide) (nk_judge C hi hR turn)
  · exact g_tableIn (off := 1317) C.1 dL_law_33 (by rw [hk]; decide) (by rw [hk]; decide) (by rw [hk]; rfl) 1350 (by decide) (nk_image C hi hR turn)
  · exact g_tableIn (off := 1330) C.1 dL_law_33 (by rw [hk]; decide) (by rw [hk]; decide) (by rw [hk]; rfl) 1363 (by decide) (nk_restore C hi hR turn)
  · exact g_tableIn (off := 1343) C.1 dL_law_33 (by rw [hk]; decide) (by rw [hk]; decide) (by rw [hk]; rfl) 1376 (by decide) (nk_tell C hi hR turn)
  · exact g_tableIn (off := 1366) C.1 dL_law_33 (by rw [hk]; decide) (by rw [hk]; decide) (by rw [hk]; rfl) 1399 (by decide) (nk_check C hi hR turn)
  · exact g_tableIn (off := 1379) C.1 dL_law_33 (by rw [hk]; decide) (by rw [hk]; decide) (by rw [hk]; rfl) 1412 (by decide) (nk_count C hi hR turn)
  · exact g_tableIn (off := 1402) C.1 dL_law_33 (by rw [hk]; decide) (by rw [hk]; decide) (by rw [hk]; rfl) 1435 (by decide) (nk_told C hi hR turn)
theorem n_loop (C : n_C K D cI cT cS ad1 ad2 b L xs sa) : ∀ (f i : Nat) (σ μ : z_M), L + 6 ≤ i + f → i ≤ L + 6 → Rel σ μ → n_X l K D cI cT cS ad1 ad2 b i 18 [] σ μ
  | 0, i, σ, μ, h1, h2, hR => n_step C h2 hR (fun h => by omega)
  | f + 1, i, σ, μ, h1, h2, hR => n_step C h2 hR (fun h σ' μ' hR' => n_loop C f (i + 6) σ' μ' (by omega) (by omega) hR')
end ZL
