set_option maxHeartbeats 4000000 in
set_option maxRecDepth 100000 in
theorem lc_make {p : Program} {l : Launch} {e : Env} {s : State} {m : MethodId} {below : List Frame} {meth : Method} {c : Code} {H : Heap} {locs : List Loc} {cells slots : Nat} {Q : State → Prop} {b L : Nat} {xs : Nat → Int32} {ls : Array Slot} {D : va_G} {ty : List (ClassId × FieldType)} {ws : va_W} {cI cO cL : ClassId} {q1 q2 q3 i : Nat} (C : LCx p s m c b L xs) (ht0 : ty[0]? = some (cI, .int)) (ht1 : ty[1]? = some (cO, .object "RentSizes$Item")) (hi : i + 4 < L) (hcl : cells + 6 ≤ 601024) (hsl : slots + 62 ≤ 7293034) (hI : LwI cI cO cL q1 q2 q3 ws) (hw : Wd D ty (LA s) s.heap s ws H locs) (hl : lv_has ls 8 (LV b q1 q2 q3 i))
    (kk : ∀ (ws : va_W) (H : Heap) (locs : List Loc), LwI cI cO cL q1 q2 q3 ws → Wd D ty (LA s) s.heap s ws H locs → W p l e room_1 s m #[Value.ref b] below meth c H locs (cells + 6) (slots + 62) Q (F0 m 1067 ls [])) : W p l e room_1 s m #[Value.ref b] below meth c H locs cells slots Q (F0 m 271 ls []) := by
  have hx := C.1
  have hb := C.2.1
  have hts := C.2.2.2.2.1
  obtain ⟨a, b9, n, u8, I, a', s0, s1, a2, a3, a4, a5, a6, a7, a8, a9, s10, s11, s12, a13, a14, a15, a16, a17, a18, a19, a20, a21, s22, f, ha, ha', hR, rfl⟩ := hI
  subst ha
  subst ha'
  refine lv_aload_n hx hb dL_law_271 rfl (lv_at hl 1 rfl) ?_
  refine l_arg (k := 1) C hw.2.2.2.1 hl (by omega) (by decide) dL_law_272 dL_law_273 dL_law_275 dL_law_276 dL_law_277 ?_
  refine l_arg (k := 2) C hw.2.2.2.1 hl (by omega) (by decide) dL_law_278 dL_law_279 dL_law_281 dL_law_282 dL_law_283 ?_
  refine l_arg (k := 3) C hw.2.2.2.1 hl (by omega) (by decide) dL_law_284 dL_law_285 dL_law_287 dL_law_288 dL_law_289 ?_
  refine l_arg (k := 4) C hw.2.2.2.1 hl (by omega) (by decide) dL_law_290 dL_law_291 dL_law_293 dL_law_294 dL_law_295 ?_
  refine c_cls (rest := []) C hw rfl (k4_make l D ty a b9 n cI cO ht0 ht1 a2 a3 a4 a5 s1 a6 a8 a9 u8 s10 s11 a7 s12 s0 I (xs (i + 1)) (xs (i + 2)) (xs (i + 3)) (xs (i + 4)) hR.hob hR.hobn hR.hn60 hR.he0 hR.he1 hR.he2) (cwV 4 hts gL_law_X4_make rfl rfl rfl (by decide +kernel) ⟨Nat.le_of_ble_eq_true rfl, Nat.le_of_ble_eq_true rfl⟩) rfl hl rfl (Nat.le_of_ble_eq_true rfl) dL_law_296 ⟨by omega, by omega⟩ (fun r4 w4 H locs hp4 hw => ?_)
  obtain ⟨e4, b2, n2, I2, hn2a, hn2, rfl, hmk⟩ := hp4
  refine lv_aload_n hx hb dL_law_299 rfl (lv_at hl 2 rfl) ?_
  refine l_arg (k := 1) C hw.2.2.2.1 hl (by omega) (by decide) dL_law_300 dL_law_301 dL_law_303 dL_law_304 dL_law_305 ?_
  refine l_arg (k := 2) C hw.2.2.2.1 hl (by omega) (by decide) dL_law_306 dL_law_307 dL_law_309 dL_law_310 dL_law_311 ?_
  refine l_arg (k := 3) C hw.2.2.2.1 hl (by omega) (by decide) dL_law_312 dL_law_313 dL_law_315 dL_law_316 dL_law_317 ?_
  refine l_arg (k := 4) C hw.2.2.2.1 hl (by omega) (by decide) dL_law_318 dL_law_319 dL_law_321 dL_law_322 dL_law_323 ?_
  refine c_ref (rest := [.int r4]) C hw rfl (k5_make l D ty a' cI ht0 s0 s1 a2 a3 a4 a5 a6 a7 a8 a9 s10 s11 s12 a13 a14 a15 a16 a17 a18 a19 a20 a21 s22 (xs (i + 1)) (xs (i + 2)) (xs (i + 3)) (xs (i + 4)) hR.hob hR.hob60 hR.he0 hR.he1) (cwV 4 hts gL_law_X5_make rfl rfl rfl (by decide +kernel) ⟨Nat.le_of_ble_eq_true rfl, Nat.le_of_ble_eq_true rfl⟩) rfl hl rfl (Nat.le_of_ble_eq_true rfl) dL_law_324 ⟨by omega, by omega⟩ (fun r5 w5 H locs hp5 hw => ?_)
  obtain ⟨e5, rfl⟩ := hp5
  have hmk2 : mkI n n2 I I2 s12 (f4_make a2 a3 a4 a5 s1 a6 u8 s10 a7 s12 s0 I (xs (i + 1)) (xs (i + 2)) (xs (i + 3)) (xs (i + 4))).2.2.2.2 (xs (i + 1)) (xs (i + 2)) (xs (i + 3)) (s0 + xs (i + 4)) (f0_priceOn a2 a3 s1 s0) := by
    rcases hmk with h | ⟨I3, b0, t1, t2, t3, t4, b5, b6, b7, t8, h1, h2, h3, h4⟩
    · exact Or.inl h
    · exact Or.inr ⟨I3, b0, b5, b6, b7, h1, h2, h3, h4⟩
  obtain ⟨g1, g2, g3, g4, hR2⟩ := q_make hR (xs (i + 1)) (xs (i + 2)) (xs (i + 3)) (xs (i + 4)) hn2 hmk2
  rw [g2, g3, g4] at hw
  refine lv_icmp_eq (tgt := 1067) hx hb dL_law_327 (by decide) (fun _ => ?_) (fun hne => absurd (by rw [e4, e5, g1]) hne)
  refine W.widen (k := cells + 6) (n := slots + 62) (by omega) (by omega) ?_
  exact kk _ _ _ ⟨a, _, _, _, _, a', s0, s1, a2, a3, a4, a5, _, a7, a8, a9, _, s11, _, _, _, _, _, _, _, _, _, _, s22, f, rfl, rfl, hR2, rfl⟩ hw
set_option maxHeartbeats 4000000 in
set_option maxRecDepth 100000 in
theorem lc_grow {p : Program} {l : Launch} {e : Env} {s : State} {m : MethodId} {below : List Frame} {meth : Method} {c : Code} {H : Heap} {locs : List Loc} {cells slots : Nat} {Q : State → Prop} {b L : Nat} {xs : Nat → Int32} {ls : Array Slot} {D : va_G} {ty : List (ClassId × FieldType)} {ws : va_W} {cI cO cL : ClassId} {q1 q2 q3 i : Nat} (C : LCx p s m c b L xs) (ht0 : ty[0]? = some (cI, .int)) (ht1 : ty[1]? = some (cO, .object "RentSizes$Item")) (hi : i + 4 < L) (hcl : cells + 6 ≤ 601024) (hsl : slots + 62 ≤ 7293034) (hI : LwI cI cO cL q1 q2 q3 ws) (hw : Wd D ty (LA s) s.heap s ws H locs) (hl : lv_has ls 8 (LV b q1 q2 q3 i))
    (kk : ∀ (ws : va_W) (H : Heap) (locs : List Loc), LwI cI cO cL q1 q2 q3 ws → Wd D ty (LA s) s.heap s ws H locs → W p l e room_1 s m #[Value.ref b] below meth c H locs (cells + 6) (slots + 62) Q (F0 m 1067 ls [])) : W p l e room_1 s m #[Value.ref b] below meth c H locs cells slots Q (F0 m 332 ls []) := by
  have hx := C.1
  have hb := C.2.1
  have hts := C.2.2.2.2.1
  obtain ⟨a, b9, n, u8, I, a', s0, s1, a2, a3, a4, a5, a6, a7, a8, a9, s10, s11, s12, a13, a14, a15, a16, a17, a18, a19, a20, a21, s22, f, ha, ha', hR, rfl⟩ := hI
  subst ha
  subst ha'
  refine lv_aload_n hx hb dL_law_332 rfl (lv_at hl 1 rfl) ?_
  refine l_arg (k := 1) C hw.2.2.2.1 hl (by omega) (by decide) dL_law_333 dL_law_334 dL_law_336 dL_law_337 dL_law_338 ?_
  refine l_arg (k := 2) C hw.2.2.2.1 hl (by omega) (by decide) dL_law_339 dL_law_340 dL_law_342 dL_law_343 dL_law_344 ?_
  refine l_arg (k := 3) C hw.2.2.2.1 hl (by omega) (by decide) dL_law_345 dL_law_346 dL_law_348 dL_law_349 dL_law_350 ?_
  refine c_cls (rest := []) C hw rfl (k4_grow l D ty a b9 n cI cO ht0 ht1 a2 a3 a4 a5 s1 a6 a8 a9 u8 s10 s11 a7 s12 s0 I (xs (i + 1)) (xs (i + 2)) (xs (i + 3)) hR.hob hR.hobn hR.hn60 hR.he0 hR.he1 hR.he2 hR.how4 hR.hlk4) (cwV 3 hts gL_law_X4_grow rfl rfl rfl (by decide +kernel) ⟨Nat.le_of_ble_eq_true rfl, Nat.le_of_ble_eq_true rfl⟩) rfl hl rfl (Nat.le_of_ble_eq_true rfl) dL_law_351 ⟨by omega, by omega⟩ (fun r4 w4 H locs hp4 hw => ?_)
  obtain ⟨e4, rfl⟩ := hp4
  refine lv_aload_n hx hb dL_law_354 rfl (lv_at hl 2 rfl) ?_
  refine l_arg (k := 1) C hw.2.2.2.1 hl (by omega) (by decide) dL_law_355 dL_law_356 dL_law_358 dL_law_359 dL_law_360 ?_
  refine l_arg (k := 2) C hw.2.2.2.1 hl (by omega) (by decide) dL_law_361 dL_law_362 dL_law_364 dL_law_365 dL_law_366 ?_
  refine l_arg (k := 3) C hw.2.2.2.1 hl (by omega) (by decide) dL_law_367 dL_law_368 dL_law_370 dL_law_371 dL_law_372 ?_
  refine c_ref (rest := [.int r4]) C hw rfl (k5_grow l D ty a' cI ht0 s0 s1 a2 a3 a4 a5 a6 a7 a8 a9 s10 s11 s12 a13 a14 a15 a16 a17 a18 a19 a20 a21 s22 (xs (i + 1)) (xs (i + 2)) (xs (i + 3)) hR.hob hR.hob60 hR.he0 hR.he1 hR.hlk5 hR.how5) (cwV 3 hts gL_law_X5_grow rfl rfl rfl (by decide +kernel) ⟨Nat.le_of_ble_eq_true rfl, Nat.le_of_ble_eq_true rfl⟩) rfl hl rfl (Nat.le_of_ble_eq_true rfl) dL_law_373 ⟨by omega, by omega⟩ (fun r5 w5 H locs hp5 hw => ?_)
  obtain ⟨e5, rfl⟩ := hp5
  have hq := q_grow (a2 := a2) (a7 := a7) hR (xs (i + 1)) (xs (i + 2)) (xs (i + 3))
  obtain ⟨g1, g2, g3, hR2⟩ := hq
  rw [g2, g3] at hw
  refine lv_icmp_eq (tgt := 1067) hx hb dL_law_376 (by decide) (fun _ => ?_) (fun hne => absurd (by rw [e4, e5, g1]) hne)
  refine W.widen (k := cells + 6) (n := slots + 62) (by omega) (by omega) ?_
  exact kk _ _ _ ⟨a, b9, n, _, _, a', s0, s1, a2, a3, a4, a5, _, a7, a8, a9, _, s11, s12, a13, _, a15, a16, a17, _, _, _, _, s22, f, rfl, rfl, hR2, rfl⟩ hw
set_option maxHeartbeats 4000000 in
set_option maxRecDepth 100000 in
theorem lc_shrink {p : Program} {l : Launch} {e : Env} {s : State} {m : MethodId} {below : List Frame} {meth : Method} {c : Code} {H : Heap} {locs : List Loc} {cells slots : Nat} {Q : State → Prop} {b L : Nat} {xs : Nat → Int32} {ls : Array Slot} {D : va_G} {ty : List (ClassId × FieldType)} {ws : va_W} {cI cO cL : ClassId} {q1 q2 q3 i : Nat} (C : LCx p s m c b L xs) (ht0 : ty[0]? = some (cI, .int)) (ht1 : ty[1]? = some (cO, .object "RentSizes$Item")) (hi : i + 4 < L) (hcl : cells + 6 ≤ 601024) (hsl : slots + 62 ≤ 7293034) (hI : LwI cI cO cL q1 q2 q3 ws) (hw : Wd D ty (LA s) s.heap s ws H locs) (hl : lv_has ls 8 (LV b q1 q2 q3 i))
    (kk : ∀ (ws : va_W) (H : Heap) (locs : List Loc), LwI cI cO cL q1 q2 q3 ws → Wd D ty (LA s) s.heap s ws H locs → W p l e room_1 s m #[Value.ref b] below meth c H locs (cells + 6) (slots + 62) Q (F0 m 1067 ls [])) : W p l e room_1 s m #[Value.ref b] below meth c H locs cells slots Q (F0 m 381 ls []) := by
  have hx := C.1
  have hb := C.2.1
  have hts := C.2.2.2.2.1
  obtain ⟨a, b9, n, u8, I, a', s0, s1, a2, a3, a4, a5, a6, a7, a8, a9, s10, s11, s12, a13, a14, a15, a16, a17, a18, a19, a20, a21, s22, f, ha, ha', hR, rfl⟩ := hI
  subst ha
  subst ha'
  refine lv_aload_n hx hb dL_law_381 rfl (lv_at hl 1 rfl) ?_
  refine l_arg (k := 1) C hw.2.2.2.1 hl (by omega) (by decide) dL_law_382 dL_law_383 dL_law_385 dL_law_386 dL_law_387 ?_
  refine l_arg (k := 2) C hw.2.2.2.1 hl (by omega) (by decide) dL_law_388 dL_law_389 dL_law_391 dL_law_392 dL_law_393 ?_
  refine c_cls (rest := []) C hw rfl (k4_shrink l D ty a b9 n cI cO ht0 ht1 a2 a3 a4 a5 s1 a6 a8 a9 u8 s10 s11 a7 s12 s0 I (xs (i + 1)) (xs (i + 2)) hR.hob hR.hobn hR.hn60 hR.hlk4) (cwV 2 hts gL_law_X4_shrink rfl rfl rfl (by decide +kernel) ⟨Nat.le_of_ble_eq_true rfl, Nat.le_of_ble_eq_true rfl⟩) rfl hl rfl (Nat.le_of_ble_eq_true rfl) dL_law_394 ⟨by omega, by omega⟩ (fun r4 w4 H locs hp4 hw => ?_)
  obtain ⟨e4, rfl⟩ := hp4
  refine lv_aload_n hx hb dL_law_397 rfl (lv_at hl 2 rfl) ?_
  refine l_arg (k := 1) C hw.2.2.2.1 hl (by omega) (by decide) dL_law_398 dL_law_399 dL_law_401 dL_law_402 dL_law_403 ?_
  refine l_arg (k := 2) C hw.2.2.2.1 hl (by omega) (by decide) dL_law_404 dL_law_405 dL_law_407 dL_law_408 dL_law_409 ?_
  refine c_ref (rest := [.int r4]) C hw rfl (k5_shrink l D ty a' cI ht0 s0 s1 a2 a3 a4 a5 a6 a7 a8 a9 s10 s11 s12 a13 a14 a15 a16 a17 a18 a19 a20 a21 s22 (xs (i + 1)) (xs (i + 2)) hR.hob hR.hob60 hR.hlk5 hR.hsz5 hR.hlay5) (cwV 2 hts gL_law_X5_shrink rfl rfl rfl (by decide +kernel) ⟨Nat.le_of_ble_eq_true rfl, Nat.le_of_ble_eq_true rfl⟩) rfl hl rfl (Nat.le_of_ble_eq_true rfl) dL_law_410 ⟨by omega, by omega⟩ (fun r5 w5 H locs hp5 hw => ?_)
  obtain ⟨e5, rfl⟩ := hp5
  have hq := q_shrink hR (xs (i + 1)) (xs (i + 2))
  obtain ⟨g1, g2, hR2⟩ := hq
  rw [g2] at hw
  refine lv_icmp_eq (tgt := 1067) hx hb dL_law_413 (by decide) (fun _ => ?_) (fun hne => absurd (by rw [e4, e5, g1]) hne)
  refine W.widen (k := cells + 6) (n := slots + 62) (by omega) (by omega) ?_
  exact kk _ _ _ ⟨a, b9, n, _, _, a', s0, s1, a2, a3, a4, a5, _, a7, a8, a9, s10, s11, s12, a13, _, a15, a16, a17, _, _, a20, a21, s22, f, rfl, rfl, hR2, rfl⟩ hw
