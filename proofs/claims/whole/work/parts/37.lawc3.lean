set_option maxHeartbeats 4000000 in
set_option maxRecDepth 100000 in
theorem lc_pay {p : Program} {l : Launch} {e : Env} {s : State} {m : MethodId} {below : List Frame} {meth : Method} {c : Code} {H : Heap} {locs : List Loc} {cells slots : Nat} {Q : State → Prop} {b L : Nat} {xs : Nat → Int32} {ls : Array Slot} {D : va_G} {ty : List (ClassId × FieldType)} {ws : va_W} {cI cO cL : ClassId} {q1 q2 q3 i : Nat} (C : LCx p s m c b L xs) (ht0 : ty[0]? = some (cI, .int)) (ht1 : ty[1]? = some (cO, .object "RentSizes$Item")) (hi : i + 4 < L) (hcl : cells + 6 ≤ 601024) (hsl : slots + 62 ≤ 7293034) (hI : LwI cI cO cL q1 q2 q3 ws) (hw : Wd D ty (LA s) s.heap s ws H locs) (hl : lv_has ls 8 (LV b q1 q2 q3 i))
    (kk : ∀ (ws : va_W) (H : Heap) (locs : List Loc), LwI cI cO cL q1 q2 q3 ws → Wd D ty (LA s) s.heap s ws H locs → W p l e room_1 s m #[Value.ref b] below meth c H locs (cells + 6) (slots + 62) Q (F0 m 1067 ls [])) : W p l e room_1 s m #[Value.ref b] below meth c H locs cells slots Q (F0 m 418 ls []) := by
  have hx := C.1
  have hb := C.2.1
  have hts := C.2.2.2.2.1
  obtain ⟨a, b9, n, u8, I, a', s0, s1, a2, a3, a4, a5, a6, a7, a8, a9, s10, s11, s12, a13, a14, a15, a16, a17, a18, a19, a20, a21, s22, f, ha, ha', hR, rfl⟩ := hI
  subst ha
  subst ha'
  refine lv_aload_n hx hb dL_law_418 rfl (lv_at hl 1 rfl) ?_
  refine l_arg (k := 1) C hw.2.2.2.1 hl (by omega) (by decide) dL_law_419 dL_law_420 dL_law_422 dL_law_423 dL_law_424 ?_
  refine l_arg (k := 2) C hw.2.2.2.1 hl (by omega) (by decide) dL_law_425 dL_law_426 dL_law_428 dL_law_429 dL_law_430 ?_
  refine l_arg (k := 3) C hw.2.2.2.1 hl (by omega) (by decide) dL_law_431 dL_law_432 dL_law_434 dL_law_435 dL_law_436 ?_
  refine c_cls (rest := []) C hw rfl (k4_pay l D ty a b9 n cI cO ht0 ht1 a2 a3 a4 a5 s1 a6 a8 a9 u8 s10 s11 a7 s12 s0 I (xs (i + 1)) (xs (i + 2)) (xs (i + 3)) hR.hob hR.hobn hR.hn60 hR.he0 hR.he1 hR.he2) (cwV 3 hts gL_law_X4_pay rfl rfl rfl (by decide +kernel) ⟨Nat.le_of_ble_eq_true rfl, Nat.le_of_ble_eq_true rfl⟩) rfl hl rfl (Nat.le_of_ble_eq_true rfl) dL_law_437 ⟨by omega, by omega⟩ (fun r4 w4 H locs hp4 hw => ?_)
  obtain ⟨e4, rfl⟩ := hp4
  refine lv_aload_n hx hb dL_law_440 rfl (lv_at hl 2 rfl) ?_
  refine l_arg (k := 1) C hw.2.2.2.1 hl (by omega) (by decide) dL_law_441 dL_law_442 dL_law_444 dL_law_445 dL_law_446 ?_
  refine l_arg (k := 2) C hw.2.2.2.1 hl (by omega) (by decide) dL_law_447 dL_law_448 dL_law_450 dL_law_451 dL_law_452 ?_
  refine l_arg (k := 3) C hw.2.2.2.1 hl (by omega) (by decide) dL_law_453 dL_law_454 dL_law_456 dL_law_457 dL_law_458 ?_
  refine c_ref (rest := [.int r4]) C hw rfl (k5_pay l D ty a' cI ht0 s0 s1 a2 a3 a4 a5 a6 a7 a8 a9 s10 s11 s12 a13 a14 a15 a16 a17 a18 a19 a20 a21 s22 (xs (i + 1)) (xs (i + 2)) (xs (i + 3)) hR.hob hR.hob60 hR.he0 hR.he1) (cwV 3 hts gL_law_X5_pay rfl rfl rfl (by decide +kernel) ⟨Nat.le_of_ble_eq_true rfl, Nat.le_of_ble_eq_true rfl⟩) rfl hl rfl (Nat.le_of_ble_eq_true rfl) dL_law_459 ⟨by omega, by omega⟩ (fun r5 w5 H locs hp5 hw => ?_)
  obtain ⟨e5, rfl⟩ := hp5
  have hq := q_pay (a2 := a2) hR (xs (i + 1)) (xs (i + 2)) (xs (i + 3))
  obtain ⟨g1, g2, g3, hR2⟩ := hq
  rw [g2, g3] at hw
  refine lv_icmp_eq (tgt := 1067) hx hb dL_law_462 (by decide) (fun _ => ?_) (fun hne => absurd (by rw [e4, e5, g1]) hne)
  refine W.widen (k := cells + 6) (n := slots + 62) (by omega) (by omega) ?_
  exact kk _ _ _ ⟨a, b9, n, _, _, a', s0, s1, a2, a3, a4, a5, _, a7, a8, a9, _, s11, s12, a13, a14, a15, _, a17, a18, a19, a20, a21, s22, f, rfl, rfl, hR2, rfl⟩ hw
set_option maxHeartbeats 4000000 in
set_option maxRecDepth 100000 in
theorem lc_write {p : Program} {l : Launch} {e : Env} {s : State} {m : MethodId} {below : List Frame} {meth : Method} {c : Code} {H : Heap} {locs : List Loc} {cells slots : Nat} {Q : State → Prop} {b L : Nat} {xs : Nat → Int32} {ls : Array Slot} {D : va_G} {ty : List (ClassId × FieldType)} {ws : va_W} {cI cO cL : ClassId} {q1 q2 q3 i : Nat} (C : LCx p s m c b L xs) (ht0 : ty[0]? = some (cI, .int)) (ht1 : ty[1]? = some (cO, .object "RentSizes$Item")) (hi : i + 4 < L) (hcl : cells + 6 ≤ 601024) (hsl : slots + 62 ≤ 7293034) (hI : LwI cI cO cL q1 q2 q3 ws) (hw : Wd D ty (LA s) s.heap s ws H locs) (hl : lv_has ls 8 (LV b q1 q2 q3 i))
    (kk : ∀ (ws : va_W) (H : Heap) (locs : List Loc), LwI cI cO cL q1 q2 q3 ws → Wd D ty (LA s) s.heap s ws H locs → W p l e room_1 s m #[Value.ref b] below meth c H locs (cells + 6) (slots + 62) Q (F0 m 1067 ls [])) : W p l e room_1 s m #[Value.ref b] below meth c H locs cells slots Q (F0 m 467 ls []) := by
  have hx := C.1
  have hb := C.2.1
  have hts := C.2.2.2.2.1
  obtain ⟨a, b9, n, u8, I, a', s0, s1, a2, a3, a4, a5, a6, a7, a8, a9, s10, s11, s12, a13, a14, a15, a16, a17, a18, a19, a20, a21, s22, f, ha, ha', hR, rfl⟩ := hI
  subst ha
  subst ha'
  refine lv_aload_n hx hb dL_law_467 rfl (lv_at hl 1 rfl) ?_
  refine l_arg (k := 1) C hw.2.2.2.1 hl (by omega) (by decide) dL_law_468 dL_law_469 dL_law_471 dL_law_472 dL_law_473 ?_
  refine l_arg (k := 2) C hw.2.2.2.1 hl (by omega) (by decide) dL_law_474 dL_law_475 dL_law_477 dL_law_478 dL_law_479 ?_
  refine l_arg (k := 3) C hw.2.2.2.1 hl (by omega) (by decide) dL_law_480 dL_law_481 dL_law_483 dL_law_484 dL_law_485 ?_
  refine c_cls (rest := []) C hw rfl (k4_write l D ty a b9 n cI cO ht0 ht1 a2 a3 a4 a5 s1 a6 a8 a9 u8 s10 s11 a7 s12 s0 I (xs (i + 1)) (xs (i + 2)) (xs (i + 3)) hR.hob hR.hobn hR.hn60) (cwV 3 hts gL_law_X4_write rfl rfl rfl (by decide +kernel) ⟨Nat.le_of_ble_eq_true rfl, Nat.le_of_ble_eq_true rfl⟩) rfl hl rfl (Nat.le_of_ble_eq_true rfl) dL_law_486 ⟨by omega, by omega⟩ (fun r4 w4 H locs hp4 hw => ?_)
  obtain ⟨e4, rfl⟩ := hp4
  refine lv_aload_n hx hb dL_law_489 rfl (lv_at hl 2 rfl) ?_
  refine l_arg (k := 1) C hw.2.2.2.1 hl (by omega) (by decide) dL_law_490 dL_law_491 dL_law_493 dL_law_494 dL_law_495 ?_
  refine l_arg (k := 2) C hw.2.2.2.1 hl (by omega) (by decide) dL_law_496 dL_law_497 dL_law_499 dL_law_500 dL_law_501 ?_
  refine l_arg (k := 3) C hw.2.2.2.1 hl (by omega) (by decide) dL_law_502 dL_law_503 dL_law_505 dL_law_506 dL_law_507 ?_
  refine c_ref (rest := [.int r4]) C hw rfl (k5_write l D ty a' cI ht0 s0 s1 a2 a3 a4 a5 a6 a7 a8 a9 s10 s11 s12 a13 a14 a15 a16 a17 a18 a19 a20 a21 s22 (xs (i + 1)) (xs (i + 2)) (xs (i + 3)) hR.hob hR.hob60) (cwV 3 hts gL_law_X5_write rfl rfl rfl (by decide +kernel) ⟨Nat.le_of_ble_eq_true rfl, Nat.le_of_ble_eq_true rfl⟩) rfl hl rfl (Nat.le_of_ble_eq_true rfl) dL_law_508 ⟨by omega, by omega⟩ (fun r5 w5 H locs hp5 hw => ?_)
  obtain ⟨e5, rfl⟩ := hp5
  have hq := q_write hR (xs (i + 1)) (xs (i + 2)) (xs (i + 3))
  obtain ⟨g1, hR2⟩ := hq
  refine lv_icmp_eq (tgt := 1067) hx hb dL_law_511 (by decide) (fun _ => ?_) (fun hne => absurd (by rw [e4, e5, g1]) hne)
  refine W.widen (k := cells + 6) (n := slots + 62) (by omega) (by omega) ?_
  exact kk _ _ _ ⟨a, b9, n, u8, _, a', s0, s1, a2, a3, a4, a5, a6, a7, a8, a9, s10, s11, s12, a13, a14, _, a16, a17, a18, a19, a20, a21, s22, f, rfl, rfl, hR2, rfl⟩ hw
set_option maxHeartbeats 4000000 in
set_option maxRecDepth 100000 in
theorem lc_drop {p : Program} {l : Launch} {e : Env} {s : State} {m : MethodId} {below : List Frame} {meth : Method} {c : Code} {H : Heap} {locs : List Loc} {cells slots : Nat} {Q : State → Prop} {b L : Nat} {xs : Nat → Int32} {ls : Array Slot} {D : va_G} {ty : List (ClassId × FieldType)} {ws : va_W} {cI cO cL : ClassId} {q1 q2 q3 i : Nat} (C : LCx p s m c b L xs) (ht0 : ty[0]? = some (cI, .int)) (ht1 : ty[1]? = some (cO, .object "RentSizes$Item")) (hi : i + 4 < L) (hcl : cells + 6 ≤ 601024) (hsl : slots + 62 ≤ 7293034) (hI : LwI cI cO cL q1 q2 q3 ws) (hw : Wd D ty (LA s) s.heap s ws H locs) (hl : lv_has ls 8 (LV b q1 q2 q3 i))
    (kk : ∀ (ws : va_W) (H : Heap) (locs : List Loc), LwI cI cO cL q1 q2 q3 ws → Wd D ty (LA s) s.heap s ws H locs → W p l e room_1 s m #[Value.ref b] below meth c H locs (cells + 6) (slots + 62) Q (F0 m 1067 ls [])) : W p l e room_1 s m #[Value.ref b] below meth c H locs cells slots Q (F0 m 516 ls []) := by
  have hx := C.1
  have hb := C.2.1
  have hts := C.2.2.2.2.1
  obtain ⟨a, b9, n, u8, I, a', s0, s1, a2, a3, a4, a5, a6, a7, a8, a9, s10, s11, s12, a13, a14, a15, a16, a17, a18, a19, a20, a21, s22, f, ha, ha', hR, rfl⟩ := hI
  subst ha
  subst ha'
  refine lv_aload_n hx hb dL_law_516 rfl (lv_at hl 1 rfl) ?_
  refine l_arg (k := 1) C hw.2.2.2.1 hl (by omega) (by decide) dL_law_517 dL_law_518 dL_law_520 dL_law_521 dL_law_522 ?_
  refine c_cls (rest := []) C hw rfl (k4_drop l D ty a b9 n cI cO ht0 ht1 a2 a3 a4 a5 s1 a6 a8 a9 u8 s10 s11 a7 s12 s0 I (xs (i + 1)) hR.hob hR.hobn hR.hn60 hR.hlk4) (cwV 1 hts gL_law_X4_drop rfl rfl rfl (by decide +kernel) ⟨Nat.le_of_ble_eq_true rfl, Nat.le_of_ble_eq_true rfl⟩) rfl hl rfl (Nat.le_of_ble_eq_true rfl) dL_law_523 ⟨by omega, by omega⟩ (fun r4 w4 H locs hp4 hw => ?_)
  obtain ⟨e4, rfl⟩ := hp4
  refine lv_aload_n hx hb dL_law_526 rfl (lv_at hl 2 rfl) ?_
  refine l_arg (k := 1) C hw.2.2.2.1 hl (by omega) (by decide) dL_law_527 dL_law_528 dL_law_530 dL_law_531 dL_law_532 ?_
  refine c_ref (rest := [.int r4]) C hw rfl (k5_drop l D ty a' cI ht0 s0 s1 a2 a3 a4 a5 a6 a7 a8 a9 s10 s11 s12 a13 a14 a15 a16 a17 a18 a19 a20 a21 s22 (xs (i + 1)) hR.hob hR.hob60 hR.hlk5 hR.hsz5 hR.hlay5) (cwV 1 hts gL_law_X5_drop rfl rfl rfl (by decide +kernel) ⟨Nat.le_of_ble_eq_true rfl, Nat.le_of_ble_eq_true rfl⟩) rfl hl rfl (Nat.le_of_ble_eq_true rfl) dL_law_533 ⟨by omega, by omega⟩ (fun r5 w5 H locs hp5 hw => ?_)
  obtain ⟨e5, rfl⟩ := hp5
  have hq := q_drop hR (xs (i + 1))
  obtain ⟨g1, g2, hR2⟩ := hq
  rw [g2] at hw
  refine lv_icmp_eq (tgt := 1067) hx hb dL_law_536 (by decide) (fun _ => ?_) (fun hne => absurd (by rw [e4, e5, g1]) hne)
  refine W.widen (k := cells + 6) (n := slots + 62) (by omega) (by omega) ?_
  exact kk _ _ _ ⟨a, b9, n, _, _, a', s0, s1, a2, a3, a4, a5, _, a7, a8, a9, s10, s11, s12, a13, a14, a15, a16, _, _, _, a20, a21, s22, f, rfl, rfl, hR2, rfl⟩ hw
set_option maxHeartbeats 4000000 in
set_option maxRecDepth 100000 in
theorem lc_back {p : Program} {l : Launch} {e : Env} {s : State} {m : MethodId} {below : List Frame} {meth : Method} {c : Code} {H : Heap} {locs : List Loc} {cells slots : Nat} {Q : State → Prop} {b L : Nat} {xs : Nat → Int32} {ls : Array Slot} {D : va_G} {ty : List (ClassId × FieldType)} {ws : va_W} {cI cO cL : ClassId} {q1 q2 q3 i : Nat} (C : LCx p s m c b L xs) (ht0 : ty[0]? = some (cI, .int)) (ht1 : ty[1]? = some (cO, .object "RentSizes$Item")) (hi : i + 4 < L) (hcl : cells + 6 ≤ 601024) (hsl : slots + 62 ≤ 7293034) (hI : LwI cI cO cL q1 q2 q3 ws) (hw : Wd D ty (LA s) s.heap s ws H locs) (hl : lv_has ls 8 (LV b q1 q2 q3 i))
    (kk : ∀ (ws : va_W) (H : Heap) (locs : List Loc), LwI cI cO cL q1 q2 q3 ws → Wd D ty (LA s) s.heap s ws H locs → W p l e room_1 s m #[Value.ref b] below meth c H locs (cells + 6) (slots + 62) Q (F0 m 1067 ls [])) : W p l e room_1 s m #[Value.ref b] below meth c H locs cells slots Q (F0 m 541 ls []) := by
  have hx := C.1
  have hb := C.2.1
  have hts := C.2.2.2.2.1
  obtain ⟨a, b9, n, u8, I, a', s0, s1, a2, a3, a4, a5, a6, a7, a8, a9, s10, s11, s12, a13, a14, a15, a16, a17, a18, a19, a20, a21, s22, f, ha, ha', hR, rfl⟩ := hI
  subst ha
  subst ha'
  refine lv_aload_n hx hb dL_law_541 rfl (lv_at hl 1 rfl) ?_
  refine l_arg (k := 1) C hw.2.2.2.1 hl (by omega) (by decide) dL_law_542 dL_law_543 dL_law_545 dL_law_546 dL_law_547 ?_
  refine l_arg (k := 2) C hw.2.2.2.1 hl (by omega) (by decide) dL_law_548 dL_law_549 dL_law_551 dL_law_552 dL_law_553 ?_
  refine l_arg (k := 3) C hw.2.2.2.1 hl (by omega) (by decide) dL_law_554 dL_law_555 dL_law_557 dL_law_558 dL_law_559 ?_
  refine l_arg (k := 4) C hw.2.2.2.1 hl (by omega) (by decide) dL_law_560 dL_law_561 dL_law_563 dL_law_564 dL_law_565 ?_
  refine c_cls (rest := []) C hw rfl (k4_back l D ty a b9 n cI cO ht0 ht1 a2 a3 a4 a5 s1 a6 a8 a9 u8 s10 s11 a7 s12 s0 I (xs (i + 1)) (xs (i + 2)) (xs (i + 3)) (xs (i + 4)) hR.hob hR.hobn hR.hn60 hR.he0 hR.he1 hR.he2 hR.how4) (cwV 4 hts gL_law_X4_back rfl rfl rfl (by decide +kernel) ⟨Nat.le_of_ble_eq_true rfl, Nat.le_of_ble_eq_true rfl⟩) rfl hl rfl (Nat.le_of_ble_eq_true rfl) dL_law_566 ⟨by omega, by omega⟩ (fun r4 w4 H locs hp4 hw => ?_)
  obtain ⟨e4, rfl⟩ := hp4
  refine lv_aload_n hx hb dL_law_569 rfl (lv_at hl 2 rfl) ?_
  refine l_arg (k := 1) C hw.2.2.2.1 hl (by omega) (by decide) dL_law_570 dL_law_571 dL_law_573 dL_law_574 dL_law_575 ?_
  refine l_arg (k := 2) C hw.2.2.2.1 hl (by omega) (by decide) dL_law_576 dL_law_577 dL_law_579 dL_law_580 dL_law_581 ?_
  refine l_arg (k := 3) C hw.2.2.2.1 hl (by omega) (by decide) dL_law_582 dL_law_583 dL_law_585 dL_law_586 dL_law_587 ?_
  refine l_arg (k := 4) C hw.2.2.2.1 hl (by omega) (by decide) dL_law_588 dL_law_589 dL_law_591 dL_law_592 dL_law_593 ?_
  refine c_ref (rest := [.int r4]) C hw rfl (k5_back l D ty a' cI ht0 s0 s1 a2 a3 a4 a5 a6 a7 a8 a9 s10 s11 s12 a13 a14 a15 a16 a17 a18 a19 a20 a21 s22 (xs (i + 1)) (xs (i + 2)) (xs (i + 3)) (xs (i + 4)) hR.hob hR.hob60 hR.he0 hR.he1 hR.how5) (cwV 4 hts gL_law_X5_back rfl rfl rfl (by decide +kernel) ⟨Nat.le_of_ble_eq_true rfl, Nat.le_of_ble_eq_true rfl⟩) rfl hl rfl (Nat.le_of_ble_eq_true rfl) dL_law_594 ⟨by omega, by omega⟩ (fun r5 w5 H locs hp5 hw => ?_)
  obtain ⟨e5, rfl⟩ := hp5
  have hq := q_back (a2 := a2) (a7 := a7) hR (xs (i + 1)) (xs (i + 2)) (xs (i + 3)) (xs (i + 4))
  obtain ⟨g1, g2, g3, hR2⟩ := hq
  rw [g2, g3] at hw
  refine lv_icmp_eq (tgt := 1067) hx hb dL_law_597 (by decide) (fun _ => ?_) (fun hne => absurd (by rw [e4, e5, g1]) hne)
  refine W.widen (k := cells + 6) (n := slots + 62) (by omega) (by omega) ?_
  exact kk _ _ _ ⟨a, b9, n, _, _, a', s0, s1, a2, a3, a4, a5, _, a7, a8, a9, _, s11, s12, a13, a14, a15, _, _, a18, a19, a20, a21, s22, f, rfl, rfl, hR2, rfl⟩ hw
