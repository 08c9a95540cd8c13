set_option maxHeartbeats 4000000 in
set_option maxRecDepth 100000 in
theorem lc_digest {p : Program} {l : Launch} {e : Env} {s : State} {m : MethodId} {below : List Frame} {meth : Method} {c : Code} {H : Heap} {locs : List Loc} {cells slots : Nat} {Q : State → Prop} {b L : Nat} {xs : Nat → Int32} {ls : Array Slot} {D : va_G} {ty : List (ClassId × FieldType)} {ws : va_W} {cI cO cL : ClassId} {q1 q2 q3 i : Nat} (C : LCx p s m c b L xs) (ht0 : ty[0]? = some (cI, .int)) (ht1 : ty[1]? = some (cO, .object "RentSizes$Item")) (hi : i + 4 < L) (hcl : cells + 6 ≤ 601024) (hsl : slots + 62 ≤ 7293034) (hI : LwI cI cO cL q1 q2 q3 ws) (hw : Wd D ty (LA s) s.heap s ws H locs) (hl : lv_has ls 8 (LV b q1 q2 q3 i))
    (kk : ∀ (ws : va_W) (H : Heap) (locs : List Loc), LwI cI cO cL q1 q2 q3 ws → Wd D ty (LA s) s.heap s ws H locs → W p l e room_1 s m #[Value.ref b] below meth c H locs (cells + 6) (slots + 62) Q (F0 m 1067 ls [])) : W p l e room_1 s m #[Value.ref b] below meth c H locs cells slots Q (F0 m 602 ls []) := by
  have hx := C.1
  have hb := C.2.1
  have hts := C.2.2.2.2.1
  obtain ⟨a, b9, n, u8, I, a', s0, s1, a2, a3, a4, a5, a6, a7, a8, a9, s10, s11, s12, a13, a14, a15, a16, a17, a18, a19, a20, a21, s22, f, ha, ha', hR, rfl⟩ := hI
  subst ha
  subst ha'
  refine lv_aload_n hx hb dL_law_602 rfl (lv_at hl 1 rfl) ?_
  refine l_arg (k := 1) C hw.2.2.2.1 hl (by omega) (by decide) dL_law_603 dL_law_604 dL_law_606 dL_law_607 dL_law_608 ?_
  refine c_cls (rest := []) C hw rfl (k4_digest l D ty a b9 n cI cO ht0 ht1 a2 a3 a4 a5 s1 a6 a8 a9 u8 s10 s11 a7 s12 s0 I (xs (i + 1)) hR.hob hR.hobn hR.hn60) (cwV 1 hts gL_law_X4_digest rfl rfl rfl (by decide +kernel) ⟨Nat.le_of_ble_eq_true rfl, Nat.le_of_ble_eq_true rfl⟩) rfl hl rfl (Nat.le_of_ble_eq_true rfl) dL_law_609 ⟨by omega, by omega⟩ (fun r4 w4 H locs hp4 hw => ?_)
  obtain ⟨e4, rfl⟩ := hp4
  refine lv_aload_n hx hb dL_law_612 rfl (lv_at hl 2 rfl) ?_
  refine l_arg (k := 1) C hw.2.2.2.1 hl (by omega) (by decide) dL_law_613 dL_law_614 dL_law_616 dL_law_617 dL_law_618 ?_
  refine c_ref (rest := [.int r4]) C hw rfl (k5_digest l D ty a' cI ht0 s0 s1 a2 a3 a4 a5 a6 a7 a8 a9 s10 s11 s12 a13 a14 a15 a16 a17 a18 a19 a20 a21 s22 (xs (i + 1)) hR.hob hR.hob60) (cwV 1 hts gL_law_X5_digest rfl rfl rfl (by decide +kernel) ⟨Nat.le_of_ble_eq_true rfl, Nat.le_of_ble_eq_true rfl⟩) rfl hl rfl (Nat.le_of_ble_eq_true rfl) dL_law_619 ⟨by omega, by omega⟩ (fun r5 w5 H locs hp5 hw => ?_)
  obtain ⟨e5, rfl⟩ := hp5
  have hq := q_digest hR (xs (i + 1))
  refine lv_icmp_eq (tgt := 1067) hx hb dL_law_622 (by decide) (fun _ => ?_) (fun hne => absurd (by rw [e4, e5, hq]) hne)
  refine W.widen (k := cells + 6) (n := slots + 62) (by omega) (by omega) ?_
  exact kk _ _ _ ⟨a, b9, n, u8, I, a', s0, s1, a2, a3, a4, a5, a6, a7, a8, a9, s10, s11, s12, a13, a14, a15, a16, a17, a18, a19, a20, a21, s22, f, rfl, rfl, hR, rfl⟩ hw
set_option maxHeartbeats 4000000 in
set_option maxRecDepth 100000 in
theorem lc_tick {p : Program} {l : Launch} {e : Env} {s : State} {m : MethodId} {below : List Frame} {meth : Method} {c : Code} {H : Heap} {locs : List Loc} {cells slots : Nat} {Q : State → Prop} {b L : Nat} {xs : Nat → Int32} {ls : Array Slot} {D : va_G} {ty : List (ClassId × FieldType)} {ws : va_W} {cI cO cL : ClassId} {q1 q2 q3 i : Nat} (C : LCx p s m c b L xs) (ht0 : ty[0]? = some (cI, .int)) (ht1 : ty[1]? = some (cO, .object "RentSizes$Item")) (hi : i + 4 < L) (hcl : cells + 6 ≤ 601024) (hsl : slots + 62 ≤ 7293034) (hI : LwI cI cO cL q1 q2 q3 ws) (hw : Wd D ty (LA s) s.heap s ws H locs) (hl : lv_has ls 8 (LV b q1 q2 q3 i))
    (kk : ∀ (ws : va_W) (H : Heap) (locs : List Loc), LwI cI cO cL q1 q2 q3 ws → Wd D ty (LA s) s.heap s ws H locs → W p l e room_1 s m #[Value.ref b] below meth c H locs (cells + 6) (slots + 62) Q (F0 m 1067 ls [])) : W p l e room_1 s m #[Value.ref b] below meth c H locs cells slots Q (F0 m 627 ls []) := by
  have hx := C.1
  have hb := C.2.1
  have hts := C.2.2.2.2.1
  obtain ⟨a, b9, n, u8, I, a', s0, s1, a2, a3, a4, a5, a6, a7, a8, a9, s10, s11, s12, a13, a14, a15, a16, a17, a18, a19, a20, a21, s22, f, ha, ha', hR, rfl⟩ := hI
  subst ha
  subst ha'
  refine lv_aload_n hx hb dL_law_627 rfl (lv_at hl 1 rfl) ?_
  refine l_arg (k := 1) C hw.2.2.2.1 hl (by omega) (by decide) dL_law_628 dL_law_629 dL_law_631 dL_law_632 dL_law_633 ?_
  refine c_cls (rest := []) C hw rfl (k4_tick l D ty a b9 n cI cO ht0 ht1 a2 a3 a4 a5 s1 a6 a8 a9 u8 s10 s11 a7 s12 s0 I (xs (i + 1)) hR.hob hR.hobn hR.hn60) (cwV 1 hts gL_law_X4_tick rfl rfl rfl (by decide +kernel) ⟨Nat.le_of_ble_eq_true rfl, Nat.le_of_ble_eq_true rfl⟩) rfl hl rfl (Nat.le_of_ble_eq_true rfl) dL_law_634 ⟨by omega, by omega⟩ (fun r4 w4 H locs hp4 hw => ?_)
  obtain ⟨e4, rfl⟩ := hp4
  refine lv_aload_n hx hb dL_law_637 rfl (lv_at hl 2 rfl) ?_
  refine l_arg (k := 1) C hw.2.2.2.1 hl (by omega) (by decide) dL_law_638 dL_law_639 dL_law_641 dL_law_642 dL_law_643 ?_
  refine c_ref (rest := [.int r4]) C hw rfl (k5_tick l D ty a' cI ht0 s0 s1 a2 a3 a4 a5 a6 a7 a8 a9 s10 s11 s12 a13 a14 a15 a16 a17 a18 a19 a20 a21 s22 (xs (i + 1)) hR.hob hR.hob60) (cwV 1 hts gL_law_X5_tick rfl rfl rfl (by decide +kernel) ⟨Nat.le_of_ble_eq_true rfl, Nat.le_of_ble_eq_true rfl⟩) rfl hl rfl (Nat.le_of_ble_eq_true rfl) dL_law_644 ⟨by omega, by omega⟩ (fun r5 w5 H locs hp5 hw => ?_)
  obtain ⟨e5, rfl⟩ := hp5
  have hq := q_tick (a8 := a8) (s11 := s11) hR (xs (i + 1))
  obtain ⟨g1, g2, g3, g4, g5, hR2⟩ := hq
  rw [g2, g3, g4, g5] at hw
  refine lv_icmp_eq (tgt := 1067) hx hb dL_law_647 (by decide) (fun _ => ?_) (fun hne => absurd (by rw [e4, e5, g1]) hne)
  refine W.widen (k := cells + 6) (n := slots + 62) (by omega) (by omega) ?_
  exact kk _ _ _ ⟨a, b9, n, u8, _, a', _, s1, a2, a3, a4, a5, a6, a7, _, a9, _, _, s12, a13, a14, a15, a16, _, a18, a19, a20, a21, s22, f, rfl, rfl, hR2, rfl⟩ hw
set_option maxHeartbeats 4000000 in
set_option maxRecDepth 100000 in
theorem lc_object {p : Program} {l : Launch} {e : Env} {s : State} {m : MethodId} {below : List Frame} {meth : Method} {c : Code} {H : Heap} {locs : List Loc} {cells slots : Nat} {Q : State → Prop} {b L : Nat} {xs : Nat → Int32} {ls : Array Slot} {D : va_G} {ty : List (ClassId × FieldType)} {ws : va_W} {cI cO cL : ClassId} {q1 q2 q3 i : Nat} (C : LCx p s m c b L xs) (ht0 : ty[0]? = some (cI, .int)) (ht1 : ty[1]? = some (cO, .object "RentSizes$Item")) (hi : i + 4 < L) (hcl : cells + 6 ≤ 601024) (hsl : slots + 62 ≤ 7293034) (hI : LwI cI cO cL q1 q2 q3 ws) (hw : Wd D ty (LA s) s.heap s ws H locs) (hl : lv_has ls 8 (LV b q1 q2 q3 i))
    (kk : ∀ (ws : va_W) (H : Heap) (locs : List Loc), LwI cI cO cL q1 q2 q3 ws → Wd D ty (LA s) s.heap s ws H locs → W p l e room_1 s m #[Value.ref b] below meth c H locs (cells + 6) (slots + 62) Q (F0 m 1067 ls [])) : W p l e room_1 s m #[Value.ref b] below meth c H locs cells slots Q (F0 m 726 ls []) := by
  have hx := C.1
  have hb := C.2.1
  have hts := C.2.2.2.2.1
  obtain ⟨a, b9, n, u8, I, a', s0, s1, a2, a3, a4, a5, a6, a7, a8, a9, s10, s11, s12, a13, a14, a15, a16, a17, a18, a19, a20, a21, s22, f, ha, ha', hR, rfl⟩ := hI
  subst ha
  subst ha'
  refine lv_aload_n hx hb dL_law_726 rfl (lv_at hl 1 rfl) ?_
  refine l_arg (k := 1) C hw.2.2.2.1 hl (by omega) (by decide) dL_law_727 dL_law_728 dL_law_730 dL_law_731 dL_law_732 ?_
  refine l_arg (k := 2) C hw.2.2.2.1 hl (by omega) (by decide) dL_law_733 dL_law_734 dL_law_736 dL_law_737 dL_law_738 ?_
  refine c_cls (rest := []) C hw rfl (k4_object l D ty a b9 n cI cO ht0 ht1 a2 a3 a4 a5 s1 a6 a8 a9 u8 s10 s11 a7 s12 s0 I (xs (i + 1)) (xs (i + 2)) hR.hob hR.hobn hR.hn60 hR.he0 hR.he1 hR.he2 hR.hlk4) (cwV 2 hts gL_law_X4_object rfl rfl rfl (by decide +kernel) ⟨Nat.le_of_ble_eq_true rfl, Nat.le_of_ble_eq_true rfl⟩) rfl hl rfl (Nat.le_of_ble_eq_true rfl) dL_law_739 ⟨by omega, by omega⟩ (fun r4 w4 H locs hp4 hw => ?_)
  obtain ⟨e4, rfl⟩ := hp4
  refine lv_aload_n hx hb dL_law_742 rfl (lv_at hl 2 rfl) ?_
  refine l_arg (k := 1) C hw.2.2.2.1 hl (by omega) (by decide) dL_law_743 dL_law_744 dL_law_746 dL_law_747 dL_law_748 ?_
  refine l_arg (k := 2) C hw.2.2.2.1 hl (by omega) (by decide) dL_law_749 dL_law_750 dL_law_752 dL_law_753 dL_law_754 ?_
  refine c_ref (rest := [.int r4]) C hw rfl (k5_object l D ty a' cI ht0 s0 s1 a2 a3 a4 a5 a6 a7 a8 a9 s10 s11 s12 a13 a14 a15 a16 a17 a18 a19 a20 a21 s22 (xs (i + 1)) (xs (i + 2)) hR.hob hR.hob60 hR.he0 hR.he1 hR.hlk5) (cwV 2 hts gL_law_X5_object rfl rfl rfl (by decide +kernel) ⟨Nat.le_of_ble_eq_true rfl, Nat.le_of_ble_eq_true rfl⟩) rfl hl rfl (Nat.le_of_ble_eq_true rfl) dL_law_755 ⟨by omega, by omega⟩ (fun r5 w5 H locs hp5 hw => ?_)
  obtain ⟨e5, rfl⟩ := hp5
  have hq := q_object (a2 := a2) hR (xs (i + 1)) (xs (i + 2))
  refine lv_icmp_eq (tgt := 1067) hx hb dL_law_758 (by decide) (fun _ => ?_) (fun hne => absurd (by rw [e4, e5, hq]) hne)
  refine W.widen (k := cells + 6) (n := slots + 62) (by omega) (by omega) ?_
  exact kk _ _ _ ⟨a, b9, n, u8, I, a', s0, s1, a2, a3, a4, a5, a6, a7, a8, a9, s10, s11, s12, a13, a14, a15, a16, a17, a18, a19, a20, a21, s22, f, rfl, rfl, hR, rfl⟩ hw
set_option maxHeartbeats 4000000 in
set_option maxRecDepth 100000 in
theorem lc_layer {p : Program} {l : Launch} {e : Env} {s : State} {m : MethodId} {below : List Frame} {meth : Method} {c : Code} {H : Heap} {locs : List Loc} {cells slots : Nat} {Q : State → Prop} {b L : Nat} {xs : Nat → Int32} {ls : Array Slot} {D : va_G} {ty : List (ClassId × FieldType)} {ws : va_W} {cI cO cL : ClassId} {q1 q2 q3 i : Nat} (C : LCx p s m c b L xs) (ht0 : ty[0]? = some (cI, .int)) (ht1 : ty[1]? = some (cO, .object "RentSizes$Item")) (hi : i + 4 < L) (hcl : cells + 6 ≤ 601024) (hsl : slots + 62 ≤ 7293034) (hI : LwI cI cO cL q1 q2 q3 ws) (hw : Wd D ty (LA s) s.heap s ws H locs) (hl : lv_has ls 8 (LV b q1 q2 q3 i))
    (kk : ∀ (ws : va_W) (H : Heap) (locs : List Loc), LwI cI cO cL q1 q2 q3 ws → Wd D ty (LA s) s.heap s ws H locs → W p l e room_1 s m #[Value.ref b] below meth c H locs (cells + 6) (slots + 62) Q (F0 m 1067 ls [])) : W p l e room_1 s m #[Value.ref b] below meth c H locs cells slots Q (F0 m 763 ls []) := by
  have hx := C.1
  have hb := C.2.1
  have hts := C.2.2.2.2.1
  obtain ⟨a, b9, n, u8, I, a', s0, s1, a2, a3, a4, a5, a6, a7, a8, a9, s10, s11, s12, a13, a14, a15, a16, a17, a18, a19, a20, a21, s22, f, ha, ha', hR, rfl⟩ := hI
  subst ha
  subst ha'
  refine lv_aload_n hx hb dL_law_763 rfl (lv_at hl 1 rfl) ?_
  refine l_arg (k := 1) C hw.2.2.2.1 hl (by omega) (by decide) dL_law_764 dL_law_765 dL_law_767 dL_law_768 dL_law_769 ?_
  refine l_arg (k := 2) C hw.2.2.2.1 hl (by omega) (by decide) dL_law_770 dL_law_771 dL_law_773 dL_law_774 dL_law_775 ?_
  refine l_arg (k := 3) C hw.2.2.2.1 hl (by omega) (by decide) dL_law_776 dL_law_777 dL_law_779 dL_law_780 dL_law_781 ?_
  refine c_cls (rest := []) C hw rfl (k4_layer l D ty a b9 n cI cO ht0 ht1 a2 a3 a4 a5 s1 a6 a8 a9 u8 s10 s11 a7 s12 s0 I (xs (i + 1)) (xs (i + 2)) (xs (i + 3)) hR.hob hR.hobn hR.hn60 hR.hlk4) (cwV 3 hts gL_law_X4_layer rfl rfl rfl (by decide +kernel) ⟨Nat.le_of_ble_eq_true rfl, Nat.le_of_ble_eq_true rfl⟩) rfl hl rfl (Nat.le_of_ble_eq_true rfl) dL_law_782 ⟨by omega, by omega⟩ (fun r4 w4 H locs hp4 hw => ?_)
  obtain ⟨e4, rfl⟩ := hp4
  refine lv_aload_n hx hb dL_law_785 rfl (lv_at hl 2 rfl) ?_
  refine l_arg (k := 1) C hw.2.2.2.1 hl (by omega) (by decide) dL_law_786 dL_law_787 dL_law_789 dL_law_790 dL_law_791 ?_
  refine l_arg (k := 2) C hw.2.2.2.1 hl (by omega) (by decide) dL_law_792 dL_law_793 dL_law_795 dL_law_796 dL_law_797 ?_
  refine l_arg (k := 3) C hw.2.2.2.1 hl (by omega) (by decide) dL_law_798 dL_law_799 dL_law_801 dL_law_802 dL_law_803 ?_
  refine c_ref (rest := [.int r4]) C hw rfl (k5_layer l D ty a' cI ht0 s0 s1 a2 a3 a4 a5 a6 a7 a8 a9 s10 s11 s12 a13 a14 a15 a16 a17 a18 a19 a20 a21 s22 (xs (i + 1)) (xs (i + 2)) (xs (i + 3)) hR.hob hR.hob60 hR.hlk5) (cwV 3 hts gL_law_X5_layer rfl rfl rfl (by decide +kernel) ⟨Nat.le_of_ble_eq_true rfl, Nat.le_of_ble_eq_true rfl⟩) rfl hl rfl (Nat.le_of_ble_eq_true rfl) dL_law_804 ⟨by omega, by omega⟩ (fun r5 w5 H locs hp5 hw => ?_)
  obtain ⟨e5, rfl⟩ := hp5
  have hq := q_layer hR (xs (i + 1)) (xs (i + 2)) (xs (i + 3))
  refine lv_icmp_eq (tgt := 1067) hx hb dL_law_807 (by decide) (fun _ => ?_) (fun hne => absurd (by rw [e4, e5, hq]) hne)
  refine W.widen (k := cells + 6) (n := slots + 62) (by omega) (by omega) ?_
  exact kk _ _ _ ⟨a, b9, n, u8, I, a', s0, s1, a2, a3, a4, a5, a6, a7, a8, a9, s10, s11, s12, a13, a14, a15, a16, a17, a18, a19, a20, a21, s22, f, rfl, rfl, hR, rfl⟩ hw
set_option maxHeartbeats 4000000 in
set_option maxRecDepth 100000 in
theorem lc_word {p : Program} {l : Launch} {e : Env} {s : State} {m : MethodId} {below : List Frame} {meth : Method} {c : Code} {H : Heap} {locs : List Loc} {cells slots : Nat} {Q : State → Prop} {b L : Nat} {xs : Nat → Int32} {ls : Array Slot} {D : va_G} {ty : List (ClassId × FieldType)} {ws : va_W} {cI cO cL : ClassId} {q1 q2 q3 i : Nat} (C : LCx p s m c b L xs) (ht0 : ty[0]? = some (cI, .int)) (ht1 : ty[1]? = some (cO, .object "RentSizes$Item")) (hi : i + 4 < L) (hcl : cells + 6 ≤ 601024) (hsl : slots + 62 ≤ 7293034) (hI : LwI cI cO cL q1 q2 q3 ws) (hw : Wd D ty (LA s) s.heap s ws H locs) (hl : lv_has ls 8 (LV b q1 q2 q3 i))
    (kk : ∀ (ws : va_W) (H : Heap) (locs : List Loc), LwI cI cO cL q1 q2 q3 ws → Wd D ty (LA s) s.heap s ws H locs → W p l e room_1 s m #[Value.ref b] below meth c H locs (cells + 6) (slots + 62) Q (F0 m 1067 ls [])) : W p l e room_1 s m #[Value.ref b] below meth c H locs cells slots Q (F0 m 812 ls []) := by
  have hx := C.1
  have hb := C.2.1
  have hts := C.2.2.2.2.1
  obtain ⟨a, b9, n, u8, I, a', s0, s1, a2, a3, a4, a5, a6, a7, a8, a9, s10, s11, s12, a13, a14, a15, a16, a17, a18, a19, a20, a21, s22, f, ha, ha', hR, rfl⟩ := hI
  subst ha
  subst ha'
  refine lv_aload_n hx hb dL_law_812 rfl (lv_at hl 1 rfl) ?_
  refine l_arg (k := 1) C hw.2.2.2.1 hl (by omega) (by decide) dL_law_813 dL_law_814 dL_law_816 dL_law_817 dL_law_818 ?_
  refine l_arg (k := 2) C hw.2.2.2.1 hl (by omega) (by decide) dL_law_819 dL_law_820 dL_law_822 dL_law_823 dL_law_824 ?_
  refine c_cls (rest := []) C hw rfl (k4_word l D ty a b9 n cI cO ht0 ht1 a2 a3 a4 a5 s1 a6 a8 a9 u8 s10 s11 a7 s12 s0 I (xs (i + 1)) (xs (i + 2)) hR.hob hR.hobn hR.hn60) (cwV 2 hts gL_law_X4_word rfl rfl rfl (by decide +kernel) ⟨Nat.le_of_ble_eq_true rfl, Nat.le_of_ble_eq_true rfl⟩) rfl hl rfl (Nat.le_of_ble_eq_true rfl) dL_law_825 ⟨by omega, by omega⟩ (fun r4 w4 H locs hp4 hw => ?_)
  obtain ⟨e4, rfl⟩ := hp4
  refine lv_aload_n hx hb dL_law_828 rfl (lv_at hl 2 rfl) ?_
  refine l_arg (k := 1) C hw.2.2.2.1 hl (by omega) (by decide) dL_law_829 dL_law_830 dL_law_832 dL_law_833 dL_law_834 ?_
  refine l_arg (k := 2) C hw.2.2.2.1 hl (by omega) (by decide) dL_law_835 dL_law_836 dL_law_838 dL_law_839 dL_law_840 ?_
  refine c_ref (rest := [.int r4]) C hw rfl (k5_word l D ty a' cI ht0 s0 s1 a2 a3 a4 a5 a6 a7 a8 a9 s10 s11 s12 a13 a14 a15 a16 a17 a18 a19 a20 a21 s22 (xs (i + 1)) (xs (i + 2)) hR.hob hR.hob60) (cwV 2 hts gL_law_X5_word rfl rfl rfl (by decide +kernel) ⟨Nat.le_of_ble_eq_true rfl, Nat.le_of_ble_eq_true rfl⟩) rfl hl rfl (Nat.le_of_ble_eq_true rfl) dL_law_841 ⟨by omega, by omega⟩ (fun r5 w5 H locs hp5 hw => ?_)
  obtain ⟨e5, rfl⟩ := hp5
  have hq := q_word hR (xs (i + 1)) (xs (i + 2))
  refine lv_icmp_eq (tgt := 1067) hx hb dL_law_844 (by decide) (fun _ => ?_) (fun hne => absurd (by rw [e4, e5, hq]) hne)
  refine W.widen (k := cells + 6) (n := slots + 62) (by omega) (by omega) ?_
  exact kk _ _ _ ⟨a, b9, n, u8, I, a', s0, s1, a2, a3, a4, a5, a6, a7, a8, a9, s10, s11, s12, a13, a14, a15, a16, a17, a18, a19, a20, a21, s22, f, rfl, rfl, hR, rfl⟩ hw
set_option maxHeartbeats 4000000 in
set_option maxRecDepth 100000 in
theorem lc_wouldGive {p : Program} {l : Launch} {e : Env} {s : State} {m : MethodId} {below : List Frame} {meth : Method} {c : Code} {H : Heap} {locs : List Loc} {cells slots : Nat} {Q : State → Prop} {b L : Nat} {xs : Nat → Int32} {ls : Array Slot} {D : va_G} {ty : List (ClassId × FieldType)} {ws : va_W} {cI cO cL : ClassId} {q1 q2 q3 i : Nat} (C : LCx p s m c b L xs) (ht0 : ty[0]? = some (cI, .int)) (ht1 : ty[1]? = some (cO, .object "RentSizes$Item")) (hi : i + 4 < L) (hcl : cells + 6 ≤ 601024) (hsl : slots + 62 ≤ 7293034) (hI : LwI cI cO cL q1 q2 q3 ws) (hw : Wd D ty (LA s) s.heap s ws H locs) (hl : lv_has ls 8 (LV b q1 q2 q3 i))
    (kk : ∀ (ws : va_W) (H : Heap) (locs : List Loc), LwI cI cO cL q1 q2 q3 ws → Wd D ty (LA s) s.heap s ws H locs → W p l e room_1 s m #[Value.ref b] below meth c H locs (cells + 6) (slots + 62) Q (F0 m 1067 ls [])) : W p l e room_1 s m #[Value.ref b] below meth c H locs cells slots Q (F0 m 849 ls []) := by
  have hx := C.1
  have hb := C.2.1
  have hts := C.2.2.2.2.1
  obtain ⟨a, b9, n, u8, I, a', s0, s1, a2, a3, a4, a5, a6, a7, a8, a9, s10, s11, s12, a13, a14, a15, a16, a17, a18, a19, a20, a21, s22, f, ha, ha', hR, rfl⟩ := hI
  subst ha
  subst ha'
  refine lv_aload_n hx hb dL_law_849 rfl (lv_at hl 1 rfl) ?_
  refine l_arg (k := 1) C hw.2.2.2.1 hl (by omega) (by decide) dL_law_850 dL_law_851 dL_law_853 dL_law_854 dL_law_855 ?_
  refine l_arg (k := 2) C hw.2.2.2.1 hl (by omega) (by decide) dL_law_856 dL_law_857 dL_law_859 dL_law_860 dL_law_861 ?_
  refine l_arg (k := 3) C hw.2.2.2.1 hl (by omega) (by decide) dL_law_862 dL_law_863 dL_law_865 dL_law_866 dL_law_867 ?_
  refine c_cls (rest := []) C hw rfl (k4_wouldGive l D ty a b9 n cI cO ht0 ht1 a2 a3 a4 a5 s1 a6 a8 a9 u8 s10 s11 a7 s12 s0 I (xs (i + 1)) (xs (i + 2)) (xs (i + 3)) hR.hob hR.hobn hR.hn60 hR.hlk4) (cwV 3 hts gL_law_X4_wouldGive rfl rfl rfl (by decide +kernel) ⟨Nat.le_of_ble_eq_true rfl, Nat.le_of_ble_eq_true rfl⟩) rfl hl rfl (Nat.le_of_ble_eq_true rfl) dL_law_868 ⟨by omega, by omega⟩ (fun r4 w4 H locs hp4 hw => ?_)
  obtain ⟨e4, rfl⟩ := hp4
  refine lv_aload_n hx hb dL_law_871 rfl (lv_at hl 2 rfl) ?_
  refine l_arg (k := 1) C hw.2.2.2.1 hl (by omega) (by decide) dL_law_872 dL_law_873 dL_law_875 dL_law_876 dL_law_877 ?_
  refine l_arg (k := 2) C hw.2.2.2.1 hl (by omega) (by decide) dL_law_878 dL_law_879 dL_law_881 dL_law_882 dL_law_883 ?_
  refine l_arg (k := 3) C hw.2.2.2.1 hl (by omega) (by decide) dL_law_884 dL_law_885 dL_law_887 dL_law_888 dL_law_889 ?_
  refine c_ref (rest := [.int r4]) C hw rfl (k5_wouldGive l D ty a' cI ht0 s0 s1 a2 a3 a4 a5 a6 a7 a8 a9 s10 s11 s12 a13 a14 a15 a16 a17 a18 a19 a20 a21 s22 (xs (i + 1)) (xs (i + 2)) (xs (i + 3)) hR.hob hR.hob60 hR.hlk5) (cwV 3 hts gL_law_X5_wouldGive rfl rfl rfl (by decide +kernel) ⟨Nat.le_of_ble_eq_true rfl, Nat.le_of_ble_eq_true rfl⟩) rfl hl rfl (Nat.le_of_ble_eq_true rfl) dL_law_890 ⟨by omega, by omega⟩ (fun r5 w5 H locs hp5 hw => ?_)
  obtain ⟨e5, rfl⟩ := hp5
  have hq := q_wouldGive hR (xs (i + 1)) (xs (i + 2)) (xs (i + 3))
  refine lv_icmp_eq (tgt := 1067) hx hb dL_law_893 (by decide) (fun _ => ?_) (fun hne => absurd (by rw [e4, e5, hq]) hne)
  refine W.widen (k := cells + 6) (n := slots + 62) (by omega) (by omega) ?_
  exact kk _ _ _ ⟨a, b9, n, u8, I, a', s0, s1, a2, a3, a4, a5, a6, a7, a8, a9, s10, s11, s12, a13, a14, a15, a16, a17, a18, a19, a20, a21, s22, f, rfl, rfl, hR, rfl⟩ hw
