theorem q_clr4 (a2 a3 a4 a5 a6 a7 a8 a9 : Nat → Int32) (s12 : Int32) : f4_clear a2 a3 a4 a5 a6 a8 a9 a7 s12 = (s12, upd a2 0 0, upd a3 0 10, upd a4 0 1, upd a5 0 8, 1, lf7_fill_53178_5 100000 6 0 a6, lf7_fill_53178_5 0 5 0 a8, lf7_fill_53178_5 0 5 0 a9, 0, 0, 0, lf7_fill_53178_5 1000 6 0 a7, 0, 0) := by
  unfold f4_clear
  rw [bg_cls]
theorem q_clr5 (a2 a3 a4 a5 a6 a7 a8 a9 : Nat → Int32) (s12 : Int32) : f5_clear a2 a3 a4 a5 a6 a7 a8 a9 s12 = (s12, 0, 1, upd a2 0 0, upd a3 0 10, upd a4 0 1, upd a5 0 8, lf7_fill_53178_5 100000 6 0 a6, lf7_fill_53178_5 1000 6 0 a7, lf7_fill_53178_5 0 5 0 a8, lf7_fill_53178_5 0 5 0 a9, 0, 0, 0) := by
  unfold f5_clear
  rw [bg_ref]
set_option maxHeartbeats 4000000 in
set_option maxRecDepth 100000 in
theorem lc_edition {p : Program} {l : Launch} {e : Env} {s : State} {m : MethodId} {below : List Frame} {meth : Method} {c : Code} {H : Heap} {locs : List Loc} {cells slots : Nat} {Q : State → Prop} {b L : Nat} {xs : Nat → Int32} {ls : Array Slot} {D : va_G} {ty : List (ClassId × FieldType)} {ws : va_W} {cI cO cL : ClassId} {q1 q2 q3 i : Nat} (C : LCx p s m c b L xs) (ht0 : ty[0]? = some (cI, .int)) (ht1 : ty[1]? = some (cO, .object "RentSizes$Item")) (hi : i + 4 < L) (hcl : cells + 6 ≤ 601024) (hsl : slots + 62 ≤ 7293034) (hI : LwI cI cO cL q1 q2 q3 ws) (hw : Wd D ty (LA s) s.heap s ws H locs) (hl : lv_has ls 8 (LV b q1 q2 q3 i))
    (kk : ∀ (ws : va_W) (H : Heap) (locs : List Loc), LwI cI cO cL q1 q2 q3 ws → Wd D ty (LA s) s.heap s ws H locs → W p l e room_1 s m #[Value.ref b] below meth c H locs (cells + 6) (slots + 62) Q (F0 m 1067 ls [])) : W p l e room_1 s m #[Value.ref b] below meth c H locs cells slots Q (F0 m 136 ls []) := by
  have hx := C.1
  have hb := C.2.1
  have hts := C.2.2.2.2.1
  obtain ⟨a, b9, n, u8, I, a', s0, s1, a2, a3, a4, a5, a6, a7, a8, a9, s10, s11, s12, a13, a14, a15, a16, a17, a18, a19, a20, a21, s22, f, ha, ha', hR, rfl⟩ := hI
  subst ha
  subst ha'
  refine lv_aload_n hx hb dL_law_136 rfl (lv_at hl 1 rfl) ?_
  refine l_arg (k := 1) C hw.2.2.2.1 hl (by omega) (by decide) dL_law_137 dL_law_138 dL_law_140 dL_law_141 dL_law_142 ?_
  refine l_arg (k := 2) C hw.2.2.2.1 hl (by omega) (by decide) dL_law_143 dL_law_144 dL_law_146 dL_law_147 dL_law_148 ?_
  refine l_arg (k := 3) C hw.2.2.2.1 hl (by omega) (by decide) dL_law_149 dL_law_150 dL_law_152 dL_law_153 dL_law_154 ?_
  refine l_arg (k := 4) C hw.2.2.2.1 hl (by omega) (by decide) dL_law_155 dL_law_156 dL_law_158 dL_law_159 dL_law_160 ?_
  refine c_cls (rest := []) C hw rfl (k4_edition l D ty a b9 n cI cO ht0 ht1 a2 a3 a4 a5 s1 a6 a8 a9 u8 s10 s11 a7 s12 s0 I (xs (i + 1)) (xs (i + 2)) (xs (i + 3)) (xs (i + 4)) hR.he0 hR.he1) (cwV 4 hts gL_law_X4_edition rfl rfl rfl (by decide +kernel) ⟨Nat.le_of_ble_eq_true rfl, Nat.le_of_ble_eq_true rfl⟩) rfl hl rfl (Nat.le_of_ble_eq_true rfl) dL_law_161 ⟨by omega, by omega⟩ (fun r4 w4 H locs hp4 hw => ?_)
  obtain ⟨e4, rfl⟩ := hp4
  refine lv_aload_n hx hb dL_law_164 rfl (lv_at hl 2 rfl) ?_
  refine l_arg (k := 1) C hw.2.2.2.1 hl (by omega) (by decide) dL_law_165 dL_law_166 dL_law_168 dL_law_169 dL_law_170 ?_
  refine l_arg (k := 2) C hw.2.2.2.1 hl (by omega) (by decide) dL_law_171 dL_law_172 dL_law_174 dL_law_175 dL_law_176 ?_
  refine l_arg (k := 3) C hw.2.2.2.1 hl (by omega) (by decide) dL_law_177 dL_law_178 dL_law_180 dL_law_181 dL_law_182 ?_
  refine l_arg (k := 4) C hw.2.2.2.1 hl (by omega) (by decide) dL_law_183 dL_law_184 dL_law_186 dL_law_187 dL_law_188 ?_
  refine c_ref (rest := [.int r4]) C hw rfl (k5_edition l D ty a' cI ht0 s0 s1 a2 a3 a4 a5 a6 a7 a8 a9 s10 s11 s12 a13 a14 a15 a16 a17 a18 a19 a20 a21 s22 (xs (i + 1)) (xs (i + 2)) (xs (i + 3)) (xs (i + 4)) hR.he0 hR.he1 hR.he2) (cwV 4 hts gL_law_X5_edition rfl rfl rfl (by decide +kernel) ⟨Nat.le_of_ble_eq_true rfl, Nat.le_of_ble_eq_true rfl⟩) rfl hl rfl (Nat.le_of_ble_eq_true rfl) dL_law_189 ⟨by omega, by omega⟩ (fun r5 w5 H locs hp5 hw => ?_)
  obtain ⟨e5, rfl⟩ := hp5
  have hq := q_edition (a2 := a2) hR (xs (i + 1)) (xs (i + 2)) (xs (i + 3)) (xs (i + 4))
  obtain ⟨g1, g2, g3, g4, g5, g6, hR2⟩ := hq
  rw [g2, g3, g4, g5, g6] at hw
  refine lv_icmp_eq (tgt := 1067) hx hb dL_law_192 (by decide) (fun _ => ?_) (fun hne => absurd (by rw [e4, e5, g1]) hne)
  refine W.widen (k := cells + 6) (n := slots + 62) (by omega) (by omega) ?_
  exact kk _ _ _ ⟨a, b9, n, u8, I, a', s0, _, _, _, _, _, a6, a7, a8, a9, s10, s11, s12, a13, a14, a15, a16, a17, a18, a19, a20, a21, s22, f, rfl, rfl, hR2, rfl⟩ hw
set_option maxHeartbeats 4000000 in
set_option maxRecDepth 100000 in
theorem lc_priceAt {p : Program} {l : Launch} {e : Env} {s : State} {m : MethodId} {below : List Frame} {meth : Method} {c : Code} {H : Heap} {locs : List Loc} {cells slots : Nat} {Q : State → Prop} {b L : Nat} {xs : Nat → Int32} {ls : Array Slot} {D : va_G} {ty : List (ClassId × FieldType)} {ws : va_W} {cI cO cL : ClassId} {q1 q2 q3 i : Nat} (C : LCx p s m c b L xs) (ht0 : ty[0]? = some (cI, .int)) (ht1 : ty[1]? = some (cO, .object "RentSizes$Item")) (hi : i + 4 < L) (hcl : cells + 6 ≤ 601024) (hsl : slots + 62 ≤ 7293034) (hI : LwI cI cO cL q1 q2 q3 ws) (hw : Wd D ty (LA s) s.heap s ws H locs) (hl : lv_has ls 8 (LV b q1 q2 q3 i))
    (kk : ∀ (ws : va_W) (H : Heap) (locs : List Loc), LwI cI cO cL q1 q2 q3 ws → Wd D ty (LA s) s.heap s ws H locs → W p l e room_1 s m #[Value.ref b] below meth c H locs (cells + 6) (slots + 62) Q (F0 m 1067 ls [])) : W p l e room_1 s m #[Value.ref b] below meth c H locs cells slots Q (F0 m 197 ls []) := by
  have hx := C.1
  have hb := C.2.1
  have hts := C.2.2.2.2.1
  obtain ⟨a, b9, n, u8, I, a', s0, s1, a2, a3, a4, a5, a6, a7, a8, a9, s10, s11, s12, a13, a14, a15, a16, a17, a18, a19, a20, a21, s22, f, ha, ha', hR, rfl⟩ := hI
  subst ha
  subst ha'
  refine lv_aload_n hx hb dL_law_197 rfl (lv_at hl 1 rfl) ?_
  refine l_arg (k := 1) C hw.2.2.2.1 hl (by omega) (by decide) dL_law_198 dL_law_199 dL_law_201 dL_law_202 dL_law_203 ?_
  refine l_arg (k := 2) C hw.2.2.2.1 hl (by omega) (by decide) dL_law_204 dL_law_205 dL_law_207 dL_law_208 dL_law_209 ?_
  refine c_cls (rest := []) C hw rfl (k4_priceAt l D ty a b9 n cI cO ht0 ht1 a2 a3 a4 a5 s1 a6 a8 a9 u8 s10 s11 a7 s12 s0 I (xs (i + 1)) (xs (i + 2)) hR.he0 hR.he1 hR.he2) (cwV 2 hts gL_law_X4_priceAt rfl rfl rfl (by decide +kernel) ⟨Nat.le_of_ble_eq_true rfl, Nat.le_of_ble_eq_true rfl⟩) rfl hl rfl (Nat.le_of_ble_eq_true rfl) dL_law_210 ⟨by omega, by omega⟩ (fun r4 w4 H locs hp4 hw => ?_)
  obtain ⟨e4, rfl⟩ := hp4
  refine lv_aload_n hx hb dL_law_213 rfl (lv_at hl 2 rfl) ?_
  refine l_arg (k := 1) C hw.2.2.2.1 hl (by omega) (by decide) dL_law_214 dL_law_215 dL_law_217 dL_law_218 dL_law_219 ?_
  refine l_arg (k := 2) C hw.2.2.2.1 hl (by omega) (by decide) dL_law_220 dL_law_221 dL_law_223 dL_law_224 dL_law_225 ?_
  refine c_ref (rest := [.int r4]) C hw rfl (k5_priceAt l D ty a' cI ht0 s0 s1 a2 a3 a4 a5 a6 a7 a8 a9 s10 s11 s12 a13 a14 a15 a16 a17 a18 a19 a20 a21 s22 (xs (i + 1)) (xs (i + 2)) hR.he0 hR.he1) (cwV 2 hts gL_law_X5_priceAt rfl rfl rfl (by decide +kernel) ⟨Nat.le_of_ble_eq_true rfl, Nat.le_of_ble_eq_true rfl⟩) rfl hl rfl (Nat.le_of_ble_eq_true rfl) dL_law_226 ⟨by omega, by omega⟩ (fun r5 w5 H locs hp5 hw => ?_)
  obtain ⟨e5, rfl⟩ := hp5
  have hq := q_priceAt a2 a3 a4 a5 (xs (i + 1)) (xs (i + 2)) hR.he2
  refine lv_icmp_eq (tgt := 1067) hx hb dL_law_229 (by decide) (fun _ => ?_) (fun hne => absurd (by rw [e4, e5, hq]) hne)
  refine W.widen (k := cells + 6) (n := slots + 62) (by omega) (by omega) ?_
  exact kk _ _ _ ⟨a, b9, n, u8, I, a', s0, s1, a2, a3, a4, a5, a6, a7, a8, a9, s10, s11, s12, a13, a14, a15, a16, a17, a18, a19, a20, a21, s22, f, rfl, rfl, hR, rfl⟩ hw
set_option maxHeartbeats 4000000 in
set_option maxRecDepth 100000 in
theorem lc_cap {p : Program} {l : Launch} {e : Env} {s : State} {m : MethodId} {below : List Frame} {meth : Method} {c : Code} {H : Heap} {locs : List Loc} {cells slots : Nat} {Q : State → Prop} {b L : Nat} {xs : Nat → Int32} {ls : Array Slot} {D : va_G} {ty : List (ClassId × FieldType)} {ws : va_W} {cI cO cL : ClassId} {q1 q2 q3 i : Nat} (C : LCx p s m c b L xs) (ht0 : ty[0]? = some (cI, .int)) (ht1 : ty[1]? = some (cO, .object "RentSizes$Item")) (hi : i + 4 < L) (hcl : cells + 6 ≤ 601024) (hsl : slots + 62 ≤ 7293034) (hI : LwI cI cO cL q1 q2 q3 ws) (hw : Wd D ty (LA s) s.heap s ws H locs) (hl : lv_has ls 8 (LV b q1 q2 q3 i))
    (kk : ∀ (ws : va_W) (H : Heap) (locs : List Loc), LwI cI cO cL q1 q2 q3 ws → Wd D ty (LA s) s.heap s ws H locs → W p l e room_1 s m #[Value.ref b] below meth c H locs (cells + 6) (slots + 62) Q (F0 m 1067 ls [])) : W p l e room_1 s m #[Value.ref b] below meth c H locs cells slots Q (F0 m 234 ls []) := by
  have hx := C.1
  have hb := C.2.1
  have hts := C.2.2.2.2.1
  obtain ⟨a, b9, n, u8, I, a', s0, s1, a2, a3, a4, a5, a6, a7, a8, a9, s10, s11, s12, a13, a14, a15, a16, a17, a18, a19, a20, a21, s22, f, ha, ha', hR, rfl⟩ := hI
  subst ha
  subst ha'
  refine lv_aload_n hx hb dL_law_234 rfl (lv_at hl 1 rfl) ?_
  refine l_arg (k := 1) C hw.2.2.2.1 hl (by omega) (by decide) dL_law_235 dL_law_236 dL_law_238 dL_law_239 dL_law_240 ?_
  refine l_arg (k := 2) C hw.2.2.2.1 hl (by omega) (by decide) dL_law_241 dL_law_242 dL_law_244 dL_law_245 dL_law_246 ?_
  refine c_cls (rest := []) C hw rfl (k4_cap l D ty a b9 n cI cO ht0 ht1 a2 a3 a4 a5 s1 a6 a8 a9 u8 s10 s11 a7 s12 s0 I (xs (i + 1)) (xs (i + 2)) ) (cwV 2 hts gL_law_X4_cap rfl rfl rfl (by decide +kernel) ⟨Nat.le_of_ble_eq_true rfl, Nat.le_of_ble_eq_true rfl⟩) rfl hl rfl (Nat.le_of_ble_eq_true rfl) dL_law_247 ⟨by omega, by omega⟩ (fun r4 w4 H locs hp4 hw => ?_)
  obtain ⟨e4, rfl⟩ := hp4
  refine lv_aload_n hx hb dL_law_250 rfl (lv_at hl 2 rfl) ?_
  refine l_arg (k := 1) C hw.2.2.2.1 hl (by omega) (by decide) dL_law_251 dL_law_252 dL_law_254 dL_law_255 dL_law_256 ?_
  refine l_arg (k := 2) C hw.2.2.2.1 hl (by omega) (by decide) dL_law_257 dL_law_258 dL_law_260 dL_law_261 dL_law_262 ?_
  refine c_ref (rest := [.int r4]) C hw rfl (k5_cap l D ty a' cI ht0 s0 s1 a2 a3 a4 a5 a6 a7 a8 a9 s10 s11 s12 a13 a14 a15 a16 a17 a18 a19 a20 a21 s22 (xs (i + 1)) (xs (i + 2)) ) (cwV 2 hts gL_law_X5_cap rfl rfl rfl (by decide +kernel) ⟨Nat.le_of_ble_eq_true rfl, Nat.le_of_ble_eq_true rfl⟩) rfl hl rfl (Nat.le_of_ble_eq_true rfl) dL_law_263 ⟨by omega, by omega⟩ (fun r5 w5 H locs hp5 hw => ?_)
  obtain ⟨e5, rfl⟩ := hp5
  rw [q_cap] at hw e4
  refine lv_icmp_eq (tgt := 1067) hx hb dL_law_266 (by decide) (fun _ => ?_) (fun hne => absurd (by rw [e4, e5]) hne)
  refine W.widen (k := cells + 6) (n := slots + 62) (by omega) (by omega) ?_
  exact kk _ _ _ ⟨a, b9, n, u8, I, a', s0, s1, a2, a3, a4, a5, a6, _, a8, a9, s10, s11, s12, a13, a14, a15, a16, a17, a18, a19, a20, a21, s22, f, rfl, rfl, hR, rfl⟩ hw
set_option maxHeartbeats 4000000 in
set_option maxRecDepth 100000 in
theorem lc_weight {p : Program} {l : Launch} {e : Env} {s : State} {m : MethodId} {below : List Frame} {meth : Method} {c : Code} {H : Heap} {locs : List Loc} {cells slots : Nat} {Q : State → Prop} {b L : Nat} {xs : Nat → Int32} {ls : Array Slot} {D : va_G} {ty : List (ClassId × FieldType)} {ws : va_W} {cI cO cL : ClassId} {q1 q2 q3 i : Nat} (C : LCx p s m c b L xs) (ht0 : ty[0]? = some (cI, .int)) (ht1 : ty[1]? = some (cO, .object "RentSizes$Item")) (hi : i + 4 < L) (hcl : cells + 6 ≤ 601024) (hsl : slots + 62 ≤ 7293034) (hI : LwI cI cO cL q1 q2 q3 ws) (hw : Wd D ty (LA s) s.heap s ws H locs) (hl : lv_has ls 8 (LV b q1 q2 q3 i))
    (kk : ∀ (ws : va_W) (H : Heap) (locs : List Loc), LwI cI cO cL q1 q2 q3 ws → Wd D ty (LA s) s.heap s ws H locs → W p l e room_1 s m #[Value.ref b] below meth c H locs (cells + 6) (slots + 62) Q (F0 m 1067 ls [])) : W p l e room_1 s m #[Value.ref b] below meth c H locs cells slots Q (F0 m 652 ls []) := by
  have hx := C.1
  have hb := C.2.1
  have hts := C.2.2.2.2.1
  obtain ⟨a, b9, n, u8, I, a', s0, s1, a2, a3, a4, a5, a6, a7, a8, a9, s10, s11, s12, a13, a14, a15, a16, a17, a18, a19, a20, a21, s22, f, ha, ha', hR, rfl⟩ := hI
  subst ha
  subst ha'
  refine lv_aload_n hx hb dL_law_652 rfl (lv_at hl 1 rfl) ?_
  refine l_arg (k := 1) C hw.2.2.2.1 hl (by omega) (by decide) dL_law_653 dL_law_654 dL_law_656 dL_law_657 dL_law_658 ?_
  refine l_arg (k := 2) C hw.2.2.2.1 hl (by omega) (by decide) dL_law_659 dL_law_660 dL_law_662 dL_law_663 dL_law_664 ?_
  refine c_cls (rest := []) C hw rfl (k4_weight l D ty a b9 n cI cO ht0 ht1 a2 a3 a4 a5 s1 a6 a8 a9 u8 s10 s11 a7 s12 s0 I (xs (i + 1)) (xs (i + 2)) ) (cwV 2 hts gL_law_X4_weight rfl rfl rfl (by decide +kernel) ⟨Nat.le_of_ble_eq_true rfl, Nat.le_of_ble_eq_true rfl⟩) rfl hl rfl (Nat.le_of_ble_eq_true rfl) dL_law_665 ⟨by omega, by omega⟩ (fun r4 w4 H locs hp4 hw => ?_)
  obtain ⟨e4, rfl⟩ := hp4
  refine lv_aload_n hx hb dL_law_668 rfl (lv_at hl 2 rfl) ?_
  refine l_arg (k := 1) C hw.2.2.2.1 hl (by omega) (by decide) dL_law_669 dL_law_670 dL_law_672 dL_law_673 dL_law_674 ?_
  refine l_arg (k := 2) C hw.2.2.2.1 hl (by omega) (by decide) dL_law_675 dL_law_676 dL_law_678 dL_law_679 dL_law_680 ?_
  refine c_ref (rest := [.int r4]) C hw rfl (k5_weight l D ty a' cI ht0 s0 s1 a2 a3 a4 a5 a6 a7 a8 a9 s10 s11 s12 a13 a14 a15 a16 a17 a18 a19 a20 a21 s22 (xs (i + 1)) (xs (i + 2)) ) (cwV 2 hts gL_law_X5_weight rfl rfl rfl (by decide +kernel) ⟨Nat.le_of_ble_eq_true rfl, Nat.le_of_ble_eq_true rfl⟩) rfl hl rfl (Nat.le_of_ble_eq_true rfl) dL_law_681 ⟨by omega, by omega⟩ (fun r5 w5 H locs hp5 hw => ?_)
  obtain ⟨e5, rfl⟩ := hp5
  rw [q_weight] at hw e4
  refine lv_icmp_eq (tgt := 1067) hx hb dL_law_684 (by decide) (fun _ => ?_) (fun hne => absurd (by rw [e4, e5]) hne)
  refine W.widen (k := cells + 6) (n := slots + 62) (by omega) (by omega) ?_
  exact kk _ _ _ ⟨a, b9, n, u8, I, a', s0, s1, a2, a3, a4, a5, a6, a7, a8, _, s10, s11, s12, a13, a14, a15, a16, a17, a18, a19, a20, a21, s22, f, rfl, rfl, q_weight2 hR (xs (i + 1)) (xs (i + 2)), rfl⟩ hw
set_option maxHeartbeats 4000000 in
set_option maxRecDepth 100000 in
theorem lc_coins {p : Program} {l : Launch} {e : Env} {s : State} {m : MethodId} {below : List Frame} {meth : Method} {c : Code} {H : Heap} {locs : List Loc} {cells slots : Nat} {Q : State → Prop} {b L : Nat} {xs : Nat → Int32} {ls : Array Slot} {D : va_G} {ty : List (ClassId × FieldType)} {ws : va_W} {cI cO cL : ClassId} {q1 q2 q3 i : Nat} (C : LCx p s m c b L xs) (ht0 : ty[0]? = some (cI, .int)) (ht1 : ty[1]? = some (cO, .object "RentSizes$Item")) (hi : i + 4 < L) (hcl : cells + 6 ≤ 601024) (hsl : slots + 62 ≤ 7293034) (hI : LwI cI cO cL q1 q2 q3 ws) (hw : Wd D ty (LA s) s.heap s ws H locs) (hl : lv_has ls 8 (LV b q1 q2 q3 i))
    (kk : ∀ (ws : va_W) (H : Heap) (locs : List Loc), LwI cI cO cL q1 q2 q3 ws → Wd D ty (LA s) s.heap s ws H locs → W p l e room_1 s m #[Value.ref b] below meth c H locs (cells + 6) (slots + 62) Q (F0 m 1067 ls [])) : W p l e room_1 s m #[Value.ref b] below meth c H locs cells slots Q (F0 m 689 ls []) := by
  have hx := C.1
  have hb := C.2.1
  have hts := C.2.2.2.2.1
  obtain ⟨a, b9, n, u8, I, a', s0, s1, a2, a3, a4, a5, a6, a7, a8, a9, s10, s11, s12, a13, a14, a15, a16, a17, a18, a19, a20, a21, s22, f, ha, ha', hR, rfl⟩ := hI
  subst ha
  subst ha'
  refine lv_aload_n hx hb dL_law_689 rfl (lv_at hl 1 rfl) ?_
  refine l_arg (k := 1) C hw.2.2.2.1 hl (by omega) (by decide) dL_law_690 dL_law_691 dL_law_693 dL_law_694 dL_law_695 ?_
  refine l_arg (k := 2) C hw.2.2.2.1 hl (by omega) (by decide) dL_law_696 dL_law_697 dL_law_699 dL_law_700 dL_law_701 ?_
  refine c_cls (rest := []) C hw rfl (k4_coins l D ty a b9 n cI cO ht0 ht1 a2 a3 a4 a5 s1 a6 a8 a9 u8 s10 s11 a7 s12 s0 I (xs (i + 1)) (xs (i + 2)) ) (cwV 2 hts gL_law_X4_coins rfl rfl rfl (by decide +kernel) ⟨Nat.le_of_ble_eq_true rfl, Nat.le_of_ble_eq_true rfl⟩) rfl hl rfl (Nat.le_of_ble_eq_true rfl) dL_law_702 ⟨by omega, by omega⟩ (fun r4 w4 H locs hp4 hw => ?_)
  obtain ⟨e4, rfl⟩ := hp4
  refine lv_aload_n hx hb dL_law_705 rfl (lv_at hl 2 rfl) ?_
  refine l_arg (k := 1) C hw.2.2.2.1 hl (by omega) (by decide) dL_law_706 dL_law_707 dL_law_709 dL_law_710 dL_law_711 ?_
  refine l_arg (k := 2) C hw.2.2.2.1 hl (by omega) (by decide) dL_law_712 dL_law_713 dL_law_715 dL_law_716 dL_law_717 ?_
  refine c_ref (rest := [.int r4]) C hw rfl (k5_coins l D ty a' cI ht0 s0 s1 a2 a3 a4 a5 a6 a7 a8 a9 s10 s11 s12 a13 a14 a15 a16 a17 a18 a19 a20 a21 s22 (xs (i + 1)) (xs (i + 2)) ) (cwV 2 hts gL_law_X5_coins rfl rfl rfl (by decide +kernel) ⟨Nat.le_of_ble_eq_true rfl, Nat.le_of_ble_eq_true rfl⟩) rfl hl rfl (Nat.le_of_ble_eq_true rfl) dL_law_718 ⟨by omega, by omega⟩ (fun r5 w5 H locs hp5 hw => ?_)
  obtain ⟨e5, rfl⟩ := hp5
  have hq := q_coins a6 a8 (xs (i + 1)) (xs (i + 2))
  refine lv_icmp_eq (tgt := 1067) hx hb dL_law_721 (by decide) (fun _ => ?_) (fun hne => absurd (by rw [e4, e5, hq]) hne)
  refine W.widen (k := cells + 6) (n := slots + 62) (by omega) (by omega) ?_
  exact kk _ _ _ ⟨a, b9, n, u8, I, a', s0, s1, a2, a3, a4, a5, a6, a7, a8, a9, s10, s11, s12, a13, a14, a15, a16, a17, a18, a19, a20, a21, s22, f, rfl, rfl, hR, rfl⟩ hw
set_option maxHeartbeats 4000000 in
set_option maxRecDepth 100000 in
theorem lc_clear {p : Program} {l : Launch} {e : Env} {s : State} {m : MethodId} {below : List Frame} {meth : Method} {c : Code} {H : Heap} {locs : List Loc} {cells slots : Nat} {Q : State → Prop} {b L : Nat} {xs : Nat → Int32} {ls : Array Slot} {D : va_G} {ty : List (ClassId × FieldType)} {ws : va_W} {cI cO cL : ClassId} {q1 q2 q3 i : Nat} (C : LCx p s m c b L xs) (ht0 : ty[0]? = some (cI, .int)) (ht1 : ty[1]? = some (cO, .object "RentSizes$Item")) (hi : i + 4 < L) (hcl : cells + 6 ≤ 601024) (hsl : slots + 62 ≤ 7293034) (hI : LwI cI cO cL q1 q2 q3 ws) (hw : Wd D ty (LA s) s.heap s ws H locs) (hl : lv_has ls 8 (LV b q1 q2 q3 i))
    (kk : ∀ (ws : va_W) (H : Heap) (locs : List Loc), LwI cI cO cL q1 q2 q3 ws → Wd D ty (LA s) s.heap s ws H locs → W p l e room_1 s m #[Value.ref b] below meth c H locs (cells + 6) (slots + 62) Q (F0 m 1067 ls [])) : W p l e room_1 s m #[Value.ref b] below meth c H locs cells slots Q (F0 m 1054 ls []) := by
  have hx := C.1
  have hb := C.2.1
  have hts := C.2.2.2.2.1
  obtain ⟨a, b9, n, u8, I, a', s0, s1, a2, a3, a4, a5, a6, a7, a8, a9, s10, s11, s12, a13, a14, a15, a16, a17, a18, a19, a20, a21, s22, f, ha, ha', hR, rfl⟩ := hI
  subst ha
  subst ha'
  refine lv_aload_n hx hb dL_law_1054 rfl (lv_at hl 1 rfl) ?_
  refine c_cls (rest := []) C hw rfl (k4_clear l D ty a b9 n cI cO ht0 ht1 a2 a3 a4 a5 s1 a6 a8 a9 u8 s10 s11 a7 s12 s0 I  ) (cwV 0 hts gL_law_X4_clear rfl rfl rfl (by decide +kernel) ⟨Nat.le_of_ble_eq_true rfl, Nat.le_of_ble_eq_true rfl⟩) rfl hl rfl (Nat.le_of_ble_eq_true rfl) dL_law_1055 ⟨by omega, by omega⟩ (fun r4 w4 H locs hp4 hw => ?_)
  obtain ⟨e4, rfl⟩ := hp4
  refine lv_aload_n hx hb dL_law_1058 rfl (lv_at hl 2 rfl) ?_
  refine c_ref (rest := [.int r4]) C hw rfl (k5_clear l D ty a' cI ht0 s0 s1 a2 a3 a4 a5 a6 a7 a8 a9 s10 s11 s12 a13 a14 a15 a16 a17 a18 a19 a20 a21 s22  ) (cwV 0 hts gL_law_X5_clear rfl rfl rfl (by decide +kernel) ⟨Nat.le_of_ble_eq_true rfl, Nat.le_of_ble_eq_true rfl⟩) rfl hl rfl (Nat.le_of_ble_eq_true rfl) dL_law_1059 ⟨by omega, by omega⟩ (fun r5 w5 H locs hp5 hw => ?_)
  obtain ⟨e5, rfl⟩ := hp5
  rw [q_clr4] at hw e4
  rw [q_clr5] at hw e5
  refine lv_icmp_eq (tgt := 1067) hx hb dL_law_1062 (by decide) (fun _ => ?_) (fun hne => absurd (by rw [e4, e5]) hne)
  refine W.widen (k := cells + 6) (n := slots + 62) (by omega) (by omega) ?_
  exact kk _ _ _ ⟨a, b9, n, _, I, a', _, _, _, _, _, _, _, _, _, _, _, _, _, a13, a14, a15, a16, a17, a18, a19, a20, a21, s22, f, rfl, rfl, RSt_begin hR.hn60 I a3 a4 a5 a6 a9 a13 a14 a15 a16 a17 a18 a19 a20 a21, rfl⟩ hw
set_option maxHeartbeats 4000000 in
set_option maxRecDepth 100000 in
theorem lc_told {p : Program} {l : Launch} {e : Env} {s : State} {m : MethodId} {below : List Frame} {meth : Method} {c : Code} {H : Heap} {locs : List Loc} {cells slots : Nat} {Q : State → Prop} {b L : Nat} {xs : Nat → Int32} {ls : Array Slot} {D : va_G} {ty : List (ClassId × FieldType)} {ws : va_W} {cI cO cL : ClassId} {q1 q2 q3 i : Nat} (C : LCx p s m c b L xs) (ht0 : ty[0]? = some (cI, .int)) (ht1 : ty[1]? = some (cO, .object "RentSizes$Item")) (hi : i + 4 < L) (hcl : cells + 6 ≤ 601024) (hsl : slots + 62 ≤ 7293034) (hI : LwI cI cO cL q1 q2 q3 ws) (hw : Wd D ty (LA s) s.heap s ws H locs) (hl : lv_has ls 8 (LV b q1 q2 q3 i))
    (kk : ∀ (ws : va_W) (H : Heap) (locs : List Loc), LwI cI cO cL q1 q2 q3 ws → Wd D ty (LA s) s.heap s ws H locs → W p l e room_1 s m #[Value.ref b] below meth c H locs (cells + 6) (slots + 62) Q (F0 m 1067 ls [])) : W p l e room_1 s m #[Value.ref b] below meth c H locs cells slots Q (F0 m 1029 ls []) := by
  have hx := C.1
  have hb := C.2.1
  have hts := C.2.2.2.2.1
  obtain ⟨a, b9, n, u8, I, a', s0, s1, a2, a3, a4, a5, a6, a7, a8, a9, s10, s11, s12, a13, a14, a15, a16, a17, a18, a19, a20, a21, s22, f, ha, ha', hR, rfl⟩ := hI
  subst ha
  subst ha'
  refine lv_aload_n hx hb dL_law_1029 rfl (lv_at hl 1 rfl) ?_
  refine l_arg (k := 1) C hw.2.2.2.1 hl (by omega) (by decide) dL_law_1030 dL_law_1031 dL_law_1033 dL_law_1034 dL_law_1035 ?_
  refine c_cls (rest := []) C hw rfl (k4_told l D ty a b9 n cI cO ht0 ht1 a2 a3 a4 a5 s1 a6 a8 a9 u8 s10 s11 a7 s12 s0 I (xs (i + 1)) hR.hob hR.hobn hR.hn60) (cwV 1 hts gL_law_X4_told rfl rfl rfl (by decide +kernel) ⟨Nat.le_of_ble_eq_true rfl, Nat.le_of_ble_eq_true rfl⟩) rfl hl rfl (Nat.le_of_ble_eq_true rfl) dL_law_1036 ⟨by omega, by omega⟩ (fun r4 w4 H locs hp4 hw => ?_)
  obtain ⟨e4, rfl⟩ := hp4
  refine lv_aload_n hx hb dL_law_1039 rfl (lv_at hl 2 rfl) ?_
  refine l_arg (k := 1) C hw.2.2.2.1 hl (by omega) (by decide) dL_law_1040 dL_law_1041 dL_law_1043 dL_law_1044 dL_law_1045 ?_
  refine c_ref (rest := [.int r4]) C hw rfl (k5_told l D ty a' cI ht0 s0 s1 a2 a3 a4 a5 a6 a7 a8 a9 s10 s11 s12 a13 a14 a15 a16 a17 a18 a19 a20 a21 s22 (xs (i + 1)) hR.hob hR.hob60 hR.hlk5) (cwV 1 hts gL_law_X5_told rfl rfl rfl (by decide +kernel) ⟨Nat.le_of_ble_eq_true rfl, Nat.le_of_ble_eq_true rfl⟩) rfl hl rfl (Nat.le_of_ble_eq_true rfl) dL_law_1046 ⟨by omega, by omega⟩ (fun r5 w5 H locs hp5 hw => ?_)
  obtain ⟨e5, rfl⟩ := hp5
  have hq := q_told (a8 := a8) (s11 := s11) hR (xs (i + 1))
  refine lv_icmp_eq (tgt := 1067) hx hb dL_law_1049 (by decide) (fun _ => ?_) (fun hne => absurd (by rw [e4, e5, hq]) hne)
  refine W.widen (k := cells + 6) (n := slots + 62) (by omega) (by omega) ?_
  exact kk _ _ _ ⟨a, b9, n, u8, I, a', s0, s1, a2, a3, a4, a5, a6, a7, a8, a9, s10, s11, s12, a13, a14, a15, a16, a17, a18, a19, a20, a21, s22, f, rfl, rfl, hR, rfl⟩ hw
