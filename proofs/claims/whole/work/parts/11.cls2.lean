def f3_reset (c5 : Nat → Int32) (c6 : Nat → Int32) (c7 : Nat → Int32) : (Nat → Int32) × (Nat → Int32) × (Nat → Int32) × Int32 × Int32 × Int32 :=
  (f7_fill_53178 c5 6 100000, f7_fill_53178 c6 5 0, f7_fill_53178 c7 5 0, 0, 0, 0)
set_option maxHeartbeats 4000000 in
set_option maxRecDepth 100000 in
theorem k3_reset (l : Launch) (D : va_G) (ty : List (ClassId × FieldType)) (a : Nat → Nat) (b : Nat → Nat → Nat) (n : Nat) (cI cO : ClassId) (ht0 : ty[0]? = some (cI, .int)) (ht1 : ty[1]? = some (cO, .object "RentSizes$Item")) (c0 : Nat → Int32) (c1 : Nat → Int32) (c2 : Nat → Int32) (c3 : Nat → Int32) (u4 : Int32) (c5 : Nat → Int32) (c6 : Nat → Int32) (c7 : Nat → Int32) (u8 : Int32) (u9 : Int32) (u10 : Int32) (c11 : Nat → Int32) (u12 : Int32) (u13 : Int32) (I : Nat → Nat → Nat → Int32) : MetG l yX3_reset wsX3_reset { frames := 1, cells := 0, slots := 0, locals := 23 } D ty [.ref (a 6)] (CW a b n cI cO c0 c1 c2 c3 u4 c5 c6 c7 u8 u9 u10 c11 u12 u13 I) (va_Qv (fun w => w = CW a b n cI cO c0 c1 c2 c3 u4 (f3_reset c5 c6 c7).1 (f3_reset c5 c6 c7).2.1 (f3_reset c5 c6 c7).2.2.1 (f3_reset c5 c6 c7).2.2.2.1 (f3_reset c5 c6 c7).2.2.2.2.1 (f3_reset c5 c6 c7).2.2.2.2.2 c11 u12 u13 I)) 0 0 := by
  refine Met_start cX3_reset 1 none (by decide) rfl (Nat.le_of_ble_eq_true rfl) ?_
  intro p e s m below meth c A ls hx hb hr hlocks hml hnm hts hown hw hl
  have hl : lv_has ls 1 [(0, .ref (a 6))] := hl
  have i3 : ∀ w ∈ wsX30, w ∈ wsX3_reset := fun _ h => List.mem_cons_of_mem _ (List.mem_append_right _ h)
  have lk9 := hts (.fieldLink RX3 9 "RentSizes$Ledger" "accounts" "[I") (by decide +kernel)
  have ci21 := hts (.constant RX3 21 (100000)) (by decide +kernel)
  have lk15 := hts (.fieldLink RX3 15 "RentSizes$Ledger" "nodes" "[I") (by decide +kernel)
  have lk18 := hts (.fieldLink RX3 18 "RentSizes$Ledger" "weights" "[I") (by decide +kernel)
  have lk28 := hts (.fieldLink RX3 28 "RentSizes$Ledger" "held" "I") (by decide +kernel)
  have lk32 := hts (.fieldLink RX3 32 "RentSizes$Ledger" "pool" "I") (by decide +kernel)
  have lk35 := hts (.fieldLink RX3 35 "RentSizes$Ledger" "paidToNodes" "I") (by decide +kernel)
  refine lv_aload_n hx hb dX3_reset_0 rfl (lv_at hl 0 rfl) ?_
  refine r_get (C := RX3) (T := TX3) (v := .ref (a 7)) hx hb hts i3 hown hw 6 rfl rfl 0 (by decide) lk9 rfl dX3_reset_1 ?_
  refine lv_ldc (v := 100000) hx hb hown ci21 dX3_reset_4 ?_
  refine r_callSv (rest := []) ⟨hx, hb, hml, hown, hts⟩ (hw.cast (CW_u5 _).symm) [.ref (a 7), .int (100000)] (k7_fill_53178 l D ty cI ht0 (CW a b n cI cO c0 c1 c2 c3 u4 c5 c6 c7 u8 u9 u10 c11 u12 u13 I) 7 (a 7) 6 (List.getElem?_eq_some_iff.mp (show (CW a b n cI cO c0 c1 c2 c3 u4 c5 c6 c7 u8 u9 u10 c11 u12 u13 I)[7]? = some _ from rfl)).1 (by decide) c5 100000) (va_cwS 2 hts gX3_reset_J7_fill_53178 rfl rfl rfl (by decide +kernel) ⟨Nat.le_of_ble_eq_true rfl, Nat.le_of_ble_eq_true rfl⟩) rfl hl.1 rfl (Nat.le_of_ble_eq_true rfl) dX3_reset_6 ⟨Nat.le_of_ble_eq_true rfl, Nat.le_of_ble_eq_true rfl⟩ (fun w H locs hp hw => ?_)
  subst hp
  replace hw := hw.cast (CW_u5 _)
  refine lv_aload_n hx hb dX3_reset_9 rfl (lv_at hl 0 rfl) ?_
  refine r_get (C := RX3) (T := TX3) (v := .ref (a 8)) hx hb hts i3 hown hw 6 rfl rfl 1 (by decide) lk15 rfl dX3_reset_10 ?_
  refine lv_iconst (v := 0) hx hb dX3_reset_13 (by decide) ?_
  refine r_callSv (rest := []) ⟨hx, hb, hml, hown, hts⟩ (hw.cast (CW_u6 _).symm) [.ref (a 8), .int (0)] (k7_fill_53178 l D ty cI ht0 (CW a b n cI cO c0 c1 c2 c3 u4 (f7_fill_53178 c5 6 100000) c6 c7 u8 u9 u10 c11 u12 u13 I) 8 (a 8) 5 (List.getElem?_eq_some_iff.mp (show (CW a b n cI cO c0 c1 c2 c3 u4 (f7_fill_53178 c5 6 100000) c6 c7 u8 u9 u10 c11 u12 u13 I)[8]? = some _ from rfl)).1 (by decide) c6 0) (va_cwS 2 hts gX3_reset_J7_fill_53178 rfl rfl rfl (by decide +kernel) ⟨Nat.le_of_ble_eq_true rfl, Nat.le_of_ble_eq_true rfl⟩) rfl hl.1 rfl (Nat.le_of_ble_eq_true rfl) dX3_reset_14 ⟨Nat.le_of_ble_eq_true rfl, Nat.le_of_ble_eq_true rfl⟩ (fun w H locs hp hw => ?_)
  subst hp
  replace hw := hw.cast (CW_u6 _)
  refine lv_aload_n hx hb dX3_reset_17 rfl (lv_at hl 0 rfl) ?_
  refine r_get (C := RX3) (T := TX3) (v := .ref (a 9)) hx hb hts i3 hown hw 6 rfl rfl 2 (by decide) lk18 rfl dX3_reset_18 ?_
  refine lv_iconst (v := 0) hx hb dX3_reset_21 (by decide) ?_
  refine r_callSv (rest := []) ⟨hx, hb, hml, hown, hts⟩ (hw.cast (CW_u7 _).symm) [.ref (a 9), .int (0)] (k7_fill_53178 l D ty cI ht0 (CW a b n cI cO c0 c1 c2 c3 u4 (f7_fill_53178 c5 6 100000) (f7_fill_53178 c6 5 0) c7 u8 u9 u10 c11 u12 u13 I) 9 (a 9) 5 (List.getElem?_eq_some_iff.mp (show (CW a b n cI cO c0 c1 c2 c3 u4 (f7_fill_53178 c5 6 100000) (f7_fill_53178 c6 5 0) c7 u8 u9 u10 c11 u12 u13 I)[9]? = some _ from rfl)).1 (by decide) c7 0) (va_cwS 2 hts gX3_reset_J7_fill_53178 rfl rfl rfl (by decide +kernel) ⟨Nat.le_of_ble_eq_true rfl, Nat.le_of_ble_eq_true rfl⟩) rfl hl.1 rfl (Nat.le_of_ble_eq_true rfl) dX3_reset_22 ⟨Nat.le_of_ble_eq_true rfl, Nat.le_of_ble_eq_true rfl⟩ (fun w H locs hp hw => ?_)
  subst hp
  replace hw := hw.cast (CW_u7 _)
  refine lv_aload_n hx hb dX3_reset_25 rfl (lv_at hl 0 rfl) ?_
  refine lv_iconst (v := 0) hx hb dX3_reset_26 (by decide) ?_
  refine r_put (C := RX3) (T := TX3) (ws' := CW a b n cI cO c0 c1 c2 c3 u4 (f7_fill_53178 c5 6 100000) (f7_fill_53178 c6 5 0) (f7_fill_53178 c7 5 0) 0 u9 u10 c11 u12 u13 I) hx hb hts i3 tyX3 tyX3_ok nmX3 hown hw 6 rfl rfl 3 (by decide) lk28 rfl (by decide +kernel) (Nat.le_of_ble_eq_true rfl) (CW_s8 _) dX3_reset_27 (fun H locs hw => ?_)
  refine lv_aload_n hx hb dX3_reset_30 rfl (lv_at hl 0 rfl) ?_
  refine lv_iconst (v := 0) hx hb dX3_reset_31 (by decide) ?_
  refine r_put (C := RX3) (T := TX3) (ws' := CW a b n cI cO c0 c1 c2 c3 u4 (f7_fill_53178 c5 6 100000) (f7_fill_53178 c6 5 0) (f7_fill_53178 c7 5 0) 0 0 u10 c11 u12 u13 I) hx hb hts i3 tyX3 tyX3_ok nmX3 hown hw 6 rfl rfl 4 (by decide) lk32 rfl (by decide +kernel) (Nat.le_of_ble_eq_true rfl) (CW_s9 _) dX3_reset_32 (fun H locs hw => ?_)
  refine lv_aload_n hx hb dX3_reset_35 rfl (lv_at hl 0 rfl) ?_
  refine lv_iconst (v := 0) hx hb dX3_reset_36 (by decide) ?_
  refine r_put (C := RX3) (T := TX3) (ws' := CW a b n cI cO c0 c1 c2 c3 u4 (f7_fill_53178 c5 6 100000) (f7_fill_53178 c6 5 0) (f7_fill_53178 c7 5 0) 0 0 0 c11 u12 u13 I) hx hb hts i3 tyX3 tyX3_ok nmX3 hown hw 6 rfl rfl 5 (by decide) lk35 rfl (by decide +kernel) (Nat.le_of_ble_eq_true rfl) (CW_s10 _) dX3_reset_37 (fun H locs hw => ?_)
  have e9 : f3_reset c5 c6 c7 = (f7_fill_53178 c5 6 100000, f7_fill_53178 c6 5 0, f7_fill_53178 c7 5 0, 0, 0, 0) := by unfold f3_reset; rfl
  exact r_vret hx hb hr hlocks hw (by rw [e9] <;> rfl) dX3_reset_40
def f3_canPay (c5 : Nat → Int32) (p1 : Int32) (p2 : Int64) : Int32 :=
  if 0 < (lg_cmp p2 ((c5 (tn (p1))).toInt64)) then 0
  else 1
set_option maxHeartbeats 4000000 in
set_option maxRecDepth 100000 in
theorem k3_canPay (l : Launch) (D : va_G) (ty : List (ClassId × FieldType)) (a : Nat → Nat) (b : Nat → Nat → Nat) (n : Nat) (cI cO : ClassId) (ht0 : ty[0]? = some (cI, .int)) (ht1 : ty[1]? = some (cO, .object "RentSizes$Item")) (c0 : Nat → Int32) (c1 : Nat → Int32) (c2 : Nat → Int32) (c3 : Nat → Int32) (u4 : Int32) (c5 : Nat → Int32) (c6 : Nat → Int32) (c7 : Nat → Int32) (u8 : Int32) (u9 : Int32) (u10 : Int32) (c11 : Nat → Int32) (u12 : Int32) (u13 : Int32) (I : Nat → Nat → Nat → Int32) (p1 : Int32) (p2 : Int64) (hv : vp_in p1 6) : MetG l yX3_canPay wsX3_canPay { frames := 0, cells := 0, slots := 0, locals := 0 } D ty [.ref (a 6), .int (p1), .long (p2)] (CW a b n cI cO c0 c1 c2 c3 u4 c5 c6 c7 u8 u9 u10 c11 u12 u13 I) (va_Qi (fun r w => r = f3_canPay c5 p1 p2 ∧ w = CW a b n cI cO c0 c1 c2 c3 u4 c5 c6 c7 u8 u9 u10 c11 u12 u13 I)) 0 0 := by
  refine Met_start cX3_canPay 4 (some .boolean) (by decide) rfl (Nat.le_of_ble_eq_true rfl) ?_
  intro p e s m below meth c A ls hx hb hr hlocks hml hnm hts hown hw hl
  have hl : lv_has ls 4 [(0, .ref (a 6)), (1, .int (p1)), (2, .long (p2))] := hl
  have i3 : ∀ w ∈ wsX30, w ∈ wsX3_canPay := fun _ h => List.mem_cons_of_mem _ (List.mem_append_right _ h)
  have lk9 := hts (.fieldLink RX3 9 "RentSizes$Ledger" "accounts" "[I") (by decide +kernel)
  refine lv_lload_n hx hb dX3_canPay_0 rfl (lv_at hl 2 rfl) ?_
  refine lv_aload_n hx hb dX3_canPay_1 rfl (lv_at hl 0 rfl) ?_
  refine r_get (C := RX3) (T := TX3) (v := .ref (a 7)) hx hb hts i3 hown hw 6 rfl rfl 0 (by decide) lk9 rfl dX3_canPay_2 ?_
  refine lv_iload_n hx hb dX3_canPay_5 rfl (lv_at hl 1 rfl) ?_
  refine r_iald (v := c5 (tn (p1))) hx hb hw 7 rfl ht0 (by first | assumption | exact vp_in_nI (by omega) (by omega)) dX3_canPay_6 rfl ?_
  refine lv_i2l (v := (c5 (tn (p1))).toInt64) hx hb dX3_canPay_7 rfl ?_
  refine W.lcmp hx hb dX3_canPay_8 ?_
  refine lv_if_gt (tgt := 16) hx hb dX3_canPay_9 (by decide) (fun c_9 => ?_) (fun c_9 => ?_)
  · refine lv_iconst (v := 0) hx hb dX3_canPay_16 (by decide) ?_
    have e9 : f3_canPay c5 p1 p2 = 0 := by unfold f3_canPay; rw [if_pos c_9]
    exact r_zret hx hb hr hlocks (Or.inl rfl) hw ⟨by rw [e9] <;> rfl, rfl⟩ dX3_canPay_17
  · refine lv_iconst (v := 1) hx hb dX3_canPay_12 (by decide) ?_
    refine lv_goto (tgt := 17) hx hb dX3_canPay_13 (by decide) ?_
    have e9 : f3_canPay c5 p1 p2 = 1 := by unfold f3_canPay; rw [if_neg c_9]
    exact r_zret hx hb hr hlocks (Or.inr rfl) hw ⟨by rw [e9] <;> rfl, rfl⟩ dX3_canPay_17
def f3_takeFrom (c5 : Nat → Int32) (u8 : Int32) (u9 : Int32) (p1 : Int32) (p2 : Int64) (p3 : Int64) : Int32 × (Nat → Int32) × Int32 × Int32 :=
  ((p2 + p3).toInt32, upd c5 (tn (p1)) ((c5 (tn (p1))) - ((p2 + p3).toInt32)), u8 + p2.toInt32, u9 + p3.toInt32)
set_option maxHeartbeats 4000000 in
set_option maxRecDepth 100000 in
theorem k3_takeFrom (l : Launch) (D : va_G) (ty : List (ClassId × FieldType)) (a : Nat → Nat) (b : Nat → Nat → Nat) (n : Nat) (cI cO : ClassId) (ht0 : ty[0]? = some (cI, .int)) (ht1 : ty[1]? = some (cO, .object "RentSizes$Item")) (c0 : Nat → Int32) (c1 : Nat → Int32) (c2 : Nat → Int32) (c3 : Nat → Int32) (u4 : Int32) (c5 : Nat → Int32) (c6 : Nat → Int32) (c7 : Nat → Int32) (u8 : Int32) (u9 : Int32) (u10 : Int32) (c11 : Nat → Int32) (u12 : Int32) (u13 : Int32) (I : Nat → Nat → Nat → Int32) (p1 : Int32) (p2 : Int64) (p3 : Int64) (hv : vp_in p1 6) : MetG l yX3_takeFrom wsX3_takeFrom { frames := 0, cells := 0, slots := 0, locals := 0 } D ty [.ref (a 6), .int (p1), .long (p2), .long (p3)] (CW a b n cI cO c0 c1 c2 c3 u4 c5 c6 c7 u8 u9 u10 c11 u12 u13 I) (va_Qi (fun r w => r = (f3_takeFrom c5 u8 u9 p1 p2 p3).1 ∧ w = CW a b n cI cO c0 c1 c2 c3 u4 ((f3_takeFrom c5 u8 u9 p1 p2 p3).2.1) c6 c7 ((f3_takeFrom c5 u8 u9 p1 p2 p3).2.2.1) ((f3_takeFrom c5 u8 u9 p1 p2 p3).2.2.2) u10 c11 u12 u13 I)) 0 0 := by
  refine Met_start cX3_takeFrom 7 (some .int) (by decide) rfl (Nat.le_of_ble_eq_true rfl) ?_
  intro p e s m below meth c A ls hx hb hr hlocks hml hnm hts hown hw hl
  have hl : lv_has ls 7 [(0, .ref (a 6)), (1, .int (p1)), (2, .long (p2)), (4, .long (p3))] := hl
  have i3 : ∀ w ∈ wsX30, w ∈ wsX3_takeFrom := fun _ h => List.mem_cons_of_mem _ (List.mem_append_right _ h)
  have lk9 := hts (.fieldLink RX3 9 "RentSizes$Ledger" "accounts" "[I") (by decide +kernel)
  have lk28 := hts (.fieldLink RX3 28 "RentSizes$Ledger" "held" "I") (by decide +kernel)
  have lk32 := hts (.fieldLink RX3 32 "RentSizes$Ledger" "pool" "I") (by decide +kernel)
  refine lv_lload_n hx hb dX3_takeFrom_0 rfl (lv_at hl 2 rfl) ?_
  refine lv_lload hx hb dX3_takeFrom_1 (lv_at hl 3 rfl) ?_
  refine lv_ladd hx hb dX3_takeFrom_3 ?_
  refine lv_l2i (v := (p2 + p3).toInt32) hx hb dX3_takeFrom_4 rfl ?_
  refine lv_istore (lv' := [(6, .int ((p2 + p3).toInt32)), (0, .ref (a 6)), (1, .int (p1)), (2, .long (p2)), (4, .long (p3))]) hx hb dX3_takeFrom_5 hl (by decide) rfl (fun ls hl => ?_)
  refine lv_aload_n hx hb dX3_takeFrom_7 rfl (lv_at hl 1 rfl) ?_
  refine r_get (C := RX3) (T := TX3) (v := .ref (a 7)) hx hb hts i3 hown hw 6 rfl rfl 0 (by decide) lk9 rfl dX3_takeFrom_8 ?_
  refine lv_iload_n hx hb dX3_takeFrom_11 rfl (lv_at hl 2 rfl) ?_
  refine lv_dup2_11 hx hb dX3_takeFrom_12 rfl rfl ?_
  refine r_iald (v := c5 (tn (p1))) hx hb hw 7 rfl ht0 (by first | assumption | exact vp_in_nI (by omega) (by omega)) dX3_takeFrom_13 rfl ?_
  refine lv_iload hx hb dX3_takeFrom_14 (lv_at hl 0 rfl) ?_
  refine lv_isub hx hb dX3_takeFrom_16 ?_
  refine r_iast (ws' := CW a b n cI cO c0 c1 c2 c3 u4 (upd c5 (tn (p1)) ((c5 (tn (p1))) - ((p2 + p3).toInt32))) c6 c7 u8 u9 u10 c11 u12 u13 I) hx hb hw 7 rfl ht0 (by first | assumption | exact vp_in_nI (by omega) (by omega)) (CW_u5 _) dX3_takeFrom_17 (fun H locs hw => ?_)
  refine lv_aload_n hx hb dX3_takeFrom_18 rfl (lv_at hl 1 rfl) ?_
  refine lv_dup hx hb dX3_takeFrom_19 rfl ?_
  refine r_get (C := RX3) (T := TX3) (v := .int (u8)) hx hb hts i3 hown hw 6 rfl rfl 3 (by decide) lk28 rfl dX3_takeFrom_20 ?_
  refine lv_lload_n hx hb dX3_takeFrom_23 rfl (lv_at hl 3 rfl) ?_
  refine lv_l2i (v := p2.toInt32) hx hb dX3_takeFrom_24 rfl ?_
  refine lv_iadd hx hb dX3_takeFrom_25 ?_
  refine r_put (C := RX3) (T := TX3) (ws' := CW a b n cI cO c0 c1 c2 c3 u4 (upd c5 (tn (p1)) ((c5 (tn (p1))) - ((p2 + p3).toInt32))) c6 c7 (u8 + p2.toInt32) u9 u10 c11 u12 u13 I) hx hb hts i3 tyX3 tyX3_ok nmX3 hown hw 6 rfl rfl 3 (by decide) lk28 rfl (by decide +kernel) (Nat.le_of_ble_eq_true rfl) (CW_s8 _) dX3_takeFrom_26 (fun H locs hw => ?_)
  refine lv_aload_n hx hb dX3_takeFrom_29 rfl (lv_at hl 1 rfl) ?_
  refine lv_dup hx hb dX3_takeFrom_30 rfl ?_
  refine r_get (C := RX3) (T := TX3) (v := .int (u9)) hx hb hts i3 hown hw 6 rfl rfl 4 (by decide) lk32 rfl dX3_takeFrom_31 ?_
  refine lv_lload hx hb dX3_takeFrom_34 (lv_at hl 4 rfl) ?_
  refine lv_l2i (v := p3.toInt32) hx hb dX3_takeFrom_36 rfl ?_
  refine lv_iadd hx hb dX3_takeFrom_37 ?_
  refine r_put (C := RX3) (T := TX3) (ws' := CW a b n cI cO c0 c1 c2 c3 u4 (upd c5 (tn (p1)) ((c5 (tn (p1))) - ((p2 + p3).toInt32))) c6 c7 (u8 + p2.toInt32) (u9 + p3.toInt32) u10 c11 u12 u13 I) hx hb hts i3 tyX3 tyX3_ok nmX3 hown hw 6 rfl rfl 4 (by decide) lk32 rfl (by decide +kernel) (Nat.le_of_ble_eq_true rfl) (CW_s9 _) dX3_takeFrom_38 (fun H locs hw => ?_)
  refine lv_iload hx hb dX3_takeFrom_41 (lv_at hl 0 rfl) ?_
  have e9 : f3_takeFrom c5 u8 u9 p1 p2 p3 = ((p2 + p3).toInt32, upd c5 (tn (p1)) ((c5 (tn (p1))) - ((p2 + p3).toInt32)), u8 + p2.toInt32, u9 + p3.toInt32) := by unfold f3_takeFrom; rfl
  exact r_iret hx hb hr hlocks hw ⟨by rw [e9] <;> rfl, by rw [e9] <;> rfl⟩ dX3_takeFrom_43
def f3_giveTo (c5 : Nat → Int32) (u8 : Int32) (p1 : Int32) (p2 : Int32) : Int32 × (Nat → Int32) × Int32 :=
  (p2, upd c5 (tn (p1)) ((c5 (tn (p1))) + p2), u8 - p2)
set_option maxHeartbeats 4000000 in
set_option maxRecDepth 100000 in
theorem k3_giveTo (l : Launch) (D : va_G) (ty : List (ClassId × FieldType)) (a : Nat → Nat) (b : Nat → Nat → Nat) (n : Nat) (cI cO : ClassId) (ht0 : ty[0]? = some (cI, .int)) (ht1 : ty[1]? = some (cO, .object "RentSizes$Item")) (c0 : Nat → Int32) (c1 : Nat → Int32) (c2 : Nat → Int32) (c3 : Nat → Int32) (u4 : Int32) (c5 : Nat → Int32) (c6 : Nat → Int32) (c7 : Nat → Int32) (u8 : Int32) (u9 : Int32) (u10 : Int32) (c11 : Nat → Int32) (u12 : Int32) (u13 : Int32) (I : Nat → Nat → Nat → Int32) (p1 : Int32) (p2 : Int32) (hv : vp_in p1 6) : MetG l yX3_giveTo wsX3_giveTo { frames := 0, cells := 0, slots := 0, locals := 0 } D ty [.ref (a 6), .int (p1), .int (p2)] (CW a b n cI cO c0 c1 c2 c3 u4 c5 c6 c7 u8 u9 u10 c11 u12 u13 I) (va_Qi (fun r w => r = (f3_giveTo c5 u8 p1 p2).1 ∧ w = CW a b n cI cO c0 c1 c2 c3 u4 ((f3_giveTo c5 u8 p1 p2).2.1) c6 c7 ((f3_giveTo c5 u8 p1 p2).2.2) u9 u10 c11 u12 u13 I)) 0 0 := by
  refine Met_start cX3_giveTo 3 (some .int) (by decide) rfl (Nat.le_of_ble_eq_true rfl) ?_
  intro p e s m below meth c A ls hx hb hr hlocks hml hnm hts hown hw hl
  have hl : lv_has ls 3 [(0, .ref (a 6)), (1, .int (p1)), (2, .int (p2))] := hl
  have i3 : ∀ w ∈ wsX30, w ∈ wsX3_giveTo := fun _ h => List.mem_cons_of_mem _ (List.mem_append_right _ h)
  have lk28 := hts (.fieldLink RX3 28 "RentSizes$Ledger" "held" "I") (by decide +kernel)
  have lk9 := hts (.fieldLink RX3 9 "RentSizes$Ledger" "accounts" "[I") (by decide +kernel)
  refine lv_aload_n hx hb dX3_giveTo_0 rfl (lv_at hl 0 rfl) ?_
  refine lv_dup hx hb dX3_giveTo_1 rfl ?_
  refine r_get (C := RX3) (T := TX3) (v := .int (u8)) hx hb hts i3 hown hw 6 rfl rfl 3 (by decide) lk28 rfl dX3_giveTo_2 ?_
  refine lv_iload_n hx hb dX3_giveTo_5 rfl (lv_at hl 2 rfl) ?_
  refine lv_isub hx hb dX3_giveTo_6 ?_
  refine r_put (C := RX3) (T := TX3) (ws' := CW a b n cI cO c0 c1 c2 c3 u4 c5 c6 c7 (u8 - p2) u9 u10 c11 u12 u13 I) hx hb hts i3 tyX3 tyX3_ok nmX3 hown hw 6 rfl rfl 3 (by decide) lk28 rfl (by decide +kernel) (Nat.le_of_ble_eq_true rfl) (CW_s8 _) dX3_giveTo_7 (fun H locs hw => ?_)
  refine lv_aload_n hx hb dX3_giveTo_10 rfl (lv_at hl 0 rfl) ?_
  refine r_get (C := RX3) (T := TX3) (v := .ref (a 7)) hx hb hts i3 hown hw 6 rfl rfl 0 (by decide) lk9 rfl dX3_giveTo_11 ?_
  refine lv_iload_n hx hb dX3_giveTo_14 rfl (lv_at hl 1 rfl) ?_
  refine lv_dup2_11 hx hb dX3_giveTo_15 rfl rfl ?_
  refine r_iald (v := c5 (tn (p1))) hx hb hw 7 rfl ht0 (by first | assumption | exact vp_in_nI (by omega) (by omega)) dX3_giveTo_16 rfl ?_
  refine lv_iload_n hx hb dX3_giveTo_17 rfl (lv_at hl 2 rfl) ?_
  refine lv_iadd hx hb dX3_giveTo_18 ?_
  refine r_iast (ws' := CW a b n cI cO c0 c1 c2 c3 u4 (upd c5 (tn (p1)) ((c5 (tn (p1))) + p2)) c6 c7 (u8 - p2) u9 u10 c11 u12 u13 I) hx hb hw 7 rfl ht0 (by first | assumption | exact vp_in_nI (by omega) (by omega)) (CW_u5 _) dX3_giveTo_19 (fun H locs hw => ?_)
  refine lv_iload_n hx hb dX3_giveTo_20 rfl (lv_at hl 2 rfl) ?_
  have e9 : f3_giveTo c5 u8 p1 p2 = (p2, upd c5 (tn (p1)) ((c5 (tn (p1))) + p2), u8 - p2) := by unfold f3_giveTo; rfl
  exact r_iret hx hb hr hlocks hw ⟨by rw [e9] <;> rfl, by rw [e9] <;> rfl⟩ dX3_giveTo_21
def f3_payNode (c6 : Nat → Int32) (u9 : Int32) (u10 : Int32) (x : Nat) (p2 : Int32) : (Nat → Int32) × Int32 × Int32 :=
  (upd c6 x ((c6 x) + p2), u9 - p2, u10 + p2)
set_option maxHeartbeats 4000000 in
set_option maxRecDepth 100000 in
theorem k3_payNode (l : Launch) (D : va_G) (ty : List (ClassId × FieldType)) (a : Nat → Nat) (b : Nat → Nat → Nat) (n : Nat) (cI cO : ClassId) (ht0 : ty[0]? = some (cI, .int)) (ht1 : ty[1]? = some (cO, .object "RentSizes$Item")) (c0 : Nat → Int32) (c1 : Nat → Int32) (c2 : Nat → Int32) (c3 : Nat → Int32) (u4 : Int32) (c5 : Nat → Int32) (c6 : Nat → Int32) (c7 : Nat → Int32) (u8 : Int32) (u9 : Int32) (u10 : Int32) (c11 : Nat → Int32) (u12 : Int32) (u13 : Int32) (I : Nat → Nat → Nat → Int32) (x : Nat) (p2 : Int32) (hx5 : x < 5) : MetG l yX3_payNode wsX3_payNode { frames := 0, cells := 0, slots := 0, locals := 0 } D ty [.ref (a 6), .int (nI (x)), .int (p2)] (CW a b n cI cO c0 c1 c2 c3 u4 c5 c6 c7 u8 u9 u10 c11 u12 u13 I) (va_Qv (fun w => w = CW a b n cI cO c0 c1 c2 c3 u4 c5 ((f3_payNode c6 u9 u10 x p2).1) c7 u8 ((f3_payNode c6 u9 u10 x p2).2.1) ((f3_payNode c6 u9 u10 x p2).2.2) c11 u12 u13 I)) 0 0 := by
  refine Met_start cX3_payNode 3 none (by decide) rfl (Nat.le_of_ble_eq_true rfl) ?_
  intro p e s m below meth c A ls hx hb hr hlocks hml hnm hts hown hw hl
  have hl : lv_has ls 3 [(0, .ref (a 6)), (1, .int (nI (x))), (2, .int (p2))] := hl
  have i3 : ∀ w ∈ wsX30, w ∈ wsX3_payNode := fun _ h => List.mem_cons_of_mem _ (List.mem_append_right _ h)
  have lk32 := hts (.fieldLink RX3 32 "RentSizes$Ledger" "pool" "I") (by decide +kernel)
  have lk15 := hts (.fieldLink RX3 15 "RentSizes$Ledger" "nodes" "[I") (by decide +kernel)
  have lk35 := hts (.fieldLink RX3 35 "RentSizes$Ledger" "paidToNodes" "I") (by decide +kernel)
  refine lv_aload_n hx hb dX3_payNode_0 rfl (lv_at hl 0 rfl) ?_
  refine lv_dup hx hb dX3_payNode_1 rfl ?_
  refine r_get (C := RX3) (T := TX3) (v := .int (u9)) hx hb hts i3 hown hw 6 rfl rfl 4 (by decide) lk32 rfl dX3_payNode_2 ?_
  refine lv_iload_n hx hb dX3_payNode_5 rfl (lv_at hl 2 rfl) ?_
  refine lv_isub hx hb dX3_payNode_6 ?_
  refine r_put (C := RX3) (T := TX3) (ws' := CW a b n cI cO c0 c1 c2 c3 u4 c5 c6 c7 u8 (u9 - p2) u10 c11 u12 u13 I) hx hb hts i3 tyX3 tyX3_ok nmX3 hown hw 6 rfl rfl 4 (by decide) lk32 rfl (by decide +kernel) (Nat.le_of_ble_eq_true rfl) (CW_s9 _) dX3_payNode_7 (fun H locs hw => ?_)
  refine lv_aload_n hx hb dX3_payNode_10 rfl (lv_at hl 0 rfl) ?_
  refine r_get (C := RX3) (T := TX3) (v := .ref (a 8)) hx hb hts i3 hown hw 6 rfl rfl 1 (by decide) lk15 rfl dX3_payNode_11 ?_
  refine lv_iload_n hx hb dX3_payNode_14 rfl (lv_at hl 1 rfl) ?_
  refine lv_dup2_11 hx hb dX3_payNode_15 rfl rfl ?_
  refine r_ialdN (v := c6 x) hx hb hw 8 rfl ht0 x (by omega) (by decide) dX3_payNode_16 rfl ?_
  refine lv_iload_n hx hb dX3_payNode_17 rfl (lv_at hl 2 rfl) ?_
  refine lv_iadd hx hb dX3_payNode_18 ?_
  refine r_iastN (ws' := CW a b n cI cO c0 c1 c2 c3 u4 c5 (upd c6 x ((c6 x) + p2)) c7 u8 (u9 - p2) u10 c11 u12 u13 I) hx hb hw 8 rfl ht0 x (by omega) (by decide) (CW_u6 _) dX3_payNode_19 (fun H locs hw => ?_)
  refine lv_aload_n hx hb dX3_payNode_20 rfl (lv_at hl 0 rfl) ?_
  refine lv_dup hx hb dX3_payNode_21 rfl ?_
  refine r_get (C := RX3) (T := TX3) (v := .int (u10)) hx hb hts i3 hown hw 6 rfl rfl 5 (by decide) lk35 rfl dX3_payNode_22 ?_
  refine lv_iload_n hx hb dX3_payNode_25 rfl (lv_at hl 2 rfl) ?_
  refine lv_iadd hx hb dX3_payNode_26 ?_
  refine r_put (C := RX3) (T := TX3) (ws' := CW a b n cI cO c0 c1 c2 c3 u4 c5 (upd c6 x ((c6 x) + p2)) c7 u8 (u9 - p2) (u10 + p2) c11 u12 u13 I) hx hb hts i3 tyX3 tyX3_ok nmX3 hown hw 6 rfl rfl 5 (by decide) lk35 rfl (by decide +kernel) (Nat.le_of_ble_eq_true rfl) (CW_s10 _) dX3_payNode_27 (fun H locs hw => ?_)
  have e9 : f3_payNode c6 u9 u10 x p2 = (upd c6 x ((c6 x) + p2), u9 - p2, u10 + p2) := by unfold f3_payNode; rfl
  exact r_vret hx hb hr hlocks hw (by rw [e9] <;> rfl) dX3_payNode_30
def lf3_rankOf_4 (c7 : Nat → Int32) (x : Nat) : Nat → Nat → Int32 → Int32
  | 0, _, v2 => v2
  | k + 1, j, v2 => if (c7 x) < (c7 j) then lf3_rankOf_4 c7 x k (j + 1) (v2 + 1)
    else if (c7 j) = (c7 x) then (if (nI (x)) ≤ (nI (j)) then lf3_rankOf_4 c7 x k (j + 1) v2
      else lf3_rankOf_4 c7 x k (j + 1) (v2 + 1))
    else lf3_rankOf_4 c7 x k (j + 1) v2
set_option maxHeartbeats 4000000 in
set_option maxRecDepth 100000 in
theorem lt3_rankOf_4 (l : Launch) (D : va_G) (ty : List (ClassId × FieldType)) (a : Nat → Nat) (b : Nat → Nat → Nat) (n : Nat) (cI cO : ClassId) (ht0 : ty[0]? = some (cI, .int)) (ht1 : ty[1]? = some (cO, .object "RentSizes$Item")) (c0 : Nat → Int32) (c1 : Nat → Int32) (c2 : Nat → Int32) (c3 : Nat → Int32) (u4 : Int32) (c5 : Nat → Int32) (c6 : Nat → Int32) (c7 : Nat → Int32) (u8 : Int32) (u9 : Int32) (u10 : Int32) (c11 : Nat → Int32) (u12 : Int32) (u13 : Int32) (I : Nat → Nat → Nat → Int32) (x : Nat) (hx5 : x < 5)  {p : Program} {e : Env} {s : State} {m : MethodId} {args : Array Value} {below : List Frame} {meth : Method} {c : Code} {A : Nat → Prop} {H0 : Heap} {Q : State → Prop} (hx : p.tables.exec = Jvm.exec) (hb : c.code = cX3_rankOf) (hml : c.maxLocals = 4) (hts : ∀ w ∈ wsX3_rankOf, w.before args s = true) (hown : s.vm.findClass RX3 = some m.cls) : ∀ (k j : Nat) (v2 : Int32) (hj : j + k = 5) (H : Heap) (locs : List Loc) (ls : Array Slot) (hw : Wd D ty A H0 s (CW a b n cI cO c0 c1 c2 c3 u4 c5 c6 c7 u8 u9 u10 c11 u12 u13 I) H locs) (hl : lv_has ls 4 [(3, .int (nI (j))), (2, .int (v2)), (0, .ref (a 6)), (1, .int (nI (x)))]) (kk : ∀ (H1 : Heap) (locs1 : List Loc) (ls1 : Array Slot), Wd D ty A H0 s (CW a b n cI cO c0 c1 c2 c3 u4 c5 c6 c7 u8 u9 u10 c11 u12 u13 I) H1 locs1 → lv_has ls1 4 [(3, .int (nI (5))), (2, .int ((lf3_rankOf_4 c7 x k j v2))), (0, .ref (a 6)), (1, .int (nI (x)))] → W p l e ({ frames := 0, cells := 0, slots := 0, locals := 0 } : Room) s m args below meth c H1 locs1 0 0 Q (F0 m 53 ls1 [])), W p l e ({ frames := 0, cells := 0, slots := 0, locals := 0 } : Room) s m args below meth c H locs 0 0 Q (F0 m 4 ls []) := by
  have i3 : ∀ w ∈ wsX30, w ∈ wsX3_rankOf := fun _ h => List.mem_cons_of_mem _ (List.mem_append_right _ h)
  have lk18 := hts (.fieldLink RX3 18 "RentSizes$Ledger" "weights" "[I") (by decide +kernel)
  intro k
  induction k with
  | zero =>
    intro j v2 hj H locs ls hw hl kk
    have hj0 : j = 5 := by omega
    refine lv_iload_n hx hb dX3_rankOf_4 rfl (lv_at hl 0 rfl) ?_
    refine lv_iconst (v := 5) hx hb dX3_rankOf_5 (by decide) ?_
    refine r_top (nI 5) rfl ?_
    refine lv_icmp_ge (tgt := 53) hx hb dX3_rankOf_6 (by decide) (fun c_6 => ?_) (fun c_6 => ?_)
    · subst hj0
      exact kk _ _ _ hw (lv_sub hl [0, 1, 2, 3] rfl)
    · exact absurd (nI_le (by omega) (by omega)) c_6
  | succ k ih =>
    intro j v2 hj H locs ls hw hl kk
    have hjb : j < 5 := by omega
    refine lv_iload_n hx hb dX3_rankOf_4 rfl (lv_at hl 0 rfl) ?_
    refine lv_iconst (v := 5) hx hb dX3_rankOf_5 (by decide) ?_
    refine r_top (nI 5) rfl ?_
    refine lv_icmp_ge (tgt := 53) hx hb dX3_rankOf_6 (by decide) (fun c_6 => ?_) (fun c_6 => ?_)
    · exact absurd c_6 (nI_ge (by omega) (by omega))
    · refine lv_aload_n hx hb dX3_rankOf_9 rfl (lv_at hl 2 rfl) ?_
      refine r_get (C := RX3) (T := TX3) (v := .ref (a 9)) hx hb hts i3 hown hw 6 rfl rfl 2 (by decide) lk18 rfl dX3_rankOf_10 ?_
      refine lv_iload_n hx hb dX3_rankOf_13 rfl (lv_at hl 0 rfl) ?_
      refine r_ialdN (v := c7 j) hx hb hw 9 rfl ht0 j (by omega) (by decide) dX3_rankOf_14 rfl ?_
      refine lv_aload_n hx hb dX3_rankOf_15 rfl (lv_at hl 2 rfl) ?_
      refine r_get (C := RX3) (T := TX3) (v := .ref (a 9)) hx hb hts i3 hown hw 6 rfl rfl 2 (by decide) lk18 rfl dX3_rankOf_16 ?_
      refine lv_iload_n hx hb dX3_rankOf_19 rfl (lv_at hl 3 rfl) ?_
      refine r_ialdN (v := c7 x) hx hb hw 9 rfl ht0 x (by omega) (by decide) dX3_rankOf_20 rfl ?_
      refine lv_icmp_gt (tgt := 44) hx hb dX3_rankOf_21 (by decide) (fun c_21 => ?_) (fun c_21 => ?_)
      · refine lv_iinc (v := v2 + 1) (lv' := [(2, .int (v2 + 1)), (3, .int (nI (j))), (0, .ref (a 6)), (1, .int (nI (x)))]) hx hb dX3_rankOf_44 hl (k := 1) rfl rfl (by decide) rfl (fun ls hl => ?_)
        refine lv_iinc (v := nI (j + 1)) (lv' := [(3, .int (nI (j + 1))), (2, .int (v2 + 1)), (0, .ref (a 6)), (1, .int (nI (x)))]) hx hb dX3_rankOf_47 hl (k := 1) rfl (by show nI (j) + 1 = _; exact nI_1 _) (by decide) rfl (fun ls hl => ?_)
        refine lv_goto (tgt := 4) hx hb dX3_rankOf_50 (by decide) ?_
        have e9 : lf3_rankOf_4 c7 x (k + 1) j v2 = lf3_rankOf_4 c7 x k (j + 1) (v2 + 1) := by rw [lf3_rankOf_4]; rw [if_pos c_21]
        rw [e9] at kk
        exact ih (j + 1) (v2 + 1) (by omega)  _ _ _ hw (lv_sub hl [0, 1, 2, 3] rfl) kk
      · refine lv_aload_n hx hb dX3_rankOf_24 rfl (lv_at hl 2 rfl) ?_
        refine r_get (C := RX3) (T := TX3) (v := .ref (a 9)) hx hb hts i3 hown hw 6 rfl rfl 2 (by decide) lk18 rfl dX3_rankOf_25 ?_
        refine lv_iload_n hx hb dX3_rankOf_28 rfl (lv_at hl 0 rfl) ?_
        refine r_ialdN (v := c7 j) hx hb hw 9 rfl ht0 j (by omega) (by decide) dX3_rankOf_29 rfl ?_
        refine lv_aload_n hx hb dX3_rankOf_30 rfl (lv_at hl 2 rfl) ?_
        refine r_get (C := RX3) (T := TX3) (v := .ref (a 9)) hx hb hts i3 hown hw 6 rfl rfl 2 (by decide) lk18 rfl dX3_rankOf_31 ?_
        refine lv_iload_n hx hb dX3_rankOf_34 rfl (lv_at hl 3 rfl) ?_
        refine r_ialdN (v := c7 x) hx hb hw 9 rfl ht0 x (by omega) (by decide) dX3_rankOf_35 rfl ?_
        refine lv_icmp_ne (tgt := 47) hx hb dX3_rankOf_36 (by decide) (fun c_36 => ?_) (fun c_36 => ?_)
        · refine lv_iinc (v := nI (j + 1)) (lv' := [(3, .int (nI (j + 1))), (2, .int (v2)), (0, .ref (a 6)), (1, .int (nI (x)))]) hx hb dX3_rankOf_47 hl (k := 0) rfl (by show nI (j) + 1 = _; exact nI_1 _) (by decide) rfl (fun ls hl => ?_)
          refine lv_goto (tgt := 4) hx hb dX3_rankOf_50 (by decide) ?_
          have e9 : lf3_rankOf_4 c7 x (k + 1) j v2 = lf3_rankOf_4 c7 x k (j + 1) v2 := by rw [lf3_rankOf_4]; rw [if_neg c_21, if_neg c_36]
          rw [e9] at kk
          exact ih (j + 1) v2 (by omega)  _ _ _ hw (lv_sub hl [0, 1, 2, 3] rfl) kk
        · refine lv_iload_n hx hb dX3_rankOf_39 rfl (lv_at hl 0 rfl) ?_
          refine lv_iload_n hx hb dX3_rankOf_40 rfl (lv_at hl 3 rfl) ?_
          refine lv_icmp_ge (tgt := 47) hx hb dX3_rankOf_41 (by decide) (fun c_41 => ?_) (fun c_41 => ?_)
          · refine lv_iinc (v := nI (j + 1)) (lv' := [(3, .int (nI (j + 1))), (2, .int (v2)), (0, .ref (a 6)), (1, .int (nI (x)))]) hx hb dX3_rankOf_47 hl (k := 0) rfl (by show nI (j) + 1 = _; exact nI_1 _) (by decide) rfl (fun ls hl => ?_)
            refine lv_goto (tgt := 4) hx hb dX3_rankOf_50 (by decide) ?_
            have e9 : lf3_rankOf_4 c7 x (k + 1) j v2 = lf3_rankOf_4 c7 x k (j + 1) v2 := by rw [lf3_rankOf_4]; rw [if_neg c_21, if_pos c_36, if_pos c_41]
            rw [e9] at kk
            exact ih (j + 1) v2 (by omega)  _ _ _ hw (lv_sub hl [0, 1, 2, 3] rfl) kk
          · refine lv_iinc (v := v2 + 1) (lv' := [(2, .int (v2 + 1)), (3, .int (nI (j))), (0, .ref (a 6)), (1, .int (nI (x)))]) hx hb dX3_rankOf_44 hl (k := 1) rfl rfl (by decide) rfl (fun ls hl => ?_)
            refine lv_iinc (v := nI (j + 1)) (lv' := [(3, .int (nI (j + 1))), (2, .int (v2 + 1)), (0, .ref (a 6)), (1, .int (nI (x)))]) hx hb dX3_rankOf_47 hl (k := 1) rfl (by show nI (j) + 1 = _; exact nI_1 _) (by decide) rfl (fun ls hl => ?_)
            refine lv_goto (tgt := 4) hx hb dX3_rankOf_50 (by decide) ?_
            have e9 : lf3_rankOf_4 c7 x (k + 1) j v2 = lf3_rankOf_4 c7 x k (j + 1) (v2 + 1) := by rw [lf3_rankOf_4]; rw [if_neg c_21, if_pos c_36, if_neg c_41]
            rw [e9] at kk
            exact ih (j + 1) (v2 + 1) (by omega)  _ _ _ hw (lv_sub hl [0, 1, 2, 3] rfl) kk
def f3_rankOf (c7 : Nat → Int32) (x : Nat) : Int32 :=
  (lf3_rankOf_4 c7 x 5 0 0)
set_option maxHeartbeats 4000000 in
set_option maxRecDepth 100000 in
theorem k3_rankOf (l : Launch) (D : va_G) (ty : List (ClassId × FieldType)) (a : Nat → Nat) (b : Nat → Nat → Nat) (n : Nat) (cI cO : ClassId) (ht0 : ty[0]? = some (cI, .int)) (ht1 : ty[1]? = some (cO, .object "RentSizes$Item")) (c0 : Nat → Int32) (c1 : Nat → Int32) (c2 : Nat → Int32) (c3 : Nat → Int32) (u4 : Int32) (c5 : Nat → Int32) (c6 : Nat → Int32) (c7 : Nat → Int32) (u8 : Int32) (u9 : Int32) (u10 : Int32) (c11 : Nat → Int32) (u12 : Int32) (u13 : Int32) (I : Nat → Nat → Nat → Int32) (x : Nat) (hx5 : x < 5) : MetG l yX3_rankOf wsX3_rankOf { frames := 0, cells := 0, slots := 0, locals := 0 } D ty [.ref (a 6), .int (nI (x))] (CW a b n cI cO c0 c1 c2 c3 u4 c5 c6 c7 u8 u9 u10 c11 u12 u13 I) (va_Qi (fun r w => r = f3_rankOf c7 x ∧ w = CW a b n cI cO c0 c1 c2 c3 u4 c5 c6 c7 u8 u9 u10 c11 u12 u13 I)) 0 0 := by
  refine Met_start cX3_rankOf 4 (some .int) (by decide) rfl (Nat.le_of_ble_eq_true rfl) ?_
  intro p e s m below meth c A ls hx hb hr hlocks hml hnm hts hown hw hl
  have hl : lv_has ls 4 [(0, .ref (a 6)), (1, .int (nI (x)))] := hl
  refine lv_iconst (v := 0) hx hb dX3_rankOf_0 (by decide) ?_
  refine lv_istore_n (lv' := [(2, .int (0)), (0, .ref (a 6)), (1, .int (nI (x)))]) hx hb dX3_rankOf_1 rfl hl (by decide) rfl (fun ls hl => ?_)
  refine lv_iconst (v := 0) hx hb dX3_rankOf_2 (by decide) ?_
  refine lv_istore_n (lv' := [(3, .int (0)), (2, .int (0)), (0, .ref (a 6)), (1, .int (nI (x)))]) hx hb dX3_rankOf_3 rfl hl (by decide) rfl (fun ls hl => ?_)
  refine lt3_rankOf_4 l D ty a b n cI cO ht0 ht1 c0 c1 c2 c3 u4 c5 c6 c7 u8 u9 u10 c11 u12 u13 I x hx5  hx hb hml hts hown 5 0 0 (by omega)  _ _ _ hw hl (fun H locs ls hw hl => ?_)
  refine lv_iload_n hx hb dX3_rankOf_53 rfl (lv_at hl 1 rfl) ?_
  have e9 : f3_rankOf c7 x = (lf3_rankOf_4 c7 x 5 0 0) := by unfold f3_rankOf; rfl
  exact r_iret hx hb hr hlocks hw ⟨by rw [e9] <;> rfl, rfl⟩ dX3_rankOf_54
def f3_allCoins (c5 : Nat → Int32) (c6 : Nat → Int32) (u8 : Int32) (u9 : Int32) : Int32 :=
  (((f3_sumOf c5 6) + (f3_sumOf c6 5)) + u8) + u9
set_option maxHeartbeats 4000000 in
set_option maxRecDepth 100000 in
theorem k3_allCoins (l : Launch) (D : va_G) (ty : List (ClassId × FieldType)) (a : Nat → Nat) (b : Nat → Nat → Nat) (n : Nat) (cI cO : ClassId) (ht0 : ty[0]? = some (cI, .int)) (ht1 : ty[1]? = some (cO, .object "RentSizes$Item")) (c0 : Nat → Int32) (c1 : Nat → Int32) (c2 : Nat → Int32) (c3 : Nat → Int32) (u4 : Int32) (c5 : Nat → Int32) (c6 : Nat → Int32) (c7 : Nat → Int32) (u8 : Int32) (u9 : Int32) (u10 : Int32) (c11 : Nat → Int32) (u12 : Int32) (u13 : Int32) (I : Nat → Nat → Nat → Int32) : MetG l yX3_allCoins wsX3_allCoins { frames := 1, cells := 0, slots := 0, locals := 22 } D ty [.ref (a 6)] (CW a b n cI cO c0 c1 c2 c3 u4 c5 c6 c7 u8 u9 u10 c11 u12 u13 I) (va_Qi (fun r w => r = f3_allCoins c5 c6 u8 u9 ∧ w = CW a b n cI cO c0 c1 c2 c3 u4 c5 c6 c7 u8 u9 u10 c11 u12 u13 I)) 0 0 := by
  refine Met_start cX3_allCoins 1 (some .int) (by decide) rfl (Nat.le_of_ble_eq_true rfl) ?_
  intro p e s m below meth c A ls hx hb hr hlocks hml hnm hts hown hw hl
  have hl : lv_has ls 1 [(0, .ref (a 6))] := hl
  have i3 : ∀ w ∈ wsX30, w ∈ wsX3_allCoins := fun _ h => List.mem_cons_of_mem _ (List.mem_append_right _ h)
  have lk9 := hts (.fieldLink RX3 9 "RentSizes$Ledger" "accounts" "[I") (by decide +kernel)
  have lk15 := hts (.fieldLink RX3 15 "RentSizes$Ledger" "nodes" "[I") (by decide +kernel)
  have lk28 := hts (.fieldLink RX3 28 "RentSizes$Ledger" "held" "I") (by decide +kernel)
  have lk32 := hts (.fieldLink RX3 32 "RentSizes$Ledger" "pool" "I") (by decide +kernel)
  refine lv_aload_n hx hb dX3_allCoins_0 rfl (lv_at hl 0 rfl) ?_
  refine r_get (C := RX3) (T := TX3) (v := .ref (a 7)) hx hb hts i3 hown hw 6 rfl rfl 0 (by decide) lk9 rfl dX3_allCoins_1 ?_
  refine r_callSi (rest := []) ⟨hx, hb, hml, hown, hts⟩ (hw.cast (CW_u5 _).symm) [.ref (a 7)] (k3_sumOf l D ty cI ht0 (CW a b n cI cO c0 c1 c2 c3 u4 c5 c6 c7 u8 u9 u10 c11 u12 u13 I) 7 (a 7) 6 (List.getElem?_eq_some_iff.mp (show (CW a b n cI cO c0 c1 c2 c3 u4 c5 c6 c7 u8 u9 u10 c11 u12 u13 I)[7]? = some _ from rfl)).1 (by decide) c5) (va_cwS 1 hts gX3_allCoins_X3_sumOf rfl rfl rfl (by decide +kernel) ⟨Nat.le_of_ble_eq_true rfl, Nat.le_of_ble_eq_true rfl⟩) rfl hl.1 rfl (Nat.le_of_ble_eq_true rfl) dX3_allCoins_4 ⟨Nat.le_of_ble_eq_true rfl, Nat.le_of_ble_eq_true rfl⟩ (fun r w H locs hp hw => ?_)
  obtain ⟨rfl, rfl⟩ := hp
  replace hw := hw.cast (CW_u5 _)
  refine lv_aload_n hx hb dX3_allCoins_7 rfl (lv_at hl 0 rfl) ?_
  refine r_get (C := RX3) (T := TX3) (v := .ref (a 8)) hx hb hts i3 hown hw 6 rfl rfl 1 (by decide) lk15 rfl dX3_allCoins_8 ?_
  refine r_callSi (rest := [.int (f3_sumOf c5 6)]) ⟨hx, hb, hml, hown, hts⟩ (hw.cast (CW_u6 _).symm) [.ref (a 8)] (k3_sumOf l D ty cI ht0 (CW a b n cI cO c0 c1 c2 c3 u4 c5 c6 c7 u8 u9 u10 c11 u12 u13 I) 8 (a 8) 5 (List.getElem?_eq_some_iff.mp (show (CW a b n cI cO c0 c1 c2 c3 u4 c5 c6 c7 u8 u9 u10 c11 u12 u13 I)[8]? = some _ from rfl)).1 (by decide) c6) (va_cwS 1 hts gX3_allCoins_X3_sumOf rfl rfl rfl (by decide +kernel) ⟨Nat.le_of_ble_eq_true rfl, Nat.le_of_ble_eq_true rfl⟩) rfl hl.1 rfl (Nat.le_of_ble_eq_true rfl) dX3_allCoins_11 ⟨Nat.le_of_ble_eq_true rfl, Nat.le_of_ble_eq_true rfl⟩ (fun r w H locs hp hw => ?_)
  obtain ⟨rfl, rfl⟩ := hp
  replace hw := hw.cast (CW_u6 _)
  refine lv_iadd hx hb dX3_allCoins_14 ?_
  refine lv_aload_n hx hb dX3_allCoins_15 rfl (lv_at hl 0 rfl) ?_
  refine r_get (C := RX3) (T := TX3) (v := .int (u8)) hx hb hts i3 hown hw 6 rfl rfl 3 (by decide) lk28 rfl dX3_allCoins_16 ?_
  refine lv_iadd hx hb dX3_allCoins_19 ?_
  refine lv_aload_n hx hb dX3_allCoins_20 rfl (lv_at hl 0 rfl) ?_
  refine r_get (C := RX3) (T := TX3) (v := .int (u9)) hx hb hts i3 hown hw 6 rfl rfl 4 (by decide) lk32 rfl dX3_allCoins_21 ?_
  refine lv_iadd hx hb dX3_allCoins_24 ?_
  have e9 : f3_allCoins c5 c6 u8 u9 = (((f3_sumOf c5 6) + (f3_sumOf c6 5)) + u8) + u9 := by unfold f3_allCoins; rfl
  exact r_iret hx hb hr hlocks hw ⟨by rw [e9] <;> rfl, rfl⟩ dX3_allCoins_25
def lf3_sharePool_20 (c7 : Nat → Int32) (u9 : Int32) : Nat → Nat → (Nat → Int32) → Int32 → Int32 → (Nat → Int32) × Int32 × Int32
  | 0, _, f6, f9, f10 => (f6, f9, f10)
  | k + 1, j, f6, f9, f10 => lf3_sharePool_20 c7 u9 k (j + 1) ((f3_payNode f6 f9 f10 j (((u9.toInt64 * ((c7 j).toInt64)) / ((f3_sumOf c7 5).toInt64)).toInt32)).1) ((f3_payNode f6 f9 f10 j (((u9.toInt64 * ((c7 j).toInt64)) / ((f3_sumOf c7 5).toInt64)).toInt32)).2.1) ((f3_payNode f6 f9 f10 j (((u9.toInt64 * ((c7 j).toInt64)) / ((f3_sumOf c7 5).toInt64)).toInt32)).2.2)
set_option maxHeartbeats 4000000 in
set_option maxRecDepth 100000 in
theorem lt3_sharePool_20 (l : Launch) (D : va_G) (ty : List (ClassId × FieldType)) (a : Nat → Nat) (b : Nat → Nat → Nat) (n : Nat) (cI cO : ClassId) (ht0 : ty[0]? = some (cI, .int)) (ht1 : ty[1]? = some (cO, .object "RentSizes$Item")) (c0 : Nat → Int32) (c1 : Nat → Int32) (c2 : Nat → Int32) (c3 : Nat → Int32) (u4 : Int32) (c5 : Nat → Int32) (c6 : Nat → Int32) (c7 : Nat → Int32) (u8 : Int32) (u9 : Int32) (u10 : Int32) (c11 : Nat → Int32) (u12 : Int32) (u13 : Int32) (I : Nat → Nat → Nat → Int32)  {p : Program} {e : Env} {s : State} {m : MethodId} {args : Array Value} {below : List Frame} {meth : Method} {c : Code} {A : Nat → Prop} {H0 : Heap} {Q : State → Prop} (hx : p.tables.exec = Jvm.exec) (hb : c.code = cX3_sharePool) (hml : c.maxLocals = 5) (hts : ∀ w ∈ wsX3_sharePool, w.before args s = true) (hown : s.vm.findClass RX3 = some m.cls) : ∀ (k j : Nat) (f6 : (Nat → Int32)) (f9 : Int32) (f10 : Int32) (hj : j + k = 5) (hall : 0 < f3_sumOf c7 5) (H : Heap) (locs : List Loc) (ls : Array Slot) (hw : Wd D ty A H0 s (CW a b n cI cO c0 c1 c2 c3 u4 c5 f6 c7 u8 f9 f10 c11 u12 u13 I) H locs) (hl : lv_has ls 5 [(3, .int (nI (j))), (2, .int (u9)), (1, .int (f3_sumOf c7 5)), (0, .ref (a 6))]) (kk : ∀ (H1 : Heap) (locs1 : List Loc) (ls1 : Array Slot), Wd D ty A H0 s (CW a b n cI cO c0 c1 c2 c3 u4 c5 ((lf3_sharePool_20 c7 u9 k j f6 f9 f10).1) c7 u8 ((lf3_sharePool_20 c7 u9 k j f6 f9 f10).2.1) ((lf3_sharePool_20 c7 u9 k j f6 f9 f10).2.2) c11 u12 u13 I) H1 locs1 → lv_has ls1 5 [(3, .int (nI (5))), (2, .int (u9)), (1, .int (f3_sumOf c7 5)), (0, .ref (a 6))] → W p l e ({ frames := 1, cells := 0, slots := 0, locals := 23 } : Room) s m args below meth c H1 locs1 0 0 Q (F0 m 50 ls1 [])), W p l e ({ frames := 1, cells := 0, slots := 0, locals := 23 } : Room) s m args below meth c H locs 0 0 Q (F0 m 20 ls []) := by
  have i3 : ∀ w ∈ wsX30, w ∈ wsX3_sharePool := fun _ h => List.mem_cons_of_mem _ (List.mem_append_right _ h)
  have lk18 := hts (.fieldLink RX3 18 "RentSizes$Ledger" "weights" "[I") (by decide +kernel)
  intro k
  induction k with
  | zero =>
    intro j f6 f9 f10 hj hall H locs ls hw hl kk
    have hj0 : j = 5 := by omega
    refine lv_iload_n hx hb dX3_sharePool_20 rfl (lv_at hl 0 rfl) ?_
    refine lv_iconst (v := 5) hx hb dX3_sharePool_21 (by decide) ?_
    refine r_top (nI 5) rfl ?_
    refine lv_icmp_ge (tgt := 50) hx hb dX3_sharePool_22 (by decide) (fun c_22 => ?_) (fun c_22 => ?_)
    · subst hj0
      exact kk _ _ _ hw (lv_sub hl [0, 1, 2, 3] rfl)
    · exact absurd (nI_le (by omega) (by omega)) c_22
  | succ k ih =>
    intro j f6 f9 f10 hj hall H locs ls hw hl kk
    have hjb : j < 5 := by omega
    refine lv_iload_n hx hb dX3_sharePool_20 rfl (lv_at hl 0 rfl) ?_
    refine lv_iconst (v := 5) hx hb dX3_sharePool_21 (by decide) ?_
    refine r_top (nI 5) rfl ?_
    refine lv_icmp_ge (tgt := 50) hx hb dX3_sharePool_22 (by decide) (fun c_22 => ?_) (fun c_22 => ?_)
    · exact absurd c_22 (nI_ge (by omega) (by omega))
    · refine lv_aload_n hx hb dX3_sharePool_25 rfl (lv_at hl 3 rfl) ?_
      refine lv_iload_n hx hb dX3_sharePool_26 rfl (lv_at hl 0 rfl) ?_
      refine lv_iload_n hx hb dX3_sharePool_27 rfl (lv_at hl 1 rfl) ?_
      refine lv_i2l (v := u9.toInt64) hx hb dX3_sharePool_28 rfl ?_
      refine lv_aload_n hx hb dX3_sharePool_29 rfl (lv_at hl 3 rfl) ?_
      refine r_get (C := RX3) (T := TX3) (v := .ref (a 9)) hx hb hts i3 hown hw 6 rfl rfl 2 (by decide) lk18 rfl dX3_sharePool_30 ?_
      refine lv_iload_n hx hb dX3_sharePool_33 rfl (lv_at hl 0 rfl) ?_
      refine r_ialdN (v := c7 j) hx hb hw 9 rfl ht0 j (by omega) (by decide) dX3_sharePool_34 rfl ?_
      refine lv_i2l (v := (c7 j).toInt64) hx hb dX3_sharePool_35 rfl ?_
      refine lv_lmul hx hb dX3_sharePool_36 ?_
      refine lv_iload_n hx hb dX3_sharePool_37 rfl (lv_at hl 2 rfl) ?_
      refine lv_i2l (v := (f3_sumOf c7 5).toInt64) hx hb dX3_sharePool_38 rfl ?_
      refine lv_ldiv hx hb dX3_sharePool_39 (i64ne (fun h => absurd (h ▸ hall) (by decide))) ?_
      refine lv_l2i (v := ((u9.toInt64 * ((c7 j).toInt64)) / ((f3_sumOf c7 5).toInt64)).toInt32) hx hb dX3_sharePool_40 rfl ?_
      refine r_callVv 6 rfl rfl (rest := []) ⟨hx, hb, hml, hown, hts⟩ hw [.int (nI (j)), .int (((u9.toInt64 * ((c7 j).toInt64)) / ((f3_sumOf c7 5).toInt64)).toInt32)] (k3_payNode l D ty a b n cI cO ht0 ht1 c0 c1 c2 c3 u4 c5 f6 c7 u8 f9 f10 c11 u12 u13 I j (((u9.toInt64 * ((c7 j).toInt64)) / ((f3_sumOf c7 5).toInt64)).toInt32) (by first | assumption | omega)) (cwV 2 hts gX3_sharePool_X3_payNode rfl rfl rfl (by decide +kernel) ⟨Nat.le_of_ble_eq_true rfl, Nat.le_of_ble_eq_true rfl⟩) rfl hl.1 rfl (Nat.le_of_ble_eq_true rfl) dX3_sharePool_41 ⟨Nat.le_of_ble_eq_true rfl, Nat.le_of_ble_eq_true rfl⟩ (fun w H locs hp hw => ?_)
      subst hp
      refine lv_iinc (v := nI (j + 1)) (lv' := [(3, .int (nI (j + 1))), (2, .int (u9)), (1, .int (f3_sumOf c7 5)), (0, .ref (a 6))]) hx hb dX3_sharePool_44 hl (k := 0) rfl (by show nI (j) + 1 = _; exact nI_1 _) (by decide) rfl (fun ls hl => ?_)
      refine lv_goto (tgt := 20) hx hb dX3_sharePool_47 (by decide) ?_
      have e9 : lf3_sharePool_20 c7 u9 (k + 1) j f6 f9 f10 = lf3_sharePool_20 c7 u9 k (j + 1) ((f3_payNode f6 f9 f10 j (((u9.toInt64 * ((c7 j).toInt64)) / ((f3_sumOf c7 5).toInt64)).toInt32)).1) ((f3_payNode f6 f9 f10 j (((u9.toInt64 * ((c7 j).toInt64)) / ((f3_sumOf c7 5).toInt64)).toInt32)).2.1) ((f3_payNode f6 f9 f10 j (((u9.toInt64 * ((c7 j).toInt64)) / ((f3_sumOf c7 5).toInt64)).toInt32)).2.2) := rfl
      rw [e9] at kk
      exact ih (j + 1) ((f3_payNode f6 f9 f10 j (((u9.toInt64 * ((c7 j).toInt64)) / ((f3_sumOf c7 5).toInt64)).toInt32)).1) ((f3_payNode f6 f9 f10 j (((u9.toInt64 * ((c7 j).toInt64)) / ((f3_sumOf c7 5).toInt64)).toInt32)).2.1) ((f3_payNode f6 f9 f10 j (((u9.toInt64 * ((c7 j).toInt64)) / ((f3_sumOf c7 5).toInt64)).toInt32)).2.2) (by omega) (by first | assumption | omega) _ _ _ hw (lv_sub hl [0, 1, 2, 3] rfl) kk
def lf3_sharePool_58 (c7 : Nat → Int32) (v3 : Int32) : Nat → Nat → (Nat → Int32) → Int32 → Int32 → (Nat → Int32) × Int32 × Int32
  | 0, _, f6, f9, f10 => (f6, f9, f10)
  | k + 1, j, f6, f9, f10 => if (c7 j) ≤ 0 then lf3_sharePool_58 c7 v3 k (j + 1) f6 f9 f10
    else if v3 ≤ (f3_rankOf c7 j) then lf3_sharePool_58 c7 v3 k (j + 1) f6 f9 f10
    else lf3_sharePool_58 c7 v3 k (j + 1) ((f3_payNode f6 f9 f10 j 1).1) ((f3_payNode f6 f9 f10 j 1).2.1) ((f3_payNode f6 f9 f10 j 1).2.2)
set_option maxHeartbeats 4000000 in
set_option maxRecDepth 100000 in
theorem lt3_sharePool_58 (l : Launch) (D : va_G) (ty : List (ClassId × FieldType)) (a : Nat → Nat) (b : Nat → Nat → Nat) (n : Nat) (cI cO : ClassId) (ht0 : ty[0]? = some (cI, .int)) (ht1 : ty[1]? = some (cO, .object "RentSizes$Item")) (c0 : Nat → Int32) (c1 : Nat → Int32) (c2 : Nat → Int32) (c3 : Nat → Int32) (u4 : Int32) (c5 : Nat → Int32) (c6 : Nat → Int32) (c7 : Nat → Int32) (u8 : Int32) (u9 : Int32) (u10 : Int32) (c11 : Nat → Int32) (u12 : Int32) (u13 : Int32) (I : Nat → Nat → Nat → Int32) (v3 : Int32) {p : Program} {e : Env} {s : State} {m : MethodId} {args : Array Value} {below : List Frame} {meth : Method} {c : Code} {A : Nat → Prop} {H0 : Heap} {Q : State → Prop} (hx : p.tables.exec = Jvm.exec) (hb : c.code = cX3_sharePool) (hml : c.maxLocals = 5) (hts : ∀ w ∈ wsX3_sharePool, w.before args s = true) (hown : s.vm.findClass RX3 = some m.cls) : ∀ (k j : Nat) (f6 : (Nat → Int32)) (f9 : Int32) (f10 : Int32) (hj : j + k = 5) (H : Heap) (locs : List Loc) (ls : Array Slot) (hw : Wd D ty A H0 s (CW a b n cI cO c0 c1 c2 c3 u4 c5 f6 c7 u8 f9 f10 c11 u12 u13 I) H locs) (hl : lv_has ls 5 [(4, .int (nI (j))), (3, .int (v3)), (2, .int (u9)), (1, .int (f3_sumOf c7 5)), (0, .ref (a 6))]) (kk : ∀ (H1 : Heap) (locs1 : List Loc) (ls1 : Array Slot), Wd D ty A H0 s (CW a b n cI cO c0 c1 c2 c3 u4 c5 ((lf3_sharePool_58 c7 v3 k j f6 f9 f10).1) c7 u8 ((lf3_sharePool_58 c7 v3 k j f6 f9 f10).2.1) ((lf3_sharePool_58 c7 v3 k j f6 f9 f10).2.2) c11 u12 u13 I) H1 locs1 → lv_has ls1 5 [(4, .int (nI (5))), (3, .int (v3)), (2, .int (u9)), (1, .int (f3_sumOf c7 5)), (0, .ref (a 6))] → W p l e ({ frames := 1, cells := 0, slots := 0, locals := 23 } : Room) s m args below meth c H1 locs1 0 0 Q (F0 m 97 ls1 [])), W p l e ({ frames := 1, cells := 0, slots := 0, locals := 23 } : Room) s m args below meth c H locs 0 0 Q (F0 m 58 ls []) := by
  have i3 : ∀ w ∈ wsX30, w ∈ wsX3_sharePool := fun _ h => List.mem_cons_of_mem _ (List.mem_append_right _ h)
  have lk18 := hts (.fieldLink RX3 18 "RentSizes$Ledger" "weights" "[I") (by decide +kernel)
  intro k
  induction k with
  | zero =>
    intro j f6 f9 f10 hj H locs ls hw hl kk
    have hj0 : j = 5 := by omega
    refine lv_iload hx hb dX3_sharePool_58 (lv_at hl 0 rfl) ?_
    refine lv_iconst (v := 5) hx hb dX3_sharePool_60 (by decide) ?_
    refine r_top (nI 5) rfl ?_
    refine lv_icmp_ge (tgt := 97) hx hb dX3_sharePool_61 (by decide) (fun c_61 => ?_) (fun c_61 => ?_)
    · subst hj0
      exact kk _ _ _ hw (lv_sub hl [0, 1, 2, 3, 4] rfl)
    · exact absurd (nI_le (by omega) (by omega)) c_61
  | succ k ih =>
    intro j f6 f9 f10 hj H locs ls hw hl kk
    have hjb : j < 5 := by omega
    refine lv_iload hx hb dX3_sharePool_58 (lv_at hl 0 rfl) ?_
    refine lv_iconst (v := 5) hx hb dX3_sharePool_60 (by decide) ?_
    refine r_top (nI 5) rfl ?_
    refine lv_icmp_ge (tgt := 97) hx hb dX3_sharePool_61 (by decide) (fun c_61 => ?_) (fun c_61 => ?_)
    · exact absurd c_61 (nI_ge (by omega) (by omega))
    · refine lv_aload_n hx hb dX3_sharePool_64 rfl (lv_at hl 4 rfl) ?_
      refine r_get (C := RX3) (T := TX3) (v := .ref (a 9)) hx hb hts i3 hown hw 6 rfl rfl 2 (by decide) lk18 rfl dX3_sharePool_65 ?_
      refine lv_iload hx hb dX3_sharePool_68 (lv_at hl 0 rfl) ?_
      refine r_ialdN (v := c7 j) hx hb hw 9 rfl ht0 j (by omega) (by decide) dX3_sharePool_70 rfl ?_
      refine lv_if_le (tgt := 91) hx hb dX3_sharePool_71 (by decide) (fun c_71 => ?_) (fun c_71 => ?_)
      · refine lv_iinc (v := nI (j + 1)) (lv' := [(4, .int (nI (j + 1))), (3, .int (v3)), (2, .int (u9)), (1, .int (f3_sumOf c7 5)), (0, .ref (a 6))]) hx hb dX3_sharePool_91 hl (k := 0) rfl (by show nI (j) + 1 = _; exact nI_1 _) (by decide) rfl (fun ls hl => ?_)
        refine lv_goto (tgt := 58) hx hb dX3_sharePool_94 (by decide) ?_
        have e9 : lf3_sharePool_58 c7 v3 (k + 1) j f6 f9 f10 = lf3_sharePool_58 c7 v3 k (j + 1) f6 f9 f10 := by rw [lf3_sharePool_58]; rw [if_pos c_71]
        rw [e9] at kk
        exact ih (j + 1) f6 f9 f10 (by omega)  _ _ _ hw (lv_sub hl [0, 1, 2, 3, 4] rfl) kk
      · refine lv_aload_n hx hb dX3_sharePool_74 rfl (lv_at hl 4 rfl) ?_
        refine lv_iload hx hb dX3_sharePool_75 (lv_at hl 0 rfl) ?_
        refine r_callVi 6 rfl rfl (rest := []) ⟨hx, hb, hml, hown, hts⟩ hw [.int (nI (j))] (k3_rankOf l D ty a b n cI cO ht0 ht1 c0 c1 c2 c3 u4 c5 f6 c7 u8 f9 f10 c11 u12 u13 I j (by first | assumption | omega)) (cwV 1 hts gX3_sharePool_X3_rankOf rfl rfl rfl (by decide +kernel) ⟨Nat.le_of_ble_eq_true rfl, Nat.le_of_ble_eq_true rfl⟩) rfl hl.1 rfl (Nat.le_of_ble_eq_true rfl) dX3_sharePool_77 ⟨Nat.le_of_ble_eq_true rfl, Nat.le_of_ble_eq_true rfl⟩ (fun r w H locs hp hw => ?_)
        obtain ⟨rfl, rfl⟩ := hp
        refine lv_iload_n hx hb dX3_sharePool_80 rfl (lv_at hl 1 rfl) ?_
        refine lv_icmp_ge (tgt := 91) hx hb dX3_sharePool_81 (by decide) (fun c_81 => ?_) (fun c_81 => ?_)
        · refine lv_iinc (v := nI (j + 1)) (lv' := [(4, .int (nI (j + 1))), (3, .int (v3)), (2, .int (u9)), (1, .int (f3_sumOf c7 5)), (0, .ref (a 6))]) hx hb dX3_sharePool_91 hl (k := 0) rfl (by show nI (j) + 1 = _; exact nI_1 _) (by decide) rfl (fun ls hl => ?_)
          refine lv_goto (tgt := 58) hx hb dX3_sharePool_94 (by decide) ?_
          have e9 : lf3_sharePool_58 c7 v3 (k + 1) j f6 f9 f10 = lf3_sharePool_58 c7 v3 k (j + 1) f6 f9 f10 := by rw [lf3_sharePool_58]; rw [if_neg c_71, if_pos c_81]
          rw [e9] at kk
          exact ih (j + 1) f6 f9 f10 (by omega)  _ _ _ hw (lv_sub hl [0, 1, 2, 3, 4] rfl) kk
        · refine lv_aload_n hx hb dX3_sharePool_84 rfl (lv_at hl 4 rfl) ?_
          refine lv_iload hx hb dX3_sharePool_85 (lv_at hl 0 rfl) ?_
          refine lv_iconst (v := 1) hx hb dX3_sharePool_87 (by decide) ?_
          refine r_callVv 6 rfl rfl (rest := []) ⟨hx, hb, hml, hown, hts⟩ hw [.int (nI (j)), .int (1)] (k3_payNode l D ty a b n cI cO ht0 ht1 c0 c1 c2 c3 u4 c5 f6 c7 u8 f9 f10 c11 u12 u13 I j 1 (by first | assumption | omega)) (cwV 2 hts gX3_sharePool_X3_payNode rfl rfl rfl (by decide +kernel) ⟨Nat.le_of_ble_eq_true rfl, Nat.le_of_ble_eq_true rfl⟩) rfl hl.1 rfl (Nat.le_of_ble_eq_true rfl) dX3_sharePool_88 ⟨Nat.le_of_ble_eq_true rfl, Nat.le_of_ble_eq_true rfl⟩ (fun w H locs hp hw => ?_)
          subst hp
          refine lv_iinc (v := nI (j + 1)) (lv' := [(4, .int (nI (j + 1))), (3, .int (v3)), (2, .int (u9)), (1, .int (f3_sumOf c7 5)), (0, .ref (a 6))]) hx hb dX3_sharePool_91 hl (k := 0) rfl (by show nI (j) + 1 = _; exact nI_1 _) (by decide) rfl (fun ls hl => ?_)
          refine lv_goto (tgt := 58) hx hb dX3_sharePool_94 (by decide) ?_
          have e9 : lf3_sharePool_58 c7 v3 (k + 1) j f6 f9 f10 = lf3_sharePool_58 c7 v3 k (j + 1) ((f3_payNode f6 f9 f10 j 1).1) ((f3_payNode f6 f9 f10 j 1).2.1) ((f3_payNode f6 f9 f10 j 1).2.2) := by rw [lf3_sharePool_58]; rw [if_neg c_71, if_neg c_81]
          rw [e9] at kk
          exact ih (j + 1) ((f3_payNode f6 f9 f10 j 1).1) ((f3_payNode f6 f9 f10 j 1).2.1) ((f3_payNode f6 f9 f10 j 1).2.2) (by omega)  _ _ _ hw (lv_sub hl [0, 1, 2, 3, 4] rfl) kk
def f3_sharePool (c6 : Nat → Int32) (c7 : Nat → Int32) (u9 : Int32) (u10 : Int32) : (Nat → Int32) × Int32 × Int32 :=
  if 0 < (f3_sumOf c7 5) then ((lf3_sharePool_58 c7 ((lf3_sharePool_20 c7 u9 5 0 c6 u9 u10).2.1) 5 0 ((lf3_sharePool_20 c7 u9 5 0 c6 u9 u10).1) ((lf3_sharePool_20 c7 u9 5 0 c6 u9 u10).2.1) ((lf3_sharePool_20 c7 u9 5 0 c6 u9 u10).2.2)).1, (lf3_sharePool_58 c7 ((lf3_sharePool_20 c7 u9 5 0 c6 u9 u10).2.1) 5 0 ((lf3_sharePool_20 c7 u9 5 0 c6 u9 u10).1) ((lf3_sharePool_20 c7 u9 5 0 c6 u9 u10).2.1) ((lf3_sharePool_20 c7 u9 5 0 c6 u9 u10).2.2)).2.1, (lf3_sharePool_58 c7 ((lf3_sharePool_20 c7 u9 5 0 c6 u9 u10).2.1) 5 0 ((lf3_sharePool_20 c7 u9 5 0 c6 u9 u10).1) ((lf3_sharePool_20 c7 u9 5 0 c6 u9 u10).2.1) ((lf3_sharePool_20 c7 u9 5 0 c6 u9 u10).2.2)).2.2)
  else (c6, u9, u10)
set_option maxHeartbeats 4000000 in
set_option maxRecDepth 100000 in
theorem k3_sharePool (l : Launch) (D : va_G) (ty : List (ClassId × FieldType)) (a : Nat → Nat) (b : Nat → Nat → Nat) (n : Nat) (cI cO : ClassId) (ht0 : ty[0]? = some (cI, .int)) (ht1 : ty[1]? = some (cO, .object "RentSizes$Item")) (c0 : Nat → Int32) (c1 : Nat → Int32) (c2 : Nat → Int32) (c3 : Nat → Int32) (u4 : Int32) (c5 : Nat → Int32) (c6 : Nat → Int32) (c7 : Nat → Int32) (u8 : Int32) (u9 : Int32) (u10 : Int32) (c11 : Nat → Int32) (u12 : Int32) (u13 : Int32) (I : Nat → Nat → Nat → Int32) : MetG l yX3_sharePool wsX3_sharePool { frames := 1, cells := 0, slots := 0, locals := 23 } D ty [.ref (a 6)] (CW a b n cI cO c0 c1 c2 c3 u4 c5 c6 c7 u8 u9 u10 c11 u12 u13 I) (va_Qv (fun w => w = CW a b n cI cO c0 c1 c2 c3 u4 c5 (f3_sharePool c6 c7 u9 u10).1 c7 u8 (f3_sharePool c6 c7 u9 u10).2.1 (f3_sharePool c6 c7 u9 u10).2.2 c11 u12 u13 I)) 0 0 := by
  refine Met_start cX3_sharePool 5 none (by decide) rfl (Nat.le_of_ble_eq_true rfl) ?_
  intro p e s m below meth c A ls hx hb hr hlocks hml hnm hts hown hw hl
  have hl : lv_has ls 5 [(0, .ref (a 6))] := hl
  have i3 : ∀ w ∈ wsX30, w ∈ wsX3_sharePool := fun _ h => List.mem_cons_of_mem _ (List.mem_append_right _ h)
  have lk18 := hts (.fieldLink RX3 18 "RentSizes$Ledger" "weights" "[I") (by decide +kernel)
  have lk32 := hts (.fieldLink RX3 32 "RentSizes$Ledger" "pool" "I") (by decide +kernel)
  refine lv_aload_n hx hb dX3_sharePool_0 rfl (lv_at hl 0 rfl) ?_
  refine r_get (C := RX3) (T := TX3) (v := .ref (a 9)) hx hb hts i3 hown hw 6 rfl rfl 2 (by decide) lk18 rfl dX3_sharePool_1 ?_
  refine r_callSi (rest := []) ⟨hx, hb, hml, hown, hts⟩ (hw.cast (CW_u7 _).symm) [.ref (a 9)] (k3_sumOf l D ty cI ht0 (CW a b n cI cO c0 c1 c2 c3 u4 c5 c6 c7 u8 u9 u10 c11 u12 u13 I) 9 (a 9) 5 (List.getElem?_eq_some_iff.mp (show (CW a b n cI cO c0 c1 c2 c3 u4 c5 c6 c7 u8 u9 u10 c11 u12 u13 I)[9]? = some _ from rfl)).1 (by decide) c7) (va_cwS 1 hts gX3_sharePool_X3_sumOf rfl rfl rfl (by decide +kernel) ⟨Nat.le_of_ble_eq_true rfl, Nat.le_of_ble_eq_true rfl⟩) rfl hl.1 rfl (Nat.le_of_ble_eq_true rfl) dX3_sharePool_4 ⟨Nat.le_of_ble_eq_true rfl, Nat.le_of_ble_eq_true rfl⟩ (fun r w H locs hp hw => ?_)
  obtain ⟨rfl, rfl⟩ := hp
  replace hw := hw.cast (CW_u7 _)
  refine lv_istore_n (lv' := [(1, .int (f3_sumOf c7 5)), (0, .ref (a 6))]) hx hb dX3_sharePool_7 rfl hl (by decide) rfl (fun ls hl => ?_)
  refine lv_iload_n hx hb dX3_sharePool_8 rfl (lv_at hl 0 rfl) ?_
  refine lv_if_gt (tgt := 13) hx hb dX3_sharePool_9 (by decide) (fun c_9 => ?_) (fun c_9 => ?_)
  · refine lv_aload_n hx hb dX3_sharePool_13 rfl (lv_at hl 1 rfl) ?_
    refine r_get (C := RX3) (T := TX3) (v := .int (u9)) hx hb hts i3 hown hw 6 rfl rfl 4 (by decide) lk32 rfl dX3_sharePool_14 ?_
    refine lv_istore_n (lv' := [(2, .int (u9)), (1, .int (f3_sumOf c7 5)), (0, .ref (a 6))]) hx hb dX3_sharePool_17 rfl hl (by decide) rfl (fun ls hl => ?_)
    refine lv_iconst (v := 0) hx hb dX3_sharePool_18 (by decide) ?_
    refine lv_istore_n (lv' := [(3, .int (0)), (2, .int (u9)), (1, .int (f3_sumOf c7 5)), (0, .ref (a 6))]) hx hb dX3_sharePool_19 rfl hl (by decide) rfl (fun ls hl => ?_)
    refine lt3_sharePool_20 l D ty a b n cI cO ht0 ht1 c0 c1 c2 c3 u4 c5 c6 c7 u8 u9 u10 c11 u12 u13 I  hx hb hml hts hown 5 0 c6 u9 u10 (by omega) c_9 _ _ _ hw hl (fun H locs ls hw hl => ?_)
    refine lv_aload_n hx hb dX3_sharePool_50 rfl (lv_at hl 3 rfl) ?_
    refine r_get (C := RX3) (T := TX3) (v := .int ((lf3_sharePool_20 c7 u9 5 0 c6 u9 u10).2.1)) hx hb hts i3 hown hw 6 rfl rfl 4 (by decide) lk32 rfl dX3_sharePool_51 ?_
    refine lv_istore_n (lv' := [(3, .int ((lf3_sharePool_20 c7 u9 5 0 c6 u9 u10).2.1)), (2, .int (u9)), (1, .int (f3_sumOf c7 5)), (0, .ref (a 6))]) hx hb dX3_sharePool_54 rfl hl (by decide) rfl (fun ls hl => ?_)
    refine lv_iconst (v := 0) hx hb dX3_sharePool_55 (by decide) ?_
    refine lv_istore (lv' := [(4, .int (0)), (3, .int ((lf3_sharePool_20 c7 u9 5 0 c6 u9 u10).2.1)), (2, .int (u9)), (1, .int (f3_sumOf c7 5)), (0, .ref (a 6))]) hx hb dX3_sharePool_56 hl (by decide) rfl (fun ls hl => ?_)
    refine lt3_sharePool_58 l D ty a b n cI cO ht0 ht1 c0 c1 c2 c3 u4 c5 c6 c7 u8 u9 u10 c11 u12 u13 I ((lf3_sharePool_20 c7 u9 5 0 c6 u9 u10).2.1) hx hb hml hts hown 5 0 ((lf3_sharePool_20 c7 u9 5 0 c6 u9 u10).1) ((lf3_sharePool_20 c7 u9 5 0 c6 u9 u10).2.1) ((lf3_sharePool_20 c7 u9 5 0 c6 u9 u10).2.2) (by omega)  _ _ _ hw hl (fun H locs ls hw hl => ?_)
    have e9 : f3_sharePool c6 c7 u9 u10 = ((lf3_sharePool_58 c7 ((lf3_sharePool_20 c7 u9 5 0 c6 u9 u10).2.1) 5 0 ((lf3_sharePool_20 c7 u9 5 0 c6 u9 u10).1) ((lf3_sharePool_20 c7 u9 5 0 c6 u9 u10).2.1) ((lf3_sharePool_20 c7 u9 5 0 c6 u9 u10).2.2)).1, (lf3_sharePool_58 c7 ((lf3_sharePool_20 c7 u9 5 0 c6 u9 u10).2.1) 5 0 ((lf3_sharePool_20 c7 u9 5 0 c6 u9 u10).1) ((lf3_sharePool_20 c7 u9 5 0 c6 u9 u10).2.1) ((lf3_sharePool_20 c7 u9 5 0 c6 u9 u10).2.2)).2.1, (lf3_sharePool_58 c7 ((lf3_sharePool_20 c7 u9 5 0 c6 u9 u10).2.1) 5 0 ((lf3_sharePool_20 c7 u9 5 0 c6 u9 u10).1) ((lf3_sharePool_20 c7 u9 5 0 c6 u9 u10).2.1) ((lf3_sharePool_20 c7 u9 5 0 c6 u9 u10).2.2)).2.2) := by unfold f3_sharePool; rw [if_pos c_9]
    exact r_vret hx hb hr hlocks hw (by rw [e9] <;> rfl) dX3_sharePool_97
  · have e9 : f3_sharePool c6 c7 u9 u10 = (c6, u9, u10) := by unfold f3_sharePool; rw [if_neg c_9]
    exact r_vret hx hb hr hlocks hw (by rw [e9] <;> rfl) dX3_sharePool_12
