def f2_joinsNewest (b6 : Nat → Int32) (b7 : Nat → Int32) (t8 : Int32) (p1 : Int32) (p2 : Int32) : Int32 :=
  if (nI (tn t8)) ≤ 0 then 0
  else if (b6 (tn t8 - 1)) = p1 then (if (b7 (tn t8 - 1)) = p2 then 1
    else 0)
  else 0
set_option maxHeartbeats 4000000 in
set_option maxRecDepth 100000 in
theorem k2_joinsNewest (l : Launch) (D : va_G) (ty : List (ClassId × FieldType)) (a : Nat → Nat) (b : Nat → Nat → Nat) (n : Nat) (cI cO : ClassId) (ht0 : ty[0]? = some (cI, .int)) (ht1 : ty[1]? = some (cO, .object "RentSizes$Item")) (c0 : Nat → Int32) (c1 : Nat → Int32) (c2 : Nat → Int32) (c3 : Nat → Int32) (u4 : Int32) (c5 : Nat → Int32) (c6 : Nat → Int32) (c7 : Nat → Int32) (u8 : Int32) (u9 : Int32) (u10 : Int32) (c11 : Nat → Int32) (u12 : Int32) (u13 : Int32) (I : Nat → Nat → Nat → Int32) (i : Nat) (b0 : Nat → Int32) (t1 : Int32) (t2 : Int32) (t3 : Int32) (t4 : Int32) (b5 : Nat → Int32) (b6 : Nat → Int32) (b7 : Nat → Int32) (t8 : Int32) (p1 : Int32) (p2 : Int32) (hi : i < n) (hc0 : t8 = nI (tn t8)) (hc1 : tn t8 ≤ 16) : MetG l yX2_joinsNewest wsX2_joinsNewest { frames := 0, cells := 0, slots := 0, locals := 0 } D ty [.ref (b i 2), .int (p1), .int (p2)] (CW a b n cI cO c0 c1 c2 c3 u4 c5 c6 c7 u8 u9 u10 c11 u12 u13 (va_up I i (JX b0 t1 t2 t3 t4 b5 b6 b7 t8))) (va_Qi (fun r w => r = f2_joinsNewest b6 b7 t8 p1 p2 ∧ w = CW a b n cI cO c0 c1 c2 c3 u4 c5 c6 c7 u8 u9 u10 c11 u12 u13 (va_up I i (JX b0 t1 t2 t3 t4 b5 b6 b7 t8)))) 0 0 := by
  refine Met_start cX2_joinsNewest 3 (some .boolean) (by decide) rfl (Nat.le_of_ble_eq_true rfl) ?_
  intro p e s m below meth c A ls hx hb hr hlocks hml hnm hts hown hw hl
  have hl : lv_has ls 3 [(0, .ref (b i 2)), (1, .int (p1)), (2, .int (p2))] := hl
  have i2 : ∀ w ∈ wsX20, w ∈ wsX2_joinsNewest := fun _ h => List.mem_cons_of_mem _ (List.mem_append_right _ h)
  have lk21 := hts (.fieldLink RX2 21 "RentSizes$Layers" "count" "I") (by decide +kernel)
  have lk15 := hts (.fieldLink RX2 15 "RentSizes$Layers" "prices" "[I") (by decide +kernel)
  have lk18 := hts (.fieldLink RX2 18 "RentSizes$Layers" "payers" "[I") (by decide +kernel)
  refine lv_aload_n hx hb dX2_joinsNewest_0 rfl (lv_at hl 0 rfl) ?_
  refine r_get (C := RX2) (T := TX2) (v := .int (t8)) hx hb hts i2 hown hw (12 + (6 * i + 2)) (CW_getF _ _ _ (by assumption) (by decide) rfl) rfl 3 (by decide) lk21 rfl dX2_joinsNewest_1 ?_
  refine r_top (nI (tn t8)) hc0 ?_
  refine lv_if_le (tgt := 41) hx hb dX2_joinsNewest_4 (by decide) (fun c_4 => ?_) (fun c_4 => ?_)
  · refine lv_iconst (v := 0) hx hb dX2_joinsNewest_41 (by decide) ?_
    have e9 : f2_joinsNewest b6 b7 t8 p1 p2 = 0 := by unfold f2_joinsNewest; rw [if_pos c_4]
    exact r_zret hx hb hr hlocks (Or.inl rfl) hw ⟨by rw [e9] <;> rfl, rfl⟩ dX2_joinsNewest_42
  · have hE := pos_nle c_4
    refine lv_aload_n hx hb dX2_joinsNewest_7 rfl (lv_at hl 0 rfl) ?_
    refine r_get (C := RX2) (T := TX2) (v := .ref (b i 4)) hx hb hts i2 hown hw (12 + (6 * i + 2)) (CW_getF _ _ _ (by assumption) (by decide) rfl) rfl 1 (by decide) lk15 rfl dX2_joinsNewest_8 ?_
    refine lv_aload_n hx hb dX2_joinsNewest_11 rfl (lv_at hl 0 rfl) ?_
    refine r_get (C := RX2) (T := TX2) (v := .int (t8)) hx hb hts i2 hown hw (12 + (6 * i + 2)) (CW_getF _ _ _ (by assumption) (by decide) rfl) rfl 3 (by decide) lk21 rfl dX2_joinsNewest_12 ?_
    refine r_top (nI (tn t8)) hc0 ?_
    refine lv_iconst (v := 1) hx hb dX2_joinsNewest_15 (by decide) ?_
    refine lv_isub hx hb dX2_joinsNewest_16 ?_
    refine r_top (nI (tn t8 - 1)) (nI_sub1 hE) ?_
    refine r_ialdN (v := b6 (tn t8 - 1)) hx hb hw (12 + (6 * i + 4)) (CW_getF _ _ _ (by assumption) (by decide) rfl) ht0 (tn t8 - 1) (by omega) (by decide) dX2_joinsNewest_17 rfl ?_
    refine lv_iload_n hx hb dX2_joinsNewest_18 rfl (lv_at hl 1 rfl) ?_
    refine lv_icmp_ne (tgt := 41) hx hb dX2_joinsNewest_19 (by decide) (fun c_19 => ?_) (fun c_19 => ?_)
    · refine lv_iconst (v := 0) hx hb dX2_joinsNewest_41 (by decide) ?_
      have e9 : f2_joinsNewest b6 b7 t8 p1 p2 = 0 := by unfold f2_joinsNewest; rw [if_neg c_4, if_neg c_19]
      exact r_zret hx hb hr hlocks (Or.inl rfl) hw ⟨by rw [e9] <;> rfl, rfl⟩ dX2_joinsNewest_42
    · refine lv_aload_n hx hb dX2_joinsNewest_22 rfl (lv_at hl 0 rfl) ?_
      refine r_get (C := RX2) (T := TX2) (v := .ref (b i 5)) hx hb hts i2 hown hw (12 + (6 * i + 2)) (CW_getF _ _ _ (by assumption) (by decide) rfl) rfl 2 (by decide) lk18 rfl dX2_joinsNewest_23 ?_
      refine lv_aload_n hx hb dX2_joinsNewest_26 rfl (lv_at hl 0 rfl) ?_
      refine r_get (C := RX2) (T := TX2) (v := .int (t8)) hx hb hts i2 hown hw (12 + (6 * i + 2)) (CW_getF _ _ _ (by assumption) (by decide) rfl) rfl 3 (by decide) lk21 rfl dX2_joinsNewest_27 ?_
      refine r_top (nI (tn t8)) hc0 ?_
      refine lv_iconst (v := 1) hx hb dX2_joinsNewest_30 (by decide) ?_
      refine lv_isub hx hb dX2_joinsNewest_31 ?_
      refine r_top (nI (tn t8 - 1)) (nI_sub1 hE) ?_
      refine r_ialdN (v := b7 (tn t8 - 1)) hx hb hw (12 + (6 * i + 5)) (CW_getF _ _ _ (by assumption) (by decide) rfl) ht0 (tn t8 - 1) (by omega) (by decide) dX2_joinsNewest_32 rfl ?_
      refine lv_iload_n hx hb dX2_joinsNewest_33 rfl (lv_at hl 2 rfl) ?_
      refine lv_icmp_ne (tgt := 41) hx hb dX2_joinsNewest_34 (by decide) (fun c_34 => ?_) (fun c_34 => ?_)
      · refine lv_iconst (v := 0) hx hb dX2_joinsNewest_41 (by decide) ?_
        have e9 : f2_joinsNewest b6 b7 t8 p1 p2 = 0 := by unfold f2_joinsNewest; rw [if_neg c_4, if_pos c_19, if_neg c_34]
        exact r_zret hx hb hr hlocks (Or.inl rfl) hw ⟨by rw [e9] <;> rfl, rfl⟩ dX2_joinsNewest_42
      · refine lv_iconst (v := 1) hx hb dX2_joinsNewest_37 (by decide) ?_
        refine lv_goto (tgt := 42) hx hb dX2_joinsNewest_38 (by decide) ?_
        have e9 : f2_joinsNewest b6 b7 t8 p1 p2 = 1 := by unfold f2_joinsNewest; rw [if_neg c_4, if_pos c_19, if_pos c_34]
        exact r_zret hx hb hr hlocks (Or.inr rfl) hw ⟨by rw [e9] <;> rfl, rfl⟩ dX2_joinsNewest_42
theorem jn_pos {b6 b7 : Nat → Int32} {t8 p1 p2 : Int32} (h : ¬ f2_joinsNewest b6 b7 t8 p1 p2 = 0) : 1 ≤ tn t8 := by
  unfold f2_joinsNewest at h
  by_cases c : nI (tn t8) ≤ 0
  · rw [if_pos c] at h; exact absurd rfl h
  · exact pos_nle c
theorem wi_b {p1 p2 p3 : Int32} : f4_within p1 p2 p3 = 0 ∨ f4_within p1 p2 p3 = 1 := by
  unfold f4_within
  split
  · exact Or.inl rfl
  · split
    · exact Or.inl rfl
    · exact Or.inr rfl
def f2_hasRoomFor (b6 : Nat → Int32) (b7 : Nat → Int32) (t8 : Int32) (p1 : Int32) (p2 : Int32) : Int32 :=
  if (nI (tn t8)) < 16 then 1
  else if (f2_joinsNewest b6 b7 t8 p1 p2) = 0 then 0
  else 1
set_option maxHeartbeats 4000000 in
set_option maxRecDepth 100000 in
theorem k2_hasRoomFor (l : Launch) (D : va_G) (ty : List (ClassId × FieldType)) (a : Nat → Nat) (b : Nat → Nat → Nat) (n : Nat) (cI cO : ClassId) (ht0 : ty[0]? = some (cI, .int)) (ht1 : ty[1]? = some (cO, .object "RentSizes$Item")) (c0 : Nat → Int32) (c1 : Nat → Int32) (c2 : Nat → Int32) (c3 : Nat → Int32) (u4 : Int32) (c5 : Nat → Int32) (c6 : Nat → Int32) (c7 : Nat → Int32) (u8 : Int32) (u9 : Int32) (u10 : Int32) (c11 : Nat → Int32) (u12 : Int32) (u13 : Int32) (I : Nat → Nat → Nat → Int32) (i : Nat) (b0 : Nat → Int32) (t1 : Int32) (t2 : Int32) (t3 : Int32) (t4 : Int32) (b5 : Nat → Int32) (b6 : Nat → Int32) (b7 : Nat → Int32) (t8 : Int32) (p1 : Int32) (p2 : Int32) (hi : i < n) (hc0 : t8 = nI (tn t8)) (hc1 : tn t8 ≤ 16) : MetG l yX2_hasRoomFor wsX2_hasRoomFor { frames := 1, cells := 0, slots := 0, locals := 22 } D ty [.ref (b i 2), .int (p1), .int (p2)] (CW a b n cI cO c0 c1 c2 c3 u4 c5 c6 c7 u8 u9 u10 c11 u12 u13 (va_up I i (JX b0 t1 t2 t3 t4 b5 b6 b7 t8))) (va_Qi (fun r w => r = f2_hasRoomFor b6 b7 t8 p1 p2 ∧ w = CW a b n cI cO c0 c1 c2 c3 u4 c5 c6 c7 u8 u9 u10 c11 u12 u13 (va_up I i (JX b0 t1 t2 t3 t4 b5 b6 b7 t8)))) 0 0 := by
  refine Met_start cX2_hasRoomFor 3 (some .boolean) (by decide) rfl (Nat.le_of_ble_eq_true rfl) ?_
  intro p e s m below meth c A ls hx hb hr hlocks hml hnm hts hown hw hl
  have hl : lv_has ls 3 [(0, .ref (b i 2)), (1, .int (p1)), (2, .int (p2))] := hl
  have i2 : ∀ w ∈ wsX20, w ∈ wsX2_hasRoomFor := fun _ h => List.mem_cons_of_mem _ (List.mem_append_right _ h)
  have lk21 := hts (.fieldLink RX2 21 "RentSizes$Layers" "count" "I") (by decide +kernel)
  refine lv_aload_n hx hb dX2_hasRoomFor_0 rfl (lv_at hl 0 rfl) ?_
  refine r_get (C := RX2) (T := TX2) (v := .int (t8)) hx hb hts i2 hown hw (12 + (6 * i + 2)) (CW_getF _ _ _ (by assumption) (by decide) rfl) rfl 3 (by decide) lk21 rfl dX2_hasRoomFor_1 ?_
  refine r_top (nI (tn t8)) hc0 ?_
  refine lv_bipush (v := 16) hx hb dX2_hasRoomFor_4 (by decide) ?_
  refine lv_icmp_lt (tgt := 18) hx hb dX2_hasRoomFor_6 (by decide) (fun c_6 => ?_) (fun c_6 => ?_)
  · refine lv_iconst (v := 1) hx hb dX2_hasRoomFor_18 (by decide) ?_
    refine lv_goto (tgt := 23) hx hb dX2_hasRoomFor_19 (by decide) ?_
    have e9 : f2_hasRoomFor b6 b7 t8 p1 p2 = 1 := by unfold f2_hasRoomFor; rw [if_pos c_6]
    exact r_zret hx hb hr hlocks (Or.inr rfl) hw ⟨by rw [e9] <;> rfl, rfl⟩ dX2_hasRoomFor_23
  · refine lv_aload_n hx hb dX2_hasRoomFor_9 rfl (lv_at hl 0 rfl) ?_
    refine lv_iload_n hx hb dX2_hasRoomFor_10 rfl (lv_at hl 1 rfl) ?_
    refine lv_iload_n hx hb dX2_hasRoomFor_11 rfl (lv_at hl 2 rfl) ?_
    refine r_callVi (12 + (6 * i + 2)) (CW_getF _ _ _ (by assumption) (by decide) rfl) rfl (rest := []) ⟨hx, hb, hml, hown, hts⟩ hw [.int (p1), .int (p2)] (k2_joinsNewest l D ty a b n cI cO ht0 ht1 c0 c1 c2 c3 u4 c5 c6 c7 u8 u9 u10 c11 u12 u13 I i b0 t1 t2 t3 t4 b5 b6 b7 t8 p1 p2 (by first | assumption | omega) (by first | assumption | omega) (by first | assumption | omega)) (cwV 2 hts gX2_hasRoomFor_X2_joinsNewest rfl rfl rfl (by decide +kernel) ⟨Nat.le_of_ble_eq_true rfl, Nat.le_of_ble_eq_true rfl⟩) rfl hl.1 rfl (Nat.le_of_ble_eq_true rfl) dX2_hasRoomFor_12 ⟨Nat.le_of_ble_eq_true rfl, Nat.le_of_ble_eq_true rfl⟩ (fun r w H locs hp hw => ?_)
    obtain ⟨rfl, rfl⟩ := hp
    refine lv_if_eq (tgt := 22) hx hb dX2_hasRoomFor_15 (by decide) (fun c_15 => ?_) (fun c_15 => ?_)
    · refine lv_iconst (v := 0) hx hb dX2_hasRoomFor_22 (by decide) ?_
      have e9 : f2_hasRoomFor b6 b7 t8 p1 p2 = 0 := by unfold f2_hasRoomFor; rw [if_neg c_6, if_pos c_15]
      exact r_zret hx hb hr hlocks (Or.inl rfl) hw ⟨by rw [e9] <;> rfl, rfl⟩ dX2_hasRoomFor_23
    · refine lv_iconst (v := 1) hx hb dX2_hasRoomFor_18 (by decide) ?_
      refine lv_goto (tgt := 23) hx hb dX2_hasRoomFor_19 (by decide) ?_
      have e9 : f2_hasRoomFor b6 b7 t8 p1 p2 = 1 := by unfold f2_hasRoomFor; rw [if_neg c_6, if_neg c_15]
      exact r_zret hx hb hr hlocks (Or.inr rfl) hw ⟨by rw [e9] <;> rfl, rfl⟩ dX2_hasRoomFor_23
def f2_put (b5 : Nat → Int32) (b6 : Nat → Int32) (b7 : Nat → Int32) (t8 : Int32) (p1 : Int32) (p2 : Int32) (p3 : Int32) : (Nat → Int32) × (Nat → Int32) × (Nat → Int32) × Int32 :=
  if (f2_joinsNewest b6 b7 t8 p2 p3) = 0 then (if 16 ≤ (nI (tn t8)) then (b5, b6, b7, t8)
    else (upd b5 (tn t8) p1, upd b6 (tn t8) p2, upd b7 (tn t8) p3, nI ((tn t8) + 1)))
  else (upd b5 (tn t8 - 1) ((b5 (tn t8 - 1)) + p1), b6, b7, t8)
set_option maxHeartbeats 4000000 in
set_option maxRecDepth 100000 in
theorem k2_put (l : Launch) (D : va_G) (ty : List (ClassId × FieldType)) (a : Nat → Nat) (b : Nat → Nat → Nat) (n : Nat) (cI cO : ClassId) (ht0 : ty[0]? = some (cI, .int)) (ht1 : ty[1]? = some (cO, .object "RentSizes$Item")) (c0 : Nat → Int32) (c1 : Nat → Int32) (c2 : Nat → Int32) (c3 : Nat → Int32) (u4 : Int32) (c5 : Nat → Int32) (c6 : Nat → Int32) (c7 : Nat → Int32) (u8 : Int32) (u9 : Int32) (u10 : Int32) (c11 : Nat → Int32) (u12 : Int32) (u13 : Int32) (I : Nat → Nat → Nat → Int32) (i : Nat) (b0 : Nat → Int32) (t1 : Int32) (t2 : Int32) (t3 : Int32) (t4 : Int32) (b5 : Nat → Int32) (b6 : Nat → Int32) (b7 : Nat → Int32) (t8 : Int32) (p1 : Int32) (p2 : Int32) (p3 : Int32) (hi : i < n) (hc0 : t8 = nI (tn t8)) (hc1 : tn t8 ≤ 16) : MetG l yX2_put wsX2_put { frames := 1, cells := 0, slots := 0, locals := 22 } D ty [.ref (b i 2), .int (p1), .int (p2), .int (p3)] (CW a b n cI cO c0 c1 c2 c3 u4 c5 c6 c7 u8 u9 u10 c11 u12 u13 (va_up I i (JX b0 t1 t2 t3 t4 b5 b6 b7 t8))) (va_Qv (fun w => w = CW a b n cI cO c0 c1 c2 c3 u4 c5 c6 c7 u8 u9 u10 c11 u12 u13 (va_up I i (JX b0 t1 t2 t3 t4 ((f2_put b5 b6 b7 t8 p1 p2 p3).1) ((f2_put b5 b6 b7 t8 p1 p2 p3).2.1) ((f2_put b5 b6 b7 t8 p1 p2 p3).2.2.1) ((f2_put b5 b6 b7 t8 p1 p2 p3).2.2.2))))) 0 0 := by
  refine Met_start cX2_put 4 none (by decide) rfl (Nat.le_of_ble_eq_true rfl) ?_
  intro p e s m below meth c A ls hx hb hr hlocks hml hnm hts hown hw hl
  have hl : lv_has ls 4 [(0, .ref (b i 2)), (1, .int (p1)), (2, .int (p2)), (3, .int (p3))] := hl
  have i2 : ∀ w ∈ wsX20, w ∈ wsX2_put := fun _ h => List.mem_cons_of_mem _ (List.mem_append_right _ h)
  have lk21 := hts (.fieldLink RX2 21 "RentSizes$Layers" "count" "I") (by decide +kernel)
  have lk9 := hts (.fieldLink RX2 9 "RentSizes$Layers" "bytes" "[I") (by decide +kernel)
  have lk15 := hts (.fieldLink RX2 15 "RentSizes$Layers" "prices" "[I") (by decide +kernel)
  have lk18 := hts (.fieldLink RX2 18 "RentSizes$Layers" "payers" "[I") (by decide +kernel)
  refine lv_aload_n hx hb dX2_put_0 rfl (lv_at hl 0 rfl) ?_
  refine lv_iload_n hx hb dX2_put_1 rfl (lv_at hl 2 rfl) ?_
  refine lv_iload_n hx hb dX2_put_2 rfl (lv_at hl 3 rfl) ?_
  refine r_callVi (12 + (6 * i + 2)) (CW_getF _ _ _ (by assumption) (by decide) rfl) rfl (rest := []) ⟨hx, hb, hml, hown, hts⟩ hw [.int (p2), .int (p3)] (k2_joinsNewest l D ty a b n cI cO ht0 ht1 c0 c1 c2 c3 u4 c5 c6 c7 u8 u9 u10 c11 u12 u13 I i b0 t1 t2 t3 t4 b5 b6 b7 t8 p2 p3 (by first | assumption | omega) (by first | assumption | omega) (by first | assumption | omega)) (cwV 2 hts gX2_put_X2_joinsNewest rfl rfl rfl (by decide +kernel) ⟨Nat.le_of_ble_eq_true rfl, Nat.le_of_ble_eq_true rfl⟩) rfl hl.1 rfl (Nat.le_of_ble_eq_true rfl) dX2_put_3 ⟨Nat.le_of_ble_eq_true rfl, Nat.le_of_ble_eq_true rfl⟩ (fun r w H locs hp hw => ?_)
  obtain ⟨rfl, rfl⟩ := hp
  refine lv_if_eq (tgt := 27) hx hb dX2_put_6 (by decide) (fun c_6 => ?_) (fun c_6 => ?_)
  · refine lv_aload_n hx hb dX2_put_27 rfl (lv_at hl 0 rfl) ?_
    refine r_get (C := RX2) (T := TX2) (v := .int (t8)) hx hb hts i2 hown hw (12 + (6 * i + 2)) (CW_getF _ _ _ (by assumption) (by decide) rfl) rfl 3 (by decide) lk21 rfl dX2_put_28 ?_
    refine r_top (nI (tn t8)) hc0 ?_
    refine lv_bipush (v := 16) hx hb dX2_put_31 (by decide) ?_
    refine lv_icmp_ge (tgt := 76) hx hb dX2_put_33 (by decide) (fun c_33 => ?_) (fun c_33 => ?_)
    · have e9 : f2_put b5 b6 b7 t8 p1 p2 p3 = (b5, b6, b7, t8) := by unfold f2_put; rw [if_pos c_6, if_pos c_33]
      exact r_vret hx hb hr hlocks hw (by rw [e9] <;> rfl) dX2_put_76
    · have hL : tn t8 < 16 := by rcases Nat.lt_or_ge (tn t8) 16 with q | q; exact q; exact absurd (nI_le q (by omega)) c_33
      refine lv_aload_n hx hb dX2_put_36 rfl (lv_at hl 0 rfl) ?_
      refine r_get (C := RX2) (T := TX2) (v := .ref (b i 3)) hx hb hts i2 hown hw (12 + (6 * i + 2)) (CW_getF _ _ _ (by assumption) (by decide) rfl) rfl 0 (by decide) lk9 rfl dX2_put_37 ?_
      refine lv_aload_n hx hb dX2_put_40 rfl (lv_at hl 0 rfl) ?_
      refine r_get (C := RX2) (T := TX2) (v := .int (t8)) hx hb hts i2 hown hw (12 + (6 * i + 2)) (CW_getF _ _ _ (by assumption) (by decide) rfl) rfl 3 (by decide) lk21 rfl dX2_put_41 ?_
      refine r_top (nI (tn t8)) hc0 ?_
      refine lv_iload_n hx hb dX2_put_44 rfl (lv_at hl 1 rfl) ?_
      refine r_iastN (ws' := CW a b n cI cO c0 c1 c2 c3 u4 c5 c6 c7 u8 u9 u10 c11 u12 u13 (va_up I i (JX b0 t1 t2 t3 t4 (upd b5 (tn t8) p1) b6 b7 t8))) hx hb hw (12 + (6 * i + 3)) (CW_getF _ _ _ (by assumption) (by decide) rfl) ht0 (tn t8) (by omega) (by decide) (CW_t5 (by assumption) _) dX2_put_45 (fun H locs hw => ?_)
      refine lv_aload_n hx hb dX2_put_46 rfl (lv_at hl 0 rfl) ?_
      refine r_get (C := RX2) (T := TX2) (v := .ref (b i 4)) hx hb hts i2 hown hw (12 + (6 * i + 2)) (CW_getF _ _ _ (by assumption) (by decide) rfl) rfl 1 (by decide) lk15 rfl dX2_put_47 ?_
      refine lv_aload_n hx hb dX2_put_50 rfl (lv_at hl 0 rfl) ?_
      refine r_get (C := RX2) (T := TX2) (v := .int (t8)) hx hb hts i2 hown hw (12 + (6 * i + 2)) (CW_getF _ _ _ (by assumption) (by decide) rfl) rfl 3 (by decide) lk21 rfl dX2_put_51 ?_
      refine r_top (nI (tn t8)) hc0 ?_
      refine lv_iload_n hx hb dX2_put_54 rfl (lv_at hl 2 rfl) ?_
      refine r_iastN (ws' := CW a b n cI cO c0 c1 c2 c3 u4 c5 c6 c7 u8 u9 u10 c11 u12 u13 (va_up I i (JX b0 t1 t2 t3 t4 (upd b5 (tn t8) p1) (upd b6 (tn t8) p2) b7 t8))) hx hb hw (12 + (6 * i + 4)) (CW_getF _ _ _ (by assumption) (by decide) rfl) ht0 (tn t8) (by omega) (by decide) (CW_t6 (by assumption) _) dX2_put_55 (fun H locs hw => ?_)
      refine lv_aload_n hx hb dX2_put_56 rfl (lv_at hl 0 rfl) ?_
      refine r_get (C := RX2) (T := TX2) (v := .ref (b i 5)) hx hb hts i2 hown hw (12 + (6 * i + 2)) (CW_getF _ _ _ (by assumption) (by decide) rfl) rfl 2 (by decide) lk18 rfl dX2_put_57 ?_
      refine lv_aload_n hx hb dX2_put_60 rfl (lv_at hl 0 rfl) ?_
      refine r_get (C := RX2) (T := TX2) (v := .int (t8)) hx hb hts i2 hown hw (12 + (6 * i + 2)) (CW_getF _ _ _ (by assumption) (by decide) rfl) rfl 3 (by decide) lk21 rfl dX2_put_61 ?_
      refine r_top (nI (tn t8)) hc0 ?_
      refine lv_iload_n hx hb dX2_put_64 rfl (lv_at hl 3 rfl) ?_
      refine r_iastN (ws' := CW a b n cI cO c0 c1 c2 c3 u4 c5 c6 c7 u8 u9 u10 c11 u12 u13 (va_up I i (JX b0 t1 t2 t3 t4 (upd b5 (tn t8) p1) (upd b6 (tn t8) p2) (upd b7 (tn t8) p3) t8))) hx hb hw (12 + (6 * i + 5)) (CW_getF _ _ _ (by assumption) (by decide) rfl) ht0 (tn t8) (by omega) (by decide) (CW_t7 (by assumption) _) dX2_put_65 (fun H locs hw => ?_)
      refine lv_aload_n hx hb dX2_put_66 rfl (lv_at hl 0 rfl) ?_
      refine lv_dup hx hb dX2_put_67 rfl ?_
      refine r_get (C := RX2) (T := TX2) (v := .int (t8)) hx hb hts i2 hown hw (12 + (6 * i + 2)) (CW_getF _ _ _ (by assumption) (by decide) rfl) rfl 3 (by decide) lk21 rfl dX2_put_68 ?_
      refine r_top (nI (tn t8)) hc0 ?_
      refine lv_iconst (v := 1) hx hb dX2_put_71 (by decide) ?_
      refine lv_iadd hx hb dX2_put_72 ?_
      refine r_top (nI ((tn t8) + 1)) (show nI (tn t8) + nI (1) = nI ((tn t8) + 1) from nI_add _ _) ?_
      refine r_put (C := RX2) (T := TX2) (ws' := CW a b n cI cO c0 c1 c2 c3 u4 c5 c6 c7 u8 u9 u10 c11 u12 u13 (va_up I i (JX b0 t1 t2 t3 t4 (upd b5 (tn t8) p1) (upd b6 (tn t8) p2) (upd b7 (tn t8) p3) (nI ((tn t8) + 1))))) hx hb hts i2 tyX2 tyX2_ok nmX2 hown hw (12 + (6 * i + 2)) (CW_getF _ _ _ (by assumption) (by decide) rfl) rfl 3 (by decide) lk21 rfl (by decide +kernel) (Nat.le_of_ble_eq_true rfl) (CW_t8 (by assumption) _) dX2_put_73 (fun H locs hw => ?_)
      have e9 : f2_put b5 b6 b7 t8 p1 p2 p3 = (upd b5 (tn t8) p1, upd b6 (tn t8) p2, upd b7 (tn t8) p3, nI ((tn t8) + 1)) := by unfold f2_put; rw [if_pos c_6, if_neg c_33]
      exact r_vret hx hb hr hlocks hw (by rw [e9] <;> rfl) dX2_put_76
  · have hE := jn_pos c_6
    refine lv_aload_n hx hb dX2_put_9 rfl (lv_at hl 0 rfl) ?_
    refine r_get (C := RX2) (T := TX2) (v := .ref (b i 3)) hx hb hts i2 hown hw (12 + (6 * i + 2)) (CW_getF _ _ _ (by assumption) (by decide) rfl) rfl 0 (by decide) lk9 rfl dX2_put_10 ?_
    refine lv_aload_n hx hb dX2_put_13 rfl (lv_at hl 0 rfl) ?_
    refine r_get (C := RX2) (T := TX2) (v := .int (t8)) hx hb hts i2 hown hw (12 + (6 * i + 2)) (CW_getF _ _ _ (by assumption) (by decide) rfl) rfl 3 (by decide) lk21 rfl dX2_put_14 ?_
    refine r_top (nI (tn t8)) hc0 ?_
    refine lv_iconst (v := 1) hx hb dX2_put_17 (by decide) ?_
    refine lv_isub hx hb dX2_put_18 ?_
    refine r_top (nI (tn t8 - 1)) (nI_sub1 hE) ?_
    refine lv_dup2_11 hx hb dX2_put_19 rfl rfl ?_
    refine r_ialdN (v := b5 (tn t8 - 1)) hx hb hw (12 + (6 * i + 3)) (CW_getF _ _ _ (by assumption) (by decide) rfl) ht0 (tn t8 - 1) (by omega) (by decide) dX2_put_20 rfl ?_
    refine lv_iload_n hx hb dX2_put_21 rfl (lv_at hl 1 rfl) ?_
    refine lv_iadd hx hb dX2_put_22 ?_
    refine r_iastN (ws' := CW a b n cI cO c0 c1 c2 c3 u4 c5 c6 c7 u8 u9 u10 c11 u12 u13 (va_up I i (JX b0 t1 t2 t3 t4 (upd b5 (tn t8 - 1) ((b5 (tn t8 - 1)) + p1)) b6 b7 t8))) hx hb hw (12 + (6 * i + 3)) (CW_getF _ _ _ (by assumption) (by decide) rfl) ht0 (tn t8 - 1) (by omega) (by decide) (CW_t5 (by assumption) _) dX2_put_23 (fun H locs hw => ?_)
    refine lv_goto (tgt := 76) hx hb dX2_put_24 (by decide) ?_
    have e9 : f2_put b5 b6 b7 t8 p1 p2 p3 = (upd b5 (tn t8 - 1) ((b5 (tn t8 - 1)) + p1), b6, b7, t8) := by unfold f2_put; rw [if_neg c_6]
    exact r_vret hx hb hr hlocks hw (by rw [e9] <;> rfl) dX2_put_76
def f2_has (t8 : Int32) (p1 : Int32) : Int32 :=
  f4_within p1 0 (t8 - 1)
set_option maxHeartbeats 4000000 in
set_option maxRecDepth 100000 in
theorem k2_has (l : Launch) (D : va_G) (ty : List (ClassId × FieldType)) (a : Nat → Nat) (b : Nat → Nat → Nat) (n : Nat) (cI cO : ClassId) (ht0 : ty[0]? = some (cI, .int)) (ht1 : ty[1]? = some (cO, .object "RentSizes$Item")) (c0 : Nat → Int32) (c1 : Nat → Int32) (c2 : Nat → Int32) (c3 : Nat → Int32) (u4 : Int32) (c5 : Nat → Int32) (c6 : Nat → Int32) (c7 : Nat → Int32) (u8 : Int32) (u9 : Int32) (u10 : Int32) (c11 : Nat → Int32) (u12 : Int32) (u13 : Int32) (I : Nat → Nat → Nat → Int32) (i : Nat) (b0 : Nat → Int32) (t1 : Int32) (t2 : Int32) (t3 : Int32) (t4 : Int32) (b5 : Nat → Int32) (b6 : Nat → Int32) (b7 : Nat → Int32) (t8 : Int32) (p1 : Int32) (hi : i < n) : MetG l yX2_has wsX2_has { frames := 1, cells := 0, slots := 0, locals := 22 } D ty [.ref (b i 2), .int (p1)] (CW a b n cI cO c0 c1 c2 c3 u4 c5 c6 c7 u8 u9 u10 c11 u12 u13 (va_up I i (JX b0 t1 t2 t3 t4 b5 b6 b7 t8))) (va_Qi (fun r w => r = f2_has t8 p1 ∧ w = CW a b n cI cO c0 c1 c2 c3 u4 c5 c6 c7 u8 u9 u10 c11 u12 u13 (va_up I i (JX b0 t1 t2 t3 t4 b5 b6 b7 t8)))) 0 0 := by
  refine Met_start cX2_has 2 (some .boolean) (by decide) rfl (Nat.le_of_ble_eq_true rfl) ?_
  intro p e s m below meth c A ls hx hb hr hlocks hml hnm hts hown hw hl
  have hl : lv_has ls 2 [(0, .ref (b i 2)), (1, .int (p1))] := hl
  have i2 : ∀ w ∈ wsX20, w ∈ wsX2_has := fun _ h => List.mem_cons_of_mem _ (List.mem_append_right _ h)
  have lk21 := hts (.fieldLink RX2 21 "RentSizes$Layers" "count" "I") (by decide +kernel)
  refine lv_iload_n hx hb dX2_has_0 rfl (lv_at hl 1 rfl) ?_
  refine lv_iconst (v := 0) hx hb dX2_has_1 (by decide) ?_
  refine lv_aload_n hx hb dX2_has_2 rfl (lv_at hl 0 rfl) ?_
  refine r_get (C := RX2) (T := TX2) (v := .int (t8)) hx hb hts i2 hown hw (12 + (6 * i + 2)) (CW_getF _ _ _ (by assumption) (by decide) rfl) rfl 3 (by decide) lk21 rfl dX2_has_3 ?_
  refine lv_iconst (v := 1) hx hb dX2_has_6 (by decide) ?_
  refine lv_isub hx hb dX2_has_7 ?_
  refine r_callSNi (rest := []) ⟨hx, hb, hml, hown, hts⟩ hw [.int (p1), .int (0), .int (t8 - 1)] (k4_within l D ty a b n cI cO ht0 ht1 c0 c1 c2 c3 u4 c5 c6 c7 u8 u9 u10 c11 u12 u13 (va_up I i (JX b0 t1 t2 t3 t4 b5 b6 b7 t8)) p1 0 (t8 - 1)) ⟨va_cnB 3 hts ggX2_has_X4_within rfl rfl rfl (hw.2.2.2.2.2.2.1 _ (List.mem_of_getElem? (i := 4) rfl)) (hts (.initialized RX4) (by decide +kernel)) (by decide +kernel) ⟨Nat.le_of_ble_eq_true rfl, Nat.le_of_ble_eq_true rfl⟩, hts (.static yX4_within) (by decide +kernel), trivial⟩ rfl hl.1 rfl (Nat.le_of_ble_eq_true rfl) dX2_has_8 ⟨Nat.le_of_ble_eq_true rfl, Nat.le_of_ble_eq_true rfl⟩ (fun r w H locs hp hw => ?_)
  obtain ⟨rfl, rfl⟩ := hp
  have e9 : f2_has t8 p1 = f4_within p1 0 (t8 - 1) := by unfold f2_has; rfl
  exact r_zret hx hb hr hlocks wi_b hw ⟨by rw [e9] <;> rfl, rfl⟩ dX2_has_11
def lf2_worth_4 (b5 : Nat → Int32) (b6 : Nat → Int32) : Nat → Nat → Int32 → Int32
  | 0, _, v1 => v1
  | k + 1, j, v1 => lf2_worth_4 b5 b6 k (j + 1) (v1 + ((b5 j) * (b6 j)))
set_option maxHeartbeats 4000000 in
set_option maxRecDepth 100000 in
theorem lt2_worth_4 (l : Launch) (D : va_G) (ty : List (ClassId × FieldType)) (a : Nat → Nat) (b : Nat → Nat → Nat) (n : Nat) (cI cO : ClassId) (ht0 : ty[0]? = some (cI, .int)) (ht1 : ty[1]? = some (cO, .object "RentSizes$Item")) (c0 : Nat → Int32) (c1 : Nat → Int32) (c2 : Nat → Int32) (c3 : Nat → Int32) (u4 : Int32) (c5 : Nat → Int32) (c6 : Nat → Int32) (c7 : Nat → Int32) (u8 : Int32) (u9 : Int32) (u10 : Int32) (c11 : Nat → Int32) (u12 : Int32) (u13 : Int32) (I : Nat → Nat → Nat → Int32) (i : Nat) (b0 : Nat → Int32) (t1 : Int32) (t2 : Int32) (t3 : Int32) (t4 : Int32) (b5 : Nat → Int32) (b6 : Nat → Int32) (b7 : Nat → Int32) (t8 : Int32) (hi : i < n) (hc0 : t8 = nI (tn t8)) (hc1 : tn t8 ≤ 16)  {p : Program} {e : Env} {s : State} {m : MethodId} {args : Array Value} {below : List Frame} {meth : Method} {c : Code} {A : Nat → Prop} {H0 : Heap} {Q : State → Prop} (hx : p.tables.exec = Jvm.exec) (hb : c.code = cX2_worth) (hml : c.maxLocals = 3) (hts : ∀ w ∈ wsX2_worth, w.before args s = true) (hown : s.vm.findClass RX2 = some m.cls) : ∀ (k j : Nat) (v1 : Int32) (hj : j + k = tn t8) (H : Heap) (locs : List Loc) (ls : Array Slot) (hw : Wd D ty A H0 s (CW a b n cI cO c0 c1 c2 c3 u4 c5 c6 c7 u8 u9 u10 c11 u12 u13 (va_up I i (JX b0 t1 t2 t3 t4 b5 b6 b7 t8))) H locs) (hl : lv_has ls 3 [(2, .int (nI (j))), (1, .int (v1)), (0, .ref (b i 2))]) (kk : ∀ (H1 : Heap) (locs1 : List Loc) (ls1 : Array Slot), Wd D ty A H0 s (CW a b n cI cO c0 c1 c2 c3 u4 c5 c6 c7 u8 u9 u10 c11 u12 u13 (va_up I i (JX b0 t1 t2 t3 t4 b5 b6 b7 t8))) H1 locs1 → lv_has ls1 3 [(2, .int (nI (tn t8))), (1, .int ((lf2_worth_4 b5 b6 k j v1))), (0, .ref (b i 2))] → W p l e ({ frames := 0, cells := 0, slots := 0, locals := 0 } : Room) s m args below meth c H1 locs1 0 0 Q (F0 m 34 ls1 [])), W p l e ({ frames := 0, cells := 0, slots := 0, locals := 0 } : Room) s m args below meth c H locs 0 0 Q (F0 m 4 ls []) := by
  have i2 : ∀ w ∈ wsX20, w ∈ wsX2_worth := fun _ h => List.mem_cons_of_mem _ (List.mem_append_right _ h)
  have lk21 := hts (.fieldLink RX2 21 "RentSizes$Layers" "count" "I") (by decide +kernel)
  have lk9 := hts (.fieldLink RX2 9 "RentSizes$Layers" "bytes" "[I") (by decide +kernel)
  have lk15 := hts (.fieldLink RX2 15 "RentSizes$Layers" "prices" "[I") (by decide +kernel)
  intro k
  induction k with
  | zero =>
    intro j v1 hj H locs ls hw hl kk
    have hj0 : j = tn t8 := by omega
    refine lv_iload_n hx hb dX2_worth_4 rfl (lv_at hl 0 rfl) ?_
    refine lv_aload_n hx hb dX2_worth_5 rfl (lv_at hl 2 rfl) ?_
    refine r_get (C := RX2) (T := TX2) (v := .int (t8)) hx hb hts i2 hown hw (12 + (6 * i + 2)) (CW_getF _ _ _ (by assumption) (by decide) rfl) rfl 3 (by decide) lk21 rfl dX2_worth_6 ?_
    refine r_top (nI (tn t8)) hc0 ?_
    refine lv_icmp_ge (tgt := 34) hx hb dX2_worth_9 (by decide) (fun c_9 => ?_) (fun c_9 => ?_)
    · rw [hj0] at hl
      exact kk _ _ _ hw (lv_sub hl [0, 1, 2] rfl)
    · exact absurd (nI_le (by omega) (by omega)) c_9
  | succ k ih =>
    intro j v1 hj H locs ls hw hl kk
    have hjb : j < tn t8 := by omega
    refine lv_iload_n hx hb dX2_worth_4 rfl (lv_at hl 0 rfl) ?_
    refine lv_aload_n hx hb dX2_worth_5 rfl (lv_at hl 2 rfl) ?_
    refine r_get (C := RX2) (T := TX2) (v := .int (t8)) hx hb hts i2 hown hw (12 + (6 * i + 2)) (CW_getF _ _ _ (by assumption) (by decide) rfl) rfl 3 (by decide) lk21 rfl dX2_worth_6 ?_
    refine r_top (nI (tn t8)) hc0 ?_
    refine lv_icmp_ge (tgt := 34) hx hb dX2_worth_9 (by decide) (fun c_9 => ?_) (fun c_9 => ?_)
    · exact absurd c_9 (nI_ge (by omega) (by omega))
    · refine lv_iload_n hx hb dX2_worth_12 rfl (lv_at hl 1 rfl) ?_
      refine lv_aload_n hx hb dX2_worth_13 rfl (lv_at hl 2 rfl) ?_
      refine r_get (C := RX2) (T := TX2) (v := .ref (b i 3)) hx hb hts i2 hown hw (12 + (6 * i + 2)) (CW_getF _ _ _ (by assumption) (by decide) rfl) rfl 0 (by decide) lk9 rfl dX2_worth_14 ?_
      refine lv_iload_n hx hb dX2_worth_17 rfl (lv_at hl 0 rfl) ?_
      refine r_ialdN (v := b5 j) hx hb hw (12 + (6 * i + 3)) (CW_getF _ _ _ (by assumption) (by decide) rfl) ht0 j (by omega) (by decide) dX2_worth_18 rfl ?_
      refine lv_aload_n hx hb dX2_worth_19 rfl (lv_at hl 2 rfl) ?_
      refine r_get (C := RX2) (T := TX2) (v := .ref (b i 4)) hx hb hts i2 hown hw (12 + (6 * i + 2)) (CW_getF _ _ _ (by assumption) (by decide) rfl) rfl 1 (by decide) lk15 rfl dX2_worth_20 ?_
      refine lv_iload_n hx hb dX2_worth_23 rfl (lv_at hl 0 rfl) ?_
      refine r_ialdN (v := b6 j) hx hb hw (12 + (6 * i + 4)) (CW_getF _ _ _ (by assumption) (by decide) rfl) ht0 j (by omega) (by decide) dX2_worth_24 rfl ?_
      refine lv_imul hx hb dX2_worth_25 ?_
      refine lv_iadd hx hb dX2_worth_26 ?_
      refine lv_istore_n (lv' := [(1, .int (v1 + ((b5 j) * (b6 j)))), (2, .int (nI (j))), (0, .ref (b i 2))]) hx hb dX2_worth_27 rfl hl (by decide) rfl (fun ls hl => ?_)
      refine lv_iinc (v := nI (j + 1)) (lv' := [(2, .int (nI (j + 1))), (1, .int (v1 + ((b5 j) * (b6 j)))), (0, .ref (b i 2))]) hx hb dX2_worth_28 hl (k := 1) rfl (by show nI (j) + 1 = _; exact nI_1 _) (by decide) rfl (fun ls hl => ?_)
      refine lv_goto (tgt := 4) hx hb dX2_worth_31 (by decide) ?_
      have e9 : lf2_worth_4 b5 b6 (k + 1) j v1 = lf2_worth_4 b5 b6 k (j + 1) (v1 + ((b5 j) * (b6 j))) := rfl
      rw [e9] at kk
      exact ih (j + 1) (v1 + ((b5 j) * (b6 j))) (by omega)  _ _ _ hw (lv_sub hl [0, 1, 2] rfl) kk
def f2_worth (b5 : Nat → Int32) (b6 : Nat → Int32) (t8 : Int32) : Int32 :=
  (lf2_worth_4 b5 b6 (tn t8) 0 0)
set_option maxHeartbeats 4000000 in
set_option maxRecDepth 100000 in
theorem k2_worth (l : Launch) (D : va_G) (ty : List (ClassId × FieldType)) (a : Nat → Nat) (b : Nat → Nat → Nat) (n : Nat) (cI cO : ClassId) (ht0 : ty[0]? = some (cI, .int)) (ht1 : ty[1]? = some (cO, .object "RentSizes$Item")) (c0 : Nat → Int32) (c1 : Nat → Int32) (c2 : Nat → Int32) (c3 : Nat → Int32) (u4 : Int32) (c5 : Nat → Int32) (c6 : Nat → Int32) (c7 : Nat → Int32) (u8 : Int32) (u9 : Int32) (u10 : Int32) (c11 : Nat → Int32) (u12 : Int32) (u13 : Int32) (I : Nat → Nat → Nat → Int32) (i : Nat) (b0 : Nat → Int32) (t1 : Int32) (t2 : Int32) (t3 : Int32) (t4 : Int32) (b5 : Nat → Int32) (b6 : Nat → Int32) (b7 : Nat → Int32) (t8 : Int32) (hi : i < n) (hc0 : t8 = nI (tn t8)) (hc1 : tn t8 ≤ 16) : MetG l yX2_worth wsX2_worth { frames := 0, cells := 0, slots := 0, locals := 0 } D ty [.ref (b i 2)] (CW a b n cI cO c0 c1 c2 c3 u4 c5 c6 c7 u8 u9 u10 c11 u12 u13 (va_up I i (JX b0 t1 t2 t3 t4 b5 b6 b7 t8))) (va_Qi (fun r w => r = f2_worth b5 b6 t8 ∧ w = CW a b n cI cO c0 c1 c2 c3 u4 c5 c6 c7 u8 u9 u10 c11 u12 u13 (va_up I i (JX b0 t1 t2 t3 t4 b5 b6 b7 t8)))) 0 0 := by
  refine Met_start cX2_worth 3 (some .int) (by decide) rfl (Nat.le_of_ble_eq_true rfl) ?_
  intro p e s m below meth c A ls hx hb hr hlocks hml hnm hts hown hw hl
  have hl : lv_has ls 3 [(0, .ref (b i 2))] := hl
  refine lv_iconst (v := 0) hx hb dX2_worth_0 (by decide) ?_
  refine lv_istore_n (lv' := [(1, .int (0)), (0, .ref (b i 2))]) hx hb dX2_worth_1 rfl hl (by decide) rfl (fun ls hl => ?_)
  refine lv_iconst (v := 0) hx hb dX2_worth_2 (by decide) ?_
  refine lv_istore_n (lv' := [(2, .int (0)), (1, .int (0)), (0, .ref (b i 2))]) hx hb dX2_worth_3 rfl hl (by decide) rfl (fun ls hl => ?_)
  refine lt2_worth_4 l D ty a b n cI cO ht0 ht1 c0 c1 c2 c3 u4 c5 c6 c7 u8 u9 u10 c11 u12 u13 I i b0 t1 t2 t3 t4 b5 b6 b7 t8 hi hc0 hc1  hx hb hml hts hown (tn t8) 0 0 (by omega)  _ _ _ hw hl (fun H locs ls hw hl => ?_)
  refine lv_iload_n hx hb dX2_worth_34 rfl (lv_at hl 1 rfl) ?_
  have e9 : f2_worth b5 b6 t8 = (lf2_worth_4 b5 b6 (tn t8) 0 0) := by unfold f2_worth; rfl
  exact r_iret hx hb hr hlocks hw ⟨by rw [e9] <;> rfl, rfl⟩ dX2_worth_35
def lf2_worthTo_13 (b5 : Nat → Int32) (b6 : Nat → Int32) (b7 : Nat → Int32) (p1 : Int32) (p2 : Int32) : Nat → Int32 → Int32 → Int32 × Int32
  | 0, v3, v4 => (v3, v4)
  | j + 1, v3, v4 => if v4 ≤ 0 then (v3, v4)
    else if (b7 j) = p1 then lf2_worthTo_13 b5 b6 b7 p1 p2 j (v3 + ((if (b5 j) < v4 then (b5 j) else v4) * (b6 j))) (v4 - (if (b5 j) < v4 then (b5 j) else v4))
    else lf2_worthTo_13 b5 b6 b7 p1 p2 j v3 (v4 - (if (b5 j) < v4 then (b5 j) else v4))
set_option maxHeartbeats 4000000 in
set_option maxRecDepth 100000 in
theorem lt2_worthTo_13 (l : Launch) (D : va_G) (ty : List (ClassId × FieldType)) (a : Nat → Nat) (b : Nat → Nat → Nat) (n : Nat) (cI cO : ClassId) (ht0 : ty[0]? = some (cI, .int)) (ht1 : ty[1]? = some (cO, .object "RentSizes$Item")) (c0 : Nat → Int32) (c1 : Nat → Int32) (c2 : Nat → Int32) (c3 : Nat → Int32) (u4 : Int32) (c5 : Nat → Int32) (c6 : Nat → Int32) (c7 : Nat → Int32) (u8 : Int32) (u9 : Int32) (u10 : Int32) (c11 : Nat → Int32) (u12 : Int32) (u13 : Int32) (I : Nat → Nat → Nat → Int32) (i : Nat) (b0 : Nat → Int32) (t1 : Int32) (t2 : Int32) (t3 : Int32) (t4 : Int32) (b5 : Nat → Int32) (b6 : Nat → Int32) (b7 : Nat → Int32) (t8 : Int32) (p1 : Int32) (p2 : Int32) (hi : i < n) (hc0 : t8 = nI (tn t8)) (hc1 : tn t8 ≤ 16)  {p : Program} {e : Env} {s : State} {m : MethodId} {args : Array Value} {below : List Frame} {meth : Method} {c : Code} {A : Nat → Prop} {H0 : Heap} {Q : State → Prop} (hx : p.tables.exec = Jvm.exec) (hb : c.code = cX2_worthTo) (hml : c.maxLocals = 7) (hts : ∀ w ∈ wsX2_worthTo, w.before args s = true) (hown : s.vm.findClass RX2 = some m.cls) : ∀ (j : Nat) (v3 : Int32) (v4 : Int32) (hj : j ≤ tn t8) (H : Heap) (locs : List Loc) (ls : Array Slot) (hw : Wd D ty A H0 s (CW a b n cI cO c0 c1 c2 c3 u4 c5 c6 c7 u8 u9 u10 c11 u12 u13 (va_up I i (JX b0 t1 t2 t3 t4 b5 b6 b7 t8))) H locs) (hl : lv_has ls 7 [(5, .int (nI j - 1)), (4, .int (v4)), (3, .int (v3)), (0, .ref (b i 2)), (1, .int (p1)), (2, .int (p2))]) (kk : ∀ (H1 : Heap) (locs1 : List Loc) (ls1 : Array Slot), Wd D ty A H0 s (CW a b n cI cO c0 c1 c2 c3 u4 c5 c6 c7 u8 u9 u10 c11 u12 u13 (va_up I i (JX b0 t1 t2 t3 t4 b5 b6 b7 t8))) H1 locs1 → lv_has ls1 7 [(4, .int ((lf2_worthTo_13 b5 b6 b7 p1 p2 j v3 v4).2)), (3, .int ((lf2_worthTo_13 b5 b6 b7 p1 p2 j v3 v4).1)), (0, .ref (b i 2)), (1, .int (p1)), (2, .int (p2))] → W p l e ({ frames := 1, cells := 0, slots := 0, locals := 21 } : Room) s m args below meth c H1 locs1 0 0 Q (F0 m 74 ls1 [])), W p l e ({ frames := 1, cells := 0, slots := 0, locals := 21 } : Room) s m args below meth c H locs 0 0 Q (F0 m 13 ls []) := by
  have i2 : ∀ w ∈ wsX20, w ∈ wsX2_worthTo := fun _ h => List.mem_cons_of_mem _ (List.mem_append_right _ h)
  have lk9 := hts (.fieldLink RX2 9 "RentSizes$Layers" "bytes" "[I") (by decide +kernel)
  have mh33 := hts (.methodLink RX2 33 Lib.Math.min.name) (by decide +kernel)
  have ms_min := hts (.static Lib.Math.min.name) (by decide +kernel)
  have mi := hts (.initialized "java/lang/Math") (by decide +kernel)
  have mc_min := hts (.code Lib.Math.min.name Lib.Math.min.code 2 (some .int)) (List.mem_of_getElem? (i := 6) rfl)
  have lk18 := hts (.fieldLink RX2 18 "RentSizes$Layers" "payers" "[I") (by decide +kernel)
  have lk15 := hts (.fieldLink RX2 15 "RentSizes$Layers" "prices" "[I") (by decide +kernel)
  intro j
  induction j with
  | zero =>
    intro v3 v4 hj H locs ls hw hl kk
    refine lv_iload hx hb dX2_worthTo_13 (lv_at hl 0 rfl) ?_
    refine lv_if_lt (tgt := 74) hx hb dX2_worthTo_15 (by decide) (fun c_15 => ?_) (fun c_15 => ?_)
    · exact kk _ _ _ hw (lv_sub hl [1, 2, 3, 4, 5] rfl)
    · exact absurd (by decide) c_15
  | succ j ih =>
    intro v3 v4 hj H locs ls hw hl kk
    have hl : lv_has ls 7 [(5, .int (nI (j))), (4, .int (v4)), (3, .int (v3)), (0, .ref (b i 2)), (1, .int (p1)), (2, .int (p2))] := by rw [nI_pred] at hl; exact hl
    refine lv_iload hx hb dX2_worthTo_13 (lv_at hl 0 rfl) ?_
    refine lv_if_lt (tgt := 74) hx hb dX2_worthTo_15 (by decide) (fun c_15 => ?_) (fun c_15 => ?_)
    · exact absurd c_15 (nI_pos (by omega))
    · refine lv_iload hx hb dX2_worthTo_18 (lv_at hl 1 rfl) ?_
      refine lv_if_le (tgt := 74) hx hb dX2_worthTo_20 (by decide) (fun c_20 => ?_) (fun c_20 => ?_)
      · have e9 : lf2_worthTo_13 b5 b6 b7 p1 p2 (j + 1) v3 v4 = (v3, v4) := by rw [lf2_worthTo_13]; rw [if_pos c_20]
        rw [e9] at kk
        exact kk _ _ _ hw (lv_sub hl [1, 2, 3, 4, 5] rfl)
      · refine lv_iload hx hb dX2_worthTo_23 (lv_at hl 1 rfl) ?_
        refine lv_aload_n hx hb dX2_worthTo_25 rfl (lv_at hl 3 rfl) ?_
        refine r_get (C := RX2) (T := TX2) (v := .ref (b i 3)) hx hb hts i2 hown hw (12 + (6 * i + 2)) (CW_getF _ _ _ (by assumption) (by decide) rfl) rfl 0 (by decide) lk9 rfl dX2_worthTo_26 ?_
        refine lv_iload hx hb dX2_worthTo_29 (lv_at hl 0 rfl) ?_
        refine r_ialdN (v := b5 j) hx hb hw (12 + (6 * i + 3)) (CW_getF _ _ _ (by assumption) (by decide) rfl) ht0 j (by omega) (by decide) dX2_worthTo_31 rfl ?_
        refine va_mmin hx hb (hml.trans hl.1.symm) hown mh33 ms_min mi mc_min (Nat.le_of_ble_eq_true rfl) (Nat.le_of_ble_eq_true rfl) (Nat.le_of_ble_eq_true rfl) (Nat.le_of_ble_eq_true rfl) dX2_worthTo_32 ?_
        refine lv_istore (lv' := [(6, .int ((if (b5 j) < v4 then (b5 j) else v4))), (5, .int (nI (j))), (4, .int (v4)), (3, .int (v3)), (0, .ref (b i 2)), (1, .int (p1)), (2, .int (p2))]) hx hb dX2_worthTo_35 hl (by decide) rfl (fun ls hl => ?_)
        refine lv_iload hx hb dX2_worthTo_37 (lv_at hl 2 rfl) ?_
        refine lv_iload hx hb dX2_worthTo_39 (lv_at hl 0 rfl) ?_
        refine lv_isub hx hb dX2_worthTo_41 ?_
        refine lv_istore (lv' := [(4, .int (v4 - (if (b5 j) < v4 then (b5 j) else v4))), (6, .int ((if (b5 j) < v4 then (b5 j) else v4))), (5, .int (nI (j))), (3, .int (v3)), (0, .ref (b i 2)), (1, .int (p1)), (2, .int (p2))]) hx hb dX2_worthTo_42 hl (by decide) rfl (fun ls hl => ?_)
        refine lv_aload_n hx hb dX2_worthTo_44 rfl (lv_at hl 4 rfl) ?_
        refine r_get (C := RX2) (T := TX2) (v := .ref (b i 5)) hx hb hts i2 hown hw (12 + (6 * i + 2)) (CW_getF _ _ _ (by assumption) (by decide) rfl) rfl 2 (by decide) lk18 rfl dX2_worthTo_45 ?_
        refine lv_iload hx hb dX2_worthTo_48 (lv_at hl 2 rfl) ?_
        refine r_ialdN (v := b7 j) hx hb hw (12 + (6 * i + 5)) (CW_getF _ _ _ (by assumption) (by decide) rfl) ht0 j (by omega) (by decide) dX2_worthTo_50 rfl ?_
        refine lv_iload_n hx hb dX2_worthTo_51 rfl (lv_at hl 5 rfl) ?_
        refine lv_icmp_ne (tgt := 68) hx hb dX2_worthTo_52 (by decide) (fun c_52 => ?_) (fun c_52 => ?_)
        · refine lv_iinc (v := (nI (j)) - 1) (lv' := [(5, .int ((nI (j)) - 1)), (4, .int (v4 - (if (b5 j) < v4 then (b5 j) else v4))), (6, .int ((if (b5 j) < v4 then (b5 j) else v4))), (3, .int (v3)), (0, .ref (b i 2)), (1, .int (p1)), (2, .int (p2))]) hx hb dX2_worthTo_68 hl (k := 2) rfl (am1 _) (by decide) rfl (fun ls hl => ?_)
          refine lv_goto (tgt := 13) hx hb dX2_worthTo_71 (by decide) ?_
          have e9 : lf2_worthTo_13 b5 b6 b7 p1 p2 (j + 1) v3 v4 = lf2_worthTo_13 b5 b6 b7 p1 p2 j v3 (v4 - (if (b5 j) < v4 then (b5 j) else v4)) := by rw [lf2_worthTo_13]; rw [if_neg c_20, if_neg c_52]
          rw [e9] at kk
          exact ih v3 (v4 - (if (b5 j) < v4 then (b5 j) else v4)) (by omega)  _ _ _ hw (lv_sub hl [0, 1, 3, 4, 5, 6] rfl) kk
        · refine lv_iload_n hx hb dX2_worthTo_55 rfl (lv_at hl 3 rfl) ?_
          refine lv_iload hx hb dX2_worthTo_56 (lv_at hl 1 rfl) ?_
          refine lv_aload_n hx hb dX2_worthTo_58 rfl (lv_at hl 4 rfl) ?_
          refine r_get (C := RX2) (T := TX2) (v := .ref (b i 4)) hx hb hts i2 hown hw (12 + (6 * i + 2)) (CW_getF _ _ _ (by assumption) (by decide) rfl) rfl 1 (by decide) lk15 rfl dX2_worthTo_59 ?_
          refine lv_iload hx hb dX2_worthTo_62 (lv_at hl 2 rfl) ?_
          refine r_ialdN (v := b6 j) hx hb hw (12 + (6 * i + 4)) (CW_getF _ _ _ (by assumption) (by decide) rfl) ht0 j (by omega) (by decide) dX2_worthTo_64 rfl ?_
          refine lv_imul hx hb dX2_worthTo_65 ?_
          refine lv_iadd hx hb dX2_worthTo_66 ?_
          refine lv_istore_n (lv' := [(3, .int (v3 + ((if (b5 j) < v4 then (b5 j) else v4) * (b6 j)))), (4, .int (v4 - (if (b5 j) < v4 then (b5 j) else v4))), (6, .int ((if (b5 j) < v4 then (b5 j) else v4))), (5, .int (nI (j))), (0, .ref (b i 2)), (1, .int (p1)), (2, .int (p2))]) hx hb dX2_worthTo_67 rfl hl (by decide) rfl (fun ls hl => ?_)
          refine lv_iinc (v := (nI (j)) - 1) (lv' := [(5, .int ((nI (j)) - 1)), (3, .int (v3 + ((if (b5 j) < v4 then (b5 j) else v4) * (b6 j)))), (4, .int (v4 - (if (b5 j) < v4 then (b5 j) else v4))), (6, .int ((if (b5 j) < v4 then (b5 j) else v4))), (0, .ref (b i 2)), (1, .int (p1)), (2, .int (p2))]) hx hb dX2_worthTo_68 hl (k := 3) rfl (am1 _) (by decide) rfl (fun ls hl => ?_)
          refine lv_goto (tgt := 13) hx hb dX2_worthTo_71 (by decide) ?_
          have e9 : lf2_worthTo_13 b5 b6 b7 p1 p2 (j + 1) v3 v4 = lf2_worthTo_13 b5 b6 b7 p1 p2 j (v3 + ((if (b5 j) < v4 then (b5 j) else v4) * (b6 j))) (v4 - (if (b5 j) < v4 then (b5 j) else v4)) := by rw [lf2_worthTo_13]; rw [if_neg c_20, if_pos c_52]
          rw [e9] at kk
          exact ih (v3 + ((if (b5 j) < v4 then (b5 j) else v4) * (b6 j))) (v4 - (if (b5 j) < v4 then (b5 j) else v4)) (by omega)  _ _ _ hw (lv_sub hl [0, 2, 1, 4, 5, 6] rfl) kk
def f2_worthTo (b5 : Nat → Int32) (b6 : Nat → Int32) (b7 : Nat → Int32) (t8 : Int32) (p1 : Int32) (p2 : Int32) : Int32 :=
  (lf2_worthTo_13 b5 b6 b7 p1 p2 (tn t8) 0 p2).1
set_option maxHeartbeats 4000000 in
set_option maxRecDepth 100000 in
theorem k2_worthTo (l : Launch) (D : va_G) (ty : List (ClassId × FieldType)) (a : Nat → Nat) (b : Nat → Nat → Nat) (n : Nat) (cI cO : ClassId) (ht0 : ty[0]? = some (cI, .int)) (ht1 : ty[1]? = some (cO, .object "RentSizes$Item")) (c0 : Nat → Int32) (c1 : Nat → Int32) (c2 : Nat → Int32) (c3 : Nat → Int32) (u4 : Int32) (c5 : Nat → Int32) (c6 : Nat → Int32) (c7 : Nat → Int32) (u8 : Int32) (u9 : Int32) (u10 : Int32) (c11 : Nat → Int32) (u12 : Int32) (u13 : Int32) (I : Nat → Nat → Nat → Int32) (i : Nat) (b0 : Nat → Int32) (t1 : Int32) (t2 : Int32) (t3 : Int32) (t4 : Int32) (b5 : Nat → Int32) (b6 : Nat → Int32) (b7 : Nat → Int32) (t8 : Int32) (p1 : Int32) (p2 : Int32) (hi : i < n) (hc0 : t8 = nI (tn t8)) (hc1 : tn t8 ≤ 16) : MetG l yX2_worthTo wsX2_worthTo { frames := 1, cells := 0, slots := 0, locals := 21 } D ty [.ref (b i 2), .int (p1), .int (p2)] (CW a b n cI cO c0 c1 c2 c3 u4 c5 c6 c7 u8 u9 u10 c11 u12 u13 (va_up I i (JX b0 t1 t2 t3 t4 b5 b6 b7 t8))) (va_Qi (fun r w => r = f2_worthTo b5 b6 b7 t8 p1 p2 ∧ w = CW a b n cI cO c0 c1 c2 c3 u4 c5 c6 c7 u8 u9 u10 c11 u12 u13 (va_up I i (JX b0 t1 t2 t3 t4 b5 b6 b7 t8)))) 0 0 := by
  refine Met_start cX2_worthTo 7 (some .int) (by decide) rfl (Nat.le_of_ble_eq_true rfl) ?_
  intro p e s m below meth c A ls hx hb hr hlocks hml hnm hts hown hw hl
  have hl : lv_has ls 7 [(0, .ref (b i 2)), (1, .int (p1)), (2, .int (p2))] := hl
  have i2 : ∀ w ∈ wsX20, w ∈ wsX2_worthTo := fun _ h => List.mem_cons_of_mem _ (List.mem_append_right _ h)
  have lk21 := hts (.fieldLink RX2 21 "RentSizes$Layers" "count" "I") (by decide +kernel)
  refine lv_iconst (v := 0) hx hb dX2_worthTo_0 (by decide) ?_
  refine lv_istore_n (lv' := [(3, .int (0)), (0, .ref (b i 2)), (1, .int (p1)), (2, .int (p2))]) hx hb dX2_worthTo_1 rfl hl (by decide) rfl (fun ls hl => ?_)
  refine lv_iload_n hx hb dX2_worthTo_2 rfl (lv_at hl 3 rfl) ?_
  refine lv_istore (lv' := [(4, .int (p2)), (3, .int (0)), (0, .ref (b i 2)), (1, .int (p1)), (2, .int (p2))]) hx hb dX2_worthTo_3 hl (by decide) rfl (fun ls hl => ?_)
  refine lv_aload_n hx hb dX2_worthTo_5 rfl (lv_at hl 2 rfl) ?_
  refine r_get (C := RX2) (T := TX2) (v := .int (t8)) hx hb hts i2 hown hw (12 + (6 * i + 2)) (CW_getF _ _ _ (by assumption) (by decide) rfl) rfl 3 (by decide) lk21 rfl dX2_worthTo_6 ?_
  refine r_top (nI (tn t8)) hc0 ?_
  refine lv_iconst (v := 1) hx hb dX2_worthTo_9 (by decide) ?_
  refine lv_isub hx hb dX2_worthTo_10 ?_
  refine lv_istore (lv' := [(5, .int ((nI (tn t8)) - 1)), (4, .int (p2)), (3, .int (0)), (0, .ref (b i 2)), (1, .int (p1)), (2, .int (p2))]) hx hb dX2_worthTo_11 hl (by decide) rfl (fun ls hl => ?_)
  refine lt2_worthTo_13 l D ty a b n cI cO ht0 ht1 c0 c1 c2 c3 u4 c5 c6 c7 u8 u9 u10 c11 u12 u13 I i b0 t1 t2 t3 t4 b5 b6 b7 t8 p1 p2 hi hc0 hc1  hx hb hml hts hown (tn t8) 0 p2 (by omega)  _ _ _ hw hl (fun H locs ls hw hl => ?_)
  refine lv_iload_n hx hb dX2_worthTo_74 rfl (lv_at hl 1 rfl) ?_
  have e9 : f2_worthTo b5 b6 b7 t8 p1 p2 = (lf2_worthTo_13 b5 b6 b7 p1 p2 (tn t8) 0 p2).1 := by unfold f2_worthTo; rfl
  exact r_iret hx hb hr hlocks hw ⟨by rw [e9] <;> rfl, rfl⟩ dX2_worthTo_75
def lf2_remove_9 (p1 : Int32) : Nat → Int32 → (Nat → Int32) → Int32 → Int32 × (Nat → Int32) × Int32
  | 0, v2, f5, f8 => (v2, f5, f8)
  | j + 1, v2, f5, f8 => if v2 ≤ 0 then (v2, f5, f8)
    else if ((upd f5 j ((f5 j) - (if (f5 j) < v2 then (f5 j) else v2))) j) = 0 then lf2_remove_9 p1 j (v2 - (if (f5 j) < v2 then (f5 j) else v2)) (upd f5 j ((f5 j) - (if (f5 j) < v2 then (f5 j) else v2))) (nI (j))
    else lf2_remove_9 p1 j (v2 - (if (f5 j) < v2 then (f5 j) else v2)) (upd f5 j ((f5 j) - (if (f5 j) < v2 then (f5 j) else v2))) f8
set_option maxHeartbeats 4000000 in
set_option maxRecDepth 100000 in
theorem lt2_remove_9 (l : Launch) (D : va_G) (ty : List (ClassId × FieldType)) (a : Nat → Nat) (b : Nat → Nat → Nat) (n : Nat) (cI cO : ClassId) (ht0 : ty[0]? = some (cI, .int)) (ht1 : ty[1]? = some (cO, .object "RentSizes$Item")) (c0 : Nat → Int32) (c1 : Nat → Int32) (c2 : Nat → Int32) (c3 : Nat → Int32) (u4 : Int32) (c5 : Nat → Int32) (c6 : Nat → Int32) (c7 : Nat → Int32) (u8 : Int32) (u9 : Int32) (u10 : Int32) (c11 : Nat → Int32) (u12 : Int32) (u13 : Int32) (I : Nat → Nat → Nat → Int32) (i : Nat) (b0 : Nat → Int32) (t1 : Int32) (t2 : Int32) (t3 : Int32) (t4 : Int32) (b5 : Nat → Int32) (b6 : Nat → Int32) (b7 : Nat → Int32) (t8 : Int32) (p1 : Int32) (hi : i < n) (hc0 : t8 = nI (tn t8)) (hc1 : tn t8 ≤ 16)  {p : Program} {e : Env} {s : State} {m : MethodId} {args : Array Value} {below : List Frame} {meth : Method} {c : Code} {A : Nat → Prop} {H0 : Heap} {Q : State → Prop} (hx : p.tables.exec = Jvm.exec) (hb : c.code = cX2_remove) (hml : c.maxLocals = 5) (hts : ∀ w ∈ wsX2_remove, w.before args s = true) (hown : s.vm.findClass RX2 = some m.cls) : ∀ (j : Nat) (v2 : Int32) (f5 : (Nat → Int32)) (f8 : Int32) (hj : j ≤ tn t8) (H : Heap) (locs : List Loc) (ls : Array Slot) (hw : Wd D ty A H0 s (CW a b n cI cO c0 c1 c2 c3 u4 c5 c6 c7 u8 u9 u10 c11 u12 u13 (va_up I i (JX b0 t1 t2 t3 t4 f5 b6 b7 f8))) H locs) (hl : lv_has ls 5 [(3, .int (nI j - 1)), (2, .int (v2)), (0, .ref (b i 2)), (1, .int (p1))]) (kk : ∀ (H1 : Heap) (locs1 : List Loc) (ls1 : Array Slot), Wd D ty A H0 s (CW a b n cI cO c0 c1 c2 c3 u4 c5 c6 c7 u8 u9 u10 c11 u12 u13 (va_up I i (JX b0 t1 t2 t3 t4 ((lf2_remove_9 p1 j v2 f5 f8).2.1) b6 b7 ((lf2_remove_9 p1 j v2 f5 f8).2.2)))) H1 locs1 → lv_has ls1 5 [(2, .int ((lf2_remove_9 p1 j v2 f5 f8).1)), (0, .ref (b i 2)), (1, .int (p1))] → W p l e ({ frames := 1, cells := 0, slots := 0, locals := 21 } : Room) s m args below meth c H1 locs1 0 0 Q (F0 m 65 ls1 [])), W p l e ({ frames := 1, cells := 0, slots := 0, locals := 21 } : Room) s m args below meth c H locs 0 0 Q (F0 m 9 ls []) := by
  have i2 : ∀ w ∈ wsX20, w ∈ wsX2_remove := fun _ h => List.mem_cons_of_mem _ (List.mem_append_right _ h)
  have lk9 := hts (.fieldLink RX2 9 "RentSizes$Layers" "bytes" "[I") (by decide +kernel)
  have mh33 := hts (.methodLink RX2 33 Lib.Math.min.name) (by decide +kernel)
  have ms_min := hts (.static Lib.Math.min.name) (by decide +kernel)
  have mi := hts (.initialized "java/lang/Math") (by decide +kernel)
  have mc_min := hts (.code Lib.Math.min.name Lib.Math.min.code 2 (some .int)) (List.mem_of_getElem? (i := 6) rfl)
  have lk21 := hts (.fieldLink RX2 21 "RentSizes$Layers" "count" "I") (by decide +kernel)
  intro j
  induction j with
  | zero =>
    intro v2 f5 f8 hj H locs ls hw hl kk
    refine lv_iload_n hx hb dX2_remove_9 rfl (lv_at hl 0 rfl) ?_
    refine lv_if_lt (tgt := 65) hx hb dX2_remove_10 (by decide) (fun c_10 => ?_) (fun c_10 => ?_)
    · exact kk _ _ _ hw (lv_sub hl [1, 2, 3] rfl)
    · exact absurd (by decide) c_10
  | succ j ih =>
    intro v2 f5 f8 hj H locs ls hw hl kk
    have hl : lv_has ls 5 [(3, .int (nI (j))), (2, .int (v2)), (0, .ref (b i 2)), (1, .int (p1))] := by rw [nI_pred] at hl; exact hl
    refine lv_iload_n hx hb dX2_remove_9 rfl (lv_at hl 0 rfl) ?_
    refine lv_if_lt (tgt := 65) hx hb dX2_remove_10 (by decide) (fun c_10 => ?_) (fun c_10 => ?_)
    · exact absurd c_10 (nI_pos (by omega))
    · refine lv_iload_n hx hb dX2_remove_13 rfl (lv_at hl 1 rfl) ?_
      refine lv_if_le (tgt := 65) hx hb dX2_remove_14 (by decide) (fun c_14 => ?_) (fun c_14 => ?_)
      · have e9 : lf2_remove_9 p1 (j + 1) v2 f5 f8 = (v2, f5, f8) := by rw [lf2_remove_9]; rw [if_pos c_14]
        rw [e9] at kk
        exact kk _ _ _ hw (lv_sub hl [1, 2, 3] rfl)
      · refine lv_iload_n hx hb dX2_remove_17 rfl (lv_at hl 1 rfl) ?_
        refine lv_aload_n hx hb dX2_remove_18 rfl (lv_at hl 2 rfl) ?_
        refine r_get (C := RX2) (T := TX2) (v := .ref (b i 3)) hx hb hts i2 hown hw (12 + (6 * i + 2)) (CW_getF _ _ _ (by assumption) (by decide) rfl) rfl 0 (by decide) lk9 rfl dX2_remove_19 ?_
        refine lv_iload_n hx hb dX2_remove_22 rfl (lv_at hl 0 rfl) ?_
        refine r_ialdN (v := f5 j) hx hb hw (12 + (6 * i + 3)) (CW_getF _ _ _ (by assumption) (by decide) rfl) ht0 j (by omega) (by decide) dX2_remove_23 rfl ?_
        refine va_mmin hx hb (hml.trans hl.1.symm) hown mh33 ms_min mi mc_min (Nat.le_of_ble_eq_true rfl) (Nat.le_of_ble_eq_true rfl) (Nat.le_of_ble_eq_true rfl) (Nat.le_of_ble_eq_true rfl) dX2_remove_24 ?_
        refine lv_istore (lv' := [(4, .int ((if (f5 j) < v2 then (f5 j) else v2))), (3, .int (nI (j))), (2, .int (v2)), (0, .ref (b i 2)), (1, .int (p1))]) hx hb dX2_remove_27 hl (by decide) rfl (fun ls hl => ?_)
        refine lv_aload_n hx hb dX2_remove_29 rfl (lv_at hl 3 rfl) ?_
        refine r_get (C := RX2) (T := TX2) (v := .ref (b i 3)) hx hb hts i2 hown hw (12 + (6 * i + 2)) (CW_getF _ _ _ (by assumption) (by decide) rfl) rfl 0 (by decide) lk9 rfl dX2_remove_30 ?_
        refine lv_iload_n hx hb dX2_remove_33 rfl (lv_at hl 1 rfl) ?_
        refine lv_dup2_11 hx hb dX2_remove_34 rfl rfl ?_
        refine r_ialdN (v := f5 j) hx hb hw (12 + (6 * i + 3)) (CW_getF _ _ _ (by assumption) (by decide) rfl) ht0 j (by omega) (by decide) dX2_remove_35 rfl ?_
        refine lv_iload hx hb dX2_remove_36 (lv_at hl 0 rfl) ?_
        refine lv_isub hx hb dX2_remove_38 ?_
        refine r_iastN (ws' := CW a b n cI cO c0 c1 c2 c3 u4 c5 c6 c7 u8 u9 u10 c11 u12 u13 (va_up I i (JX b0 t1 t2 t3 t4 (upd f5 j ((f5 j) - (if (f5 j) < v2 then (f5 j) else v2))) b6 b7 f8))) hx hb hw (12 + (6 * i + 3)) (CW_getF _ _ _ (by assumption) (by decide) rfl) ht0 j (by omega) (by decide) (CW_t5 (by assumption) _) dX2_remove_39 (fun H locs hw => ?_)
        refine lv_iload_n hx hb dX2_remove_40 rfl (lv_at hl 2 rfl) ?_
        refine lv_iload hx hb dX2_remove_41 (lv_at hl 0 rfl) ?_
        refine lv_isub hx hb dX2_remove_43 ?_
        refine lv_istore_n (lv' := [(2, .int (v2 - (if (f5 j) < v2 then (f5 j) else v2))), (4, .int ((if (f5 j) < v2 then (f5 j) else v2))), (3, .int (nI (j))), (0, .ref (b i 2)), (1, .int (p1))]) hx hb dX2_remove_44 rfl hl (by decide) rfl (fun ls hl => ?_)
        refine lv_aload_n hx hb dX2_remove_45 rfl (lv_at hl 3 rfl) ?_
        refine r_get (C := RX2) (T := TX2) (v := .ref (b i 3)) hx hb hts i2 hown hw (12 + (6 * i + 2)) (CW_getF _ _ _ (by assumption) (by decide) rfl) rfl 0 (by decide) lk9 rfl dX2_remove_46 ?_
        refine lv_iload_n hx hb dX2_remove_49 rfl (lv_at hl 2 rfl) ?_
        refine r_ialdN (v := (upd f5 j ((f5 j) - (if (f5 j) < v2 then (f5 j) else v2))) j) hx hb hw (12 + (6 * i + 3)) (CW_getF _ _ _ (by assumption) (by decide) rfl) ht0 j (by omega) (by decide) dX2_remove_50 rfl ?_
        refine lv_if_ne (tgt := 59) hx hb dX2_remove_51 (by decide) (fun c_51 => ?_) (fun c_51 => ?_)
        · refine lv_iinc (v := (nI (j)) - 1) (lv' := [(3, .int ((nI (j)) - 1)), (2, .int (v2 - (if (f5 j) < v2 then (f5 j) else v2))), (4, .int ((if (f5 j) < v2 then (f5 j) else v2))), (0, .ref (b i 2)), (1, .int (p1))]) hx hb dX2_remove_59 hl (k := 2) rfl (am1 _) (by decide) rfl (fun ls hl => ?_)
          refine lv_goto (tgt := 9) hx hb dX2_remove_62 (by decide) ?_
          have e9 : lf2_remove_9 p1 (j + 1) v2 f5 f8 = lf2_remove_9 p1 j (v2 - (if (f5 j) < v2 then (f5 j) else v2)) (upd f5 j ((f5 j) - (if (f5 j) < v2 then (f5 j) else v2))) f8 := by rw [lf2_remove_9]; rw [if_neg c_14, if_neg c_51]
          rw [e9] at kk
          exact ih (v2 - (if (f5 j) < v2 then (f5 j) else v2)) (upd f5 j ((f5 j) - (if (f5 j) < v2 then (f5 j) else v2))) f8 (by omega)  _ _ _ hw (lv_sub hl [0, 1, 3, 4] rfl) kk
        · refine lv_aload_n hx hb dX2_remove_54 rfl (lv_at hl 3 rfl) ?_
          refine lv_iload_n hx hb dX2_remove_55 rfl (lv_at hl 2 rfl) ?_
          refine r_put (C := RX2) (T := TX2) (ws' := CW a b n cI cO c0 c1 c2 c3 u4 c5 c6 c7 u8 u9 u10 c11 u12 u13 (va_up I i (JX b0 t1 t2 t3 t4 (upd f5 j ((f5 j) - (if (f5 j) < v2 then (f5 j) else v2))) b6 b7 (nI (j))))) hx hb hts i2 tyX2 tyX2_ok nmX2 hown hw (12 + (6 * i + 2)) (CW_getF _ _ _ (by assumption) (by decide) rfl) rfl 3 (by decide) lk21 rfl (by decide +kernel) (Nat.le_of_ble_eq_true rfl) (CW_t8 (by assumption) _) dX2_remove_56 (fun H locs hw => ?_)
          refine lv_iinc (v := (nI (j)) - 1) (lv' := [(3, .int ((nI (j)) - 1)), (2, .int (v2 - (if (f5 j) < v2 then (f5 j) else v2))), (4, .int ((if (f5 j) < v2 then (f5 j) else v2))), (0, .ref (b i 2)), (1, .int (p1))]) hx hb dX2_remove_59 hl (k := 2) rfl (am1 _) (by decide) rfl (fun ls hl => ?_)
          refine lv_goto (tgt := 9) hx hb dX2_remove_62 (by decide) ?_
          have e9 : lf2_remove_9 p1 (j + 1) v2 f5 f8 = lf2_remove_9 p1 j (v2 - (if (f5 j) < v2 then (f5 j) else v2)) (upd f5 j ((f5 j) - (if (f5 j) < v2 then (f5 j) else v2))) (nI (j)) := by rw [lf2_remove_9]; rw [if_neg c_14, if_pos c_51]
          rw [e9] at kk
          exact ih (v2 - (if (f5 j) < v2 then (f5 j) else v2)) (upd f5 j ((f5 j) - (if (f5 j) < v2 then (f5 j) else v2))) (nI (j)) (by omega)  _ _ _ hw (lv_sub hl [0, 1, 3, 4] rfl) kk
def f2_remove (b5 : Nat → Int32) (t8 : Int32) (p1 : Int32) : (Nat → Int32) × Int32 :=
  ((lf2_remove_9 p1 (tn t8) p1 b5 t8).2.1, (lf2_remove_9 p1 (tn t8) p1 b5 t8).2.2)
set_option maxHeartbeats 4000000 in
set_option maxRecDepth 100000 in
theorem k2_remove (l : Launch) (D : va_G) (ty : List (ClassId × FieldType)) (a : Nat → Nat) (b : Nat → Nat → Nat) (n : Nat) (cI cO : ClassId) (ht0 : ty[0]? = some (cI, .int)) (ht1 : ty[1]? = some (cO, .object "RentSizes$Item")) (c0 : Nat → Int32) (c1 : Nat → Int32) (c2 : Nat → Int32) (c3 : Nat → Int32) (u4 : Int32) (c5 : Nat → Int32) (c6 : Nat → Int32) (c7 : Nat → Int32) (u8 : Int32) (u9 : Int32) (u10 : Int32) (c11 : Nat → Int32) (u12 : Int32) (u13 : Int32) (I : Nat → Nat → Nat → Int32) (i : Nat) (b0 : Nat → Int32) (t1 : Int32) (t2 : Int32) (t3 : Int32) (t4 : Int32) (b5 : Nat → Int32) (b6 : Nat → Int32) (b7 : Nat → Int32) (t8 : Int32) (p1 : Int32) (hi : i < n) (hc0 : t8 = nI (tn t8)) (hc1 : tn t8 ≤ 16) : MetG l yX2_remove wsX2_remove { frames := 1, cells := 0, slots := 0, locals := 21 } D ty [.ref (b i 2), .int (p1)] (CW a b n cI cO c0 c1 c2 c3 u4 c5 c6 c7 u8 u9 u10 c11 u12 u13 (va_up I i (JX b0 t1 t2 t3 t4 b5 b6 b7 t8))) (va_Qv (fun w => w = CW a b n cI cO c0 c1 c2 c3 u4 c5 c6 c7 u8 u9 u10 c11 u12 u13 (va_up I i (JX b0 t1 t2 t3 t4 ((f2_remove b5 t8 p1).1) b6 b7 ((f2_remove b5 t8 p1).2))))) 0 0 := by
  refine Met_start cX2_remove 5 none (by decide) rfl (Nat.le_of_ble_eq_true rfl) ?_
  intro p e s m below meth c A ls hx hb hr hlocks hml hnm hts hown hw hl
  have hl : lv_has ls 5 [(0, .ref (b i 2)), (1, .int (p1))] := hl
  have i2 : ∀ w ∈ wsX20, w ∈ wsX2_remove := fun _ h => List.mem_cons_of_mem _ (List.mem_append_right _ h)
  have lk21 := hts (.fieldLink RX2 21 "RentSizes$Layers" "count" "I") (by decide +kernel)
  refine lv_iload_n hx hb dX2_remove_0 rfl (lv_at hl 1 rfl) ?_
  refine lv_istore_n (lv' := [(2, .int (p1)), (0, .ref (b i 2)), (1, .int (p1))]) hx hb dX2_remove_1 rfl hl (by decide) rfl (fun ls hl => ?_)
  refine lv_aload_n hx hb dX2_remove_2 rfl (lv_at hl 1 rfl) ?_
  refine r_get (C := RX2) (T := TX2) (v := .int (t8)) hx hb hts i2 hown hw (12 + (6 * i + 2)) (CW_getF _ _ _ (by assumption) (by decide) rfl) rfl 3 (by decide) lk21 rfl dX2_remove_3 ?_
  refine r_top (nI (tn t8)) hc0 ?_
  refine lv_iconst (v := 1) hx hb dX2_remove_6 (by decide) ?_
  refine lv_isub hx hb dX2_remove_7 ?_
  refine lv_istore_n (lv' := [(3, .int ((nI (tn t8)) - 1)), (2, .int (p1)), (0, .ref (b i 2)), (1, .int (p1))]) hx hb dX2_remove_8 rfl hl (by decide) rfl (fun ls hl => ?_)
  refine lt2_remove_9 l D ty a b n cI cO ht0 ht1 c0 c1 c2 c3 u4 c5 c6 c7 u8 u9 u10 c11 u12 u13 I i b0 t1 t2 t3 t4 b5 b6 b7 t8 p1 hi hc0 hc1  hx hb hml hts hown (tn t8) p1 b5 t8 (by omega)  _ _ _ hw hl (fun H locs ls hw hl => ?_)
  have e9 : f2_remove b5 t8 p1 = ((lf2_remove_9 p1 (tn t8) p1 b5 t8).2.1, (lf2_remove_9 p1 (tn t8) p1 b5 t8).2.2) := by unfold f2_remove; rfl
  exact r_vret hx hb hr hlocks hw (by rw [e9] <;> rfl) dX2_remove_65
def f1_sizeNow (t2 : Int32) (t4 : Int32) : Int32 :=
  if t4 = 2 then 0
  else t2
set_option maxHeartbeats 4000000 in
set_option maxRecDepth 100000 in
theorem k1_sizeNow (l : Launch) (D : va_G) (ty : List (ClassId × FieldType)) (a : Nat → Nat) (b : Nat → Nat → Nat) (n : Nat) (cI cO : ClassId) (ht0 : ty[0]? = some (cI, .int)) (ht1 : ty[1]? = some (cO, .object "RentSizes$Item")) (c0 : Nat → Int32) (c1 : Nat → Int32) (c2 : Nat → Int32) (c3 : Nat → Int32) (u4 : Int32) (c5 : Nat → Int32) (c6 : Nat → Int32) (c7 : Nat → Int32) (u8 : Int32) (u9 : Int32) (u10 : Int32) (c11 : Nat → Int32) (u12 : Int32) (u13 : Int32) (I : Nat → Nat → Nat → Int32) (i : Nat) (b0 : Nat → Int32) (t1 : Int32) (t2 : Int32) (t3 : Int32) (t4 : Int32) (b5 : Nat → Int32) (b6 : Nat → Int32) (b7 : Nat → Int32) (t8 : Int32) (hi : i < n) : MetG l yX1_sizeNow wsX1_sizeNow { frames := 0, cells := 0, slots := 0, locals := 0 } D ty [.ref (b i 0)] (CW a b n cI cO c0 c1 c2 c3 u4 c5 c6 c7 u8 u9 u10 c11 u12 u13 (va_up I i (JX b0 t1 t2 t3 t4 b5 b6 b7 t8))) (va_Qi (fun r w => r = f1_sizeNow t2 t4 ∧ w = CW a b n cI cO c0 c1 c2 c3 u4 c5 c6 c7 u8 u9 u10 c11 u12 u13 (va_up I i (JX b0 t1 t2 t3 t4 b5 b6 b7 t8)))) 0 0 := by
  refine Met_start cX1_sizeNow 1 (some .int) (by decide) rfl (Nat.le_of_ble_eq_true rfl) ?_
  intro p e s m below meth c A ls hx hb hr hlocks hml hnm hts hown hw hl
  have hl : lv_has ls 1 [(0, .ref (b i 0))] := hl
  have i1 : ∀ w ∈ wsX10, w ∈ wsX1_sizeNow := fun _ h => List.mem_cons_of_mem _ (List.mem_append_right _ h)
  have lk32 := hts (.fieldLink RX1 32 "RentSizes$Item" "state" "I") (by decide +kernel)
  have lk26 := hts (.fieldLink RX1 26 "RentSizes$Item" "size" "I") (by decide +kernel)
  refine lv_aload_n hx hb dX1_sizeNow_0 rfl (lv_at hl 0 rfl) ?_
  refine r_get (C := RX1) (T := TX1) (v := .int (t4)) hx hb hts i1 hown hw (12 + (6 * i + 0)) (CW_getF _ _ _ (by assumption) (by decide) rfl) rfl 5 (by decide) lk32 rfl dX1_sizeNow_1 ?_
  refine lv_iconst (v := 2) hx hb dX1_sizeNow_4 (by decide) ?_
  refine lv_icmp_ne (tgt := 12) hx hb dX1_sizeNow_5 (by decide) (fun c_5 => ?_) (fun c_5 => ?_)
  · refine lv_aload_n hx hb dX1_sizeNow_12 rfl (lv_at hl 0 rfl) ?_
    refine r_get (C := RX1) (T := TX1) (v := .int (t2)) hx hb hts i1 hown hw (12 + (6 * i + 0)) (CW_getF _ _ _ (by assumption) (by decide) rfl) rfl 3 (by decide) lk26 rfl dX1_sizeNow_13 ?_
    have e9 : f1_sizeNow t2 t4 = t2 := by unfold f1_sizeNow; rw [if_neg c_5]
    exact r_iret hx hb hr hlocks hw ⟨by rw [e9] <;> rfl, rfl⟩ dX1_sizeNow_16
  · refine lv_iconst (v := 0) hx hb dX1_sizeNow_8 (by decide) ?_
    refine lv_goto (tgt := 16) hx hb dX1_sizeNow_9 (by decide) ?_
    have e9 : f1_sizeNow t2 t4 = 0 := by unfold f1_sizeNow; rw [if_pos c_5]
    exact r_iret hx hb hr hlocks hw ⟨by rw [e9] <;> rfl, rfl⟩ dX1_sizeNow_16
def lf1_sumUp_7 (b0 : Nat → Int32) : Nat → Nat → Int32 → Int32
  | 0, _, v1 => v1
  | k + 1, j, v1 => lf1_sumUp_7 b0 k (j + 1) ((31 * v1) + (b0 j))
set_option maxHeartbeats 4000000 in
set_option maxRecDepth 100000 in
theorem lt1_sumUp_7 (l : Launch) (D : va_G) (ty : List (ClassId × FieldType)) (a : Nat → Nat) (b : Nat → Nat → Nat) (n : Nat) (cI cO : ClassId) (ht0 : ty[0]? = some (cI, .int)) (ht1 : ty[1]? = some (cO, .object "RentSizes$Item")) (c0 : Nat → Int32) (c1 : Nat → Int32) (c2 : Nat → Int32) (c3 : Nat → Int32) (u4 : Int32) (c5 : Nat → Int32) (c6 : Nat → Int32) (c7 : Nat → Int32) (u8 : Int32) (u9 : Int32) (u10 : Int32) (c11 : Nat → Int32) (u12 : Int32) (u13 : Int32) (I : Nat → Nat → Nat → Int32) (i : Nat) (b0 : Nat → Int32) (t1 : Int32) (t2 : Int32) (t3 : Int32) (t4 : Int32) (b5 : Nat → Int32) (b6 : Nat → Int32) (b7 : Nat → Int32) (t8 : Int32) (hi : i < n)  {p : Program} {e : Env} {s : State} {m : MethodId} {args : Array Value} {below : List Frame} {meth : Method} {c : Code} {A : Nat → Prop} {H0 : Heap} {Q : State → Prop} (hx : p.tables.exec = Jvm.exec) (hb : c.code = cX1_sumUp) (hml : c.maxLocals = 3) (hts : ∀ w ∈ wsX1_sumUp, w.before args s = true) (hown : s.vm.findClass RX1 = some m.cls) : ∀ (k j : Nat) (v1 : Int32) (hj : j + k = 4) (H : Heap) (locs : List Loc) (ls : Array Slot) (hw : Wd D ty A H0 s (CW a b n cI cO c0 c1 c2 c3 u4 c5 c6 c7 u8 u9 u10 c11 u12 u13 (va_up I i (JX b0 t1 t2 t3 t4 b5 b6 b7 t8))) H locs) (hl : lv_has ls 3 [(2, .int (nI (j))), (1, .int (v1)), (0, .ref (b i 0))]) (kk : ∀ (H1 : Heap) (locs1 : List Loc) (ls1 : Array Slot), Wd D ty A H0 s (CW a b n cI cO c0 c1 c2 c3 u4 c5 c6 c7 u8 u9 u10 c11 u12 u13 (va_up I i (JX b0 t1 t2 t3 t4 b5 b6 b7 t8))) H1 locs1 → lv_has ls1 3 [(2, .int (nI (4))), (1, .int ((lf1_sumUp_7 b0 k j v1))), (0, .ref (b i 0))] → W p l e ({ frames := 0, cells := 0, slots := 0, locals := 0 } : Room) s m args below meth c H1 locs1 0 0 Q (F0 m 30 ls1 [])), W p l e ({ frames := 0, cells := 0, slots := 0, locals := 0 } : Room) s m args below meth c H locs 0 0 Q (F0 m 7 ls []) := by
  have i1 : ∀ w ∈ wsX10, w ∈ wsX1_sumUp := fun _ h => List.mem_cons_of_mem _ (List.mem_append_right _ h)
  have lk9 := hts (.fieldLink RX1 9 "RentSizes$Item" "words" "[I") (by decide +kernel)
  intro k
  induction k with
  | zero =>
    intro j v1 hj H locs ls hw hl kk
    have hj0 : j = 4 := by omega
    refine lv_iload_n hx hb dX1_sumUp_7 rfl (lv_at hl 0 rfl) ?_
    refine lv_iconst (v := 4) hx hb dX1_sumUp_8 (by decide) ?_
    refine r_top (nI 4) rfl ?_
    refine lv_icmp_ge (tgt := 30) hx hb dX1_sumUp_9 (by decide) (fun c_9 => ?_) (fun c_9 => ?_)
    · subst hj0
      exact kk _ _ _ hw (lv_sub hl [0, 1, 2] rfl)
    · exact absurd (nI_le (by omega) (by omega)) c_9
  | succ k ih =>
    intro j v1 hj H locs ls hw hl kk
    have hjb : j < 4 := by omega
    refine lv_iload_n hx hb dX1_sumUp_7 rfl (lv_at hl 0 rfl) ?_
    refine lv_iconst (v := 4) hx hb dX1_sumUp_8 (by decide) ?_
    refine r_top (nI 4) rfl ?_
    refine lv_icmp_ge (tgt := 30) hx hb dX1_sumUp_9 (by decide) (fun c_9 => ?_) (fun c_9 => ?_)
    · exact absurd c_9 (nI_ge (by omega) (by omega))
    · refine lv_bipush (v := 31) hx hb dX1_sumUp_12 (by decide) ?_
      refine lv_iload_n hx hb dX1_sumUp_14 rfl (lv_at hl 1 rfl) ?_
      refine lv_imul hx hb dX1_sumUp_15 ?_
      refine lv_aload_n hx hb dX1_sumUp_16 rfl (lv_at hl 2 rfl) ?_
      refine r_get (C := RX1) (T := TX1) (v := .ref (b i 1)) hx hb hts i1 hown hw (12 + (6 * i + 0)) (CW_getF _ _ _ (by assumption) (by decide) rfl) rfl 0 (by decide) lk9 rfl dX1_sumUp_17 ?_
      refine lv_iload_n hx hb dX1_sumUp_20 rfl (lv_at hl 0 rfl) ?_
      refine r_ialdN (v := b0 j) hx hb hw (12 + (6 * i + 1)) (CW_getF _ _ _ (by assumption) (by decide) rfl) ht0 j (by omega) (by decide) dX1_sumUp_21 rfl ?_
      refine lv_iadd hx hb dX1_sumUp_22 ?_
      refine lv_istore_n (lv' := [(1, .int ((31 * v1) + (b0 j))), (2, .int (nI (j))), (0, .ref (b i 0))]) hx hb dX1_sumUp_23 rfl hl (by decide) rfl (fun ls hl => ?_)
      refine lv_iinc (v := nI (j + 1)) (lv' := [(2, .int (nI (j + 1))), (1, .int ((31 * v1) + (b0 j))), (0, .ref (b i 0))]) hx hb dX1_sumUp_24 hl (k := 1) rfl (by show nI (j) + 1 = _; exact nI_1 _) (by decide) rfl (fun ls hl => ?_)
      refine lv_goto (tgt := 7) hx hb dX1_sumUp_27 (by decide) ?_
      have e9 : lf1_sumUp_7 b0 (k + 1) j v1 = lf1_sumUp_7 b0 k (j + 1) ((31 * v1) + (b0 j)) := rfl
      rw [e9] at kk
      exact ih (j + 1) ((31 * v1) + (b0 j)) (by omega)  _ _ _ hw (lv_sub hl [0, 1, 2] rfl) kk
def f1_sumUp (b0 : Nat → Int32) (t2 : Int32) : Int32 :=
  (lf1_sumUp_7 b0 4 0 t2) ^^^ (((lf1_sumUp_7 b0 4 0 t2).toUInt32 >>> ((13 : Int32).toUInt32 &&& Int32.toUInt32 31)).toInt32)
set_option maxHeartbeats 4000000 in
set_option maxRecDepth 100000 in
theorem k1_sumUp (l : Launch) (D : va_G) (ty : List (ClassId × FieldType)) (a : Nat → Nat) (b : Nat → Nat → Nat) (n : Nat) (cI cO : ClassId) (ht0 : ty[0]? = some (cI, .int)) (ht1 : ty[1]? = some (cO, .object "RentSizes$Item")) (c0 : Nat → Int32) (c1 : Nat → Int32) (c2 : Nat → Int32) (c3 : Nat → Int32) (u4 : Int32) (c5 : Nat → Int32) (c6 : Nat → Int32) (c7 : Nat → Int32) (u8 : Int32) (u9 : Int32) (u10 : Int32) (c11 : Nat → Int32) (u12 : Int32) (u13 : Int32) (I : Nat → Nat → Nat → Int32) (i : Nat) (b0 : Nat → Int32) (t1 : Int32) (t2 : Int32) (t3 : Int32) (t4 : Int32) (b5 : Nat → Int32) (b6 : Nat → Int32) (b7 : Nat → Int32) (t8 : Int32) (hi : i < n) : MetG l yX1_sumUp wsX1_sumUp { frames := 0, cells := 0, slots := 0, locals := 0 } D ty [.ref (b i 0)] (CW a b n cI cO c0 c1 c2 c3 u4 c5 c6 c7 u8 u9 u10 c11 u12 u13 (va_up I i (JX b0 t1 t2 t3 t4 b5 b6 b7 t8))) (va_Qi (fun r w => r = f1_sumUp b0 t2 ∧ w = CW a b n cI cO c0 c1 c2 c3 u4 c5 c6 c7 u8 u9 u10 c11 u12 u13 (va_up I i (JX b0 t1 t2 t3 t4 b5 b6 b7 t8)))) 0 0 := by
  refine Met_start cX1_sumUp 3 (some .int) (by decide) rfl (Nat.le_of_ble_eq_true rfl) ?_
  intro p e s m below meth c A ls hx hb hr hlocks hml hnm hts hown hw hl
  have hl : lv_has ls 3 [(0, .ref (b i 0))] := hl
  have i1 : ∀ w ∈ wsX10, w ∈ wsX1_sumUp := fun _ h => List.mem_cons_of_mem _ (List.mem_append_right _ h)
  have lk26 := hts (.fieldLink RX1 26 "RentSizes$Item" "size" "I") (by decide +kernel)
  refine lv_aload_n hx hb dX1_sumUp_0 rfl (lv_at hl 0 rfl) ?_
  refine r_get (C := RX1) (T := TX1) (v := .int (t2)) hx hb hts i1 hown hw (12 + (6 * i + 0)) (CW_getF _ _ _ (by assumption) (by decide) rfl) rfl 3 (by decide) lk26 rfl dX1_sumUp_1 ?_
  refine lv_istore_n (lv' := [(1, .int (t2)), (0, .ref (b i 0))]) hx hb dX1_sumUp_4 rfl hl (by decide) rfl (fun ls hl => ?_)
  refine lv_iconst (v := 0) hx hb dX1_sumUp_5 (by decide) ?_
  refine lv_istore_n (lv' := [(2, .int (0)), (1, .int (t2)), (0, .ref (b i 0))]) hx hb dX1_sumUp_6 rfl hl (by decide) rfl (fun ls hl => ?_)
  refine lt1_sumUp_7 l D ty a b n cI cO ht0 ht1 c0 c1 c2 c3 u4 c5 c6 c7 u8 u9 u10 c11 u12 u13 I i b0 t1 t2 t3 t4 b5 b6 b7 t8 hi  hx hb hml hts hown 4 0 t2 (by omega)  _ _ _ hw hl (fun H locs ls hw hl => ?_)
  refine lv_iload_n hx hb dX1_sumUp_30 rfl (lv_at hl 1 rfl) ?_
  refine lv_iload_n hx hb dX1_sumUp_31 rfl (lv_at hl 1 rfl) ?_
  refine lv_bipush (v := 13) hx hb dX1_sumUp_32 (by decide) ?_
  refine lv_iushr (v := ((lf1_sumUp_7 b0 4 0 t2).toUInt32 >>> ((13 : Int32).toUInt32 &&& Int32.toUInt32 31)).toInt32) hx hb dX1_sumUp_34 rfl ?_
  refine lv_ixor hx hb dX1_sumUp_35 ?_
  have e9 : f1_sumUp b0 t2 = (lf1_sumUp_7 b0 4 0 t2) ^^^ (((lf1_sumUp_7 b0 4 0 t2).toUInt32 >>> ((13 : Int32).toUInt32 &&& Int32.toUInt32 31)).toInt32) := by unfold f1_sumUp; rfl
  exact r_iret hx hb hr hlocks hw ⟨by rw [e9] <;> rfl, rfl⟩ dX1_sumUp_36
def f1_begin (b0 : Nat → Int32) (p1 : Int32) (p2 : Int32) (p3 : Int32) : (Nat → Int32) × Int32 × Int32 × Int32 × Int32 × Int32 :=
  (f7_fill_53178 b0 4 0, p1, p2, p3, 0, 0)
set_option maxHeartbeats 4000000 in
set_option maxRecDepth 100000 in
theorem k1_begin (l : Launch) (D : va_G) (ty : List (ClassId × FieldType)) (a : Nat → Nat) (b : Nat → Nat → Nat) (n : Nat) (cI cO : ClassId) (ht0 : ty[0]? = some (cI, .int)) (ht1 : ty[1]? = some (cO, .object "RentSizes$Item")) (c0 : Nat → Int32) (c1 : Nat → Int32) (c2 : Nat → Int32) (c3 : Nat → Int32) (u4 : Int32) (c5 : Nat → Int32) (c6 : Nat → Int32) (c7 : Nat → Int32) (u8 : Int32) (u9 : Int32) (u10 : Int32) (c11 : Nat → Int32) (u12 : Int32) (u13 : Int32) (I : Nat → Nat → Nat → Int32) (i : Nat) (b0 : Nat → Int32) (t1 : Int32) (t2 : Int32) (t3 : Int32) (t4 : Int32) (b5 : Nat → Int32) (b6 : Nat → Int32) (b7 : Nat → Int32) (t8 : Int32) (p1 : Int32) (p2 : Int32) (p3 : Int32) (hi : i < n) : MetG l yX1_begin wsX1_begin { frames := 1, cells := 0, slots := 0, locals := 23 } D ty [.ref (b i 0), .int (p1), .int (p2), .int (p3)] (CW a b n cI cO c0 c1 c2 c3 u4 c5 c6 c7 u8 u9 u10 c11 u12 u13 (va_up I i (JX b0 t1 t2 t3 t4 b5 b6 b7 t8))) (va_Qv (fun w => w = CW a b n cI cO c0 c1 c2 c3 u4 c5 c6 c7 u8 u9 u10 c11 u12 u13 (va_up I i (JX ((f1_begin b0 p1 p2 p3).1) ((f1_begin b0 p1 p2 p3).2.1) ((f1_begin b0 p1 p2 p3).2.2.1) ((f1_begin b0 p1 p2 p3).2.2.2.1) ((f1_begin b0 p1 p2 p3).2.2.2.2.1) b5 b6 b7 ((f1_begin b0 p1 p2 p3).2.2.2.2.2))))) 0 0 := by
  refine Met_start cX1_begin 4 none (by decide) rfl (Nat.le_of_ble_eq_true rfl) ?_
  intro p e s m below meth c A ls hx hb hr hlocks hml hnm hts hown hw hl
  have hl : lv_has ls 4 [(0, .ref (b i 0)), (1, .int (p1)), (2, .int (p2)), (3, .int (p3))] := hl
  have i1 : ∀ w ∈ wsX10, w ∈ wsX1_begin := fun _ h => List.mem_cons_of_mem _ (List.mem_append_left _ (List.mem_append_right _ h))
  have lk22 := hts (.fieldLink RX1 22 "RentSizes$Item" "owner" "I") (by decide +kernel)
  have lk26 := hts (.fieldLink RX1 26 "RentSizes$Item" "size" "I") (by decide +kernel)
  have lk29 := hts (.fieldLink RX1 29 "RentSizes$Item" "paid" "I") (by decide +kernel)
  have lk32 := hts (.fieldLink RX1 32 "RentSizes$Item" "state" "I") (by decide +kernel)
  have lk9 := hts (.fieldLink RX1 9 "RentSizes$Item" "words" "[I") (by decide +kernel)
  have lk18 := hts (.fieldLink RX1 18 "RentSizes$Item" "layers" "LRentSizes$Layers;") (by decide +kernel)
  have i2 : ∀ w ∈ wsX20, w ∈ wsX1_begin := fun _ h => List.mem_cons_of_mem _ (List.mem_append_right _ h)
  refine lv_aload_n hx hb dX1_begin_0 rfl (lv_at hl 0 rfl) ?_
  refine lv_iload_n hx hb dX1_begin_1 rfl (lv_at hl 1 rfl) ?_
  refine r_put (C := RX1) (T := TX1) (ws' := CW a b n cI cO c0 c1 c2 c3 u4 c5 c6 c7 u8 u9 u10 c11 u12 u13 (va_up I i (JX b0 p1 t2 t3 t4 b5 b6 b7 t8))) hx hb hts i1 tyX1 tyX1_ok nmX1 hown hw (12 + (6 * i + 0)) (CW_getF _ _ _ (by assumption) (by decide) rfl) rfl 2 (by decide) lk22 rfl (by decide +kernel) (Nat.le_of_ble_eq_true rfl) (CW_t1 (by assumption) _) dX1_begin_2 (fun H locs hw => ?_)
  refine lv_aload_n hx hb dX1_begin_5 rfl (lv_at hl 0 rfl) ?_
  refine lv_iload_n hx hb dX1_begin_6 rfl (lv_at hl 2 rfl) ?_
  refine r_put (C := RX1) (T := TX1) (ws' := CW a b n cI cO c0 c1 c2 c3 u4 c5 c6 c7 u8 u9 u10 c11 u12 u13 (va_up I i (JX b0 p1 p2 t3 t4 b5 b6 b7 t8))) hx hb hts i1 tyX1 tyX1_ok nmX1 hown hw (12 + (6 * i + 0)) (CW_getF _ _ _ (by assumption) (by decide) rfl) rfl 3 (by decide) lk26 rfl (by decide +kernel) (Nat.le_of_ble_eq_true rfl) (CW_t2 (by assumption) _) dX1_begin_7 (fun H locs hw => ?_)
  refine lv_aload_n hx hb dX1_begin_10 rfl (lv_at hl 0 rfl) ?_
  refine lv_iload_n hx hb dX1_begin_11 rfl (lv_at hl 3 rfl) ?_
  refine r_put (C := RX1) (T := TX1) (ws' := CW a b n cI cO c0 c1 c2 c3 u4 c5 c6 c7 u8 u9 u10 c11 u12 u13 (va_up I i (JX b0 p1 p2 p3 t4 b5 b6 b7 t8))) hx hb hts i1 tyX1 tyX1_ok nmX1 hown hw (12 + (6 * i + 0)) (CW_getF _ _ _ (by assumption) (by decide) rfl) rfl 4 (by decide) lk29 rfl (by decide +kernel) (Nat.le_of_ble_eq_true rfl) (CW_t3 (by assumption) _) dX1_begin_12 (fun H locs hw => ?_)
  refine lv_aload_n hx hb dX1_begin_15 rfl (lv_at hl 0 rfl) ?_
  refine lv_iconst (v := 0) hx hb dX1_begin_16 (by decide) ?_
  refine r_put (C := RX1) (T := TX1) (ws' := CW a b n cI cO c0 c1 c2 c3 u4 c5 c6 c7 u8 u9 u10 c11 u12 u13 (va_up I i (JX b0 p1 p2 p3 0 b5 b6 b7 t8))) hx hb hts i1 tyX1 tyX1_ok nmX1 hown hw (12 + (6 * i + 0)) (CW_getF _ _ _ (by assumption) (by decide) rfl) rfl 5 (by decide) lk32 rfl (by decide +kernel) (Nat.le_of_ble_eq_true rfl) (CW_t4 (by assumption) _) dX1_begin_17 (fun H locs hw => ?_)
  refine lv_aload_n hx hb dX1_begin_20 rfl (lv_at hl 0 rfl) ?_
  refine r_get (C := RX1) (T := TX1) (v := .ref (b i 1)) hx hb hts i1 hown hw (12 + (6 * i + 0)) (CW_getF _ _ _ (by assumption) (by decide) rfl) rfl 0 (by decide) lk9 rfl dX1_begin_21 ?_
  refine lv_iconst (v := 0) hx hb dX1_begin_24 (by decide) ?_
  refine r_callSv (rest := []) ⟨hx, hb, hml, hown, hts⟩ (hw.cast (CW_t0 (by assumption) _).symm) [.ref (b i 1), .int (0)] (k7_fill_53178 l D ty cI ht0 (CW a b n cI cO c0 c1 c2 c3 u4 c5 c6 c7 u8 u9 u10 c11 u12 u13 (va_up I i (JX b0 p1 p2 p3 0 b5 b6 b7 t8))) (12 + (6 * i + 1)) (b i 1) 4 (List.getElem?_eq_some_iff.mp (show (CW a b n cI cO c0 c1 c2 c3 u4 c5 c6 c7 u8 u9 u10 c11 u12 u13 (va_up I i (JX b0 p1 p2 p3 0 b5 b6 b7 t8)))[(12 + (6 * i + 1))]? = some _ from (CW_getF _ _ _ (by assumption) (by decide) rfl))).1 (by decide) b0 0) (va_cwS 2 hts gX1_begin_J7_fill_53178 rfl rfl rfl (by decide +kernel) ⟨Nat.le_of_ble_eq_true rfl, Nat.le_of_ble_eq_true rfl⟩) rfl hl.1 rfl (Nat.le_of_ble_eq_true rfl) dX1_begin_25 ⟨Nat.le_of_ble_eq_true rfl, Nat.le_of_ble_eq_true rfl⟩ (fun w H locs hp hw => ?_)
  subst hp
  replace hw := hw.cast (CW_t0 (by assumption) _)
  refine lv_aload_n hx hb dX1_begin_28 rfl (lv_at hl 0 rfl) ?_
  refine r_get (C := RX1) (T := TX1) (v := .ref (b i 2)) hx hb hts i1 hown hw (12 + (6 * i + 0)) (CW_getF _ _ _ (by assumption) (by decide) rfl) rfl 1 (by decide) lk18 rfl dX1_begin_29 ?_
  refine lv_iconst (v := 0) hx hb dX1_begin_32 (by decide) ?_
  refine r_putN (C := RX2) (T := TX2) (ws' := CW a b n cI cO c0 c1 c2 c3 u4 c5 c6 c7 u8 u9 u10 c11 u12 u13 (va_up I i (JX (f7_fill_53178 b0 4 0) p1 p2 p3 0 b5 b6 b7 0))) hx hb hts i2 tyX2 tyX2_ok nmX2 hown hw (12 + (6 * i + 2)) (CW_getF _ _ _ (by assumption) (by decide) rfl) rfl 3 (by decide) (List.mem_of_getElem? (i := 17) rfl) rfl (by decide +kernel) (Nat.le_of_ble_eq_true rfl) (CW_t8 (by assumption) _) dX1_begin_33 (fun H locs hw => ?_)
  have e9 : f1_begin b0 p1 p2 p3 = (f7_fill_53178 b0 4 0, p1, p2, p3, 0, 0) := by unfold f1_begin; rfl
  exact r_vret hx hb hr hlocks hw (by rw [e9] <;> rfl) dX1_begin_36
