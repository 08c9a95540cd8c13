def f4_make (c0 : Nat → Int32) (c1 : Nat → Int32) (c2 : Nat → Int32) (c3 : Nat → Int32) (u4 : Int32) (c5 : Nat → Int32) (u8 : Int32) (u9 : Int32) (c11 : Nat → Int32) (u12 : Int32) (u13 : Int32) (I : Nat → Nat → Nat → Int32) (p1 : Int32) (p2 : Int32) (p3 : Int32) (p4 : Int32) : Int32 × (Nat → Int32) × Int32 × Int32 × Int32 :=
  if (f4_isAccount p1) = 0 then ((-101), c5, u8, u9, u12)
  else if (f4_isAccount p2) = 0 then ((-101), c5, u8, u9, u12)
  else if (f4_within p3 1 1000) = 0 then ((-102), c5, u8, u9, u12)
  else if (f4_within p4 1 100) = 0 then ((-102), c5, u8, u9, u12)
  else if (f4_capsAllow c11 u12 I p2 p3) = 0 then ((-105), c5, u8, u9, u12)
  else if (f3_canPay c5 p1 ((p3.toInt64 * ((f0_priceOn c0 c1 u4 u13).toInt64)) + (f4_rentOf c0 c2 u4 u13 (f4_chargedSize c0 c3 u4 u13 p3) p4))) = 0 then ((-106), c5, u8, u9, u12)
  else if (nI (tn u12)) < 60 then ((nI (tn u12 + 1)) - 1, (f3_takeFrom c5 u8 u9 p1 (p3.toInt64 * ((f0_priceOn c0 c1 u4 u13).toInt64)) (f4_rentOf c0 c2 u4 u13 (f4_chargedSize c0 c3 u4 u13 p3) p4)).2.1, (f3_takeFrom c5 u8 u9 p1 (p3.toInt64 * ((f0_priceOn c0 c1 u4 u13).toInt64)) (f4_rentOf c0 c2 u4 u13 (f4_chargedSize c0 c3 u4 u13 p3) p4)).2.2.1, (f3_takeFrom c5 u8 u9 p1 (p3.toInt64 * ((f0_priceOn c0 c1 u4 u13).toInt64)) (f4_rentOf c0 c2 u4 u13 (f4_chargedSize c0 c3 u4 u13 p3) p4)).2.2.2, nI (tn u12 + 1))
  else ((-107), c5, u8, u9, u12)
set_option maxHeartbeats 2000000 in
set_option maxRecDepth 100000 in
theorem k4_make (l : Launch) (D : va_G) (ty : List (ClassId × FieldType)) (a : Nat → Nat) (b : Nat → Nat → Nat) (n : Nat) (cI cO : ClassId) (ht0 : ty[0]? = some (cI, .int)) (ht1 : ty[1]? = some (cO, .object "RentSizes$Item")) (c0 : Nat → Int32) (c1 : Nat → Int32) (c2 : Nat → Int32) (c3 : Nat → Int32) (u4 : Int32) (c5 : Nat → Int32) (c6 : Nat → Int32) (c7 : Nat → Int32) (u8 : Int32) (u9 : Int32) (u10 : Int32) (c11 : Nat → Int32) (u12 : Int32) (u13 : Int32) (I : Nat → Nat → Nat → Int32) (p1 : Int32) (p2 : Int32) (p3 : Int32) (p4 : Int32) (hob : u12 = nI (tn u12)) (hob2 : tn u12 ≤ n) (hn60 : n ≤ 60) (he0 : u4 = nI (tn u4)) (he1 : tn u4 ≤ 10) (he2 : 1 ≤ tn u4) : MetG l yX4_make wsX4_make { frames := 4, cells := 6, slots := 62, locals := 72 } D ty [.ref (a 0), .int (p1), .int (p2), .int (p3), .int (p4)] (CW a b n cI cO c0 c1 c2 c3 u4 c5 c6 c7 u8 u9 u10 c11 u12 u13 I) (va_Qi (fun r w => r = (f4_make c0 c1 c2 c3 u4 c5 u8 u9 c11 u12 u13 I p1 p2 p3 p4).1 ∧ ∃ (b2 : Nat → Nat → Nat) (n2 : Nat) (I2 : Nat → Nat → Nat → Int32), n ≤ n2 ∧ n2 ≤ 60 ∧ w = CW a b2 n2 cI cO c0 c1 c2 c3 u4 ((f4_make c0 c1 c2 c3 u4 c5 u8 u9 c11 u12 u13 I p1 p2 p3 p4).2.1) c6 c7 ((f4_make c0 c1 c2 c3 u4 c5 u8 u9 c11 u12 u13 I p1 p2 p3 p4).2.2.1) ((f4_make c0 c1 c2 c3 u4 c5 u8 u9 c11 u12 u13 I p1 p2 p3 p4).2.2.2.1) u10 c11 ((f4_make c0 c1 c2 c3 u4 c5 u8 u9 c11 u12 u13 I p1 p2 p3 p4).2.2.2.2) u13 I2 ∧ (((f4_make c0 c1 c2 c3 u4 c5 u8 u9 c11 u12 u13 I p1 p2 p3 p4).2.2.2.2 = u12 ∧ n2 = n ∧ I2 = I) ∨ ∃ (I3 : Nat → Nat → Nat → Int32) (b0 : Nat → Int32) (t1 t2 t3 t4 : Int32) (b5 b6 b7 : Nat → Int32) (t8 : Int32), tn u12 < n2 ∧ (∀ i, i < tn u12 → I3 i = I i) ∧ (f4_make c0 c1 c2 c3 u4 c5 u8 u9 c11 u12 u13 I p1 p2 p3 p4).2.2.2.2 = nI (tn u12 + 1) ∧ I2 = va_up I3 (tn u12) (JX ((f1_begin b0 p2 p3 (u13 + p4)).1) ((f1_begin b0 p2 p3 (u13 + p4)).2.1) ((f1_begin b0 p2 p3 (u13 + p4)).2.2.1) ((f1_begin b0 p2 p3 (u13 + p4)).2.2.2.1) ((f1_begin b0 p2 p3 (u13 + p4)).2.2.2.2.1) ((f2_put b5 b6 b7 ((f1_begin b0 p2 p3 (u13 + p4)).2.2.2.2.2) p3 (f0_priceOn c0 c1 u4 u13) p1).1) ((f2_put b5 b6 b7 ((f1_begin b0 p2 p3 (u13 + p4)).2.2.2.2.2) p3 (f0_priceOn c0 c1 u4 u13) p1).2.1) ((f2_put b5 b6 b7 ((f1_begin b0 p2 p3 (u13 + p4)).2.2.2.2.2) p3 (f0_priceOn c0 c1 u4 u13) p1).2.2.1) ((f2_put b5 b6 b7 ((f1_begin b0 p2 p3 (u13 + p4)).2.2.2.2.2) p3 (f0_priceOn c0 c1 u4 u13) p1).2.2.2))))) 6 62 := by
  refine Met_start cX4_make 11 (some .int) (by decide) rfl (Nat.le_of_ble_eq_true rfl) ?_
  intro p e s m below meth c A ls hx hb hr hlocks hml hnm hts hown hw hl
  have hl : lv_has ls 11 [(0, .ref (a 0)), (1, .int (p1)), (2, .int (p2)), (3, .int (p3)), (4, .int (p4))] := hl
  have i4 : ∀ w ∈ wsX40, w ∈ wsX4_make := fun _ h => List.mem_cons_of_mem _ (List.mem_append_left _ (List.mem_append_left _ (List.mem_append_left _ (List.mem_append_left _ (List.mem_append_right _ h)))))
  have lk10 := hts (.fieldLink RX4 10 "RentSizes" "editions" "LRentSizes$Editions;") (by decide +kernel)
  have lk41 := hts (.fieldLink RX4 41 "RentSizes" "height" "I") (by decide +kernel)
  have lk19 := hts (.fieldLink RX4 19 "RentSizes" "ledger" "LRentSizes$Ledger;") (by decide +kernel)
  have lk92 := hts (.fieldLink RX4 92 "RentSizes" "made" "I") (by decide +kernel)
  have i1 : ∀ w ∈ wsX10, w ∈ wsX4_make := fun _ h => List.mem_cons_of_mem _ (List.mem_append_left _ (List.mem_append_left _ (List.mem_append_left _ (List.mem_append_right _ h))))
  refine lv_iload_n hx hb dX4_make_0 rfl (lv_at hl 1 rfl) ?_
  refine r_callSi (rest := []) ⟨hx, hb, hml, hown, hts⟩ hw [.int (p1)] (k4_isAccount l D ty a b n cI cO ht0 ht1 c0 c1 c2 c3 u4 c5 c6 c7 u8 u9 u10 c11 u12 u13 I p1) (va_cwS 1 hts gX4_make_X4_isAccount rfl rfl rfl (by decide +kernel) ⟨Nat.le_of_ble_eq_true rfl, Nat.le_of_ble_eq_true rfl⟩) rfl hl.1 rfl (Nat.le_of_ble_eq_true rfl) dX4_make_1 ⟨Nat.le_of_ble_eq_true rfl, Nat.le_of_ble_eq_true rfl⟩ (fun r w H locs hp hw => ?_)
  obtain ⟨rfl, rfl⟩ := hp
  refine lv_if_eq (tgt := 14) hx hb dX4_make_4 (by decide) (fun c_4 => ?_) (fun c_4 => ?_)
  · refine lv_bipush (v := (-101)) hx hb dX4_make_14 (by decide) ?_
    have e9 : f4_make c0 c1 c2 c3 u4 c5 u8 u9 c11 u12 u13 I p1 p2 p3 p4 = ((-101), c5, u8, u9, u12) := by unfold f4_make; rw [if_pos c_4]
    refine W.widen (k := 6) (n := 62) (by omega) (by omega) ?_
    exact r_iret hx hb hr hlocks hw ⟨by rw [e9] <;> rfl, b, n, I, Nat.le_refl _, hn60, by rw [e9] <;> rfl, Or.inl ⟨by rw [e9] <;> rfl, rfl, rfl⟩⟩ dX4_make_16
  · refine lv_iload_n hx hb dX4_make_7 rfl (lv_at hl 2 rfl) ?_
    refine r_callSi (rest := []) ⟨hx, hb, hml, hown, hts⟩ hw [.int (p2)] (k4_isAccount l D ty a b n cI cO ht0 ht1 c0 c1 c2 c3 u4 c5 c6 c7 u8 u9 u10 c11 u12 u13 I p2) (va_cwS 1 hts gX4_make_X4_isAccount rfl rfl rfl (by decide +kernel) ⟨Nat.le_of_ble_eq_true rfl, Nat.le_of_ble_eq_true rfl⟩) rfl hl.1 rfl (Nat.le_of_ble_eq_true rfl) dX4_make_8 ⟨Nat.le_of_ble_eq_true rfl, Nat.le_of_ble_eq_true rfl⟩ (fun r w H locs hp hw => ?_)
    obtain ⟨rfl, rfl⟩ := hp
    refine lv_if_ne (tgt := 17) hx hb dX4_make_11 (by decide) (fun c_11 => ?_) (fun c_11 => ?_)
    · refine lv_iload_n hx hb dX4_make_17 rfl (lv_at hl 3 rfl) ?_
      refine lv_iconst (v := 1) hx hb dX4_make_18 (by decide) ?_
      refine lv_sipush (v := 1000) hx hb dX4_make_19 (by decide) ?_
      refine r_callSi (rest := []) ⟨hx, hb, hml, hown, hts⟩ hw [.int (p3), .int (1), .int (1000)] (k4_within l D ty a b n cI cO ht0 ht1 c0 c1 c2 c3 u4 c5 c6 c7 u8 u9 u10 c11 u12 u13 I p3 1 1000) (va_cwS 3 hts gX4_make_X4_within rfl rfl rfl (by decide +kernel) ⟨Nat.le_of_ble_eq_true rfl, Nat.le_of_ble_eq_true rfl⟩) rfl hl.1 rfl (Nat.le_of_ble_eq_true rfl) dX4_make_22 ⟨Nat.le_of_ble_eq_true rfl, Nat.le_of_ble_eq_true rfl⟩ (fun r w H locs hp hw => ?_)
      obtain ⟨rfl, rfl⟩ := hp
      refine lv_if_eq (tgt := 39) hx hb dX4_make_25 (by decide) (fun c_25 => ?_) (fun c_25 => ?_)
      · refine lv_bipush (v := (-102)) hx hb dX4_make_39 (by decide) ?_
        have e9 : f4_make c0 c1 c2 c3 u4 c5 u8 u9 c11 u12 u13 I p1 p2 p3 p4 = ((-102), c5, u8, u9, u12) := by unfold f4_make; rw [if_neg c_4, if_neg c_11, if_pos c_25]
        refine W.widen (k := 6) (n := 62) (by omega) (by omega) ?_
        exact r_iret hx hb hr hlocks hw ⟨by rw [e9] <;> rfl, b, n, I, Nat.le_refl _, hn60, by rw [e9] <;> rfl, Or.inl ⟨by rw [e9] <;> rfl, rfl, rfl⟩⟩ dX4_make_41
      · refine lv_iload hx hb dX4_make_28 (lv_at hl 4 rfl) ?_
        refine lv_iconst (v := 1) hx hb dX4_make_30 (by decide) ?_
        refine lv_bipush (v := 100) hx hb dX4_make_31 (by decide) ?_
        refine r_callSi (rest := []) ⟨hx, hb, hml, hown, hts⟩ hw [.int (p4), .int (1), .int (100)] (k4_within l D ty a b n cI cO ht0 ht1 c0 c1 c2 c3 u4 c5 c6 c7 u8 u9 u10 c11 u12 u13 I p4 1 100) (va_cwS 3 hts gX4_make_X4_within rfl rfl rfl (by decide +kernel) ⟨Nat.le_of_ble_eq_true rfl, Nat.le_of_ble_eq_true rfl⟩) rfl hl.1 rfl (Nat.le_of_ble_eq_true rfl) dX4_make_33 ⟨Nat.le_of_ble_eq_true rfl, Nat.le_of_ble_eq_true rfl⟩ (fun r w H locs hp hw => ?_)
        obtain ⟨rfl, rfl⟩ := hp
        refine lv_if_ne (tgt := 42) hx hb dX4_make_36 (by decide) (fun c_36 => ?_) (fun c_36 => ?_)
        · have hv1 := ia_in c_4
          have hv := ia_in c_11
          refine lv_aload_n hx hb dX4_make_42 rfl (lv_at hl 0 rfl) ?_
          refine lv_iload_n hx hb dX4_make_43 rfl (lv_at hl 2 rfl) ?_
          refine lv_iload_n hx hb dX4_make_44 rfl (lv_at hl 3 rfl) ?_
          refine r_callVi 0 rfl rfl (rest := []) ⟨hx, hb, hml, hown, hts⟩ hw [.int (p2), .int (p3)] (k4_capsAllow l D ty a b n cI cO ht0 ht1 c0 c1 c2 c3 u4 c5 c6 c7 u8 u9 u10 c11 u12 u13 I p2 p3 hob hob2 hn60 hv) (cwV 2 hts gX4_make_X4_capsAllow rfl rfl rfl (by decide +kernel) ⟨Nat.le_of_ble_eq_true rfl, Nat.le_of_ble_eq_true rfl⟩) rfl hl.1 rfl (Nat.le_of_ble_eq_true rfl) dX4_make_45 ⟨Nat.le_of_ble_eq_true rfl, Nat.le_of_ble_eq_true rfl⟩ (fun r w H locs hp hw => ?_)
          obtain ⟨rfl, rfl⟩ := hp
          refine lv_if_ne (tgt := 54) hx hb dX4_make_48 (by decide) (fun c_48 => ?_) (fun c_48 => ?_)
          · refine lv_aload_n hx hb dX4_make_54 rfl (lv_at hl 0 rfl) ?_
            refine r_get (C := RX4) (T := TX4) (v := .ref (a 1)) hx hb hts i4 hown hw 0 rfl rfl 0 (by decide) lk10 rfl dX4_make_55 ?_
            refine lv_aload_n hx hb dX4_make_58 rfl (lv_at hl 0 rfl) ?_
            refine r_get (C := RX4) (T := TX4) (v := .int (u13)) hx hb hts i4 hown hw 0 rfl rfl 5 (by decide) lk41 rfl dX4_make_59 ?_
            refine r_callVi 1 rfl rfl (rest := []) ⟨hx, hb, hml, hown, hts⟩ hw [.int (u13)] (k0_priceOn l D ty a b n cI cO ht0 ht1 c0 c1 c2 c3 u4 c5 c6 c7 u8 u9 u10 c11 u12 u13 I u13 (by first | assumption | omega) (by first | assumption | omega) (by first | assumption | omega)) (cwV 1 hts gX4_make_X0_priceOn rfl rfl rfl (by decide +kernel) ⟨Nat.le_of_ble_eq_true rfl, Nat.le_of_ble_eq_true rfl⟩) rfl hl.1 rfl (Nat.le_of_ble_eq_true rfl) dX4_make_62 ⟨Nat.le_of_ble_eq_true rfl, Nat.le_of_ble_eq_true rfl⟩ (fun r w H locs hp hw => ?_)
            obtain ⟨rfl, rfl⟩ := hp
            refine lv_istore (lv' := [(5, .int (f0_priceOn c0 c1 u4 u13)), (0, .ref (a 0)), (1, .int (p1)), (2, .int (p2)), (3, .int (p3)), (4, .int (p4))]) hx hb dX4_make_65 hl (by decide) rfl (fun ls hl => ?_)
            refine lv_iload_n hx hb dX4_make_67 rfl (lv_at hl 4 rfl) ?_
            refine lv_i2l (v := p3.toInt64) hx hb dX4_make_68 rfl ?_
            refine lv_iload hx hb dX4_make_69 (lv_at hl 0 rfl) ?_
            refine lv_i2l (v := (f0_priceOn c0 c1 u4 u13).toInt64) hx hb dX4_make_71 rfl ?_
            refine lv_lmul hx hb dX4_make_72 ?_
            refine lv_lstore (lv' := [(6, .long (p3.toInt64 * ((f0_priceOn c0 c1 u4 u13).toInt64))), (5, .int (f0_priceOn c0 c1 u4 u13)), (0, .ref (a 0)), (1, .int (p1)), (2, .int (p2)), (3, .int (p3)), (4, .int (p4))]) hx hb dX4_make_73 hl (by decide) rfl (fun ls hl => ?_)
            refine lv_aload_n hx hb dX4_make_75 rfl (lv_at hl 2 rfl) ?_
            refine lv_aload_n hx hb dX4_make_76 rfl (lv_at hl 2 rfl) ?_
            refine lv_iload_n hx hb dX4_make_77 rfl (lv_at hl 5 rfl) ?_
            refine r_callVi 0 rfl rfl (rest := [.ref (a 0)]) ⟨hx, hb, hml, hown, hts⟩ hw [.int (p3)] (k4_chargedSize l D ty a b n cI cO ht0 ht1 c0 c1 c2 c3 u4 c5 c6 c7 u8 u9 u10 c11 u12 u13 I p3 (by first | assumption | omega) (by first | assumption | omega) (by first | assumption | omega)) (cwV 1 hts gX4_make_X4_chargedSize rfl rfl rfl (by decide +kernel) ⟨Nat.le_of_ble_eq_true rfl, Nat.le_of_ble_eq_true rfl⟩) rfl hl.1 rfl (Nat.le_of_ble_eq_true rfl) dX4_make_78 ⟨Nat.le_of_ble_eq_true rfl, Nat.le_of_ble_eq_true rfl⟩ (fun r w H locs hp hw => ?_)
            obtain ⟨rfl, rfl⟩ := hp
            refine lv_iload hx hb dX4_make_81 (lv_at hl 6 rfl) ?_
            refine r_callVl 0 rfl rfl (rest := []) ⟨hx, hb, hml, hown, hts⟩ hw [.int (f4_chargedSize c0 c3 u4 u13 p3), .int (p4)] (k4_rentOf l D ty a b n cI cO ht0 ht1 c0 c1 c2 c3 u4 c5 c6 c7 u8 u9 u10 c11 u12 u13 I (f4_chargedSize c0 c3 u4 u13 p3) p4 (by first | assumption | omega) (by first | assumption | omega) (by first | assumption | omega)) (cwV 2 hts gX4_make_X4_rentOf rfl rfl rfl (by decide +kernel) ⟨Nat.le_of_ble_eq_true rfl, Nat.le_of_ble_eq_true rfl⟩) rfl hl.1 rfl (Nat.le_of_ble_eq_true rfl) dX4_make_83 ⟨Nat.le_of_ble_eq_true rfl, Nat.le_of_ble_eq_true rfl⟩ (fun r w H locs hp hw => ?_)
            obtain ⟨rfl, rfl⟩ := hp
            refine lv_lstore (lv' := [(8, .long (f4_rentOf c0 c2 u4 u13 (f4_chargedSize c0 c3 u4 u13 p3) p4)), (6, .long (p3.toInt64 * ((f0_priceOn c0 c1 u4 u13).toInt64))), (5, .int (f0_priceOn c0 c1 u4 u13)), (0, .ref (a 0)), (1, .int (p1)), (2, .int (p2)), (3, .int (p3)), (4, .int (p4))]) hx hb dX4_make_86 hl (by decide) rfl (fun ls hl => ?_)
            refine lv_aload_n hx hb dX4_make_88 rfl (lv_at hl 3 rfl) ?_
            refine r_get (C := RX4) (T := TX4) (v := .ref (a 6)) hx hb hts i4 hown hw 0 rfl rfl 1 (by decide) lk19 rfl dX4_make_89 ?_
            refine lv_iload_n hx hb dX4_make_92 rfl (lv_at hl 4 rfl) ?_
            refine lv_lload hx hb dX4_make_93 (lv_at hl 1 rfl) ?_
            refine lv_lload hx hb dX4_make_95 (lv_at hl 0 rfl) ?_
            refine lv_ladd hx hb dX4_make_97 ?_
            refine r_callVi 6 rfl rfl (rest := []) ⟨hx, hb, hml, hown, hts⟩ hw [.int (p1), .long ((p3.toInt64 * ((f0_priceOn c0 c1 u4 u13).toInt64)) + (f4_rentOf c0 c2 u4 u13 (f4_chargedSize c0 c3 u4 u13 p3) p4))] (k3_canPay l D ty a b n cI cO ht0 ht1 c0 c1 c2 c3 u4 c5 c6 c7 u8 u9 u10 c11 u12 u13 I p1 ((p3.toInt64 * ((f0_priceOn c0 c1 u4 u13).toInt64)) + (f4_rentOf c0 c2 u4 u13 (f4_chargedSize c0 c3 u4 u13 p3) p4)) hv1) (cwV 2 hts gX4_make_X3_canPay rfl rfl rfl (by decide +kernel) ⟨Nat.le_of_ble_eq_true rfl, Nat.le_of_ble_eq_true rfl⟩) rfl hl.1 rfl (Nat.le_of_ble_eq_true rfl) dX4_make_98 ⟨Nat.le_of_ble_eq_true rfl, Nat.le_of_ble_eq_true rfl⟩ (fun r w H locs hp hw => ?_)
            obtain ⟨rfl, rfl⟩ := hp
            refine lv_if_ne (tgt := 107) hx hb dX4_make_101 (by decide) (fun c_101 => ?_) (fun c_101 => ?_)
            · refine lv_aload_n hx hb dX4_make_107 rfl (lv_at hl 3 rfl) ?_
              refine r_get (C := RX4) (T := TX4) (v := .int (u12)) hx hb hts i4 hown hw 0 rfl rfl 4 (by decide) lk92 rfl dX4_make_108 ?_
              refine r_top (nI (tn u12)) hob ?_
              refine lv_bipush (v := 60) hx hb dX4_make_111 (by decide) ?_
              refine lv_icmp_lt (tgt := 119) hx hb dX4_make_113 (by decide) (fun c_113 => ?_) (fun c_113 => ?_)
              · have hlt : tn u12 < 60 := (nI_ltI (b := 60) (by omega) (by decide)).mp c_113
                refine lv_aload_n hx hb dX4_make_119 rfl (lv_at hl 3 rfl) ?_
                refine r_get (C := RX4) (T := TX4) (v := .ref (a 6)) hx hb hts i4 hown hw 0 rfl rfl 1 (by decide) lk19 rfl dX4_make_120 ?_
                refine lv_iload_n hx hb dX4_make_123 rfl (lv_at hl 4 rfl) ?_
                refine lv_lload hx hb dX4_make_124 (lv_at hl 1 rfl) ?_
                refine lv_lload hx hb dX4_make_126 (lv_at hl 0 rfl) ?_
                refine r_callVi 6 rfl rfl (rest := []) ⟨hx, hb, hml, hown, hts⟩ hw [.int (p1), .long (p3.toInt64 * ((f0_priceOn c0 c1 u4 u13).toInt64)), .long (f4_rentOf c0 c2 u4 u13 (f4_chargedSize c0 c3 u4 u13 p3) p4)] (k3_takeFrom l D ty a b n cI cO ht0 ht1 c0 c1 c2 c3 u4 c5 c6 c7 u8 u9 u10 c11 u12 u13 I p1 (p3.toInt64 * ((f0_priceOn c0 c1 u4 u13).toInt64)) (f4_rentOf c0 c2 u4 u13 (f4_chargedSize c0 c3 u4 u13 p3) p4) hv1) (cwV 3 hts gX4_make_X3_takeFrom rfl rfl rfl (by decide +kernel) ⟨Nat.le_of_ble_eq_true rfl, Nat.le_of_ble_eq_true rfl⟩) rfl hl.1 rfl (Nat.le_of_ble_eq_true rfl) dX4_make_128 ⟨Nat.le_of_ble_eq_true rfl, Nat.le_of_ble_eq_true rfl⟩ (fun r w H locs hp hw => ?_)
                obtain ⟨rfl, rfl⟩ := hp
                refine lv_pop hx hb dX4_make_131 rfl ?_
                refine lv_aload_n hx hb dX4_make_132 rfl (lv_at hl 3 rfl) ?_
                refine r_callVq 0 rfl rfl (rest := []) ⟨hx, hb, hml, hown, hts⟩ hw [] (k4_freshItem l D ty a b n cI cO ht0 ht1 c0 c1 c2 c3 u4 ((f3_takeFrom c5 u8 u9 p1 (p3.toInt64 * ((f0_priceOn c0 c1 u4 u13).toInt64)) (f4_rentOf c0 c2 u4 u13 (f4_chargedSize c0 c3 u4 u13 p3) p4)).2.1) c6 c7 ((f3_takeFrom c5 u8 u9 p1 (p3.toInt64 * ((f0_priceOn c0 c1 u4 u13).toInt64)) (f4_rentOf c0 c2 u4 u13 (f4_chargedSize c0 c3 u4 u13 p3) p4)).2.2.1) ((f3_takeFrom c5 u8 u9 p1 (p3.toInt64 * ((f0_priceOn c0 c1 u4 u13).toInt64)) (f4_rentOf c0 c2 u4 u13 (f4_chargedSize c0 c3 u4 u13 p3) p4)).2.2.2) u10 c11 u12 u13 I (by assumption) (by assumption) (by assumption) (by assumption)) (cwV 0 hts gX4_make_X4_freshItem rfl rfl rfl (by decide +kernel) ⟨Nat.le_of_ble_eq_true rfl, Nat.le_of_ble_eq_true rfl⟩) rfl hl.1 rfl (Nat.le_of_ble_eq_true rfl) dX4_make_133 ⟨Nat.le_of_ble_eq_true rfl, Nat.le_of_ble_eq_true rfl⟩ (fun r w H locs hp hw => ?_)
                obtain ⟨b3, n3, I3, rfl, rfl, hi3, hn3, hnn3, hI3⟩ := hp
                refine lv_astore (lv' := [(10, .ref (b3 (tn u12) 0)), (8, .long (f4_rentOf c0 c2 u4 u13 (f4_chargedSize c0 c3 u4 u13 p3) p4)), (6, .long (p3.toInt64 * ((f0_priceOn c0 c1 u4 u13).toInt64))), (5, .int (f0_priceOn c0 c1 u4 u13)), (0, .ref (a 0)), (1, .int (p1)), (2, .int (p2)), (3, .int (p3)), (4, .int (p4))]) hx hb dX4_make_136 hl (by decide) rfl (fun ls hl => ?_)
                refine lv_aload hx hb dX4_make_138 (lv_at hl 0 rfl) ?_
                refine lv_iload_n hx hb dX4_make_140 rfl (lv_at hl 6 rfl) ?_
                refine lv_iload_n hx hb dX4_make_141 rfl (lv_at hl 7 rfl) ?_
                refine lv_aload_n hx hb dX4_make_142 rfl (lv_at hl 4 rfl) ?_
                refine r_get (C := RX4) (T := TX4) (v := .int (u13)) hx hb hts i4 hown hw 0 rfl rfl 5 (by decide) lk41 rfl dX4_make_143 ?_
                refine lv_iload hx hb dX4_make_146 (lv_at hl 8 rfl) ?_
                refine lv_iadd hx hb dX4_make_148 ?_
                refine r_callVv (12 + (6 * tn u12 + 0)) (CW_getF _ _ _ (by assumption) (by decide) rfl) rfl (rest := []) ⟨hx, hb, hml, hown, hts⟩ (hw.cast (CW_foc _ (tn u12))) [.int (p2), .int (p3), .int (u13 + p4)] (k1_begin l D ty a b3 n3 cI cO ht0 ht1 c0 c1 c2 c3 u4 ((f3_takeFrom c5 u8 u9 p1 (p3.toInt64 * ((f0_priceOn c0 c1 u4 u13).toInt64)) (f4_rentOf c0 c2 u4 u13 (f4_chargedSize c0 c3 u4 u13 p3) p4)).2.1) c6 c7 ((f3_takeFrom c5 u8 u9 p1 (p3.toInt64 * ((f0_priceOn c0 c1 u4 u13).toInt64)) (f4_rentOf c0 c2 u4 u13 (f4_chargedSize c0 c3 u4 u13 p3) p4)).2.2.1) ((f3_takeFrom c5 u8 u9 p1 (p3.toInt64 * ((f0_priceOn c0 c1 u4 u13).toInt64)) (f4_rentOf c0 c2 u4 u13 (f4_chargedSize c0 c3 u4 u13 p3) p4)).2.2.2) u10 c11 (nI (tn u12 + 1)) u13 I3 (tn u12) (I3 (tn u12) 0) (I3 (tn u12) 1 0) (I3 (tn u12) 2 0) (I3 (tn u12) 3 0) (I3 (tn u12) 4 0) (I3 (tn u12) 5) (I3 (tn u12) 6) (I3 (tn u12) 7) (I3 (tn u12) 8 0) p2 p3 (u13 + p4) hi3) (cwV 3 hts gX4_make_X1_begin rfl rfl rfl (by decide +kernel) ⟨Nat.le_of_ble_eq_true rfl, Nat.le_of_ble_eq_true rfl⟩) rfl hl.1 rfl (Nat.le_of_ble_eq_true rfl) dX4_make_149 ⟨Nat.le_of_ble_eq_true rfl, Nat.le_of_ble_eq_true rfl⟩ (fun w H locs hp hw => ?_)
                subst hp
                refine lv_aload hx hb dX4_make_152 (lv_at hl 0 rfl) ?_
                refine r_getN (C := RX1) (T := TX1) (v := .ref (b3 (tn u12) 2)) hx hb hts i1 hown hw (12 + (6 * tn u12 + 0)) (CW_getF _ _ _ (by assumption) (by decide) rfl) rfl 1 (by decide) (List.mem_of_getElem? (i := 1) rfl) rfl dX4_make_154 ?_
                refine lv_iload_n hx hb dX4_make_157 rfl (lv_at hl 7 rfl) ?_
                refine lv_iload hx hb dX4_make_158 (lv_at hl 3 rfl) ?_
                refine lv_iload_n hx hb dX4_make_160 rfl (lv_at hl 5 rfl) ?_
                refine r_callVv (12 + (6 * tn u12 + 2)) (CW_getF _ _ _ (by assumption) (by decide) rfl) rfl (rest := []) ⟨hx, hb, hml, hown, hts⟩ hw [.int (p3), .int (f0_priceOn c0 c1 u4 u13), .int (p1)] (k2_put l D ty a b3 n3 cI cO ht0 ht1 c0 c1 c2 c3 u4 ((f3_takeFrom c5 u8 u9 p1 (p3.toInt64 * ((f0_priceOn c0 c1 u4 u13).toInt64)) (f4_rentOf c0 c2 u4 u13 (f4_chargedSize c0 c3 u4 u13 p3) p4)).2.1) c6 c7 ((f3_takeFrom c5 u8 u9 p1 (p3.toInt64 * ((f0_priceOn c0 c1 u4 u13).toInt64)) (f4_rentOf c0 c2 u4 u13 (f4_chargedSize c0 c3 u4 u13 p3) p4)).2.2.1) ((f3_takeFrom c5 u8 u9 p1 (p3.toInt64 * ((f0_priceOn c0 c1 u4 u13).toInt64)) (f4_rentOf c0 c2 u4 u13 (f4_chargedSize c0 c3 u4 u13 p3) p4)).2.2.2) u10 c11 (nI (tn u12 + 1)) u13 I3 (tn u12) ((f1_begin (I3 (tn u12) 0) p2 p3 (u13 + p4)).1) ((f1_begin (I3 (tn u12) 0) p2 p3 (u13 + p4)).2.1) ((f1_begin (I3 (tn u12) 0) p2 p3 (u13 + p4)).2.2.1) ((f1_begin (I3 (tn u12) 0) p2 p3 (u13 + p4)).2.2.2.1) ((f1_begin (I3 (tn u12) 0) p2 p3 (u13 + p4)).2.2.2.2.1) (I3 (tn u12) 5) (I3 (tn u12) 6) (I3 (tn u12) 7) ((f1_begin (I3 (tn u12) 0) p2 p3 (u13 + p4)).2.2.2.2.2) p3 (f0_priceOn c0 c1 u4 u13) p1 hi3 (show (0 : Int32) = nI (tn 0) from rfl) (show tn (0 : Int32) ≤ 16 by decide)) (cwV 3 hts gX4_make_X2_put rfl rfl rfl (by decide +kernel) ⟨Nat.le_of_ble_eq_true rfl, Nat.le_of_ble_eq_true rfl⟩) rfl hl.1 rfl (Nat.le_of_ble_eq_true rfl) dX4_make_161 ⟨Nat.le_of_ble_eq_true rfl, Nat.le_of_ble_eq_true rfl⟩ (fun w H locs hp hw => ?_)
                subst hp
                refine lv_aload_n hx hb dX4_make_164 rfl (lv_at hl 4 rfl) ?_
                refine r_get (C := RX4) (T := TX4) (v := .int (nI (tn u12 + 1))) hx hb hts i4 hown hw 0 rfl rfl 4 (by decide) lk92 rfl dX4_make_165 ?_
                refine lv_iconst (v := 1) hx hb dX4_make_168 (by decide) ?_
                refine lv_isub hx hb dX4_make_169 ?_
                have e9 : f4_make c0 c1 c2 c3 u4 c5 u8 u9 c11 u12 u13 I p1 p2 p3 p4 = ((nI (tn u12 + 1)) - 1, (f3_takeFrom c5 u8 u9 p1 (p3.toInt64 * ((f0_priceOn c0 c1 u4 u13).toInt64)) (f4_rentOf c0 c2 u4 u13 (f4_chargedSize c0 c3 u4 u13 p3) p4)).2.1, (f3_takeFrom c5 u8 u9 p1 (p3.toInt64 * ((f0_priceOn c0 c1 u4 u13).toInt64)) (f4_rentOf c0 c2 u4 u13 (f4_chargedSize c0 c3 u4 u13 p3) p4)).2.2.1, (f3_takeFrom c5 u8 u9 p1 (p3.toInt64 * ((f0_priceOn c0 c1 u4 u13).toInt64)) (f4_rentOf c0 c2 u4 u13 (f4_chargedSize c0 c3 u4 u13 p3) p4)).2.2.2, nI (tn u12 + 1)) := by unfold f4_make; rw [if_neg c_4, if_neg c_11, if_neg c_25, if_neg c_36, if_neg c_48, if_neg c_101, if_pos c_113]
                exact r_iret hx hb hr hlocks hw ⟨by rw [e9] <;> rfl, b3, n3, va_up I3 (tn u12) (JX ((f1_begin (I3 (tn u12) 0) p2 p3 (u13 + p4)).1) ((f1_begin (I3 (tn u12) 0) p2 p3 (u13 + p4)).2.1) ((f1_begin (I3 (tn u12) 0) p2 p3 (u13 + p4)).2.2.1) ((f1_begin (I3 (tn u12) 0) p2 p3 (u13 + p4)).2.2.2.1) ((f1_begin (I3 (tn u12) 0) p2 p3 (u13 + p4)).2.2.2.2.1) ((f2_put (I3 (tn u12) 5) (I3 (tn u12) 6) (I3 (tn u12) 7) ((f1_begin (I3 (tn u12) 0) p2 p3 (u13 + p4)).2.2.2.2.2) p3 (f0_priceOn c0 c1 u4 u13) p1).1) ((f2_put (I3 (tn u12) 5) (I3 (tn u12) 6) (I3 (tn u12) 7) ((f1_begin (I3 (tn u12) 0) p2 p3 (u13 + p4)).2.2.2.2.2) p3 (f0_priceOn c0 c1 u4 u13) p1).2.1) ((f2_put (I3 (tn u12) 5) (I3 (tn u12) 6) (I3 (tn u12) 7) ((f1_begin (I3 (tn u12) 0) p2 p3 (u13 + p4)).2.2.2.2.2) p3 (f0_priceOn c0 c1 u4 u13) p1).2.2.1) ((f2_put (I3 (tn u12) 5) (I3 (tn u12) 6) (I3 (tn u12) 7) ((f1_begin (I3 (tn u12) 0) p2 p3 (u13 + p4)).2.2.2.2.2) p3 (f0_priceOn c0 c1 u4 u13) p1).2.2.2)), hnn3, hn3, by rw [e9] <;> rfl, Or.inr ⟨I3, I3 (tn u12) 0, I3 (tn u12) 1 0, I3 (tn u12) 2 0, I3 (tn u12) 3 0, I3 (tn u12) 4 0, I3 (tn u12) 5, I3 (tn u12) 6, I3 (tn u12) 7, I3 (tn u12) 8 0, hi3, hI3, by rw [e9] <;> rfl, rfl⟩⟩ dX4_make_170
              · refine lv_bipush (v := (-107)) hx hb dX4_make_116 (by decide) ?_
                have e9 : f4_make c0 c1 c2 c3 u4 c5 u8 u9 c11 u12 u13 I p1 p2 p3 p4 = ((-107), c5, u8, u9, u12) := by unfold f4_make; rw [if_neg c_4, if_neg c_11, if_neg c_25, if_neg c_36, if_neg c_48, if_neg c_101, if_neg c_113]
                refine W.widen (k := 6) (n := 62) (by omega) (by omega) ?_
                exact r_iret hx hb hr hlocks hw ⟨by rw [e9] <;> rfl, b, n, I, Nat.le_refl _, hn60, by rw [e9] <;> rfl, Or.inl ⟨by rw [e9] <;> rfl, rfl, rfl⟩⟩ dX4_make_118
            · refine lv_bipush (v := (-106)) hx hb dX4_make_104 (by decide) ?_
              have e9 : f4_make c0 c1 c2 c3 u4 c5 u8 u9 c11 u12 u13 I p1 p2 p3 p4 = ((-106), c5, u8, u9, u12) := by unfold f4_make; rw [if_neg c_4, if_neg c_11, if_neg c_25, if_neg c_36, if_neg c_48, if_pos c_101]
              refine W.widen (k := 6) (n := 62) (by omega) (by omega) ?_
              exact r_iret hx hb hr hlocks hw ⟨by rw [e9] <;> rfl, b, n, I, Nat.le_refl _, hn60, by rw [e9] <;> rfl, Or.inl ⟨by rw [e9] <;> rfl, rfl, rfl⟩⟩ dX4_make_106
          · refine lv_bipush (v := (-105)) hx hb dX4_make_51 (by decide) ?_
            have e9 : f4_make c0 c1 c2 c3 u4 c5 u8 u9 c11 u12 u13 I p1 p2 p3 p4 = ((-105), c5, u8, u9, u12) := by unfold f4_make; rw [if_neg c_4, if_neg c_11, if_neg c_25, if_neg c_36, if_pos c_48]
            refine W.widen (k := 6) (n := 62) (by omega) (by omega) ?_
            exact r_iret hx hb hr hlocks hw ⟨by rw [e9] <;> rfl, b, n, I, Nat.le_refl _, hn60, by rw [e9] <;> rfl, Or.inl ⟨by rw [e9] <;> rfl, rfl, rfl⟩⟩ dX4_make_53
        · refine lv_bipush (v := (-102)) hx hb dX4_make_39 (by decide) ?_
          have e9 : f4_make c0 c1 c2 c3 u4 c5 u8 u9 c11 u12 u13 I p1 p2 p3 p4 = ((-102), c5, u8, u9, u12) := by unfold f4_make; rw [if_neg c_4, if_neg c_11, if_neg c_25, if_pos c_36]
          refine W.widen (k := 6) (n := 62) (by omega) (by omega) ?_
          exact r_iret hx hb hr hlocks hw ⟨by rw [e9] <;> rfl, b, n, I, Nat.le_refl _, hn60, by rw [e9] <;> rfl, Or.inl ⟨by rw [e9] <;> rfl, rfl, rfl⟩⟩ dX4_make_41
    · refine lv_bipush (v := (-101)) hx hb dX4_make_14 (by decide) ?_
      have e9 : f4_make c0 c1 c2 c3 u4 c5 u8 u9 c11 u12 u13 I p1 p2 p3 p4 = ((-101), c5, u8, u9, u12) := by unfold f4_make; rw [if_neg c_4, if_pos c_11]
      refine W.widen (k := 6) (n := 62) (by omega) (by omega) ?_
      exact r_iret hx hb hr hlocks hw ⟨by rw [e9] <;> rfl, b, n, I, Nat.le_refl _, hn60, by rw [e9] <;> rfl, Or.inl ⟨by rw [e9] <;> rfl, rfl, rfl⟩⟩ dX4_make_16
