def f4_edition (c0 : Nat → Int32) (c1 : Nat → Int32) (c2 : Nat → Int32) (c3 : Nat → Int32) (u4 : Int32) (u13 : Int32) (p1 : Int32) (p2 : Int32) (p3 : Int32) (p4 : Int32) : Int32 × (Nat → Int32) × (Nat → Int32) × (Nat → Int32) × (Nat → Int32) × Int32 :=
  if (f4_within p1 0 100000) = 0 then ((-102), c0, c1, c2, c3, u4)
  else if (f4_within p2 0 100) = 0 then ((-102), c0, c1, c2, c3, u4)
  else if (f4_within p3 0 20) = 0 then ((-102), c0, c1, c2, c3, u4)
  else if (f4_within p4 1 64) = 0 then ((-102), c0, c1, c2, c3, u4)
  else if p1 < (u13 + 5) then ((-103), c0, c1, c2, c3, u4)
  else if (f0_lastFrom c0 u4) < p1 then (if (f0_hasRoom u4) = 0 then ((-107), c0, c1, c2, c3, u4)
    else ((f0_append c0 c1 c2 c3 u4 p1 p2 p3 p4).2.2.2.2, (f0_append c0 c1 c2 c3 u4 p1 p2 p3 p4).1, (f0_append c0 c1 c2 c3 u4 p1 p2 p3 p4).2.1, (f0_append c0 c1 c2 c3 u4 p1 p2 p3 p4).2.2.1, (f0_append c0 c1 c2 c3 u4 p1 p2 p3 p4).2.2.2.1, (f0_append c0 c1 c2 c3 u4 p1 p2 p3 p4).2.2.2.2))
  else ((-103), c0, c1, c2, c3, u4)
set_option maxHeartbeats 4000000 in
set_option maxRecDepth 100000 in
theorem k4_edition (l : Launch) (D : va_G) (ty : List (ClassId × FieldType)) (a : Nat → Nat) (b : Nat → Nat → Nat) (n : Nat) (cI cO : ClassId) (ht0 : ty[0]? = some (cI, .int)) (ht1 : ty[1]? = some (cO, .object "RentSizes$Item")) (c0 : Nat → Int32) (c1 : Nat → Int32) (c2 : Nat → Int32) (c3 : Nat → Int32) (u4 : Int32) (c5 : Nat → Int32) (c6 : Nat → Int32) (c7 : Nat → Int32) (u8 : Int32) (u9 : Int32) (u10 : Int32) (c11 : Nat → Int32) (u12 : Int32) (u13 : Int32) (I : Nat → Nat → Nat → Int32) (p1 : Int32) (p2 : Int32) (p3 : Int32) (p4 : Int32) (he0 : u4 = nI (tn u4)) (he1 : tn u4 ≤ 10) : MetG l yX4_edition wsX4_edition { frames := 1, cells := 0, slots := 0, locals := 24 } D ty [.ref (a 0), .int (p1), .int (p2), .int (p3), .int (p4)] (CW a b n cI cO c0 c1 c2 c3 u4 c5 c6 c7 u8 u9 u10 c11 u12 u13 I) (va_Qi (fun r w => r = (f4_edition c0 c1 c2 c3 u4 u13 p1 p2 p3 p4).1 ∧ w = CW a b n cI cO ((f4_edition c0 c1 c2 c3 u4 u13 p1 p2 p3 p4).2.1) ((f4_edition c0 c1 c2 c3 u4 u13 p1 p2 p3 p4).2.2.1) ((f4_edition c0 c1 c2 c3 u4 u13 p1 p2 p3 p4).2.2.2.1) ((f4_edition c0 c1 c2 c3 u4 u13 p1 p2 p3 p4).2.2.2.2.1) ((f4_edition c0 c1 c2 c3 u4 u13 p1 p2 p3 p4).2.2.2.2.2) c5 c6 c7 u8 u9 u10 c11 u12 u13 I)) 0 0 := by
  refine Met_start cX4_edition 5 (some .int) (by decide) rfl (Nat.le_of_ble_eq_true rfl) ?_
  intro p e s m below meth c A ls hx hb hr hlocks hml hnm hts hown hw hl
  have hl : lv_has ls 5 [(0, .ref (a 0)), (1, .int (p1)), (2, .int (p2)), (3, .int (p3)), (4, .int (p4))] := hl
  have ci36 := hts (.constant RX4 36 (100000)) (by decide +kernel)
  have i4 : ∀ w ∈ wsX40, w ∈ wsX4_edition := fun _ h => List.mem_cons_of_mem _ (List.mem_append_left _ (List.mem_append_right _ h))
  have lk41 := hts (.fieldLink RX4 41 "RentSizes" "height" "I") (by decide +kernel)
  have lk10 := hts (.fieldLink RX4 10 "RentSizes" "editions" "LRentSizes$Editions;") (by decide +kernel)
  have i0 : ∀ w ∈ wsX00, w ∈ wsX4_edition := fun _ h => List.mem_cons_of_mem _ (List.mem_append_right _ h)
  refine lv_iload_n hx hb dX4_edition_0 rfl (lv_at hl 1 rfl) ?_
  refine lv_iconst (v := 0) hx hb dX4_edition_1 (by decide) ?_
  refine lv_ldc (v := 100000) hx hb hown ci36 dX4_edition_2 ?_
  refine r_callSi (rest := []) ⟨hx, hb, hml, hown, hts⟩ hw [.int (p1), .int (0), .int (100000)] (k4_within l D ty a b n cI cO ht0 ht1 c0 c1 c2 c3 u4 c5 c6 c7 u8 u9 u10 c11 u12 u13 I p1 0 100000) (va_cwS 3 hts gX4_edition_X4_within rfl rfl rfl (by decide +kernel) ⟨Nat.le_of_ble_eq_true rfl, Nat.le_of_ble_eq_true rfl⟩) rfl hl.1 rfl (Nat.le_of_ble_eq_true rfl) dX4_edition_4 ⟨Nat.le_of_ble_eq_true rfl, Nat.le_of_ble_eq_true rfl⟩ (fun r w H locs hp hw => ?_)
  obtain ⟨rfl, rfl⟩ := hp
  refine lv_if_eq (tgt := 41) hx hb dX4_edition_7 (by decide) (fun c_7 => ?_) (fun c_7 => ?_)
  · refine lv_bipush (v := (-102)) hx hb dX4_edition_41 (by decide) ?_
    have e9 : f4_edition c0 c1 c2 c3 u4 u13 p1 p2 p3 p4 = ((-102), c0, c1, c2, c3, u4) := by unfold f4_edition; rw [if_pos c_7]
    exact r_iret hx hb hr hlocks hw ⟨by rw [e9] <;> rfl, by rw [e9] <;> rfl⟩ dX4_edition_43
  · refine lv_iload_n hx hb dX4_edition_10 rfl (lv_at hl 2 rfl) ?_
    refine lv_iconst (v := 0) hx hb dX4_edition_11 (by decide) ?_
    refine lv_bipush (v := 100) hx hb dX4_edition_12 (by decide) ?_
    refine r_callSi (rest := []) ⟨hx, hb, hml, hown, hts⟩ hw [.int (p2), .int (0), .int (100)] (k4_within l D ty a b n cI cO ht0 ht1 c0 c1 c2 c3 u4 c5 c6 c7 u8 u9 u10 c11 u12 u13 I p2 0 100) (va_cwS 3 hts gX4_edition_X4_within rfl rfl rfl (by decide +kernel) ⟨Nat.le_of_ble_eq_true rfl, Nat.le_of_ble_eq_true rfl⟩) rfl hl.1 rfl (Nat.le_of_ble_eq_true rfl) dX4_edition_14 ⟨Nat.le_of_ble_eq_true rfl, Nat.le_of_ble_eq_true rfl⟩ (fun r w H locs hp hw => ?_)
    obtain ⟨rfl, rfl⟩ := hp
    refine lv_if_eq (tgt := 41) hx hb dX4_edition_17 (by decide) (fun c_17 => ?_) (fun c_17 => ?_)
    · refine lv_bipush (v := (-102)) hx hb dX4_edition_41 (by decide) ?_
      have e9 : f4_edition c0 c1 c2 c3 u4 u13 p1 p2 p3 p4 = ((-102), c0, c1, c2, c3, u4) := by unfold f4_edition; rw [if_neg c_7, if_pos c_17]
      exact r_iret hx hb hr hlocks hw ⟨by rw [e9] <;> rfl, by rw [e9] <;> rfl⟩ dX4_edition_43
    · refine lv_iload_n hx hb dX4_edition_20 rfl (lv_at hl 3 rfl) ?_
      refine lv_iconst (v := 0) hx hb dX4_edition_21 (by decide) ?_
      refine lv_bipush (v := 20) hx hb dX4_edition_22 (by decide) ?_
      refine r_callSi (rest := []) ⟨hx, hb, hml, hown, hts⟩ hw [.int (p3), .int (0), .int (20)] (k4_within l D ty a b n cI cO ht0 ht1 c0 c1 c2 c3 u4 c5 c6 c7 u8 u9 u10 c11 u12 u13 I p3 0 20) (va_cwS 3 hts gX4_edition_X4_within rfl rfl rfl (by decide +kernel) ⟨Nat.le_of_ble_eq_true rfl, Nat.le_of_ble_eq_true rfl⟩) rfl hl.1 rfl (Nat.le_of_ble_eq_true rfl) dX4_edition_24 ⟨Nat.le_of_ble_eq_true rfl, Nat.le_of_ble_eq_true rfl⟩ (fun r w H locs hp hw => ?_)
      obtain ⟨rfl, rfl⟩ := hp
      refine lv_if_eq (tgt := 41) hx hb dX4_edition_27 (by decide) (fun c_27 => ?_) (fun c_27 => ?_)
      · refine lv_bipush (v := (-102)) hx hb dX4_edition_41 (by decide) ?_
        have e9 : f4_edition c0 c1 c2 c3 u4 u13 p1 p2 p3 p4 = ((-102), c0, c1, c2, c3, u4) := by unfold f4_edition; rw [if_neg c_7, if_neg c_17, if_pos c_27]
        exact r_iret hx hb hr hlocks hw ⟨by rw [e9] <;> rfl, by rw [e9] <;> rfl⟩ dX4_edition_43
      · refine lv_iload hx hb dX4_edition_30 (lv_at hl 4 rfl) ?_
        refine lv_iconst (v := 1) hx hb dX4_edition_32 (by decide) ?_
        refine lv_bipush (v := 64) hx hb dX4_edition_33 (by decide) ?_
        refine r_callSi (rest := []) ⟨hx, hb, hml, hown, hts⟩ hw [.int (p4), .int (1), .int (64)] (k4_within l D ty a b n cI cO ht0 ht1 c0 c1 c2 c3 u4 c5 c6 c7 u8 u9 u10 c11 u12 u13 I p4 1 64) (va_cwS 3 hts gX4_edition_X4_within rfl rfl rfl (by decide +kernel) ⟨Nat.le_of_ble_eq_true rfl, Nat.le_of_ble_eq_true rfl⟩) rfl hl.1 rfl (Nat.le_of_ble_eq_true rfl) dX4_edition_35 ⟨Nat.le_of_ble_eq_true rfl, Nat.le_of_ble_eq_true rfl⟩ (fun r w H locs hp hw => ?_)
        obtain ⟨rfl, rfl⟩ := hp
        refine lv_if_ne (tgt := 44) hx hb dX4_edition_38 (by decide) (fun c_38 => ?_) (fun c_38 => ?_)
        · refine lv_iload_n hx hb dX4_edition_44 rfl (lv_at hl 1 rfl) ?_
          refine lv_aload_n hx hb dX4_edition_45 rfl (lv_at hl 0 rfl) ?_
          refine r_get (C := RX4) (T := TX4) (v := .int (u13)) hx hb hts i4 hown hw 0 rfl rfl 5 (by decide) lk41 rfl dX4_edition_46 ?_
          refine lv_iconst (v := 5) hx hb dX4_edition_49 (by decide) ?_
          refine lv_iadd hx hb dX4_edition_50 ?_
          refine lv_icmp_lt (tgt := 65) hx hb dX4_edition_51 (by decide) (fun c_51 => ?_) (fun c_51 => ?_)
          · refine lv_bipush (v := (-103)) hx hb dX4_edition_65 (by decide) ?_
            have e9 : f4_edition c0 c1 c2 c3 u4 u13 p1 p2 p3 p4 = ((-103), c0, c1, c2, c3, u4) := by unfold f4_edition; rw [if_neg c_7, if_neg c_17, if_neg c_27, if_neg c_38, if_pos c_51]
            exact r_iret hx hb hr hlocks hw ⟨by rw [e9] <;> rfl, by rw [e9] <;> rfl⟩ dX4_edition_67
          · refine lv_iload_n hx hb dX4_edition_54 rfl (lv_at hl 1 rfl) ?_
            refine lv_aload_n hx hb dX4_edition_55 rfl (lv_at hl 0 rfl) ?_
            refine r_get (C := RX4) (T := TX4) (v := .ref (a 1)) hx hb hts i4 hown hw 0 rfl rfl 0 (by decide) lk10 rfl dX4_edition_56 ?_
            refine r_callVi 1 rfl rfl (rest := [.int (p1)]) ⟨hx, hb, hml, hown, hts⟩ hw [] (k0_lastFrom l D ty a b n cI cO ht0 ht1 c0 c1 c2 c3 u4 c5 c6 c7 u8 u9 u10 c11 u12 u13 I (by first | assumption | omega) (by first | assumption | omega)) (cwV 0 hts gX4_edition_X0_lastFrom rfl rfl rfl (by decide +kernel) ⟨Nat.le_of_ble_eq_true rfl, Nat.le_of_ble_eq_true rfl⟩) rfl hl.1 rfl (Nat.le_of_ble_eq_true rfl) dX4_edition_59 ⟨Nat.le_of_ble_eq_true rfl, Nat.le_of_ble_eq_true rfl⟩ (fun r w H locs hp hw => ?_)
            obtain ⟨rfl, rfl⟩ := hp
            refine lv_icmp_gt (tgt := 68) hx hb dX4_edition_62 (by decide) (fun c_62 => ?_) (fun c_62 => ?_)
            · refine lv_aload_n hx hb dX4_edition_68 rfl (lv_at hl 0 rfl) ?_
              refine r_get (C := RX4) (T := TX4) (v := .ref (a 1)) hx hb hts i4 hown hw 0 rfl rfl 0 (by decide) lk10 rfl dX4_edition_69 ?_
              refine r_callVi 1 rfl rfl (rest := []) ⟨hx, hb, hml, hown, hts⟩ hw [] (k0_hasRoom l D ty a b n cI cO ht0 ht1 c0 c1 c2 c3 u4 c5 c6 c7 u8 u9 u10 c11 u12 u13 I) (cwV 0 hts gX4_edition_X0_hasRoom rfl rfl rfl (by decide +kernel) ⟨Nat.le_of_ble_eq_true rfl, Nat.le_of_ble_eq_true rfl⟩) rfl hl.1 rfl (Nat.le_of_ble_eq_true rfl) dX4_edition_72 ⟨Nat.le_of_ble_eq_true rfl, Nat.le_of_ble_eq_true rfl⟩ (fun r w H locs hp hw => ?_)
              obtain ⟨rfl, rfl⟩ := hp
              refine lv_if_ne (tgt := 81) hx hb dX4_edition_75 (by decide) (fun c_75 => ?_) (fun c_75 => ?_)
              · refine lv_aload_n hx hb dX4_edition_81 rfl (lv_at hl 0 rfl) ?_
                refine r_get (C := RX4) (T := TX4) (v := .ref (a 1)) hx hb hts i4 hown hw 0 rfl rfl 0 (by decide) lk10 rfl dX4_edition_82 ?_
                refine lv_iload_n hx hb dX4_edition_85 rfl (lv_at hl 1 rfl) ?_
                refine lv_iload_n hx hb dX4_edition_86 rfl (lv_at hl 2 rfl) ?_
                refine lv_iload_n hx hb dX4_edition_87 rfl (lv_at hl 3 rfl) ?_
                refine lv_iload hx hb dX4_edition_88 (lv_at hl 4 rfl) ?_
                refine r_callVv 1 rfl rfl (rest := []) ⟨hx, hb, hml, hown, hts⟩ hw [.int (p1), .int (p2), .int (p3), .int (p4)] (k0_append l D ty a b n cI cO ht0 ht1 c0 c1 c2 c3 u4 c5 c6 c7 u8 u9 u10 c11 u12 u13 I p1 p2 p3 p4 (by first | assumption | omega) (by first | assumption | omega)) (cwV 4 hts gX4_edition_X0_append rfl rfl rfl (by decide +kernel) ⟨Nat.le_of_ble_eq_true rfl, Nat.le_of_ble_eq_true rfl⟩) rfl hl.1 rfl (Nat.le_of_ble_eq_true rfl) dX4_edition_90 ⟨Nat.le_of_ble_eq_true rfl, Nat.le_of_ble_eq_true rfl⟩ (fun w H locs hp hw => ?_)
                subst hp
                refine lv_aload_n hx hb dX4_edition_93 rfl (lv_at hl 0 rfl) ?_
                refine r_get (C := RX4) (T := TX4) (v := .ref (a 1)) hx hb hts i4 hown hw 0 rfl rfl 0 (by decide) lk10 rfl dX4_edition_94 ?_
                refine r_getN (C := RX0) (T := TX0) (v := .int ((f0_append c0 c1 c2 c3 u4 p1 p2 p3 p4).2.2.2.2)) hx hb hts i0 hown hw 1 rfl rfl 4 (by decide) (List.mem_of_getElem? (i := 0) rfl) rfl dX4_edition_97 ?_
                have e9 : f4_edition c0 c1 c2 c3 u4 u13 p1 p2 p3 p4 = ((f0_append c0 c1 c2 c3 u4 p1 p2 p3 p4).2.2.2.2, (f0_append c0 c1 c2 c3 u4 p1 p2 p3 p4).1, (f0_append c0 c1 c2 c3 u4 p1 p2 p3 p4).2.1, (f0_append c0 c1 c2 c3 u4 p1 p2 p3 p4).2.2.1, (f0_append c0 c1 c2 c3 u4 p1 p2 p3 p4).2.2.2.1, (f0_append c0 c1 c2 c3 u4 p1 p2 p3 p4).2.2.2.2) := by unfold f4_edition; rw [if_neg c_7, if_neg c_17, if_neg c_27, if_neg c_38, if_neg c_51, if_pos c_62, if_neg c_75]
                exact r_iret hx hb hr hlocks hw ⟨by rw [e9] <;> rfl, by rw [e9] <;> rfl⟩ dX4_edition_100
              · refine lv_bipush (v := (-107)) hx hb dX4_edition_78 (by decide) ?_
                have e9 : f4_edition c0 c1 c2 c3 u4 u13 p1 p2 p3 p4 = ((-107), c0, c1, c2, c3, u4) := by unfold f4_edition; rw [if_neg c_7, if_neg c_17, if_neg c_27, if_neg c_38, if_neg c_51, if_pos c_62, if_pos c_75]
                exact r_iret hx hb hr hlocks hw ⟨by rw [e9] <;> rfl, by rw [e9] <;> rfl⟩ dX4_edition_80
            · refine lv_bipush (v := (-103)) hx hb dX4_edition_65 (by decide) ?_
              have e9 : f4_edition c0 c1 c2 c3 u4 u13 p1 p2 p3 p4 = ((-103), c0, c1, c2, c3, u4) := by unfold f4_edition; rw [if_neg c_7, if_neg c_17, if_neg c_27, if_neg c_38, if_neg c_51, if_neg c_62]
              exact r_iret hx hb hr hlocks hw ⟨by rw [e9] <;> rfl, by rw [e9] <;> rfl⟩ dX4_edition_67
        · refine lv_bipush (v := (-102)) hx hb dX4_edition_41 (by decide) ?_
          have e9 : f4_edition c0 c1 c2 c3 u4 u13 p1 p2 p3 p4 = ((-102), c0, c1, c2, c3, u4) := by unfold f4_edition; rw [if_neg c_7, if_neg c_17, if_neg c_27, if_pos c_38]
          exact r_iret hx hb hr hlocks hw ⟨by rw [e9] <;> rfl, by rw [e9] <;> rfl⟩ dX4_edition_43
def f4_priceAt (c0 : Nat → Int32) (c1 : Nat → Int32) (c2 : Nat → Int32) (c3 : Nat → Int32) (u4 : Int32) (p1 : Int32) (p2 : Int32) : Int32 :=
  if (f4_within p1 0 100000) = 0 then (-102)
  else if p2 = 0 then f0_priceOn c0 c1 u4 p1
  else if p2 = 1 then f0_rentOn c0 c2 u4 p1
  else if p2 = 2 then f0_leastOn c0 c3 u4 p1
  else if p2 = 3 then f0_fromOn c0 u4 p1
  else (-102)
set_option maxHeartbeats 4000000 in
set_option maxRecDepth 100000 in
theorem k4_priceAt (l : Launch) (D : va_G) (ty : List (ClassId × FieldType)) (a : Nat → Nat) (b : Nat → Nat → Nat) (n : Nat) (cI cO : ClassId) (ht0 : ty[0]? = some (cI, .int)) (ht1 : ty[1]? = some (cO, .object "RentSizes$Item")) (c0 : Nat → Int32) (c1 : Nat → Int32) (c2 : Nat → Int32) (c3 : Nat → Int32) (u4 : Int32) (c5 : Nat → Int32) (c6 : Nat → Int32) (c7 : Nat → Int32) (u8 : Int32) (u9 : Int32) (u10 : Int32) (c11 : Nat → Int32) (u12 : Int32) (u13 : Int32) (I : Nat → Nat → Nat → Int32) (p1 : Int32) (p2 : Int32) (he0 : u4 = nI (tn u4)) (he1 : tn u4 ≤ 10) (he2 : 1 ≤ tn u4) : MetG l yX4_priceAt wsX4_priceAt { frames := 2, cells := 0, slots := 0, locals := 43 } D ty [.ref (a 0), .int (p1), .int (p2)] (CW a b n cI cO c0 c1 c2 c3 u4 c5 c6 c7 u8 u9 u10 c11 u12 u13 I) (va_Qi (fun r w => r = f4_priceAt c0 c1 c2 c3 u4 p1 p2 ∧ w = CW a b n cI cO c0 c1 c2 c3 u4 c5 c6 c7 u8 u9 u10 c11 u12 u13 I)) 0 0 := by
  refine Met_start cX4_priceAt 3 (some .int) (by decide) rfl (Nat.le_of_ble_eq_true rfl) ?_
  intro p e s m below meth c A ls hx hb hr hlocks hml hnm hts hown hw hl
  have hl : lv_has ls 3 [(0, .ref (a 0)), (1, .int (p1)), (2, .int (p2))] := hl
  have ci36 := hts (.constant RX4 36 (100000)) (by decide +kernel)
  have i4 : ∀ w ∈ wsX40, w ∈ wsX4_priceAt := fun _ h => List.mem_cons_of_mem _ (List.mem_append_left _ (List.mem_append_right _ h))
  have lk10 := hts (.fieldLink RX4 10 "RentSizes" "editions" "LRentSizes$Editions;") (by decide +kernel)
  refine lv_iload_n hx hb dX4_priceAt_0 rfl (lv_at hl 1 rfl) ?_
  refine lv_iconst (v := 0) hx hb dX4_priceAt_1 (by decide) ?_
  refine lv_ldc (v := 100000) hx hb hown ci36 dX4_priceAt_2 ?_
  refine r_callSi (rest := []) ⟨hx, hb, hml, hown, hts⟩ hw [.int (p1), .int (0), .int (100000)] (k4_within l D ty a b n cI cO ht0 ht1 c0 c1 c2 c3 u4 c5 c6 c7 u8 u9 u10 c11 u12 u13 I p1 0 100000) (va_cwS 3 hts gX4_priceAt_X4_within rfl rfl rfl (by decide +kernel) ⟨Nat.le_of_ble_eq_true rfl, Nat.le_of_ble_eq_true rfl⟩) rfl hl.1 rfl (Nat.le_of_ble_eq_true rfl) dX4_priceAt_4 ⟨Nat.le_of_ble_eq_true rfl, Nat.le_of_ble_eq_true rfl⟩ (fun r w H locs hp hw => ?_)
  obtain ⟨rfl, rfl⟩ := hp
  refine lv_if_ne (tgt := 13) hx hb dX4_priceAt_7 (by decide) (fun c_7 => ?_) (fun c_7 => ?_)
  · refine lv_iload_n hx hb dX4_priceAt_13 rfl (lv_at hl 2 rfl) ?_
    by_cases c_14_0 : p2 = 0
    · refine lv_tableIn (off := 30) (tgt := 44) hx hb dX4_priceAt_14 (by rw [c_14_0]; decide) (by rw [c_14_0]; decide) (by rw [c_14_0]; rfl) (by decide) ?_
      refine lv_aload_n hx hb dX4_priceAt_44 rfl (lv_at hl 0 rfl) ?_
      refine r_get (C := RX4) (T := TX4) (v := .ref (a 1)) hx hb hts i4 hown hw 0 rfl rfl 0 (by decide) lk10 rfl dX4_priceAt_45 ?_
      refine lv_iload_n hx hb dX4_priceAt_48 rfl (lv_at hl 1 rfl) ?_
      refine r_callVi 1 rfl rfl (rest := []) ⟨hx, hb, hml, hown, hts⟩ hw [.int (p1)] (k0_priceOn l D ty a b n cI cO ht0 ht1 c0 c1 c2 c3 u4 c5 c6 c7 u8 u9 u10 c11 u12 u13 I p1 (by first | assumption | omega) (by first | assumption | omega) (by first | assumption | omega)) (cwV 1 hts gX4_priceAt_X0_priceOn rfl rfl rfl (by decide +kernel) ⟨Nat.le_of_ble_eq_true rfl, Nat.le_of_ble_eq_true rfl⟩) rfl hl.1 rfl (Nat.le_of_ble_eq_true rfl) dX4_priceAt_49 ⟨Nat.le_of_ble_eq_true rfl, Nat.le_of_ble_eq_true rfl⟩ (fun r w H locs hp hw => ?_)
      obtain ⟨rfl, rfl⟩ := hp
      have e9 : f4_priceAt c0 c1 c2 c3 u4 p1 p2 = f0_priceOn c0 c1 u4 p1 := by unfold f4_priceAt; rw [if_neg c_7, if_pos c_14_0]
      exact r_iret hx hb hr hlocks hw ⟨by rw [e9] <;> rfl, rfl⟩ dX4_priceAt_52
    by_cases c_14_1 : p2 = 1
    · refine lv_tableIn (off := 39) (tgt := 53) hx hb dX4_priceAt_14 (by rw [c_14_1]; decide) (by rw [c_14_1]; decide) (by rw [c_14_1]; rfl) (by decide) ?_
      refine lv_aload_n hx hb dX4_priceAt_53 rfl (lv_at hl 0 rfl) ?_
      refine r_get (C := RX4) (T := TX4) (v := .ref (a 1)) hx hb hts i4 hown hw 0 rfl rfl 0 (by decide) lk10 rfl dX4_priceAt_54 ?_
      refine lv_iload_n hx hb dX4_priceAt_57 rfl (lv_at hl 1 rfl) ?_
      refine r_callVi 1 rfl rfl (rest := []) ⟨hx, hb, hml, hown, hts⟩ hw [.int (p1)] (k0_rentOn l D ty a b n cI cO ht0 ht1 c0 c1 c2 c3 u4 c5 c6 c7 u8 u9 u10 c11 u12 u13 I p1 (by first | assumption | omega) (by first | assumption | omega) (by first | assumption | omega)) (cwV 1 hts gX4_priceAt_X0_rentOn rfl rfl rfl (by decide +kernel) ⟨Nat.le_of_ble_eq_true rfl, Nat.le_of_ble_eq_true rfl⟩) rfl hl.1 rfl (Nat.le_of_ble_eq_true rfl) dX4_priceAt_58 ⟨Nat.le_of_ble_eq_true rfl, Nat.le_of_ble_eq_true rfl⟩ (fun r w H locs hp hw => ?_)
      obtain ⟨rfl, rfl⟩ := hp
      have e9 : f4_priceAt c0 c1 c2 c3 u4 p1 p2 = f0_rentOn c0 c2 u4 p1 := by unfold f4_priceAt; rw [if_neg c_7, if_neg c_14_0, if_pos c_14_1]
      exact r_iret hx hb hr hlocks hw ⟨by rw [e9] <;> rfl, rfl⟩ dX4_priceAt_61
    by_cases c_14_2 : p2 = 2
    · refine lv_tableIn (off := 48) (tgt := 62) hx hb dX4_priceAt_14 (by rw [c_14_2]; decide) (by rw [c_14_2]; decide) (by rw [c_14_2]; rfl) (by decide) ?_
      refine lv_aload_n hx hb dX4_priceAt_62 rfl (lv_at hl 0 rfl) ?_
      refine r_get (C := RX4) (T := TX4) (v := .ref (a 1)) hx hb hts i4 hown hw 0 rfl rfl 0 (by decide) lk10 rfl dX4_priceAt_63 ?_
      refine lv_iload_n hx hb dX4_priceAt_66 rfl (lv_at hl 1 rfl) ?_
      refine r_callVi 1 rfl rfl (rest := []) ⟨hx, hb, hml, hown, hts⟩ hw [.int (p1)] (k0_leastOn l D ty a b n cI cO ht0 ht1 c0 c1 c2 c3 u4 c5 c6 c7 u8 u9 u10 c11 u12 u13 I p1 (by first | assumption | omega) (by first | assumption | omega) (by first | assumption | omega)) (cwV 1 hts gX4_priceAt_X0_leastOn rfl rfl rfl (by decide +kernel) ⟨Nat.le_of_ble_eq_true rfl, Nat.le_of_ble_eq_true rfl⟩) rfl hl.1 rfl (Nat.le_of_ble_eq_true rfl) dX4_priceAt_67 ⟨Nat.le_of_ble_eq_true rfl, Nat.le_of_ble_eq_true rfl⟩ (fun r w H locs hp hw => ?_)
      obtain ⟨rfl, rfl⟩ := hp
      have e9 : f4_priceAt c0 c1 c2 c3 u4 p1 p2 = f0_leastOn c0 c3 u4 p1 := by unfold f4_priceAt; rw [if_neg c_7, if_neg c_14_0, if_neg c_14_1, if_pos c_14_2]
      exact r_iret hx hb hr hlocks hw ⟨by rw [e9] <;> rfl, rfl⟩ dX4_priceAt_70
    by_cases c_14_3 : p2 = 3
    · refine lv_tableIn (off := 57) (tgt := 71) hx hb dX4_priceAt_14 (by rw [c_14_3]; decide) (by rw [c_14_3]; decide) (by rw [c_14_3]; rfl) (by decide) ?_
      refine lv_aload_n hx hb dX4_priceAt_71 rfl (lv_at hl 0 rfl) ?_
      refine r_get (C := RX4) (T := TX4) (v := .ref (a 1)) hx hb hts i4 hown hw 0 rfl rfl 0 (by decide) lk10 rfl dX4_priceAt_72 ?_
      refine lv_iload_n hx hb dX4_priceAt_75 rfl (lv_at hl 1 rfl) ?_
      refine r_callVi 1 rfl rfl (rest := []) ⟨hx, hb, hml, hown, hts⟩ hw [.int (p1)] (k0_fromOn l D ty a b n cI cO ht0 ht1 c0 c1 c2 c3 u4 c5 c6 c7 u8 u9 u10 c11 u12 u13 I p1 (by first | assumption | omega) (by first | assumption | omega) (by first | assumption | omega)) (cwV 1 hts gX4_priceAt_X0_fromOn rfl rfl rfl (by decide +kernel) ⟨Nat.le_of_ble_eq_true rfl, Nat.le_of_ble_eq_true rfl⟩) rfl hl.1 rfl (Nat.le_of_ble_eq_true rfl) dX4_priceAt_76 ⟨Nat.le_of_ble_eq_true rfl, Nat.le_of_ble_eq_true rfl⟩ (fun r w H locs hp hw => ?_)
      obtain ⟨rfl, rfl⟩ := hp
      have e9 : f4_priceAt c0 c1 c2 c3 u4 p1 p2 = f0_fromOn c0 u4 p1 := by unfold f4_priceAt; rw [if_neg c_7, if_neg c_14_0, if_neg c_14_1, if_neg c_14_2, if_pos c_14_3]
      exact r_iret hx hb hr hlocks hw ⟨by rw [e9] <;> rfl, rfl⟩ dX4_priceAt_79
    refine lv_tableOut (tgt := 80) hx hb dX4_priceAt_14 (by have := lv_neT c_14_0 (show (0 : Int32).toInt = 0 from rfl); have := lv_neT c_14_1 (show (1 : Int32).toInt = 1 from rfl); have := lv_neT c_14_2 (show (2 : Int32).toInt = 2 from rfl); have := lv_neT c_14_3 (show (3 : Int32).toInt = 3 from rfl); omega) (by decide) ?_
    refine lv_bipush (v := (-102)) hx hb dX4_priceAt_80 (by decide) ?_
    have e9 : f4_priceAt c0 c1 c2 c3 u4 p1 p2 = (-102) := by unfold f4_priceAt; rw [if_neg c_7, if_neg c_14_0, if_neg c_14_1, if_neg c_14_2, if_neg c_14_3]
    exact r_iret hx hb hr hlocks hw ⟨by rw [e9] <;> rfl, rfl⟩ dX4_priceAt_82
  · refine lv_bipush (v := (-102)) hx hb dX4_priceAt_10 (by decide) ?_
    have e9 : f4_priceAt c0 c1 c2 c3 u4 p1 p2 = (-102) := by unfold f4_priceAt; rw [if_pos c_7]
    exact r_iret hx hb hr hlocks hw ⟨by rw [e9] <;> rfl, rfl⟩ dX4_priceAt_12
def f4_cap (c11 : Nat → Int32) (p1 : Int32) (p2 : Int32) : Int32 × (Nat → Int32) :=
  if (f4_isAccount p1) = 0 then ((-101), c11)
  else if (f4_within p2 0 5000) = 0 then ((-102), c11)
  else (c11 (tn (p1)), upd c11 (tn (p1)) p2)
set_option maxHeartbeats 4000000 in
set_option maxRecDepth 100000 in
theorem k4_cap (l : Launch) (D : va_G) (ty : List (ClassId × FieldType)) (a : Nat → Nat) (b : Nat → Nat → Nat) (n : Nat) (cI cO : ClassId) (ht0 : ty[0]? = some (cI, .int)) (ht1 : ty[1]? = some (cO, .object "RentSizes$Item")) (c0 : Nat → Int32) (c1 : Nat → Int32) (c2 : Nat → Int32) (c3 : Nat → Int32) (u4 : Int32) (c5 : Nat → Int32) (c6 : Nat → Int32) (c7 : Nat → Int32) (u8 : Int32) (u9 : Int32) (u10 : Int32) (c11 : Nat → Int32) (u12 : Int32) (u13 : Int32) (I : Nat → Nat → Nat → Int32) (p1 : Int32) (p2 : Int32) : MetG l yX4_cap wsX4_cap { frames := 2, cells := 0, slots := 0, locals := 42 } D ty [.ref (a 0), .int (p1), .int (p2)] (CW a b n cI cO c0 c1 c2 c3 u4 c5 c6 c7 u8 u9 u10 c11 u12 u13 I) (va_Qi (fun r w => r = (f4_cap c11 p1 p2).1 ∧ w = CW a b n cI cO c0 c1 c2 c3 u4 c5 c6 c7 u8 u9 u10 ((f4_cap c11 p1 p2).2) u12 u13 I)) 0 0 := by
  refine Met_start cX4_cap 4 (some .int) (by decide) rfl (Nat.le_of_ble_eq_true rfl) ?_
  intro p e s m below meth c A ls hx hb hr hlocks hml hnm hts hown hw hl
  have hl : lv_has ls 4 [(0, .ref (a 0)), (1, .int (p1)), (2, .int (p2))] := hl
  have i4 : ∀ w ∈ wsX40, w ∈ wsX4_cap := fun _ h => List.mem_cons_of_mem _ (List.mem_append_right _ h)
  have lk23 := hts (.fieldLink RX4 23 "RentSizes" "caps" "[I") (by decide +kernel)
  refine lv_iload_n hx hb dX4_cap_0 rfl (lv_at hl 1 rfl) ?_
  refine r_callSi (rest := []) ⟨hx, hb, hml, hown, hts⟩ hw [.int (p1)] (k4_isAccount l D ty a b n cI cO ht0 ht1 c0 c1 c2 c3 u4 c5 c6 c7 u8 u9 u10 c11 u12 u13 I p1) (va_cwS 1 hts gX4_cap_X4_isAccount rfl rfl rfl (by decide +kernel) ⟨Nat.le_of_ble_eq_true rfl, Nat.le_of_ble_eq_true rfl⟩) rfl hl.1 rfl (Nat.le_of_ble_eq_true rfl) dX4_cap_1 ⟨Nat.le_of_ble_eq_true rfl, Nat.le_of_ble_eq_true rfl⟩ (fun r w H locs hp hw => ?_)
  obtain ⟨rfl, rfl⟩ := hp
  refine lv_if_ne (tgt := 10) hx hb dX4_cap_4 (by decide) (fun c_4 => ?_) (fun c_4 => ?_)
  · refine lv_iload_n hx hb dX4_cap_10 rfl (lv_at hl 2 rfl) ?_
    refine lv_iconst (v := 0) hx hb dX4_cap_11 (by decide) ?_
    refine lv_sipush (v := 5000) hx hb dX4_cap_12 (by decide) ?_
    refine r_callSi (rest := []) ⟨hx, hb, hml, hown, hts⟩ hw [.int (p2), .int (0), .int (5000)] (k4_within l D ty a b n cI cO ht0 ht1 c0 c1 c2 c3 u4 c5 c6 c7 u8 u9 u10 c11 u12 u13 I p2 0 5000) (va_cwS 3 hts gX4_cap_X4_within rfl rfl rfl (by decide +kernel) ⟨Nat.le_of_ble_eq_true rfl, Nat.le_of_ble_eq_true rfl⟩) rfl hl.1 rfl (Nat.le_of_ble_eq_true rfl) dX4_cap_15 ⟨Nat.le_of_ble_eq_true rfl, Nat.le_of_ble_eq_true rfl⟩ (fun r w H locs hp hw => ?_)
    obtain ⟨rfl, rfl⟩ := hp
    refine lv_if_ne (tgt := 24) hx hb dX4_cap_18 (by decide) (fun c_18 => ?_) (fun c_18 => ?_)
    · have hv := ia_in c_4
      refine lv_aload_n hx hb dX4_cap_24 rfl (lv_at hl 0 rfl) ?_
      refine r_get (C := RX4) (T := TX4) (v := .ref (a 10)) hx hb hts i4 hown hw 0 rfl rfl 2 (by decide) lk23 rfl dX4_cap_25 ?_
      refine lv_iload_n hx hb dX4_cap_28 rfl (lv_at hl 1 rfl) ?_
      refine r_iald (v := c11 (tn (p1))) hx hb hw 10 rfl ht0 (by first | assumption | exact vp_in_nI (by omega) (by omega)) dX4_cap_29 rfl ?_
      refine lv_istore_n (lv' := [(3, .int (c11 (tn (p1)))), (0, .ref (a 0)), (1, .int (p1)), (2, .int (p2))]) hx hb dX4_cap_30 rfl hl (by decide) rfl (fun ls hl => ?_)
      refine lv_aload_n hx hb dX4_cap_31 rfl (lv_at hl 1 rfl) ?_
      refine r_get (C := RX4) (T := TX4) (v := .ref (a 10)) hx hb hts i4 hown hw 0 rfl rfl 2 (by decide) lk23 rfl dX4_cap_32 ?_
      refine lv_iload_n hx hb dX4_cap_35 rfl (lv_at hl 2 rfl) ?_
      refine lv_iload_n hx hb dX4_cap_36 rfl (lv_at hl 3 rfl) ?_
      refine r_iast (ws' := CW a b n cI cO c0 c1 c2 c3 u4 c5 c6 c7 u8 u9 u10 (upd c11 (tn (p1)) p2) u12 u13 I) hx hb hw 10 rfl ht0 (by first | assumption | exact vp_in_nI (by omega) (by omega)) (CW_u11 _) dX4_cap_37 (fun H locs hw => ?_)
      refine lv_iload_n hx hb dX4_cap_38 rfl (lv_at hl 0 rfl) ?_
      have e9 : f4_cap c11 p1 p2 = (c11 (tn (p1)), upd c11 (tn (p1)) p2) := by unfold f4_cap; rw [if_neg c_4, if_neg c_18]
      exact r_iret hx hb hr hlocks hw ⟨by rw [e9] <;> rfl, by rw [e9] <;> rfl⟩ dX4_cap_39
    · refine lv_bipush (v := (-102)) hx hb dX4_cap_21 (by decide) ?_
      have e9 : f4_cap c11 p1 p2 = ((-102), c11) := by unfold f4_cap; rw [if_neg c_4, if_pos c_18]
      exact r_iret hx hb hr hlocks hw ⟨by rw [e9] <;> rfl, by rw [e9] <;> rfl⟩ dX4_cap_23
  · refine lv_bipush (v := (-101)) hx hb dX4_cap_7 (by decide) ?_
    have e9 : f4_cap c11 p1 p2 = ((-101), c11) := by unfold f4_cap; rw [if_pos c_4]
    exact r_iret hx hb hr hlocks hw ⟨by rw [e9] <;> rfl, by rw [e9] <;> rfl⟩ dX4_cap_9
def f4_weight (c7 : Nat → Int32) (p1 : Int32) (p2 : Int32) : Int32 × (Nat → Int32) :=
  if (f4_isNode p1) = 0 then ((-101), c7)
  else if (f4_within p2 0 1000) = 0 then ((-102), c7)
  else (c7 (tn (p1)), upd c7 (tn (p1)) p2)
set_option maxHeartbeats 4000000 in
set_option maxRecDepth 100000 in
theorem k4_weight (l : Launch) (D : va_G) (ty : List (ClassId × FieldType)) (a : Nat → Nat) (b : Nat → Nat → Nat) (n : Nat) (cI cO : ClassId) (ht0 : ty[0]? = some (cI, .int)) (ht1 : ty[1]? = some (cO, .object "RentSizes$Item")) (c0 : Nat → Int32) (c1 : Nat → Int32) (c2 : Nat → Int32) (c3 : Nat → Int32) (u4 : Int32) (c5 : Nat → Int32) (c6 : Nat → Int32) (c7 : Nat → Int32) (u8 : Int32) (u9 : Int32) (u10 : Int32) (c11 : Nat → Int32) (u12 : Int32) (u13 : Int32) (I : Nat → Nat → Nat → Int32) (p1 : Int32) (p2 : Int32) : MetG l yX4_weight wsX4_weight { frames := 2, cells := 0, slots := 0, locals := 42 } D ty [.ref (a 0), .int (p1), .int (p2)] (CW a b n cI cO c0 c1 c2 c3 u4 c5 c6 c7 u8 u9 u10 c11 u12 u13 I) (va_Qi (fun r w => r = (f4_weight c7 p1 p2).1 ∧ w = CW a b n cI cO c0 c1 c2 c3 u4 c5 c6 ((f4_weight c7 p1 p2).2) u8 u9 u10 c11 u12 u13 I)) 0 0 := by
  refine Met_start cX4_weight 4 (some .int) (by decide) rfl (Nat.le_of_ble_eq_true rfl) ?_
  intro p e s m below meth c A ls hx hb hr hlocks hml hnm hts hown hw hl
  have hl : lv_has ls 4 [(0, .ref (a 0)), (1, .int (p1)), (2, .int (p2))] := hl
  have i4 : ∀ w ∈ wsX40, w ∈ wsX4_weight := fun _ h => List.mem_cons_of_mem _ (List.mem_append_left _ (List.mem_append_right _ h))
  have lk19 := hts (.fieldLink RX4 19 "RentSizes" "ledger" "LRentSizes$Ledger;") (by decide +kernel)
  have i3 : ∀ w ∈ wsX30, w ∈ wsX4_weight := fun _ h => List.mem_cons_of_mem _ (List.mem_append_right _ h)
  refine lv_iload_n hx hb dX4_weight_0 rfl (lv_at hl 1 rfl) ?_
  refine r_callSi (rest := []) ⟨hx, hb, hml, hown, hts⟩ hw [.int (p1)] (k4_isNode l D ty a b n cI cO ht0 ht1 c0 c1 c2 c3 u4 c5 c6 c7 u8 u9 u10 c11 u12 u13 I p1) (va_cwS 1 hts gX4_weight_X4_isNode rfl rfl rfl (by decide +kernel) ⟨Nat.le_of_ble_eq_true rfl, Nat.le_of_ble_eq_true rfl⟩) rfl hl.1 rfl (Nat.le_of_ble_eq_true rfl) dX4_weight_1 ⟨Nat.le_of_ble_eq_true rfl, Nat.le_of_ble_eq_true rfl⟩ (fun r w H locs hp hw => ?_)
  obtain ⟨rfl, rfl⟩ := hp
  refine lv_if_ne (tgt := 10) hx hb dX4_weight_4 (by decide) (fun c_4 => ?_) (fun c_4 => ?_)
  · refine lv_iload_n hx hb dX4_weight_10 rfl (lv_at hl 2 rfl) ?_
    refine lv_iconst (v := 0) hx hb dX4_weight_11 (by decide) ?_
    refine lv_sipush (v := 1000) hx hb dX4_weight_12 (by decide) ?_
    refine r_callSi (rest := []) ⟨hx, hb, hml, hown, hts⟩ hw [.int (p2), .int (0), .int (1000)] (k4_within l D ty a b n cI cO ht0 ht1 c0 c1 c2 c3 u4 c5 c6 c7 u8 u9 u10 c11 u12 u13 I p2 0 1000) (va_cwS 3 hts gX4_weight_X4_within rfl rfl rfl (by decide +kernel) ⟨Nat.le_of_ble_eq_true rfl, Nat.le_of_ble_eq_true rfl⟩) rfl hl.1 rfl (Nat.le_of_ble_eq_true rfl) dX4_weight_15 ⟨Nat.le_of_ble_eq_true rfl, Nat.le_of_ble_eq_true rfl⟩ (fun r w H locs hp hw => ?_)
    obtain ⟨rfl, rfl⟩ := hp
    refine lv_if_ne (tgt := 24) hx hb dX4_weight_18 (by decide) (fun c_18 => ?_) (fun c_18 => ?_)
    · have hv := in_in c_4
      refine lv_aload_n hx hb dX4_weight_24 rfl (lv_at hl 0 rfl) ?_
      refine r_get (C := RX4) (T := TX4) (v := .ref (a 6)) hx hb hts i4 hown hw 0 rfl rfl 1 (by decide) lk19 rfl dX4_weight_25 ?_
      refine r_getN (C := RX3) (T := TX3) (v := .ref (a 9)) hx hb hts i3 hown hw 6 rfl rfl 2 (by decide) (List.mem_of_getElem? (i := 7) rfl) rfl dX4_weight_28 ?_
      refine lv_iload_n hx hb dX4_weight_31 rfl (lv_at hl 1 rfl) ?_
      refine r_iald (v := c7 (tn (p1))) hx hb hw 9 rfl ht0 (by first | assumption | exact vp_in_nI (by omega) (by omega)) dX4_weight_32 rfl ?_
      refine lv_istore_n (lv' := [(3, .int (c7 (tn (p1)))), (0, .ref (a 0)), (1, .int (p1)), (2, .int (p2))]) hx hb dX4_weight_33 rfl hl (by decide) rfl (fun ls hl => ?_)
      refine lv_aload_n hx hb dX4_weight_34 rfl (lv_at hl 1 rfl) ?_
      refine r_get (C := RX4) (T := TX4) (v := .ref (a 6)) hx hb hts i4 hown hw 0 rfl rfl 1 (by decide) lk19 rfl dX4_weight_35 ?_
      refine r_getN (C := RX3) (T := TX3) (v := .ref (a 9)) hx hb hts i3 hown hw 6 rfl rfl 2 (by decide) (List.mem_of_getElem? (i := 7) rfl) rfl dX4_weight_38 ?_
      refine lv_iload_n hx hb dX4_weight_41 rfl (lv_at hl 2 rfl) ?_
      refine lv_iload_n hx hb dX4_weight_42 rfl (lv_at hl 3 rfl) ?_
      refine r_iast (ws' := CW a b n cI cO c0 c1 c2 c3 u4 c5 c6 (upd c7 (tn (p1)) p2) u8 u9 u10 c11 u12 u13 I) hx hb hw 9 rfl ht0 (by first | assumption | exact vp_in_nI (by omega) (by omega)) (CW_u7 _) dX4_weight_43 (fun H locs hw => ?_)
      refine lv_iload_n hx hb dX4_weight_44 rfl (lv_at hl 0 rfl) ?_
      have e9 : f4_weight c7 p1 p2 = (c7 (tn (p1)), upd c7 (tn (p1)) p2) := by unfold f4_weight; rw [if_neg c_4, if_neg c_18]
      exact r_iret hx hb hr hlocks hw ⟨by rw [e9] <;> rfl, by rw [e9] <;> rfl⟩ dX4_weight_45
    · refine lv_bipush (v := (-102)) hx hb dX4_weight_21 (by decide) ?_
      have e9 : f4_weight c7 p1 p2 = ((-102), c7) := by unfold f4_weight; rw [if_neg c_4, if_pos c_18]
      exact r_iret hx hb hr hlocks hw ⟨by rw [e9] <;> rfl, by rw [e9] <;> rfl⟩ dX4_weight_23
  · refine lv_bipush (v := (-101)) hx hb dX4_weight_7 (by decide) ?_
    have e9 : f4_weight c7 p1 p2 = ((-101), c7) := by unfold f4_weight; rw [if_pos c_4]
    exact r_iret hx hb hr hlocks hw ⟨by rw [e9] <;> rfl, by rw [e9] <;> rfl⟩ dX4_weight_9
def f4_coins (c5 : Nat → Int32) (c6 : Nat → Int32) (p1 : Int32) (p2 : Int32) : Int32 :=
  if p1 = 0 then (if (f4_isAccount p2) = 0 then (-101)
    else c5 (tn (p2)))
  else if p1 = 1 then (if (f4_isNode p2) = 0 then (-101)
    else c6 (tn (p2)))
  else (-102)
set_option maxHeartbeats 4000000 in
set_option maxRecDepth 100000 in
theorem k4_coins (l : Launch) (D : va_G) (ty : List (ClassId × FieldType)) (a : Nat → Nat) (b : Nat → Nat → Nat) (n : Nat) (cI cO : ClassId) (ht0 : ty[0]? = some (cI, .int)) (ht1 : ty[1]? = some (cO, .object "RentSizes$Item")) (c0 : Nat → Int32) (c1 : Nat → Int32) (c2 : Nat → Int32) (c3 : Nat → Int32) (u4 : Int32) (c5 : Nat → Int32) (c6 : Nat → Int32) (c7 : Nat → Int32) (u8 : Int32) (u9 : Int32) (u10 : Int32) (c11 : Nat → Int32) (u12 : Int32) (u13 : Int32) (I : Nat → Nat → Nat → Int32) (p1 : Int32) (p2 : Int32) : MetG l yX4_coins wsX4_coins { frames := 2, cells := 0, slots := 0, locals := 42 } D ty [.ref (a 0), .int (p1), .int (p2)] (CW a b n cI cO c0 c1 c2 c3 u4 c5 c6 c7 u8 u9 u10 c11 u12 u13 I) (va_Qi (fun r w => r = f4_coins c5 c6 p1 p2 ∧ w = CW a b n cI cO c0 c1 c2 c3 u4 c5 c6 c7 u8 u9 u10 c11 u12 u13 I)) 0 0 := by
  refine Met_start cX4_coins 3 (some .int) (by decide) rfl (Nat.le_of_ble_eq_true rfl) ?_
  intro p e s m below meth c A ls hx hb hr hlocks hml hnm hts hown hw hl
  have hl : lv_has ls 3 [(0, .ref (a 0)), (1, .int (p1)), (2, .int (p2))] := hl
  have i4 : ∀ w ∈ wsX40, w ∈ wsX4_coins := fun _ h => List.mem_cons_of_mem _ (List.mem_append_left _ (List.mem_append_right _ h))
  have lk19 := hts (.fieldLink RX4 19 "RentSizes" "ledger" "LRentSizes$Ledger;") (by decide +kernel)
  have i3 : ∀ w ∈ wsX30, w ∈ wsX4_coins := fun _ h => List.mem_cons_of_mem _ (List.mem_append_right _ h)
  refine lv_iload_n hx hb dX4_coins_0 rfl (lv_at hl 1 rfl) ?_
  by_cases c_1_0 : p1 = 0
  · refine lv_lookup (off := 27) (tgt := 28) hx hb dX4_coins_1 (by decide) (by rw [c_1_0]; rfl) (by decide) ?_
    refine lv_iload_n hx hb dX4_coins_28 rfl (lv_at hl 2 rfl) ?_
    refine r_callSi (rest := []) ⟨hx, hb, hml, hown, hts⟩ hw [.int (p2)] (k4_isAccount l D ty a b n cI cO ht0 ht1 c0 c1 c2 c3 u4 c5 c6 c7 u8 u9 u10 c11 u12 u13 I p2) (va_cwS 1 hts gX4_coins_X4_isAccount rfl rfl rfl (by decide +kernel) ⟨Nat.le_of_ble_eq_true rfl, Nat.le_of_ble_eq_true rfl⟩) rfl hl.1 rfl (Nat.le_of_ble_eq_true rfl) dX4_coins_29 ⟨Nat.le_of_ble_eq_true rfl, Nat.le_of_ble_eq_true rfl⟩ (fun r w H locs hp hw => ?_)
    obtain ⟨rfl, rfl⟩ := hp
    refine lv_if_eq (tgt := 47) hx hb dX4_coins_32 (by decide) (fun c_32 => ?_) (fun c_32 => ?_)
    · refine lv_bipush (v := (-101)) hx hb dX4_coins_47 (by decide) ?_
      have e9 : f4_coins c5 c6 p1 p2 = (-101) := by unfold f4_coins; rw [if_pos c_1_0, if_pos c_32]
      exact r_iret hx hb hr hlocks hw ⟨by rw [e9] <;> rfl, rfl⟩ dX4_coins_49
    · have hv := ia_in c_32
      refine lv_aload_n hx hb dX4_coins_35 rfl (lv_at hl 0 rfl) ?_
      refine r_get (C := RX4) (T := TX4) (v := .ref (a 6)) hx hb hts i4 hown hw 0 rfl rfl 1 (by decide) lk19 rfl dX4_coins_36 ?_
      refine r_getN (C := RX3) (T := TX3) (v := .ref (a 7)) hx hb hts i3 hown hw 6 rfl rfl 0 (by decide) (List.mem_of_getElem? (i := 8) rfl) rfl dX4_coins_39 ?_
      refine lv_iload_n hx hb dX4_coins_42 rfl (lv_at hl 2 rfl) ?_
      refine r_iald (v := c5 (tn (p2))) hx hb hw 7 rfl ht0 (by first | assumption | exact vp_in_nI (by omega) (by omega)) dX4_coins_43 rfl ?_
      refine lv_goto (tgt := 49) hx hb dX4_coins_44 (by decide) ?_
      have e9 : f4_coins c5 c6 p1 p2 = c5 (tn (p2)) := by unfold f4_coins; rw [if_pos c_1_0, if_neg c_32]
      exact r_iret hx hb hr hlocks hw ⟨by rw [e9] <;> rfl, rfl⟩ dX4_coins_49
  by_cases c_1_1 : p1 = 1
  · refine lv_lookup (off := 49) (tgt := 50) hx hb dX4_coins_1 (by decide) (by rw [c_1_1]; rfl) (by decide) ?_
    refine lv_iload_n hx hb dX4_coins_50 rfl (lv_at hl 2 rfl) ?_
    refine r_callSi (rest := []) ⟨hx, hb, hml, hown, hts⟩ hw [.int (p2)] (k4_isNode l D ty a b n cI cO ht0 ht1 c0 c1 c2 c3 u4 c5 c6 c7 u8 u9 u10 c11 u12 u13 I p2) (va_cwS 1 hts gX4_coins_X4_isNode rfl rfl rfl (by decide +kernel) ⟨Nat.le_of_ble_eq_true rfl, Nat.le_of_ble_eq_true rfl⟩) rfl hl.1 rfl (Nat.le_of_ble_eq_true rfl) dX4_coins_51 ⟨Nat.le_of_ble_eq_true rfl, Nat.le_of_ble_eq_true rfl⟩ (fun r w H locs hp hw => ?_)
    obtain ⟨rfl, rfl⟩ := hp
    refine lv_if_eq (tgt := 69) hx hb dX4_coins_54 (by decide) (fun c_54 => ?_) (fun c_54 => ?_)
    · refine lv_bipush (v := (-101)) hx hb dX4_coins_69 (by decide) ?_
      have e9 : f4_coins c5 c6 p1 p2 = (-101) := by unfold f4_coins; rw [if_neg c_1_0, if_pos c_1_1, if_pos c_54]
      exact r_iret hx hb hr hlocks hw ⟨by rw [e9] <;> rfl, rfl⟩ dX4_coins_71
    · have hv := in_in c_54
      refine lv_aload_n hx hb dX4_coins_57 rfl (lv_at hl 0 rfl) ?_
      refine r_get (C := RX4) (T := TX4) (v := .ref (a 6)) hx hb hts i4 hown hw 0 rfl rfl 1 (by decide) lk19 rfl dX4_coins_58 ?_
      refine r_getN (C := RX3) (T := TX3) (v := .ref (a 8)) hx hb hts i3 hown hw 6 rfl rfl 1 (by decide) (List.mem_of_getElem? (i := 9) rfl) rfl dX4_coins_61 ?_
      refine lv_iload_n hx hb dX4_coins_64 rfl (lv_at hl 2 rfl) ?_
      refine r_iald (v := c6 (tn (p2))) hx hb hw 8 rfl ht0 (by first | assumption | exact vp_in_nI (by omega) (by omega)) dX4_coins_65 rfl ?_
      refine lv_goto (tgt := 71) hx hb dX4_coins_66 (by decide) ?_
      have e9 : f4_coins c5 c6 p1 p2 = c6 (tn (p2)) := by unfold f4_coins; rw [if_neg c_1_0, if_pos c_1_1, if_neg c_54]
      exact r_iret hx hb hr hlocks hw ⟨by rw [e9] <;> rfl, rfl⟩ dX4_coins_71
  refine lv_lookup (off := 71) (tgt := 72) hx hb dX4_coins_1 (by decide) (by show Op.lookupswitch.offset [(0, 27), (1, 49)] 71 _ = _; rw [lv_osw c_1_0 (show (0 : Int32).toInt = 0 from rfl), lv_osw c_1_1 (show (1 : Int32).toInt = 1 from rfl)]; rfl) (by decide) ?_
  refine lv_bipush (v := (-102)) hx hb dX4_coins_72 (by decide) ?_
  have e9 : f4_coins c5 c6 p1 p2 = (-102) := by unfold f4_coins; rw [if_neg c_1_0, if_neg c_1_1]
  exact r_iret hx hb hr hlocks hw ⟨by rw [e9] <;> rfl, rfl⟩ dX4_coins_74
def f4_grow (c0 : Nat → Int32) (c1 : Nat → Int32) (c2 : Nat → Int32) (c3 : Nat → Int32) (u4 : Int32) (c5 : Nat → Int32) (u8 : Int32) (u9 : Int32) (c11 : Nat → Int32) (u12 : Int32) (u13 : Int32) (I : Nat → Nat → Nat → Int32) (p1 : Int32) (p2 : Int32) (p3 : Int32) : Int32 × (Nat → Int32) × Int32 × Int32 × (Nat → Nat → Nat → Int32) :=
  if f4_within p1 0 (u12 - 1) = 0 then ((-101), c5, u8, u9, I)
  else if (f4_isAccount p2) = 0 then ((-101), c5, u8, u9, I)
  else if (f4_within p3 1 999) = 0 then ((-102), c5, u8, u9, I)
  else if ((f1_sizeNow (I (tn p1) 2 0) (I (tn p1) 4 0)) + p3) ≤ 1000 then (if (I (tn p1) 4 0) = 0 then (if (f4_capsAllow c11 u12 I (I (tn p1) 1 0) p3) = 0 then ((-105), c5, u8, u9, I)
      else if (f3_canPay c5 p2 ((p3.toInt64 * ((f0_priceOn c0 c1 u4 u13).toInt64)) + (f4_rentOf c0 c2 u4 u13 ((f4_chargedSize c0 c3 u4 u13 ((I (tn p1) 2 0) + p3)) - (f4_chargedSize c0 c3 u4 u13 (I (tn p1) 2 0))) ((I (tn p1) 3 0) - u13)))) = 0 then ((-106), c5, u8, u9, I)
      else if (f2_hasRoomFor (I (tn p1) 6) (I (tn p1) 7) (I (tn p1) 8 0) (f0_priceOn c0 c1 u4 u13) p2) = 0 then ((-107), c5, u8, u9, I)
      else ((f3_takeFrom c5 u8 u9 p2 (p3.toInt64 * ((f0_priceOn c0 c1 u4 u13).toInt64)) (f4_rentOf c0 c2 u4 u13 ((f4_chargedSize c0 c3 u4 u13 ((I (tn p1) 2 0) + p3)) - (f4_chargedSize c0 c3 u4 u13 (I (tn p1) 2 0))) ((I (tn p1) 3 0) - u13))).1, (f3_takeFrom c5 u8 u9 p2 (p3.toInt64 * ((f0_priceOn c0 c1 u4 u13).toInt64)) (f4_rentOf c0 c2 u4 u13 ((f4_chargedSize c0 c3 u4 u13 ((I (tn p1) 2 0) + p3)) - (f4_chargedSize c0 c3 u4 u13 (I (tn p1) 2 0))) ((I (tn p1) 3 0) - u13))).2.1, (f3_takeFrom c5 u8 u9 p2 (p3.toInt64 * ((f0_priceOn c0 c1 u4 u13).toInt64)) (f4_rentOf c0 c2 u4 u13 ((f4_chargedSize c0 c3 u4 u13 ((I (tn p1) 2 0) + p3)) - (f4_chargedSize c0 c3 u4 u13 (I (tn p1) 2 0))) ((I (tn p1) 3 0) - u13))).2.2.1, (f3_takeFrom c5 u8 u9 p2 (p3.toInt64 * ((f0_priceOn c0 c1 u4 u13).toInt64)) (f4_rentOf c0 c2 u4 u13 ((f4_chargedSize c0 c3 u4 u13 ((I (tn p1) 2 0) + p3)) - (f4_chargedSize c0 c3 u4 u13 (I (tn p1) 2 0))) ((I (tn p1) 3 0) - u13))).2.2.2, va_up I (tn p1) (JX (I (tn p1) 0) (I (tn p1) 1 0) ((I (tn p1) 2 0) + p3) (I (tn p1) 3 0) (I (tn p1) 4 0) ((f2_put (I (tn p1) 5) (I (tn p1) 6) (I (tn p1) 7) (I (tn p1) 8 0) p3 (f0_priceOn c0 c1 u4 u13) p2).1) ((f2_put (I (tn p1) 5) (I (tn p1) 6) (I (tn p1) 7) (I (tn p1) 8 0) p3 (f0_priceOn c0 c1 u4 u13) p2).2.1) ((f2_put (I (tn p1) 5) (I (tn p1) 6) (I (tn p1) 7) (I (tn p1) 8 0) p3 (f0_priceOn c0 c1 u4 u13) p2).2.2.1) ((f2_put (I (tn p1) 5) (I (tn p1) 6) (I (tn p1) 7) (I (tn p1) 8 0) p3 (f0_priceOn c0 c1 u4 u13) p2).2.2.2))))
    else ((-103), c5, u8, u9, I))
  else ((-102), c5, u8, u9, I)
set_option maxHeartbeats 4000000 in
set_option maxRecDepth 100000 in
theorem k4_grow (l : Launch) (D : va_G) (ty : List (ClassId × FieldType)) (a : Nat → Nat) (b : Nat → Nat → Nat) (n : Nat) (cI cO : ClassId) (ht0 : ty[0]? = some (cI, .int)) (ht1 : ty[1]? = some (cO, .object "RentSizes$Item")) (c0 : Nat → Int32) (c1 : Nat → Int32) (c2 : Nat → Int32) (c3 : Nat → Int32) (u4 : Int32) (c5 : Nat → Int32) (c6 : Nat → Int32) (c7 : Nat → Int32) (u8 : Int32) (u9 : Int32) (u10 : Int32) (c11 : Nat → Int32) (u12 : Int32) (u13 : Int32) (I : Nat → Nat → Nat → Int32) (p1 : Int32) (p2 : Int32) (p3 : Int32) (hob : u12 = nI (tn u12)) (hob2 : tn u12 ≤ n) (hn60 : n ≤ 60) (he0 : u4 = nI (tn u4)) (he1 : tn u4 ≤ 10) (he2 : 1 ≤ tn u4) (how : ∀ i, i < tn u12 → vp_in (I i 1 0) 6) (hlk : ∀ i, i < tn u12 → I i 8 0 = nI (tn (I i 8 0)) ∧ tn (I i 8 0) ≤ 16) : MetG l yX4_grow wsX4_grow { frames := 3, cells := 0, slots := 0, locals := 65 } D ty [.ref (a 0), .int (p1), .int (p2), .int (p3)] (CW a b n cI cO c0 c1 c2 c3 u4 c5 c6 c7 u8 u9 u10 c11 u12 u13 I) (va_Qi (fun r w => r = (f4_grow c0 c1 c2 c3 u4 c5 u8 u9 c11 u12 u13 I p1 p2 p3).1 ∧ w = CW a b n cI cO c0 c1 c2 c3 u4 ((f4_grow c0 c1 c2 c3 u4 c5 u8 u9 c11 u12 u13 I p1 p2 p3).2.1) c6 c7 ((f4_grow c0 c1 c2 c3 u4 c5 u8 u9 c11 u12 u13 I p1 p2 p3).2.2.1) ((f4_grow c0 c1 c2 c3 u4 c5 u8 u9 c11 u12 u13 I p1 p2 p3).2.2.2.1) u10 c11 u12 u13 ((f4_grow c0 c1 c2 c3 u4 c5 u8 u9 c11 u12 u13 I p1 p2 p3).2.2.2.2))) 0 0 := by
  refine Met_start cX4_grow 11 (some .int) (by decide) rfl (Nat.le_of_ble_eq_true rfl) ?_
  intro p e s m below meth c A ls hx hb hr hlocks hml hnm hts hown hw hl
  have hl : lv_has ls 11 [(0, .ref (a 0)), (1, .int (p1)), (2, .int (p2)), (3, .int (p3))] := hl
  have i1 : ∀ w ∈ wsX10, w ∈ wsX4_grow := fun _ h => List.mem_cons_of_mem _ (List.mem_append_left _ (List.mem_append_left _ (List.mem_append_left _ (List.mem_append_left _ (List.mem_append_right _ h)))))
  have i4 : ∀ w ∈ wsX40, w ∈ wsX4_grow := fun _ h => List.mem_cons_of_mem _ (List.mem_append_left _ (List.mem_append_left _ (List.mem_append_left _ (List.mem_append_right _ h))))
  have lk10 := hts (.fieldLink RX4 10 "RentSizes" "editions" "LRentSizes$Editions;") (by decide +kernel)
  have lk41 := hts (.fieldLink RX4 41 "RentSizes" "height" "I") (by decide +kernel)
  have lk19 := hts (.fieldLink RX4 19 "RentSizes" "ledger" "LRentSizes$Ledger;") (by decide +kernel)
  refine lv_aload_n hx hb dX4_grow_0 rfl (lv_at hl 0 rfl) ?_
  refine lv_iload_n hx hb dX4_grow_1 rfl (lv_at hl 1 rfl) ?_
  refine r_callVq 0 rfl rfl (rest := []) ⟨hx, hb, hml, hown, hts⟩ hw [.int (p1)] (k4_find l D ty a b n cI cO ht0 ht1 c0 c1 c2 c3 u4 c5 c6 c7 u8 u9 u10 c11 u12 u13 I p1 (by assumption) (by assumption) (by assumption)) (cwV 1 hts gX4_grow_X4_find rfl rfl rfl (by decide +kernel) ⟨Nat.le_of_ble_eq_true rfl, Nat.le_of_ble_eq_true rfl⟩) rfl hl.1 rfl (Nat.le_of_ble_eq_true rfl) dX4_grow_2 ⟨Nat.le_of_ble_eq_true rfl, Nat.le_of_ble_eq_true rfl⟩ (fun r w H locs hp hw => ?_)
  obtain ⟨hr1, rfl⟩ := hp
  by_cases c_2 : f4_within p1 0 (u12 - 1) = 0
  · rw [if_pos c_2] at hr1
    subst hr1
    refine lv_astoreN (lv' := [(4, .null), (0, .ref (a 0)), (1, .int (p1)), (2, .int (p2)), (3, .int (p3))]) hx hb dX4_grow_5 hl (by decide) rfl (fun ls hl => ?_)
    refine lv_aloadN hx hb dX4_grow_7 (lv_at hl 0 rfl) ?_
    refine lv_ifnullN (tgt := 19) hx hb dX4_grow_9 (by decide) ?_
    refine lv_bipush (v := (-101)) hx hb dX4_grow_19 (by decide) ?_
    have e9 : f4_grow c0 c1 c2 c3 u4 c5 u8 u9 c11 u12 u13 I p1 p2 p3 = ((-101), c5, u8, u9, I) := by unfold f4_grow; rw [if_pos c_2]
    exact r_iret hx hb hr hlocks hw ⟨by rw [e9] <;> rfl, by rw [e9] <;> rfl⟩ dX4_grow_21
  · rw [if_neg c_2] at hr1
    obtain ⟨i, hii, rfl⟩ := fi_in c_2 (by assumption) (by assumption) (by assumption)
    rw [tn_nI (by omega)] at hr1
    subst hr1
    have hi : i < n := by omega
    have hc0 := (hlk i hii).1
    have hc1 := (hlk i hii).2
    refine lv_astore (lv' := [(4, .ref (b i 0)), (0, .ref (a 0)), (1, .int (nI (i))), (2, .int (p2)), (3, .int (p3))]) hx hb dX4_grow_5 hl (by decide) rfl (fun ls hl => ?_)
    refine lv_aload hx hb dX4_grow_7 (lv_at hl 0 rfl) ?_
    refine lv_ifnull hx hb dX4_grow_9 ?_
    refine lv_iload_n hx hb dX4_grow_12 rfl (lv_at hl 3 rfl) ?_
    refine r_callSi (rest := []) ⟨hx, hb, hml, hown, hts⟩ hw [.int (p2)] (k4_isAccount l D ty a b n cI cO ht0 ht1 c0 c1 c2 c3 u4 c5 c6 c7 u8 u9 u10 c11 u12 u13 I p2) (va_cwS 1 hts gX4_grow_X4_isAccount rfl rfl rfl (by decide +kernel) ⟨Nat.le_of_ble_eq_true rfl, Nat.le_of_ble_eq_true rfl⟩) rfl hl.1 rfl (Nat.le_of_ble_eq_true rfl) dX4_grow_13 ⟨Nat.le_of_ble_eq_true rfl, Nat.le_of_ble_eq_true rfl⟩ (fun r w H locs hp hw => ?_)
    obtain ⟨rfl, rfl⟩ := hp
    refine lv_if_ne (tgt := 22) hx hb dX4_grow_16 (by decide) (fun c_16 => ?_) (fun c_16 => ?_)
    · have hv2 := ia_in c_16
      refine lv_iload_n hx hb dX4_grow_22 rfl (lv_at hl 4 rfl) ?_
      refine lv_iconst (v := 1) hx hb dX4_grow_23 (by decide) ?_
      refine lv_sipush (v := 999) hx hb dX4_grow_24 (by decide) ?_
      refine r_callSi (rest := []) ⟨hx, hb, hml, hown, hts⟩ hw [.int (p3), .int (1), .int (999)] (k4_within l D ty a b n cI cO ht0 ht1 c0 c1 c2 c3 u4 c5 c6 c7 u8 u9 u10 c11 u12 u13 I p3 1 999) (va_cwS 3 hts gX4_grow_X4_within rfl rfl rfl (by decide +kernel) ⟨Nat.le_of_ble_eq_true rfl, Nat.le_of_ble_eq_true rfl⟩) rfl hl.1 rfl (Nat.le_of_ble_eq_true rfl) dX4_grow_27 ⟨Nat.le_of_ble_eq_true rfl, Nat.le_of_ble_eq_true rfl⟩ (fun r w H locs hp hw => ?_)
      obtain ⟨rfl, rfl⟩ := hp
      refine lv_if_eq (tgt := 46) hx hb dX4_grow_30 (by decide) (fun c_30 => ?_) (fun c_30 => ?_)
      · refine lv_bipush (v := (-102)) hx hb dX4_grow_46 (by decide) ?_
        have e9 : f4_grow c0 c1 c2 c3 u4 c5 u8 u9 c11 u12 u13 I (nI i) p2 p3 = ((-102), c5, u8, u9, I) := by unfold f4_grow; simp only [nI_clamp (show i < 2 ^ 31 by omega)]; rw [if_neg c_2, if_neg c_16, if_pos c_30]
        exact r_iret hx hb hr hlocks hw ⟨by rw [e9] <;> rfl, by rw [e9] <;> rfl⟩ dX4_grow_48
      · refine lv_aload hx hb dX4_grow_33 (lv_at hl 0 rfl) ?_
        refine r_callVi (12 + (6 * i + 0)) (CW_getF _ _ _ (by assumption) (by decide) rfl) rfl (rest := []) ⟨hx, hb, hml, hown, hts⟩ (hw.cast (CW_foc _ i)) [] (k1_sizeNow l D ty a b n cI cO ht0 ht1 c0 c1 c2 c3 u4 c5 c6 c7 u8 u9 u10 c11 u12 u13 I i (I i 0) (I i 1 0) (I i 2 0) (I i 3 0) (I i 4 0) (I i 5) (I i 6) (I i 7) (I i 8 0) (by first | assumption | omega)) (cwV 0 hts gX4_grow_X1_sizeNow rfl rfl rfl (by decide +kernel) ⟨Nat.le_of_ble_eq_true rfl, Nat.le_of_ble_eq_true rfl⟩) rfl hl.1 rfl (Nat.le_of_ble_eq_true rfl) dX4_grow_35 ⟨Nat.le_of_ble_eq_true rfl, Nat.le_of_ble_eq_true rfl⟩ (fun r w H locs hp hw => ?_)
        obtain ⟨rfl, rfl⟩ := hp
        replace hw := hw.cast (CW_foc _ i).symm
        refine lv_iload_n hx hb dX4_grow_38 rfl (lv_at hl 4 rfl) ?_
        refine lv_iadd hx hb dX4_grow_39 ?_
        refine lv_sipush (v := 1000) hx hb dX4_grow_40 (by decide) ?_
        refine lv_icmp_le (tgt := 49) hx hb dX4_grow_43 (by decide) (fun c_43 => ?_) (fun c_43 => ?_)
        · refine lv_aload hx hb dX4_grow_49 (lv_at hl 0 rfl) ?_
          refine r_getN (C := RX1) (T := TX1) (v := .int (I i 4 0)) hx hb hts i1 hown hw (12 + (6 * i + 0)) (CW_get _ (i := i) (by assumption) (by decide) rfl) rfl 5 (by decide) (List.mem_of_getElem? (i := 2) rfl) rfl dX4_grow_51 ?_
          refine lv_if_eq (tgt := 60) hx hb dX4_grow_54 (by decide) (fun c_54 => ?_) (fun c_54 => ?_)
          · refine lv_aload_n hx hb dX4_grow_60 rfl (lv_at hl 1 rfl) ?_
            refine lv_aload hx hb dX4_grow_61 (lv_at hl 0 rfl) ?_
            refine r_getN (C := RX1) (T := TX1) (v := .int (I i 1 0)) hx hb hts i1 hown hw (12 + (6 * i + 0)) (CW_get _ (i := i) (by assumption) (by decide) rfl) rfl 2 (by decide) (List.mem_of_getElem? (i := 3) rfl) rfl dX4_grow_63 ?_
            refine lv_iload_n hx hb dX4_grow_66 rfl (lv_at hl 4 rfl) ?_
            refine r_callVi 0 rfl rfl (rest := []) ⟨hx, hb, hml, hown, hts⟩ hw [.int (I i 1 0), .int (p3)] (k4_capsAllow l D ty a b n cI cO ht0 ht1 c0 c1 c2 c3 u4 c5 c6 c7 u8 u9 u10 c11 u12 u13 I (I i 1 0) p3 hob hob2 hn60 (how i hii)) (cwV 2 hts gX4_grow_X4_capsAllow rfl rfl rfl (by decide +kernel) ⟨Nat.le_of_ble_eq_true rfl, Nat.le_of_ble_eq_true rfl⟩) rfl hl.1 rfl (Nat.le_of_ble_eq_true rfl) dX4_grow_67 ⟨Nat.le_of_ble_eq_true rfl, Nat.le_of_ble_eq_true rfl⟩ (fun r w H locs hp hw => ?_)
            obtain ⟨rfl, rfl⟩ := hp
            refine lv_if_ne (tgt := 76) hx hb dX4_grow_70 (by decide) (fun c_70 => ?_) (fun c_70 => ?_)
            · refine lv_aload_n hx hb dX4_grow_76 rfl (lv_at hl 1 rfl) ?_
              refine r_get (C := RX4) (T := TX4) (v := .ref (a 1)) hx hb hts i4 hown hw 0 rfl rfl 0 (by decide) lk10 rfl dX4_grow_77 ?_
              refine lv_aload_n hx hb dX4_grow_80 rfl (lv_at hl 1 rfl) ?_
              refine r_get (C := RX4) (T := TX4) (v := .int (u13)) hx hb hts i4 hown hw 0 rfl rfl 5 (by decide) lk41 rfl dX4_grow_81 ?_
              refine r_callVi 1 rfl rfl (rest := []) ⟨hx, hb, hml, hown, hts⟩ hw [.int (u13)] (k0_priceOn l D ty a b n cI cO ht0 ht1 c0 c1 c2 c3 u4 c5 c6 c7 u8 u9 u10 c11 u12 u13 I u13 (by first | assumption | omega) (by first | assumption | omega) (by first | assumption | omega)) (cwV 1 hts gX4_grow_X0_priceOn rfl rfl rfl (by decide +kernel) ⟨Nat.le_of_ble_eq_true rfl, Nat.le_of_ble_eq_true rfl⟩) rfl hl.1 rfl (Nat.le_of_ble_eq_true rfl) dX4_grow_84 ⟨Nat.le_of_ble_eq_true rfl, Nat.le_of_ble_eq_true rfl⟩ (fun r w H locs hp hw => ?_)
              obtain ⟨rfl, rfl⟩ := hp
              refine lv_istore (lv' := [(5, .int (f0_priceOn c0 c1 u4 u13)), (4, .ref (b i 0)), (0, .ref (a 0)), (1, .int (nI (i))), (2, .int (p2)), (3, .int (p3))]) hx hb dX4_grow_87 hl (by decide) rfl (fun ls hl => ?_)
              refine lv_iload_n hx hb dX4_grow_89 rfl (lv_at hl 5 rfl) ?_
              refine lv_i2l (v := p3.toInt64) hx hb dX4_grow_90 rfl ?_
              refine lv_iload hx hb dX4_grow_91 (lv_at hl 0 rfl) ?_
              refine lv_i2l (v := (f0_priceOn c0 c1 u4 u13).toInt64) hx hb dX4_grow_93 rfl ?_
              refine lv_lmul hx hb dX4_grow_94 ?_
              refine lv_lstore (lv' := [(6, .long (p3.toInt64 * ((f0_priceOn c0 c1 u4 u13).toInt64))), (5, .int (f0_priceOn c0 c1 u4 u13)), (4, .ref (b i 0)), (0, .ref (a 0)), (1, .int (nI (i))), (2, .int (p2)), (3, .int (p3))]) hx hb dX4_grow_95 hl (by decide) rfl (fun ls hl => ?_)
              refine lv_aload_n hx hb dX4_grow_97 rfl (lv_at hl 3 rfl) ?_
              refine lv_aload hx hb dX4_grow_98 (lv_at hl 2 rfl) ?_
              refine r_getN (C := RX1) (T := TX1) (v := .int (I i 2 0)) hx hb hts i1 hown hw (12 + (6 * i + 0)) (CW_get _ (i := i) (by assumption) (by decide) rfl) rfl 3 (by decide) (List.mem_of_getElem? (i := 4) rfl) rfl dX4_grow_100 ?_
              refine lv_iload_n hx hb dX4_grow_103 rfl (lv_at hl 6 rfl) ?_
              refine lv_iadd hx hb dX4_grow_104 ?_
              refine r_callVi 0 rfl rfl (rest := []) ⟨hx, hb, hml, hown, hts⟩ hw [.int ((I i 2 0) + p3)] (k4_chargedSize l D ty a b n cI cO ht0 ht1 c0 c1 c2 c3 u4 c5 c6 c7 u8 u9 u10 c11 u12 u13 I ((I i 2 0) + p3) (by first | assumption | omega) (by first | assumption | omega) (by first | assumption | omega)) (cwV 1 hts gX4_grow_X4_chargedSize rfl rfl rfl (by decide +kernel) ⟨Nat.le_of_ble_eq_true rfl, Nat.le_of_ble_eq_true rfl⟩) rfl hl.1 rfl (Nat.le_of_ble_eq_true rfl) dX4_grow_105 ⟨Nat.le_of_ble_eq_true rfl, Nat.le_of_ble_eq_true rfl⟩ (fun r w H locs hp hw => ?_)
              obtain ⟨rfl, rfl⟩ := hp
              refine lv_aload_n hx hb dX4_grow_108 rfl (lv_at hl 3 rfl) ?_
              refine lv_aload hx hb dX4_grow_109 (lv_at hl 2 rfl) ?_
              refine r_getN (C := RX1) (T := TX1) (v := .int (I i 2 0)) hx hb hts i1 hown hw (12 + (6 * i + 0)) (CW_get _ (i := i) (by assumption) (by decide) rfl) rfl 3 (by decide) (List.mem_of_getElem? (i := 4) rfl) rfl dX4_grow_111 ?_
              refine r_callVi 0 rfl rfl (rest := [.int (f4_chargedSize c0 c3 u4 u13 ((I i 2 0) + p3))]) ⟨hx, hb, hml, hown, hts⟩ hw [.int (I i 2 0)] (k4_chargedSize l D ty a b n cI cO ht0 ht1 c0 c1 c2 c3 u4 c5 c6 c7 u8 u9 u10 c11 u12 u13 I (I i 2 0) (by first | assumption | omega) (by first | assumption | omega) (by first | assumption | omega)) (cwV 1 hts gX4_grow_X4_chargedSize rfl rfl rfl (by decide +kernel) ⟨Nat.le_of_ble_eq_true rfl, Nat.le_of_ble_eq_true rfl⟩) rfl hl.1 rfl (Nat.le_of_ble_eq_true rfl) dX4_grow_114 ⟨Nat.le_of_ble_eq_true rfl, Nat.le_of_ble_eq_true rfl⟩ (fun r w H locs hp hw => ?_)
              obtain ⟨rfl, rfl⟩ := hp
              refine lv_isub hx hb dX4_grow_117 ?_
              refine lv_istore (lv' := [(8, .int ((f4_chargedSize c0 c3 u4 u13 ((I i 2 0) + p3)) - (f4_chargedSize c0 c3 u4 u13 (I i 2 0)))), (6, .long (p3.toInt64 * ((f0_priceOn c0 c1 u4 u13).toInt64))), (5, .int (f0_priceOn c0 c1 u4 u13)), (4, .ref (b i 0)), (0, .ref (a 0)), (1, .int (nI (i))), (2, .int (p2)), (3, .int (p3))]) hx hb dX4_grow_118 hl (by decide) rfl (fun ls hl => ?_)
              refine lv_aload_n hx hb dX4_grow_120 rfl (lv_at hl 4 rfl) ?_
              refine lv_iload hx hb dX4_grow_121 (lv_at hl 0 rfl) ?_
              refine lv_aload hx hb dX4_grow_123 (lv_at hl 3 rfl) ?_
              refine r_getN (C := RX1) (T := TX1) (v := .int (I i 3 0)) hx hb hts i1 hown hw (12 + (6 * i + 0)) (CW_get _ (i := i) (by assumption) (by decide) rfl) rfl 4 (by decide) (List.mem_of_getElem? (i := 5) rfl) rfl dX4_grow_125 ?_
              refine lv_aload_n hx hb dX4_grow_128 rfl (lv_at hl 4 rfl) ?_
              refine r_get (C := RX4) (T := TX4) (v := .int (u13)) hx hb hts i4 hown hw 0 rfl rfl 5 (by decide) lk41 rfl dX4_grow_129 ?_
              refine lv_isub hx hb dX4_grow_132 ?_
              refine r_callVl 0 rfl rfl (rest := []) ⟨hx, hb, hml, hown, hts⟩ hw [.int ((f4_chargedSize c0 c3 u4 u13 ((I i 2 0) + p3)) - (f4_chargedSize c0 c3 u4 u13 (I i 2 0))), .int ((I i 3 0) - u13)] (k4_rentOf l D ty a b n cI cO ht0 ht1 c0 c1 c2 c3 u4 c5 c6 c7 u8 u9 u10 c11 u12 u13 I ((f4_chargedSize c0 c3 u4 u13 ((I i 2 0) + p3)) - (f4_chargedSize c0 c3 u4 u13 (I i 2 0))) ((I i 3 0) - u13) (by first | assumption | omega) (by first | assumption | omega) (by first | assumption | omega)) (cwV 2 hts gX4_grow_X4_rentOf rfl rfl rfl (by decide +kernel) ⟨Nat.le_of_ble_eq_true rfl, Nat.le_of_ble_eq_true rfl⟩) rfl hl.1 rfl (Nat.le_of_ble_eq_true rfl) dX4_grow_133 ⟨Nat.le_of_ble_eq_true rfl, Nat.le_of_ble_eq_true rfl⟩ (fun r w H locs hp hw => ?_)
              obtain ⟨rfl, rfl⟩ := hp
              refine lv_lstore (lv' := [(9, .long (f4_rentOf c0 c2 u4 u13 ((f4_chargedSize c0 c3 u4 u13 ((I i 2 0) + p3)) - (f4_chargedSize c0 c3 u4 u13 (I i 2 0))) ((I i 3 0) - u13))), (8, .int ((f4_chargedSize c0 c3 u4 u13 ((I i 2 0) + p3)) - (f4_chargedSize c0 c3 u4 u13 (I i 2 0)))), (6, .long (p3.toInt64 * ((f0_priceOn c0 c1 u4 u13).toInt64))), (5, .int (f0_priceOn c0 c1 u4 u13)), (4, .ref (b i 0)), (0, .ref (a 0)), (1, .int (nI (i))), (2, .int (p2)), (3, .int (p3))]) hx hb dX4_grow_136 hl (by decide) rfl (fun ls hl => ?_)
              refine lv_aload_n hx hb dX4_grow_138 rfl (lv_at hl 5 rfl) ?_
              refine r_get (C := RX4) (T := TX4) (v := .ref (a 6)) hx hb hts i4 hown hw 0 rfl rfl 1 (by decide) lk19 rfl dX4_grow_139 ?_
              refine lv_iload_n hx hb dX4_grow_142 rfl (lv_at hl 7 rfl) ?_
              refine lv_lload hx hb dX4_grow_143 (lv_at hl 2 rfl) ?_
              refine lv_lload hx hb dX4_grow_145 (lv_at hl 0 rfl) ?_
              refine lv_ladd hx hb dX4_grow_147 ?_
              refine r_callVi 6 rfl rfl (rest := []) ⟨hx, hb, hml, hown, hts⟩ hw [.int (p2), .long ((p3.toInt64 * ((f0_priceOn c0 c1 u4 u13).toInt64)) + (f4_rentOf c0 c2 u4 u13 ((f4_chargedSize c0 c3 u4 u13 ((I i 2 0) + p3)) - (f4_chargedSize c0 c3 u4 u13 (I i 2 0))) ((I i 3 0) - u13)))] (k3_canPay l D ty a b n cI cO ht0 ht1 c0 c1 c2 c3 u4 c5 c6 c7 u8 u9 u10 c11 u12 u13 I p2 ((p3.toInt64 * ((f0_priceOn c0 c1 u4 u13).toInt64)) + (f4_rentOf c0 c2 u4 u13 ((f4_chargedSize c0 c3 u4 u13 ((I i 2 0) + p3)) - (f4_chargedSize c0 c3 u4 u13 (I i 2 0))) ((I i 3 0) - u13))) (by first | assumption | omega)) (cwV 2 hts gX4_grow_X3_canPay rfl rfl rfl (by decide +kernel) ⟨Nat.le_of_ble_eq_true rfl, Nat.le_of_ble_eq_true rfl⟩) rfl hl.1 rfl (Nat.le_of_ble_eq_true rfl) dX4_grow_148 ⟨Nat.le_of_ble_eq_true rfl, Nat.le_of_ble_eq_true rfl⟩ (fun r w H locs hp hw => ?_)
              obtain ⟨rfl, rfl⟩ := hp
              refine lv_if_ne (tgt := 157) hx hb dX4_grow_151 (by decide) (fun c_151 => ?_) (fun c_151 => ?_)
              · refine lv_aload hx hb dX4_grow_157 (lv_at hl 4 rfl) ?_
                refine r_getN (C := RX1) (T := TX1) (v := .ref (b i 2)) hx hb hts i1 hown hw (12 + (6 * i + 0)) (CW_get _ (i := i) (by assumption) (by decide) rfl) rfl 1 (by decide) (List.mem_of_getElem? (i := 1) rfl) rfl dX4_grow_159 ?_
                refine lv_iload hx hb dX4_grow_162 (lv_at hl 3 rfl) ?_
                refine lv_iload_n hx hb dX4_grow_164 rfl (lv_at hl 7 rfl) ?_
                refine r_callVi (12 + (6 * i + 2)) (CW_getF _ _ _ (by assumption) (by decide) rfl) rfl (rest := []) ⟨hx, hb, hml, hown, hts⟩ (hw.cast (CW_foc _ i)) [.int (f0_priceOn c0 c1 u4 u13), .int (p2)] (k2_hasRoomFor l D ty a b n cI cO ht0 ht1 c0 c1 c2 c3 u4 c5 c6 c7 u8 u9 u10 c11 u12 u13 I i (I i 0) (I i 1 0) (I i 2 0) (I i 3 0) (I i 4 0) (I i 5) (I i 6) (I i 7) (I i 8 0) (f0_priceOn c0 c1 u4 u13) p2 (by first | assumption | omega) (by first | assumption | omega) (by first | assumption | omega)) (cwV 2 hts gX4_grow_X2_hasRoomFor rfl rfl rfl (by decide +kernel) ⟨Nat.le_of_ble_eq_true rfl, Nat.le_of_ble_eq_true rfl⟩) rfl hl.1 rfl (Nat.le_of_ble_eq_true rfl) dX4_grow_165 ⟨Nat.le_of_ble_eq_true rfl, Nat.le_of_ble_eq_true rfl⟩ (fun r w H locs hp hw => ?_)
                obtain ⟨rfl, rfl⟩ := hp
                replace hw := hw.cast (CW_foc _ i).symm
                refine lv_if_ne (tgt := 174) hx hb dX4_grow_168 (by decide) (fun c_168 => ?_) (fun c_168 => ?_)
                · refine lv_aload hx hb dX4_grow_174 (lv_at hl 4 rfl) ?_
                  refine r_getN (C := RX1) (T := TX1) (v := .ref (b i 2)) hx hb hts i1 hown hw (12 + (6 * i + 0)) (CW_get _ (i := i) (by assumption) (by decide) rfl) rfl 1 (by decide) (List.mem_of_getElem? (i := 1) rfl) rfl dX4_grow_176 ?_
                  refine lv_iload_n hx hb dX4_grow_179 rfl (lv_at hl 8 rfl) ?_
                  refine lv_iload hx hb dX4_grow_180 (lv_at hl 3 rfl) ?_
                  refine lv_iload_n hx hb dX4_grow_182 rfl (lv_at hl 7 rfl) ?_
                  refine r_callVv (12 + (6 * i + 2)) (CW_getF _ _ _ (by assumption) (by decide) rfl) rfl (rest := []) ⟨hx, hb, hml, hown, hts⟩ (hw.cast (CW_foc _ i)) [.int (p3), .int (f0_priceOn c0 c1 u4 u13), .int (p2)] (k2_put l D ty a b n cI cO ht0 ht1 c0 c1 c2 c3 u4 c5 c6 c7 u8 u9 u10 c11 u12 u13 I i (I i 0) (I i 1 0) (I i 2 0) (I i 3 0) (I i 4 0) (I i 5) (I i 6) (I i 7) (I i 8 0) p3 (f0_priceOn c0 c1 u4 u13) p2 (by first | assumption | omega) (by first | assumption | omega) (by first | assumption | omega)) (cwV 3 hts gX4_grow_X2_put rfl rfl rfl (by decide +kernel) ⟨Nat.le_of_ble_eq_true rfl, Nat.le_of_ble_eq_true rfl⟩) rfl hl.1 rfl (Nat.le_of_ble_eq_true rfl) dX4_grow_183 ⟨Nat.le_of_ble_eq_true rfl, Nat.le_of_ble_eq_true rfl⟩ (fun w H locs hp hw => ?_)
                  subst hp
                  refine lv_aload hx hb dX4_grow_186 (lv_at hl 4 rfl) ?_
                  refine lv_dup hx hb dX4_grow_188 rfl ?_
                  refine r_getN (C := RX1) (T := TX1) (v := .int (I i 2 0)) hx hb hts i1 hown hw (12 + (6 * i + 0)) (CW_getF _ _ _ (by assumption) (by decide) rfl) rfl 3 (by decide) (List.mem_of_getElem? (i := 4) rfl) rfl dX4_grow_189 ?_
                  refine lv_iload_n hx hb dX4_grow_192 rfl (lv_at hl 8 rfl) ?_
                  refine lv_iadd hx hb dX4_grow_193 ?_
                  refine r_putN (C := RX1) (T := TX1) (ws' := CW a b n cI cO c0 c1 c2 c3 u4 c5 c6 c7 u8 u9 u10 c11 u12 u13 (va_up I i (JX (I i 0) (I i 1 0) ((I i 2 0) + p3) (I i 3 0) (I i 4 0) ((f2_put (I i 5) (I i 6) (I i 7) (I i 8 0) p3 (f0_priceOn c0 c1 u4 u13) p2).1) ((f2_put (I i 5) (I i 6) (I i 7) (I i 8 0) p3 (f0_priceOn c0 c1 u4 u13) p2).2.1) ((f2_put (I i 5) (I i 6) (I i 7) (I i 8 0) p3 (f0_priceOn c0 c1 u4 u13) p2).2.2.1) ((f2_put (I i 5) (I i 6) (I i 7) (I i 8 0) p3 (f0_priceOn c0 c1 u4 u13) p2).2.2.2)))) hx hb hts i1 tyX1 tyX1_ok nmX1 hown hw (12 + (6 * i + 0)) (CW_getF _ _ _ (by assumption) (by decide) rfl) rfl 3 (by decide) (List.mem_of_getElem? (i := 4) rfl) rfl (by decide +kernel) (Nat.le_of_ble_eq_true rfl) (CW_t2 (by assumption) _) dX4_grow_194 (fun H locs hw => ?_)
                  refine lv_aload_n hx hb dX4_grow_197 rfl (lv_at hl 5 rfl) ?_
                  refine r_get (C := RX4) (T := TX4) (v := .ref (a 6)) hx hb hts i4 hown hw 0 rfl rfl 1 (by decide) lk19 rfl dX4_grow_198 ?_
                  refine lv_iload_n hx hb dX4_grow_201 rfl (lv_at hl 7 rfl) ?_
                  refine lv_lload hx hb dX4_grow_202 (lv_at hl 2 rfl) ?_
                  refine lv_lload hx hb dX4_grow_204 (lv_at hl 0 rfl) ?_
                  refine r_callVi 6 rfl rfl (rest := []) ⟨hx, hb, hml, hown, hts⟩ hw [.int (p2), .long (p3.toInt64 * ((f0_priceOn c0 c1 u4 u13).toInt64)), .long (f4_rentOf c0 c2 u4 u13 ((f4_chargedSize c0 c3 u4 u13 ((I i 2 0) + p3)) - (f4_chargedSize c0 c3 u4 u13 (I i 2 0))) ((I i 3 0) - u13))] (k3_takeFrom l D ty a b n cI cO ht0 ht1 c0 c1 c2 c3 u4 c5 c6 c7 u8 u9 u10 c11 u12 u13 (va_up I i (JX (I i 0) (I i 1 0) ((I i 2 0) + p3) (I i 3 0) (I i 4 0) ((f2_put (I i 5) (I i 6) (I i 7) (I i 8 0) p3 (f0_priceOn c0 c1 u4 u13) p2).1) ((f2_put (I i 5) (I i 6) (I i 7) (I i 8 0) p3 (f0_priceOn c0 c1 u4 u13) p2).2.1) ((f2_put (I i 5) (I i 6) (I i 7) (I i 8 0) p3 (f0_priceOn c0 c1 u4 u13) p2).2.2.1) ((f2_put (I i 5) (I i 6) (I i 7) (I i 8 0) p3 (f0_priceOn c0 c1 u4 u13) p2).2.2.2))) p2 (p3.toInt64 * ((f0_priceOn c0 c1 u4 u13).toInt64)) (f4_rentOf c0 c2 u4 u13 ((f4_chargedSize c0 c3 u4 u13 ((I i 2 0) + p3)) - (f4_chargedSize c0 c3 u4 u13 (I i 2 0))) ((I i 3 0) - u13)) (by first | assumption | omega)) (cwV 3 hts gX4_grow_X3_takeFrom rfl rfl rfl (by decide +kernel) ⟨Nat.le_of_ble_eq_true rfl, Nat.le_of_ble_eq_true rfl⟩) rfl hl.1 rfl (Nat.le_of_ble_eq_true rfl) dX4_grow_206 ⟨Nat.le_of_ble_eq_true rfl, Nat.le_of_ble_eq_true rfl⟩ (fun r w H locs hp hw => ?_)
                  obtain ⟨rfl, rfl⟩ := hp
                  have e9 : f4_grow c0 c1 c2 c3 u4 c5 u8 u9 c11 u12 u13 I (nI i) p2 p3 = ((f3_takeFrom c5 u8 u9 p2 (p3.toInt64 * ((f0_priceOn c0 c1 u4 u13).toInt64)) (f4_rentOf c0 c2 u4 u13 ((f4_chargedSize c0 c3 u4 u13 ((I i 2 0) + p3)) - (f4_chargedSize c0 c3 u4 u13 (I i 2 0))) ((I i 3 0) - u13))).1, (f3_takeFrom c5 u8 u9 p2 (p3.toInt64 * ((f0_priceOn c0 c1 u4 u13).toInt64)) (f4_rentOf c0 c2 u4 u13 ((f4_chargedSize c0 c3 u4 u13 ((I i 2 0) + p3)) - (f4_chargedSize c0 c3 u4 u13 (I i 2 0))) ((I i 3 0) - u13))).2.1, (f3_takeFrom c5 u8 u9 p2 (p3.toInt64 * ((f0_priceOn c0 c1 u4 u13).toInt64)) (f4_rentOf c0 c2 u4 u13 ((f4_chargedSize c0 c3 u4 u13 ((I i 2 0) + p3)) - (f4_chargedSize c0 c3 u4 u13 (I i 2 0))) ((I i 3 0) - u13))).2.2.1, (f3_takeFrom c5 u8 u9 p2 (p3.toInt64 * ((f0_priceOn c0 c1 u4 u13).toInt64)) (f4_rentOf c0 c2 u4 u13 ((f4_chargedSize c0 c3 u4 u13 ((I i 2 0) + p3)) - (f4_chargedSize c0 c3 u4 u13 (I i 2 0))) ((I i 3 0) - u13))).2.2.2, va_up I i (JX (I i 0) (I i 1 0) ((I i 2 0) + p3) (I i 3 0) (I i 4 0) ((f2_put (I i 5) (I i 6) (I i 7) (I i 8 0) p3 (f0_priceOn c0 c1 u4 u13) p2).1) ((f2_put (I i 5) (I i 6) (I i 7) (I i 8 0) p3 (f0_priceOn c0 c1 u4 u13) p2).2.1) ((f2_put (I i 5) (I i 6) (I i 7) (I i 8 0) p3 (f0_priceOn c0 c1 u4 u13) p2).2.2.1) ((f2_put (I i 5) (I i 6) (I i 7) (I i 8 0) p3 (f0_priceOn c0 c1 u4 u13) p2).2.2.2))) := by unfold f4_grow; simp only [nI_clamp (show i < 2 ^ 31 by omega)]; rw [if_neg c_2, if_neg c_16, if_neg c_30, if_pos c_43, if_pos c_54, if_neg c_70, if_neg c_151, if_neg c_168]
                  exact r_iret hx hb hr hlocks hw ⟨by rw [e9] <;> rfl, by rw [e9] <;> rfl⟩ dX4_grow_209
                · refine lv_bipush (v := (-107)) hx hb dX4_grow_171 (by decide) ?_
                  have e9 : f4_grow c0 c1 c2 c3 u4 c5 u8 u9 c11 u12 u13 I (nI i) p2 p3 = ((-107), c5, u8, u9, I) := by unfold f4_grow; simp only [nI_clamp (show i < 2 ^ 31 by omega)]; rw [if_neg c_2, if_neg c_16, if_neg c_30, if_pos c_43, if_pos c_54, if_neg c_70, if_neg c_151, if_pos c_168]
                  exact r_iret hx hb hr hlocks hw ⟨by rw [e9] <;> rfl, by rw [e9] <;> rfl⟩ dX4_grow_173
              · refine lv_bipush (v := (-106)) hx hb dX4_grow_154 (by decide) ?_
                have e9 : f4_grow c0 c1 c2 c3 u4 c5 u8 u9 c11 u12 u13 I (nI i) p2 p3 = ((-106), c5, u8, u9, I) := by unfold f4_grow; simp only [nI_clamp (show i < 2 ^ 31 by omega)]; rw [if_neg c_2, if_neg c_16, if_neg c_30, if_pos c_43, if_pos c_54, if_neg c_70, if_pos c_151]
                exact r_iret hx hb hr hlocks hw ⟨by rw [e9] <;> rfl, by rw [e9] <;> rfl⟩ dX4_grow_156
            · refine lv_bipush (v := (-105)) hx hb dX4_grow_73 (by decide) ?_
              have e9 : f4_grow c0 c1 c2 c3 u4 c5 u8 u9 c11 u12 u13 I (nI i) p2 p3 = ((-105), c5, u8, u9, I) := by unfold f4_grow; simp only [nI_clamp (show i < 2 ^ 31 by omega)]; rw [if_neg c_2, if_neg c_16, if_neg c_30, if_pos c_43, if_pos c_54, if_pos c_70]
              exact r_iret hx hb hr hlocks hw ⟨by rw [e9] <;> rfl, by rw [e9] <;> rfl⟩ dX4_grow_75
          · refine lv_bipush (v := (-103)) hx hb dX4_grow_57 (by decide) ?_
            have e9 : f4_grow c0 c1 c2 c3 u4 c5 u8 u9 c11 u12 u13 I (nI i) p2 p3 = ((-103), c5, u8, u9, I) := by unfold f4_grow; simp only [nI_clamp (show i < 2 ^ 31 by omega)]; rw [if_neg c_2, if_neg c_16, if_neg c_30, if_pos c_43, if_neg c_54]
            exact r_iret hx hb hr hlocks hw ⟨by rw [e9] <;> rfl, by rw [e9] <;> rfl⟩ dX4_grow_59
        · refine lv_bipush (v := (-102)) hx hb dX4_grow_46 (by decide) ?_
          have e9 : f4_grow c0 c1 c2 c3 u4 c5 u8 u9 c11 u12 u13 I (nI i) p2 p3 = ((-102), c5, u8, u9, I) := by unfold f4_grow; simp only [nI_clamp (show i < 2 ^ 31 by omega)]; rw [if_neg c_2, if_neg c_16, if_neg c_30, if_neg c_43]
          exact r_iret hx hb hr hlocks hw ⟨by rw [e9] <;> rfl, by rw [e9] <;> rfl⟩ dX4_grow_48
    · refine lv_bipush (v := (-101)) hx hb dX4_grow_19 (by decide) ?_
      have e9 : f4_grow c0 c1 c2 c3 u4 c5 u8 u9 c11 u12 u13 I (nI i) p2 p3 = ((-101), c5, u8, u9, I) := by unfold f4_grow; simp only [nI_clamp (show i < 2 ^ 31 by omega)]; rw [if_neg c_2, if_pos c_16]
      exact r_iret hx hb hr hlocks hw ⟨by rw [e9] <;> rfl, by rw [e9] <;> rfl⟩ dX4_grow_21
def f4_shrink (c5 : Nat → Int32) (u8 : Int32) (u12 : Int32) (I : Nat → Nat → Nat → Int32) (p1 : Int32) (p2 : Int32) : Int32 × (Nat → Int32) × Int32 × (Nat → Nat → Nat → Int32) :=
  if f4_within p1 0 (u12 - 1) = 0 then ((-101), c5, u8, I)
  else if (f4_refusalToShrink (I (tn p1) 2 0) (I (tn p1) 4 0) p2) = 0 then ((f4_giveBack c5 u8 (I (tn p1) 5) (I (tn p1) 6) (I (tn p1) 7) (I (tn p1) 8 0) p2).1, (f4_giveBack c5 u8 (I (tn p1) 5) (I (tn p1) 6) (I (tn p1) 7) (I (tn p1) 8 0) p2).2.1, (f4_giveBack c5 u8 (I (tn p1) 5) (I (tn p1) 6) (I (tn p1) 7) (I (tn p1) 8 0) p2).2.2.1, va_up I (tn p1) (JX (I (tn p1) 0) (I (tn p1) 1 0) ((I (tn p1) 2 0) - p2) (I (tn p1) 3 0) (I (tn p1) 4 0) ((f4_giveBack c5 u8 (I (tn p1) 5) (I (tn p1) 6) (I (tn p1) 7) (I (tn p1) 8 0) p2).2.2.2.1) (I (tn p1) 6) (I (tn p1) 7) ((f4_giveBack c5 u8 (I (tn p1) 5) (I (tn p1) 6) (I (tn p1) 7) (I (tn p1) 8 0) p2).2.2.2.2)))
  else (f4_refusalToShrink (I (tn p1) 2 0) (I (tn p1) 4 0) p2, c5, u8, I)
set_option maxHeartbeats 4000000 in
set_option maxRecDepth 100000 in
theorem k4_shrink (l : Launch) (D : va_G) (ty : List (ClassId × FieldType)) (a : Nat → Nat) (b : Nat → Nat → Nat) (n : Nat) (cI cO : ClassId) (ht0 : ty[0]? = some (cI, .int)) (ht1 : ty[1]? = some (cO, .object "RentSizes$Item")) (c0 : Nat → Int32) (c1 : Nat → Int32) (c2 : Nat → Int32) (c3 : Nat → Int32) (u4 : Int32) (c5 : Nat → Int32) (c6 : Nat → Int32) (c7 : Nat → Int32) (u8 : Int32) (u9 : Int32) (u10 : Int32) (c11 : Nat → Int32) (u12 : Int32) (u13 : Int32) (I : Nat → Nat → Nat → Int32) (p1 : Int32) (p2 : Int32) (hob : u12 = nI (tn u12)) (hob2 : tn u12 ≤ n) (hn60 : n ≤ 60) (hlk : ∀ i, i < tn u12 → I i 8 0 = nI (tn (I i 8 0)) ∧ tn (I i 8 0) ≤ 16) : MetG l yX4_shrink wsX4_shrink { frames := 3, cells := 0, slots := 0, locals := 71 } D ty [.ref (a 0), .int (p1), .int (p2)] (CW a b n cI cO c0 c1 c2 c3 u4 c5 c6 c7 u8 u9 u10 c11 u12 u13 I) (va_Qi (fun r w => r = (f4_shrink c5 u8 u12 I p1 p2).1 ∧ w = CW a b n cI cO c0 c1 c2 c3 u4 ((f4_shrink c5 u8 u12 I p1 p2).2.1) c6 c7 ((f4_shrink c5 u8 u12 I p1 p2).2.2.1) u9 u10 c11 u12 u13 ((f4_shrink c5 u8 u12 I p1 p2).2.2.2))) 0 0 := by
  refine Met_start cX4_shrink 6 (some .int) (by decide) rfl (Nat.le_of_ble_eq_true rfl) ?_
  intro p e s m below meth c A ls hx hb hr hlocks hml hnm hts hown hw hl
  have hl : lv_has ls 6 [(0, .ref (a 0)), (1, .int (p1)), (2, .int (p2))] := hl
  have i1 : ∀ w ∈ wsX10, w ∈ wsX4_shrink := fun _ h => List.mem_cons_of_mem _ (List.mem_append_left _ (List.mem_append_left _ (List.mem_append_left _ (List.mem_append_right _ h))))
  refine lv_aload_n hx hb dX4_shrink_0 rfl (lv_at hl 0 rfl) ?_
  refine lv_iload_n hx hb dX4_shrink_1 rfl (lv_at hl 1 rfl) ?_
  refine r_callVq 0 rfl rfl (rest := []) ⟨hx, hb, hml, hown, hts⟩ hw [.int (p1)] (k4_find l D ty a b n cI cO ht0 ht1 c0 c1 c2 c3 u4 c5 c6 c7 u8 u9 u10 c11 u12 u13 I p1 (by assumption) (by assumption) (by assumption)) (cwV 1 hts gX4_shrink_X4_find rfl rfl rfl (by decide +kernel) ⟨Nat.le_of_ble_eq_true rfl, Nat.le_of_ble_eq_true rfl⟩) rfl hl.1 rfl (Nat.le_of_ble_eq_true rfl) dX4_shrink_2 ⟨Nat.le_of_ble_eq_true rfl, Nat.le_of_ble_eq_true rfl⟩ (fun r w H locs hp hw => ?_)
  obtain ⟨hr1, rfl⟩ := hp
  by_cases c_2 : f4_within p1 0 (u12 - 1) = 0
  · rw [if_pos c_2] at hr1
    subst hr1
    refine lv_astore_nN (lv' := [(3, .null), (0, .ref (a 0)), (1, .int (p1)), (2, .int (p2))]) hx hb dX4_shrink_5 rfl hl (by decide) rfl (fun ls hl => ?_)
    refine lv_aload_nN hx hb dX4_shrink_6 rfl (lv_at hl 0 rfl) ?_
    refine lv_ifnonnullN hx hb dX4_shrink_7 ?_
    refine lv_bipush (v := (-101)) hx hb dX4_shrink_10 (by decide) ?_
    have e9 : f4_shrink c5 u8 u12 I p1 p2 = ((-101), c5, u8, I) := by unfold f4_shrink; rw [if_pos c_2]
    exact r_iret hx hb hr hlocks hw ⟨by rw [e9] <;> rfl, by rw [e9] <;> rfl⟩ dX4_shrink_12
  · rw [if_neg c_2] at hr1
    obtain ⟨i, hii, rfl⟩ := fi_in c_2 (by assumption) (by assumption) (by assumption)
    rw [tn_nI (by omega)] at hr1
    subst hr1
    have hi : i < n := by omega
    have hc0 := (hlk i hii).1
    have hc1 := (hlk i hii).2
    refine lv_astore_n (lv' := [(3, .ref (b i 0)), (0, .ref (a 0)), (1, .int (nI (i))), (2, .int (p2))]) hx hb dX4_shrink_5 rfl hl (by decide) rfl (fun ls hl => ?_)
    refine lv_aload_n hx hb dX4_shrink_6 rfl (lv_at hl 0 rfl) ?_
    refine lv_ifnonnull (tgt := 13) hx hb dX4_shrink_7 (by decide) ?_
    refine lv_aload_n hx hb dX4_shrink_13 rfl (lv_at hl 0 rfl) ?_
    refine lv_iload_n hx hb dX4_shrink_14 rfl (lv_at hl 3 rfl) ?_
    refine r_callSi (rest := []) ⟨hx, hb, hml, hown, hts⟩ (hw.cast (CW_foc _ i)) [.ref (b i 0), .int (p2)] (k4_refusalToShrink l D ty a b n cI cO ht0 ht1 c0 c1 c2 c3 u4 c5 c6 c7 u8 u9 u10 c11 u12 u13 I i (I i 0) (I i 1 0) (I i 2 0) (I i 3 0) (I i 4 0) (I i 5) (I i 6) (I i 7) (I i 8 0) p2 (by first | assumption | omega)) (va_cwS 2 hts gX4_shrink_X4_refusalToShrink rfl rfl rfl (by decide +kernel) ⟨Nat.le_of_ble_eq_true rfl, Nat.le_of_ble_eq_true rfl⟩) rfl hl.1 rfl (Nat.le_of_ble_eq_true rfl) dX4_shrink_15 ⟨Nat.le_of_ble_eq_true rfl, Nat.le_of_ble_eq_true rfl⟩ (fun r w H locs hp hw => ?_)
    obtain ⟨rfl, rfl⟩ := hp
    replace hw := hw.cast (CW_foc _ i).symm
    refine lv_istore (lv' := [(4, .int (f4_refusalToShrink (I i 2 0) (I i 4 0) p2)), (3, .ref (b i 0)), (0, .ref (a 0)), (1, .int (nI (i))), (2, .int (p2))]) hx hb dX4_shrink_18 hl (by decide) rfl (fun ls hl => ?_)
    refine lv_iload hx hb dX4_shrink_20 (lv_at hl 0 rfl) ?_
    refine lv_if_eq (tgt := 28) hx hb dX4_shrink_22 (by decide) (fun c_22 => ?_) (fun c_22 => ?_)
    · refine lv_aload_n hx hb dX4_shrink_28 rfl (lv_at hl 2 rfl) ?_
      refine lv_aload_n hx hb dX4_shrink_29 rfl (lv_at hl 1 rfl) ?_
      refine lv_iload_n hx hb dX4_shrink_30 rfl (lv_at hl 4 rfl) ?_
      refine r_callVi 0 rfl rfl (rest := []) ⟨hx, hb, hml, hown, hts⟩ (hw.cast (CW_foc _ i)) [.ref (b i 0), .int (p2)] (k4_giveBack l D ty a b n cI cO ht0 ht1 c0 c1 c2 c3 u4 c5 c6 c7 u8 u9 u10 c11 u12 u13 I i (I i 0) (I i 1 0) (I i 2 0) (I i 3 0) (I i 4 0) (I i 5) (I i 6) (I i 7) (I i 8 0) p2 (by first | assumption | omega) (by first | assumption | omega) (by first | assumption | omega)) (cwV 2 hts gX4_shrink_X4_giveBack rfl rfl rfl (by decide +kernel) ⟨Nat.le_of_ble_eq_true rfl, Nat.le_of_ble_eq_true rfl⟩) rfl hl.1 rfl (Nat.le_of_ble_eq_true rfl) dX4_shrink_31 ⟨Nat.le_of_ble_eq_true rfl, Nat.le_of_ble_eq_true rfl⟩ (fun r w H locs hp hw => ?_)
      obtain ⟨rfl, rfl⟩ := hp
      refine lv_istore (lv' := [(5, .int ((f4_giveBack c5 u8 (I i 5) (I i 6) (I i 7) (I i 8 0) p2).1)), (4, .int (f4_refusalToShrink (I i 2 0) (I i 4 0) p2)), (3, .ref (b i 0)), (0, .ref (a 0)), (1, .int (nI (i))), (2, .int (p2))]) hx hb dX4_shrink_34 hl (by decide) rfl (fun ls hl => ?_)
      refine lv_aload_n hx hb dX4_shrink_36 rfl (lv_at hl 2 rfl) ?_
      refine lv_dup hx hb dX4_shrink_37 rfl ?_
      refine r_getN (C := RX1) (T := TX1) (v := .int (I i 2 0)) hx hb hts i1 hown hw (12 + (6 * i + 0)) (CW_getF _ _ _ (by assumption) (by decide) rfl) rfl 3 (by decide) (List.mem_of_getElem? (i := 4) rfl) rfl dX4_shrink_38 ?_
      refine lv_iload_n hx hb dX4_shrink_41 rfl (lv_at hl 5 rfl) ?_
      refine lv_isub hx hb dX4_shrink_42 ?_
      refine r_putN (C := RX1) (T := TX1) (ws' := CW a b n cI cO c0 c1 c2 c3 u4 ((f4_giveBack c5 u8 (I i 5) (I i 6) (I i 7) (I i 8 0) p2).2.1) c6 c7 ((f4_giveBack c5 u8 (I i 5) (I i 6) (I i 7) (I i 8 0) p2).2.2.1) u9 u10 c11 u12 u13 (va_up I i (JX (I i 0) (I i 1 0) ((I i 2 0) - p2) (I i 3 0) (I i 4 0) ((f4_giveBack c5 u8 (I i 5) (I i 6) (I i 7) (I i 8 0) p2).2.2.2.1) (I i 6) (I i 7) ((f4_giveBack c5 u8 (I i 5) (I i 6) (I i 7) (I i 8 0) p2).2.2.2.2)))) hx hb hts i1 tyX1 tyX1_ok nmX1 hown hw (12 + (6 * i + 0)) (CW_getF _ _ _ (by assumption) (by decide) rfl) rfl 3 (by decide) (List.mem_of_getElem? (i := 4) rfl) rfl (by decide +kernel) (Nat.le_of_ble_eq_true rfl) (CW_t2 (by assumption) _) dX4_shrink_43 (fun H locs hw => ?_)
      refine lv_iload hx hb dX4_shrink_46 (lv_at hl 0 rfl) ?_
      have e9 : f4_shrink c5 u8 u12 I (nI i) p2 = ((f4_giveBack c5 u8 (I i 5) (I i 6) (I i 7) (I i 8 0) p2).1, (f4_giveBack c5 u8 (I i 5) (I i 6) (I i 7) (I i 8 0) p2).2.1, (f4_giveBack c5 u8 (I i 5) (I i 6) (I i 7) (I i 8 0) p2).2.2.1, va_up I i (JX (I i 0) (I i 1 0) ((I i 2 0) - p2) (I i 3 0) (I i 4 0) ((f4_giveBack c5 u8 (I i 5) (I i 6) (I i 7) (I i 8 0) p2).2.2.2.1) (I i 6) (I i 7) ((f4_giveBack c5 u8 (I i 5) (I i 6) (I i 7) (I i 8 0) p2).2.2.2.2))) := by unfold f4_shrink; simp only [nI_clamp (show i < 2 ^ 31 by omega)]; rw [if_neg c_2, if_pos c_22]
      exact r_iret hx hb hr hlocks hw ⟨by rw [e9] <;> rfl, by rw [e9] <;> rfl⟩ dX4_shrink_48
    · refine lv_iload hx hb dX4_shrink_25 (lv_at hl 0 rfl) ?_
      have e9 : f4_shrink c5 u8 u12 I (nI i) p2 = (f4_refusalToShrink (I i 2 0) (I i 4 0) p2, c5, u8, I) := by unfold f4_shrink; simp only [nI_clamp (show i < 2 ^ 31 by omega)]; rw [if_neg c_2, if_neg c_22]
      exact r_iret hx hb hr hlocks hw ⟨by rw [e9] <;> rfl, by rw [e9] <;> rfl⟩ dX4_shrink_27
def f4_pay (c0 : Nat → Int32) (c2 : Nat → Int32) (c3 : Nat → Int32) (u4 : Int32) (c5 : Nat → Int32) (u8 : Int32) (u9 : Int32) (u12 : Int32) (u13 : Int32) (I : Nat → Nat → Nat → Int32) (p1 : Int32) (p2 : Int32) (p3 : Int32) : Int32 × (Nat → Int32) × Int32 × Int32 × (Nat → Nat → Nat → Int32) :=
  if f4_within p1 0 (u12 - 1) = 0 then ((-101), c5, u8, u9, I)
  else if (f4_isAccount p2) = 0 then ((-101), c5, u8, u9, I)
  else if (f4_within p3 1 100) = 0 then ((-102), c5, u8, u9, I)
  else if (I (tn p1) 4 0) = 0 then (if ((I (tn p1) 3 0) + p3) ≤ (u13 + 400) then (if (f3_canPay c5 p2 (f4_rentOf c0 c2 u4 u13 (f4_chargedSize c0 c3 u4 u13 (I (tn p1) 2 0)) p3)) = 0 then ((-106), c5, u8, u9, I)
      else ((f3_takeFrom c5 u8 u9 p2 0 (f4_rentOf c0 c2 u4 u13 (f4_chargedSize c0 c3 u4 u13 (I (tn p1) 2 0)) p3)).1, (f3_takeFrom c5 u8 u9 p2 0 (f4_rentOf c0 c2 u4 u13 (f4_chargedSize c0 c3 u4 u13 (I (tn p1) 2 0)) p3)).2.1, (f3_takeFrom c5 u8 u9 p2 0 (f4_rentOf c0 c2 u4 u13 (f4_chargedSize c0 c3 u4 u13 (I (tn p1) 2 0)) p3)).2.2.1, (f3_takeFrom c5 u8 u9 p2 0 (f4_rentOf c0 c2 u4 u13 (f4_chargedSize c0 c3 u4 u13 (I (tn p1) 2 0)) p3)).2.2.2, va_up I (tn p1) (JX (I (tn p1) 0) (I (tn p1) 1 0) (I (tn p1) 2 0) ((I (tn p1) 3 0) + p3) (I (tn p1) 4 0) (I (tn p1) 5) (I (tn p1) 6) (I (tn p1) 7) (I (tn p1) 8 0))))
    else ((-103), c5, u8, u9, I))
  else ((-103), c5, u8, u9, I)
set_option maxHeartbeats 4000000 in
set_option maxRecDepth 100000 in
theorem k4_pay (l : Launch) (D : va_G) (ty : List (ClassId × FieldType)) (a : Nat → Nat) (b : Nat → Nat → Nat) (n : Nat) (cI cO : ClassId) (ht0 : ty[0]? = some (cI, .int)) (ht1 : ty[1]? = some (cO, .object "RentSizes$Item")) (c0 : Nat → Int32) (c1 : Nat → Int32) (c2 : Nat → Int32) (c3 : Nat → Int32) (u4 : Int32) (c5 : Nat → Int32) (c6 : Nat → Int32) (c7 : Nat → Int32) (u8 : Int32) (u9 : Int32) (u10 : Int32) (c11 : Nat → Int32) (u12 : Int32) (u13 : Int32) (I : Nat → Nat → Nat → Int32) (p1 : Int32) (p2 : Int32) (p3 : Int32) (hob : u12 = nI (tn u12)) (hob2 : tn u12 ≤ n) (hn60 : n ≤ 60) (he0 : u4 = nI (tn u4)) (he1 : tn u4 ≤ 10) (he2 : 1 ≤ tn u4) : MetG l yX4_pay wsX4_pay { frames := 3, cells := 0, slots := 0, locals := 65 } D ty [.ref (a 0), .int (p1), .int (p2), .int (p3)] (CW a b n cI cO c0 c1 c2 c3 u4 c5 c6 c7 u8 u9 u10 c11 u12 u13 I) (va_Qi (fun r w => r = (f4_pay c0 c2 c3 u4 c5 u8 u9 u12 u13 I p1 p2 p3).1 ∧ w = CW a b n cI cO c0 c1 c2 c3 u4 ((f4_pay c0 c2 c3 u4 c5 u8 u9 u12 u13 I p1 p2 p3).2.1) c6 c7 ((f4_pay c0 c2 c3 u4 c5 u8 u9 u12 u13 I p1 p2 p3).2.2.1) ((f4_pay c0 c2 c3 u4 c5 u8 u9 u12 u13 I p1 p2 p3).2.2.2.1) u10 c11 u12 u13 ((f4_pay c0 c2 c3 u4 c5 u8 u9 u12 u13 I p1 p2 p3).2.2.2.2))) 0 0 := by
  refine Met_start cX4_pay 7 (some .int) (by decide) rfl (Nat.le_of_ble_eq_true rfl) ?_
  intro p e s m below meth c A ls hx hb hr hlocks hml hnm hts hown hw hl
  have hl : lv_has ls 7 [(0, .ref (a 0)), (1, .int (p1)), (2, .int (p2)), (3, .int (p3))] := hl
  have i1 : ∀ w ∈ wsX10, w ∈ wsX4_pay := fun _ h => List.mem_cons_of_mem _ (List.mem_append_left _ (List.mem_append_left _ (List.mem_append_left _ (List.mem_append_right _ h))))
  have i4 : ∀ w ∈ wsX40, w ∈ wsX4_pay := fun _ h => List.mem_cons_of_mem _ (List.mem_append_left _ (List.mem_append_left _ (List.mem_append_right _ h)))
  have lk41 := hts (.fieldLink RX4 41 "RentSizes" "height" "I") (by decide +kernel)
  have lk19 := hts (.fieldLink RX4 19 "RentSizes" "ledger" "LRentSizes$Ledger;") (by decide +kernel)
  refine lv_aload_n hx hb dX4_pay_0 rfl (lv_at hl 0 rfl) ?_
  refine lv_iload_n hx hb dX4_pay_1 rfl (lv_at hl 1 rfl) ?_
  refine r_callVq 0 rfl rfl (rest := []) ⟨hx, hb, hml, hown, hts⟩ hw [.int (p1)] (k4_find l D ty a b n cI cO ht0 ht1 c0 c1 c2 c3 u4 c5 c6 c7 u8 u9 u10 c11 u12 u13 I p1 (by assumption) (by assumption) (by assumption)) (cwV 1 hts gX4_pay_X4_find rfl rfl rfl (by decide +kernel) ⟨Nat.le_of_ble_eq_true rfl, Nat.le_of_ble_eq_true rfl⟩) rfl hl.1 rfl (Nat.le_of_ble_eq_true rfl) dX4_pay_2 ⟨Nat.le_of_ble_eq_true rfl, Nat.le_of_ble_eq_true rfl⟩ (fun r w H locs hp hw => ?_)
  obtain ⟨hr1, rfl⟩ := hp
  by_cases c_2 : f4_within p1 0 (u12 - 1) = 0
  · rw [if_pos c_2] at hr1
    subst hr1
    refine lv_astoreN (lv' := [(4, .null), (0, .ref (a 0)), (1, .int (p1)), (2, .int (p2)), (3, .int (p3))]) hx hb dX4_pay_5 hl (by decide) rfl (fun ls hl => ?_)
    refine lv_aloadN hx hb dX4_pay_7 (lv_at hl 0 rfl) ?_
    refine lv_ifnullN (tgt := 19) hx hb dX4_pay_9 (by decide) ?_
    refine lv_bipush (v := (-101)) hx hb dX4_pay_19 (by decide) ?_
    have e9 : f4_pay c0 c2 c3 u4 c5 u8 u9 u12 u13 I p1 p2 p3 = ((-101), c5, u8, u9, I) := by unfold f4_pay; rw [if_pos c_2]
    exact r_iret hx hb hr hlocks hw ⟨by rw [e9] <;> rfl, by rw [e9] <;> rfl⟩ dX4_pay_21
  · rw [if_neg c_2] at hr1
    obtain ⟨i, hii, rfl⟩ := fi_in c_2 (by assumption) (by assumption) (by assumption)
    rw [tn_nI (by omega)] at hr1
    subst hr1
    have hi : i < n := by omega
    refine lv_astore (lv' := [(4, .ref (b i 0)), (0, .ref (a 0)), (1, .int (nI (i))), (2, .int (p2)), (3, .int (p3))]) hx hb dX4_pay_5 hl (by decide) rfl (fun ls hl => ?_)
    refine lv_aload hx hb dX4_pay_7 (lv_at hl 0 rfl) ?_
    refine lv_ifnull hx hb dX4_pay_9 ?_
    refine lv_iload_n hx hb dX4_pay_12 rfl (lv_at hl 3 rfl) ?_
    refine r_callSi (rest := []) ⟨hx, hb, hml, hown, hts⟩ hw [.int (p2)] (k4_isAccount l D ty a b n cI cO ht0 ht1 c0 c1 c2 c3 u4 c5 c6 c7 u8 u9 u10 c11 u12 u13 I p2) (va_cwS 1 hts gX4_pay_X4_isAccount rfl rfl rfl (by decide +kernel) ⟨Nat.le_of_ble_eq_true rfl, Nat.le_of_ble_eq_true rfl⟩) rfl hl.1 rfl (Nat.le_of_ble_eq_true rfl) dX4_pay_13 ⟨Nat.le_of_ble_eq_true rfl, Nat.le_of_ble_eq_true rfl⟩ (fun r w H locs hp hw => ?_)
    obtain ⟨rfl, rfl⟩ := hp
    refine lv_if_ne (tgt := 22) hx hb dX4_pay_16 (by decide) (fun c_16 => ?_) (fun c_16 => ?_)
    · have hv2 := ia_in c_16
      refine lv_iload_n hx hb dX4_pay_22 rfl (lv_at hl 4 rfl) ?_
      refine lv_iconst (v := 1) hx hb dX4_pay_23 (by decide) ?_
      refine lv_bipush (v := 100) hx hb dX4_pay_24 (by decide) ?_
      refine r_callSi (rest := []) ⟨hx, hb, hml, hown, hts⟩ hw [.int (p3), .int (1), .int (100)] (k4_within l D ty a b n cI cO ht0 ht1 c0 c1 c2 c3 u4 c5 c6 c7 u8 u9 u10 c11 u12 u13 I p3 1 100) (va_cwS 3 hts gX4_pay_X4_within rfl rfl rfl (by decide +kernel) ⟨Nat.le_of_ble_eq_true rfl, Nat.le_of_ble_eq_true rfl⟩) rfl hl.1 rfl (Nat.le_of_ble_eq_true rfl) dX4_pay_26 ⟨Nat.le_of_ble_eq_true rfl, Nat.le_of_ble_eq_true rfl⟩ (fun r w H locs hp hw => ?_)
      obtain ⟨rfl, rfl⟩ := hp
      refine lv_if_ne (tgt := 35) hx hb dX4_pay_29 (by decide) (fun c_29 => ?_) (fun c_29 => ?_)
      · refine lv_aload hx hb dX4_pay_35 (lv_at hl 0 rfl) ?_
        refine r_getN (C := RX1) (T := TX1) (v := .int (I i 4 0)) hx hb hts i1 hown hw (12 + (6 * i + 0)) (CW_get _ (i := i) (by assumption) (by decide) rfl) rfl 5 (by decide) (List.mem_of_getElem? (i := 2) rfl) rfl dX4_pay_37 ?_
        refine lv_if_ne (tgt := 61) hx hb dX4_pay_40 (by decide) (fun c_40 => ?_) (fun c_40 => ?_)
        · refine lv_bipush (v := (-103)) hx hb dX4_pay_61 (by decide) ?_
          have e9 : f4_pay c0 c2 c3 u4 c5 u8 u9 u12 u13 I (nI i) p2 p3 = ((-103), c5, u8, u9, I) := by unfold f4_pay; simp only [nI_clamp (show i < 2 ^ 31 by omega)]; rw [if_neg c_2, if_neg c_16, if_neg c_29, if_neg c_40]
          exact r_iret hx hb hr hlocks hw ⟨by rw [e9] <;> rfl, by rw [e9] <;> rfl⟩ dX4_pay_63
        · refine lv_aload hx hb dX4_pay_43 (lv_at hl 0 rfl) ?_
          refine r_getN (C := RX1) (T := TX1) (v := .int (I i 3 0)) hx hb hts i1 hown hw (12 + (6 * i + 0)) (CW_get _ (i := i) (by assumption) (by decide) rfl) rfl 4 (by decide) (List.mem_of_getElem? (i := 5) rfl) rfl dX4_pay_45 ?_
          refine lv_iload_n hx hb dX4_pay_48 rfl (lv_at hl 4 rfl) ?_
          refine lv_iadd hx hb dX4_pay_49 ?_
          refine lv_aload_n hx hb dX4_pay_50 rfl (lv_at hl 1 rfl) ?_
          refine r_get (C := RX4) (T := TX4) (v := .int (u13)) hx hb hts i4 hown hw 0 rfl rfl 5 (by decide) lk41 rfl dX4_pay_51 ?_
          refine lv_sipush (v := 400) hx hb dX4_pay_54 (by decide) ?_
          refine lv_iadd hx hb dX4_pay_57 ?_
          refine lv_icmp_le (tgt := 64) hx hb dX4_pay_58 (by decide) (fun c_58 => ?_) (fun c_58 => ?_)
          · refine lv_aload_n hx hb dX4_pay_64 rfl (lv_at hl 1 rfl) ?_
            refine lv_aload_n hx hb dX4_pay_65 rfl (lv_at hl 1 rfl) ?_
            refine lv_aload hx hb dX4_pay_66 (lv_at hl 0 rfl) ?_
            refine r_getN (C := RX1) (T := TX1) (v := .int (I i 2 0)) hx hb hts i1 hown hw (12 + (6 * i + 0)) (CW_get _ (i := i) (by assumption) (by decide) rfl) rfl 3 (by decide) (List.mem_of_getElem? (i := 4) rfl) rfl dX4_pay_68 ?_
            refine r_callVi 0 rfl rfl (rest := [.ref (a 0)]) ⟨hx, hb, hml, hown, hts⟩ hw [.int (I i 2 0)] (k4_chargedSize l D ty a b n cI cO ht0 ht1 c0 c1 c2 c3 u4 c5 c6 c7 u8 u9 u10 c11 u12 u13 I (I i 2 0) (by first | assumption | omega) (by first | assumption | omega) (by first | assumption | omega)) (cwV 1 hts gX4_pay_X4_chargedSize rfl rfl rfl (by decide +kernel) ⟨Nat.le_of_ble_eq_true rfl, Nat.le_of_ble_eq_true rfl⟩) rfl hl.1 rfl (Nat.le_of_ble_eq_true rfl) dX4_pay_71 ⟨Nat.le_of_ble_eq_true rfl, Nat.le_of_ble_eq_true rfl⟩ (fun r w H locs hp hw => ?_)
            obtain ⟨rfl, rfl⟩ := hp
            refine lv_iload_n hx hb dX4_pay_74 rfl (lv_at hl 4 rfl) ?_
            refine r_callVl 0 rfl rfl (rest := []) ⟨hx, hb, hml, hown, hts⟩ hw [.int (f4_chargedSize c0 c3 u4 u13 (I i 2 0)), .int (p3)] (k4_rentOf l D ty a b n cI cO ht0 ht1 c0 c1 c2 c3 u4 c5 c6 c7 u8 u9 u10 c11 u12 u13 I (f4_chargedSize c0 c3 u4 u13 (I i 2 0)) p3 (by first | assumption | omega) (by first | assumption | omega) (by first | assumption | omega)) (cwV 2 hts gX4_pay_X4_rentOf rfl rfl rfl (by decide +kernel) ⟨Nat.le_of_ble_eq_true rfl, Nat.le_of_ble_eq_true rfl⟩) rfl hl.1 rfl (Nat.le_of_ble_eq_true rfl) dX4_pay_75 ⟨Nat.le_of_ble_eq_true rfl, Nat.le_of_ble_eq_true rfl⟩ (fun r w H locs hp hw => ?_)
            obtain ⟨rfl, rfl⟩ := hp
            refine lv_lstore (lv' := [(5, .long (f4_rentOf c0 c2 u4 u13 (f4_chargedSize c0 c3 u4 u13 (I i 2 0)) p3)), (4, .ref (b i 0)), (0, .ref (a 0)), (1, .int (nI (i))), (2, .int (p2)), (3, .int (p3))]) hx hb dX4_pay_78 hl (by decide) rfl (fun ls hl => ?_)
            refine lv_aload_n hx hb dX4_pay_80 rfl (lv_at hl 2 rfl) ?_
            refine r_get (C := RX4) (T := TX4) (v := .ref (a 6)) hx hb hts i4 hown hw 0 rfl rfl 1 (by decide) lk19 rfl dX4_pay_81 ?_
            refine lv_iload_n hx hb dX4_pay_84 rfl (lv_at hl 4 rfl) ?_
            refine lv_lload hx hb dX4_pay_85 (lv_at hl 0 rfl) ?_
            refine r_callVi 6 rfl rfl (rest := []) ⟨hx, hb, hml, hown, hts⟩ hw [.int (p2), .long (f4_rentOf c0 c2 u4 u13 (f4_chargedSize c0 c3 u4 u13 (I i 2 0)) p3)] (k3_canPay l D ty a b n cI cO ht0 ht1 c0 c1 c2 c3 u4 c5 c6 c7 u8 u9 u10 c11 u12 u13 I p2 (f4_rentOf c0 c2 u4 u13 (f4_chargedSize c0 c3 u4 u13 (I i 2 0)) p3) (by first | assumption | omega)) (cwV 2 hts gX4_pay_X3_canPay rfl rfl rfl (by decide +kernel) ⟨Nat.le_of_ble_eq_true rfl, Nat.le_of_ble_eq_true rfl⟩) rfl hl.1 rfl (Nat.le_of_ble_eq_true rfl) dX4_pay_87 ⟨Nat.le_of_ble_eq_true rfl, Nat.le_of_ble_eq_true rfl⟩ (fun r w H locs hp hw => ?_)
            obtain ⟨rfl, rfl⟩ := hp
            refine lv_if_ne (tgt := 96) hx hb dX4_pay_90 (by decide) (fun c_90 => ?_) (fun c_90 => ?_)
            · replace hw := hw.cast (CW_foc _ i)
              refine lv_aload hx hb dX4_pay_96 (lv_at hl 1 rfl) ?_
              refine lv_dup hx hb dX4_pay_98 rfl ?_
              refine r_getN (C := RX1) (T := TX1) (v := .int (I i 3 0)) hx hb hts i1 hown hw (12 + (6 * i + 0)) (CW_getF _ _ _ (by assumption) (by decide) rfl) rfl 4 (by decide) (List.mem_of_getElem? (i := 5) rfl) rfl dX4_pay_99 ?_
              refine lv_iload_n hx hb dX4_pay_102 rfl (lv_at hl 5 rfl) ?_
              refine lv_iadd hx hb dX4_pay_103 ?_
              refine r_putN (C := RX1) (T := TX1) (ws' := CW a b n cI cO c0 c1 c2 c3 u4 c5 c6 c7 u8 u9 u10 c11 u12 u13 (va_up I i (JX (I i 0) (I i 1 0) (I i 2 0) ((I i 3 0) + p3) (I i 4 0) (I i 5) (I i 6) (I i 7) (I i 8 0)))) hx hb hts i1 tyX1 tyX1_ok nmX1 hown hw (12 + (6 * i + 0)) (CW_getF _ _ _ (by assumption) (by decide) rfl) rfl 4 (by decide) (List.mem_of_getElem? (i := 5) rfl) rfl (by decide +kernel) (Nat.le_of_ble_eq_true rfl) (CW_t3 (by assumption) _) dX4_pay_104 (fun H locs hw => ?_)
              refine lv_aload_n hx hb dX4_pay_107 rfl (lv_at hl 2 rfl) ?_
              refine r_get (C := RX4) (T := TX4) (v := .ref (a 6)) hx hb hts i4 hown hw 0 rfl rfl 1 (by decide) lk19 rfl dX4_pay_108 ?_
              refine lv_iload_n hx hb dX4_pay_111 rfl (lv_at hl 4 rfl) ?_
              refine lv_lconst (v := 0) hx hb dX4_pay_112 (by decide) ?_
              refine lv_lload hx hb dX4_pay_113 (lv_at hl 0 rfl) ?_
              refine r_callVi 6 rfl rfl (rest := []) ⟨hx, hb, hml, hown, hts⟩ hw [.int (p2), .long (0), .long (f4_rentOf c0 c2 u4 u13 (f4_chargedSize c0 c3 u4 u13 (I i 2 0)) p3)] (k3_takeFrom l D ty a b n cI cO ht0 ht1 c0 c1 c2 c3 u4 c5 c6 c7 u8 u9 u10 c11 u12 u13 (va_up I i (JX (I i 0) (I i 1 0) (I i 2 0) ((I i 3 0) + p3) (I i 4 0) (I i 5) (I i 6) (I i 7) (I i 8 0))) p2 0 (f4_rentOf c0 c2 u4 u13 (f4_chargedSize c0 c3 u4 u13 (I i 2 0)) p3) (by first | assumption | omega)) (cwV 3 hts gX4_pay_X3_takeFrom rfl rfl rfl (by decide +kernel) ⟨Nat.le_of_ble_eq_true rfl, Nat.le_of_ble_eq_true rfl⟩) rfl hl.1 rfl (Nat.le_of_ble_eq_true rfl) dX4_pay_115 ⟨Nat.le_of_ble_eq_true rfl, Nat.le_of_ble_eq_true rfl⟩ (fun r w H locs hp hw => ?_)
              obtain ⟨rfl, rfl⟩ := hp
              have e9 : f4_pay c0 c2 c3 u4 c5 u8 u9 u12 u13 I (nI i) p2 p3 = ((f3_takeFrom c5 u8 u9 p2 0 (f4_rentOf c0 c2 u4 u13 (f4_chargedSize c0 c3 u4 u13 (I i 2 0)) p3)).1, (f3_takeFrom c5 u8 u9 p2 0 (f4_rentOf c0 c2 u4 u13 (f4_chargedSize c0 c3 u4 u13 (I i 2 0)) p3)).2.1, (f3_takeFrom c5 u8 u9 p2 0 (f4_rentOf c0 c2 u4 u13 (f4_chargedSize c0 c3 u4 u13 (I i 2 0)) p3)).2.2.1, (f3_takeFrom c5 u8 u9 p2 0 (f4_rentOf c0 c2 u4 u13 (f4_chargedSize c0 c3 u4 u13 (I i 2 0)) p3)).2.2.2, va_up I i (JX (I i 0) (I i 1 0) (I i 2 0) ((I i 3 0) + p3) (I i 4 0) (I i 5) (I i 6) (I i 7) (I i 8 0))) := by unfold f4_pay; simp only [nI_clamp (show i < 2 ^ 31 by omega)]; rw [if_neg c_2, if_neg c_16, if_neg c_29, if_pos c_40, if_pos c_58, if_neg c_90]
              exact r_iret hx hb hr hlocks hw ⟨by rw [e9] <;> rfl, by rw [e9] <;> rfl⟩ dX4_pay_118
            · refine lv_bipush (v := (-106)) hx hb dX4_pay_93 (by decide) ?_
              have e9 : f4_pay c0 c2 c3 u4 c5 u8 u9 u12 u13 I (nI i) p2 p3 = ((-106), c5, u8, u9, I) := by unfold f4_pay; simp only [nI_clamp (show i < 2 ^ 31 by omega)]; rw [if_neg c_2, if_neg c_16, if_neg c_29, if_pos c_40, if_pos c_58, if_pos c_90]
              exact r_iret hx hb hr hlocks hw ⟨by rw [e9] <;> rfl, by rw [e9] <;> rfl⟩ dX4_pay_95
          · refine lv_bipush (v := (-103)) hx hb dX4_pay_61 (by decide) ?_
            have e9 : f4_pay c0 c2 c3 u4 c5 u8 u9 u12 u13 I (nI i) p2 p3 = ((-103), c5, u8, u9, I) := by unfold f4_pay; simp only [nI_clamp (show i < 2 ^ 31 by omega)]; rw [if_neg c_2, if_neg c_16, if_neg c_29, if_pos c_40, if_neg c_58]
            exact r_iret hx hb hr hlocks hw ⟨by rw [e9] <;> rfl, by rw [e9] <;> rfl⟩ dX4_pay_63
      · refine lv_bipush (v := (-102)) hx hb dX4_pay_32 (by decide) ?_
        have e9 : f4_pay c0 c2 c3 u4 c5 u8 u9 u12 u13 I (nI i) p2 p3 = ((-102), c5, u8, u9, I) := by unfold f4_pay; simp only [nI_clamp (show i < 2 ^ 31 by omega)]; rw [if_neg c_2, if_neg c_16, if_pos c_29]
        exact r_iret hx hb hr hlocks hw ⟨by rw [e9] <;> rfl, by rw [e9] <;> rfl⟩ dX4_pay_34
    · refine lv_bipush (v := (-101)) hx hb dX4_pay_19 (by decide) ?_
      have e9 : f4_pay c0 c2 c3 u4 c5 u8 u9 u12 u13 I (nI i) p2 p3 = ((-101), c5, u8, u9, I) := by unfold f4_pay; simp only [nI_clamp (show i < 2 ^ 31 by omega)]; rw [if_neg c_2, if_pos c_16]
      exact r_iret hx hb hr hlocks hw ⟨by rw [e9] <;> rfl, by rw [e9] <;> rfl⟩ dX4_pay_21
def f4_write (u12 : Int32) (I : Nat → Nat → Nat → Int32) (p1 : Int32) (p2 : Int32) (p3 : Int32) : Int32 × (Nat → Nat → Nat → Int32) :=
  if f4_within p1 0 (u12 - 1) = 0 then ((-101), I)
  else if (f4_within p2 0 3) = 0 then ((-102), I)
  else if (I (tn p1) 4 0) = 0 then (1, va_up I (tn p1) (JX (upd (I (tn p1) 0) (tn (p2)) p3) (I (tn p1) 1 0) (I (tn p1) 2 0) (I (tn p1) 3 0) (I (tn p1) 4 0) (I (tn p1) 5) (I (tn p1) 6) (I (tn p1) 7) (I (tn p1) 8 0)))
  else ((-103), I)
set_option maxHeartbeats 4000000 in
set_option maxRecDepth 100000 in
theorem k4_write (l : Launch) (D : va_G) (ty : List (ClassId × FieldType)) (a : Nat → Nat) (b : Nat → Nat → Nat) (n : Nat) (cI cO : ClassId) (ht0 : ty[0]? = some (cI, .int)) (ht1 : ty[1]? = some (cO, .object "RentSizes$Item")) (c0 : Nat → Int32) (c1 : Nat → Int32) (c2 : Nat → Int32) (c3 : Nat → Int32) (u4 : Int32) (c5 : Nat → Int32) (c6 : Nat → Int32) (c7 : Nat → Int32) (u8 : Int32) (u9 : Int32) (u10 : Int32) (c11 : Nat → Int32) (u12 : Int32) (u13 : Int32) (I : Nat → Nat → Nat → Int32) (p1 : Int32) (p2 : Int32) (p3 : Int32) (hob : u12 = nI (tn u12)) (hob2 : tn u12 ≤ n) (hn60 : n ≤ 60) : MetG l yX4_write wsX4_write { frames := 2, cells := 0, slots := 0, locals := 43 } D ty [.ref (a 0), .int (p1), .int (p2), .int (p3)] (CW a b n cI cO c0 c1 c2 c3 u4 c5 c6 c7 u8 u9 u10 c11 u12 u13 I) (va_Qi (fun r w => r = (f4_write u12 I p1 p2 p3).1 ∧ w = CW a b n cI cO c0 c1 c2 c3 u4 c5 c6 c7 u8 u9 u10 c11 u12 u13 ((f4_write u12 I p1 p2 p3).2))) 0 0 := by
  refine Met_start cX4_write 5 (some .int) (by decide) rfl (Nat.le_of_ble_eq_true rfl) ?_
  intro p e s m below meth c A ls hx hb hr hlocks hml hnm hts hown hw hl
  have hl : lv_has ls 5 [(0, .ref (a 0)), (1, .int (p1)), (2, .int (p2)), (3, .int (p3))] := hl
  have i1 : ∀ w ∈ wsX10, w ∈ wsX4_write := fun _ h => List.mem_cons_of_mem _ (List.mem_append_left _ (List.mem_append_right _ h))
  refine lv_aload_n hx hb dX4_write_0 rfl (lv_at hl 0 rfl) ?_
  refine lv_iload_n hx hb dX4_write_1 rfl (lv_at hl 1 rfl) ?_
  refine r_callVq 0 rfl rfl (rest := []) ⟨hx, hb, hml, hown, hts⟩ hw [.int (p1)] (k4_find l D ty a b n cI cO ht0 ht1 c0 c1 c2 c3 u4 c5 c6 c7 u8 u9 u10 c11 u12 u13 I p1 (by assumption) (by assumption) (by assumption)) (cwV 1 hts gX4_write_X4_find rfl rfl rfl (by decide +kernel) ⟨Nat.le_of_ble_eq_true rfl, Nat.le_of_ble_eq_true rfl⟩) rfl hl.1 rfl (Nat.le_of_ble_eq_true rfl) dX4_write_2 ⟨Nat.le_of_ble_eq_true rfl, Nat.le_of_ble_eq_true rfl⟩ (fun r w H locs hp hw => ?_)
  obtain ⟨hr1, rfl⟩ := hp
  by_cases c_2 : f4_within p1 0 (u12 - 1) = 0
  · rw [if_pos c_2] at hr1
    subst hr1
    refine lv_astoreN (lv' := [(4, .null), (0, .ref (a 0)), (1, .int (p1)), (2, .int (p2)), (3, .int (p3))]) hx hb dX4_write_5 hl (by decide) rfl (fun ls hl => ?_)
    refine lv_aloadN hx hb dX4_write_7 (lv_at hl 0 rfl) ?_
    refine lv_ifnonnullN hx hb dX4_write_9 ?_
    refine lv_bipush (v := (-101)) hx hb dX4_write_12 (by decide) ?_
    have e9 : f4_write u12 I p1 p2 p3 = ((-101), I) := by unfold f4_write; rw [if_pos c_2]
    exact r_iret hx hb hr hlocks hw ⟨by rw [e9] <;> rfl, by rw [e9] <;> rfl⟩ dX4_write_14
  · rw [if_neg c_2] at hr1
    obtain ⟨i, hii, rfl⟩ := fi_in c_2 (by assumption) (by assumption) (by assumption)
    rw [tn_nI (by omega)] at hr1
    subst hr1
    have hi : i < n := by omega
    refine lv_astore (lv' := [(4, .ref (b i 0)), (0, .ref (a 0)), (1, .int (nI (i))), (2, .int (p2)), (3, .int (p3))]) hx hb dX4_write_5 hl (by decide) rfl (fun ls hl => ?_)
    refine lv_aload hx hb dX4_write_7 (lv_at hl 0 rfl) ?_
    refine lv_ifnonnull (tgt := 15) hx hb dX4_write_9 (by decide) ?_
    refine lv_iload_n hx hb dX4_write_15 rfl (lv_at hl 3 rfl) ?_
    refine lv_iconst (v := 0) hx hb dX4_write_16 (by decide) ?_
    refine lv_iconst (v := 3) hx hb dX4_write_17 (by decide) ?_
    refine r_callSi (rest := []) ⟨hx, hb, hml, hown, hts⟩ hw [.int (p2), .int (0), .int (3)] (k4_within l D ty a b n cI cO ht0 ht1 c0 c1 c2 c3 u4 c5 c6 c7 u8 u9 u10 c11 u12 u13 I p2 0 3) (va_cwS 3 hts gX4_write_X4_within rfl rfl rfl (by decide +kernel) ⟨Nat.le_of_ble_eq_true rfl, Nat.le_of_ble_eq_true rfl⟩) rfl hl.1 rfl (Nat.le_of_ble_eq_true rfl) dX4_write_18 ⟨Nat.le_of_ble_eq_true rfl, Nat.le_of_ble_eq_true rfl⟩ (fun r w H locs hp hw => ?_)
    obtain ⟨rfl, rfl⟩ := hp
    refine lv_if_ne (tgt := 27) hx hb dX4_write_21 (by decide) (fun c_21 => ?_) (fun c_21 => ?_)
    · have hv := wi_vp 4 c_21 rfl
      refine lv_aload hx hb dX4_write_27 (lv_at hl 0 rfl) ?_
      refine r_getN (C := RX1) (T := TX1) (v := .int (I i 4 0)) hx hb hts i1 hown hw (12 + (6 * i + 0)) (CW_get _ (i := i) (by assumption) (by decide) rfl) rfl 5 (by decide) (List.mem_of_getElem? (i := 2) rfl) rfl dX4_write_29 ?_
      refine lv_if_eq (tgt := 38) hx hb dX4_write_32 (by decide) (fun c_32 => ?_) (fun c_32 => ?_)
      · replace hw := hw.cast (CW_foc _ i)
        refine lv_aload hx hb dX4_write_38 (lv_at hl 0 rfl) ?_
        refine r_getN (C := RX1) (T := TX1) (v := .ref (b i 1)) hx hb hts i1 hown hw (12 + (6 * i + 0)) (CW_getF _ _ _ (by assumption) (by decide) rfl) rfl 0 (by decide) (List.mem_of_getElem? (i := 6) rfl) rfl dX4_write_40 ?_
        refine lv_iload_n hx hb dX4_write_43 rfl (lv_at hl 3 rfl) ?_
        refine lv_iload_n hx hb dX4_write_44 rfl (lv_at hl 4 rfl) ?_
        refine r_iast (ws' := CW a b n cI cO c0 c1 c2 c3 u4 c5 c6 c7 u8 u9 u10 c11 u12 u13 (va_up I i (JX (upd (I i 0) (tn (p2)) p3) (I i 1 0) (I i 2 0) (I i 3 0) (I i 4 0) (I i 5) (I i 6) (I i 7) (I i 8 0)))) hx hb hw (12 + (6 * i + 1)) (CW_getF _ _ _ (by assumption) (by decide) rfl) ht0 (by first | assumption | exact vp_in_nI (by omega) (by omega)) (CW_t0 (by assumption) _) dX4_write_45 (fun H locs hw => ?_)
        refine lv_iconst (v := 1) hx hb dX4_write_46 (by decide) ?_
        have e9 : f4_write u12 I (nI i) p2 p3 = (1, va_up I i (JX (upd (I i 0) (tn (p2)) p3) (I i 1 0) (I i 2 0) (I i 3 0) (I i 4 0) (I i 5) (I i 6) (I i 7) (I i 8 0))) := by unfold f4_write; simp only [nI_clamp (show i < 2 ^ 31 by omega)]; rw [if_neg c_2, if_neg c_21, if_pos c_32]
        exact r_iret hx hb hr hlocks hw ⟨by rw [e9] <;> rfl, by rw [e9] <;> rfl⟩ dX4_write_47
      · refine lv_bipush (v := (-103)) hx hb dX4_write_35 (by decide) ?_
        have e9 : f4_write u12 I (nI i) p2 p3 = ((-103), I) := by unfold f4_write; simp only [nI_clamp (show i < 2 ^ 31 by omega)]; rw [if_neg c_2, if_neg c_21, if_neg c_32]
        exact r_iret hx hb hr hlocks hw ⟨by rw [e9] <;> rfl, by rw [e9] <;> rfl⟩ dX4_write_37
    · refine lv_bipush (v := (-102)) hx hb dX4_write_24 (by decide) ?_
      have e9 : f4_write u12 I (nI i) p2 p3 = ((-102), I) := by unfold f4_write; simp only [nI_clamp (show i < 2 ^ 31 by omega)]; rw [if_neg c_2, if_pos c_21]
      exact r_iret hx hb hr hlocks hw ⟨by rw [e9] <;> rfl, by rw [e9] <;> rfl⟩ dX4_write_26
def f4_drop (c5 : Nat → Int32) (u8 : Int32) (u12 : Int32) (I : Nat → Nat → Nat → Int32) (p1 : Int32) : Int32 × (Nat → Int32) × Int32 × (Nat → Nat → Nat → Int32) :=
  if f4_within p1 0 (u12 - 1) = 0 then ((-101), c5, u8, I)
  else if (I (tn p1) 4 0) = 2 then ((-103), c5, u8, I)
  else ((f4_giveBack c5 u8 (I (tn p1) 5) (I (tn p1) 6) (I (tn p1) 7) (I (tn p1) 8 0) (I (tn p1) 2 0)).1, (f4_giveBack c5 u8 (I (tn p1) 5) (I (tn p1) 6) (I (tn p1) 7) (I (tn p1) 8 0) (I (tn p1) 2 0)).2.1, (f4_giveBack c5 u8 (I (tn p1) 5) (I (tn p1) 6) (I (tn p1) 7) (I (tn p1) 8 0) (I (tn p1) 2 0)).2.2.1, va_up I (tn p1) (JX (I (tn p1) 0) (I (tn p1) 1 0) (I (tn p1) 2 0) (I (tn p1) 3 0) 2 ((f4_giveBack c5 u8 (I (tn p1) 5) (I (tn p1) 6) (I (tn p1) 7) (I (tn p1) 8 0) (I (tn p1) 2 0)).2.2.2.1) (I (tn p1) 6) (I (tn p1) 7) ((f4_giveBack c5 u8 (I (tn p1) 5) (I (tn p1) 6) (I (tn p1) 7) (I (tn p1) 8 0) (I (tn p1) 2 0)).2.2.2.2)))
set_option maxHeartbeats 4000000 in
set_option maxRecDepth 100000 in
theorem k4_drop (l : Launch) (D : va_G) (ty : List (ClassId × FieldType)) (a : Nat → Nat) (b : Nat → Nat → Nat) (n : Nat) (cI cO : ClassId) (ht0 : ty[0]? = some (cI, .int)) (ht1 : ty[1]? = some (cO, .object "RentSizes$Item")) (c0 : Nat → Int32) (c1 : Nat → Int32) (c2 : Nat → Int32) (c3 : Nat → Int32) (u4 : Int32) (c5 : Nat → Int32) (c6 : Nat → Int32) (c7 : Nat → Int32) (u8 : Int32) (u9 : Int32) (u10 : Int32) (c11 : Nat → Int32) (u12 : Int32) (u13 : Int32) (I : Nat → Nat → Nat → Int32) (p1 : Int32) (hob : u12 = nI (tn u12)) (hob2 : tn u12 ≤ n) (hn60 : n ≤ 60) (hlk : ∀ i, i < tn u12 → I i 8 0 = nI (tn (I i 8 0)) ∧ tn (I i 8 0) ≤ 16) : MetG l yX4_drop wsX4_drop { frames := 3, cells := 0, slots := 0, locals := 71 } D ty [.ref (a 0), .int (p1)] (CW a b n cI cO c0 c1 c2 c3 u4 c5 c6 c7 u8 u9 u10 c11 u12 u13 I) (va_Qi (fun r w => r = (f4_drop c5 u8 u12 I p1).1 ∧ w = CW a b n cI cO c0 c1 c2 c3 u4 ((f4_drop c5 u8 u12 I p1).2.1) c6 c7 ((f4_drop c5 u8 u12 I p1).2.2.1) u9 u10 c11 u12 u13 ((f4_drop c5 u8 u12 I p1).2.2.2))) 0 0 := by
  refine Met_start cX4_drop 4 (some .int) (by decide) rfl (Nat.le_of_ble_eq_true rfl) ?_
  intro p e s m below meth c A ls hx hb hr hlocks hml hnm hts hown hw hl
  have hl : lv_has ls 4 [(0, .ref (a 0)), (1, .int (p1))] := hl
  have i1 : ∀ w ∈ wsX10, w ∈ wsX4_drop := fun _ h => List.mem_cons_of_mem _ (List.mem_append_left _ (List.mem_append_left _ (List.mem_append_left _ (List.mem_append_right _ h))))
  refine lv_aload_n hx hb dX4_drop_0 rfl (lv_at hl 0 rfl) ?_
  refine lv_iload_n hx hb dX4_drop_1 rfl (lv_at hl 1 rfl) ?_
  refine r_callVq 0 rfl rfl (rest := []) ⟨hx, hb, hml, hown, hts⟩ hw [.int (p1)] (k4_find l D ty a b n cI cO ht0 ht1 c0 c1 c2 c3 u4 c5 c6 c7 u8 u9 u10 c11 u12 u13 I p1 (by assumption) (by assumption) (by assumption)) (cwV 1 hts gX4_drop_X4_find rfl rfl rfl (by decide +kernel) ⟨Nat.le_of_ble_eq_true rfl, Nat.le_of_ble_eq_true rfl⟩) rfl hl.1 rfl (Nat.le_of_ble_eq_true rfl) dX4_drop_2 ⟨Nat.le_of_ble_eq_true rfl, Nat.le_of_ble_eq_true rfl⟩ (fun r w H locs hp hw => ?_)
  obtain ⟨hr1, rfl⟩ := hp
  by_cases c_2 : f4_within p1 0 (u12 - 1) = 0
  · rw [if_pos c_2] at hr1
    subst hr1
    refine lv_astore_nN (lv' := [(2, .null), (0, .ref (a 0)), (1, .int (p1))]) hx hb dX4_drop_5 rfl hl (by decide) rfl (fun ls hl => ?_)
    refine lv_aload_nN hx hb dX4_drop_6 rfl (lv_at hl 0 rfl) ?_
    refine lv_ifnonnullN hx hb dX4_drop_7 ?_
    refine lv_bipush (v := (-101)) hx hb dX4_drop_10 (by decide) ?_
    have e9 : f4_drop c5 u8 u12 I p1 = ((-101), c5, u8, I) := by unfold f4_drop; rw [if_pos c_2]
    exact r_iret hx hb hr hlocks hw ⟨by rw [e9] <;> rfl, by rw [e9] <;> rfl⟩ dX4_drop_12
  · rw [if_neg c_2] at hr1
    obtain ⟨i, hii, rfl⟩ := fi_in c_2 (by assumption) (by assumption) (by assumption)
    rw [tn_nI (by omega)] at hr1
    subst hr1
    have hi : i < n := by omega
    have hc0 := (hlk i hii).1
    have hc1 := (hlk i hii).2
    refine lv_astore_n (lv' := [(2, .ref (b i 0)), (0, .ref (a 0)), (1, .int (nI (i)))]) hx hb dX4_drop_5 rfl hl (by decide) rfl (fun ls hl => ?_)
    refine lv_aload_n hx hb dX4_drop_6 rfl (lv_at hl 0 rfl) ?_
    refine lv_ifnonnull (tgt := 13) hx hb dX4_drop_7 (by decide) ?_
    refine lv_aload_n hx hb dX4_drop_13 rfl (lv_at hl 0 rfl) ?_
    refine r_getN (C := RX1) (T := TX1) (v := .int (I i 4 0)) hx hb hts i1 hown hw (12 + (6 * i + 0)) (CW_get _ (i := i) (by assumption) (by decide) rfl) rfl 5 (by decide) (List.mem_of_getElem? (i := 2) rfl) rfl dX4_drop_14 ?_
    refine lv_iconst (v := 2) hx hb dX4_drop_17 (by decide) ?_
    refine lv_icmp_ne (tgt := 24) hx hb dX4_drop_18 (by decide) (fun c_18 => ?_) (fun c_18 => ?_)
    · refine lv_aload_n hx hb dX4_drop_24 rfl (lv_at hl 1 rfl) ?_
      refine lv_aload_n hx hb dX4_drop_25 rfl (lv_at hl 0 rfl) ?_
      refine lv_aload_n hx hb dX4_drop_26 rfl (lv_at hl 0 rfl) ?_
      refine r_getN (C := RX1) (T := TX1) (v := .int (I i 2 0)) hx hb hts i1 hown hw (12 + (6 * i + 0)) (CW_get _ (i := i) (by assumption) (by decide) rfl) rfl 3 (by decide) (List.mem_of_getElem? (i := 4) rfl) rfl dX4_drop_27 ?_
      refine r_callVi 0 rfl rfl (rest := []) ⟨hx, hb, hml, hown, hts⟩ (hw.cast (CW_foc _ i)) [.ref (b i 0), .int (I i 2 0)] (k4_giveBack l D ty a b n cI cO ht0 ht1 c0 c1 c2 c3 u4 c5 c6 c7 u8 u9 u10 c11 u12 u13 I i (I i 0) (I i 1 0) (I i 2 0) (I i 3 0) (I i 4 0) (I i 5) (I i 6) (I i 7) (I i 8 0) (I i 2 0) (by first | assumption | omega) (by first | assumption | omega) (by first | assumption | omega)) (cwV 2 hts gX4_drop_X4_giveBack rfl rfl rfl (by decide +kernel) ⟨Nat.le_of_ble_eq_true rfl, Nat.le_of_ble_eq_true rfl⟩) rfl hl.1 rfl (Nat.le_of_ble_eq_true rfl) dX4_drop_30 ⟨Nat.le_of_ble_eq_true rfl, Nat.le_of_ble_eq_true rfl⟩ (fun r w H locs hp hw => ?_)
      obtain ⟨rfl, rfl⟩ := hp
      refine lv_istore_n (lv' := [(3, .int ((f4_giveBack c5 u8 (I i 5) (I i 6) (I i 7) (I i 8 0) (I i 2 0)).1)), (2, .ref (b i 0)), (0, .ref (a 0)), (1, .int (nI (i)))]) hx hb dX4_drop_33 rfl hl (by decide) rfl (fun ls hl => ?_)
      refine lv_aload_n hx hb dX4_drop_34 rfl (lv_at hl 1 rfl) ?_
      refine lv_iconst (v := 2) hx hb dX4_drop_35 (by decide) ?_
      refine r_putN (C := RX1) (T := TX1) (ws' := CW a b n cI cO c0 c1 c2 c3 u4 ((f4_giveBack c5 u8 (I i 5) (I i 6) (I i 7) (I i 8 0) (I i 2 0)).2.1) c6 c7 ((f4_giveBack c5 u8 (I i 5) (I i 6) (I i 7) (I i 8 0) (I i 2 0)).2.2.1) u9 u10 c11 u12 u13 (va_up I i (JX (I i 0) (I i 1 0) (I i 2 0) (I i 3 0) 2 ((f4_giveBack c5 u8 (I i 5) (I i 6) (I i 7) (I i 8 0) (I i 2 0)).2.2.2.1) (I i 6) (I i 7) ((f4_giveBack c5 u8 (I i 5) (I i 6) (I i 7) (I i 8 0) (I i 2 0)).2.2.2.2)))) hx hb hts i1 tyX1 tyX1_ok nmX1 hown hw (12 + (6 * i + 0)) (CW_getF _ _ _ (by assumption) (by decide) rfl) rfl 5 (by decide) (List.mem_of_getElem? (i := 2) rfl) rfl (by decide +kernel) (Nat.le_of_ble_eq_true rfl) (CW_t4 (by assumption) _) dX4_drop_36 (fun H locs hw => ?_)
      refine lv_iload_n hx hb dX4_drop_39 rfl (lv_at hl 0 rfl) ?_
      have e9 : f4_drop c5 u8 u12 I (nI i) = ((f4_giveBack c5 u8 (I i 5) (I i 6) (I i 7) (I i 8 0) (I i 2 0)).1, (f4_giveBack c5 u8 (I i 5) (I i 6) (I i 7) (I i 8 0) (I i 2 0)).2.1, (f4_giveBack c5 u8 (I i 5) (I i 6) (I i 7) (I i 8 0) (I i 2 0)).2.2.1, va_up I i (JX (I i 0) (I i 1 0) (I i 2 0) (I i 3 0) 2 ((f4_giveBack c5 u8 (I i 5) (I i 6) (I i 7) (I i 8 0) (I i 2 0)).2.2.2.1) (I i 6) (I i 7) ((f4_giveBack c5 u8 (I i 5) (I i 6) (I i 7) (I i 8 0) (I i 2 0)).2.2.2.2))) := by unfold f4_drop; simp only [nI_clamp (show i < 2 ^ 31 by omega)]; rw [if_neg c_2, if_neg c_18]
      exact r_iret hx hb hr hlocks hw ⟨by rw [e9] <;> rfl, by rw [e9] <;> rfl⟩ dX4_drop_40
    · refine lv_bipush (v := (-103)) hx hb dX4_drop_21 (by decide) ?_
      have e9 : f4_drop c5 u8 u12 I (nI i) = ((-103), c5, u8, I) := by unfold f4_drop; simp only [nI_clamp (show i < 2 ^ 31 by omega)]; rw [if_neg c_2, if_pos c_18]
      exact r_iret hx hb hr hlocks hw ⟨by rw [e9] <;> rfl, by rw [e9] <;> rfl⟩ dX4_drop_23
def f4_back (c0 : Nat → Int32) (c2 : Nat → Int32) (c3 : Nat → Int32) (u4 : Int32) (c5 : Nat → Int32) (u8 : Int32) (u9 : Int32) (c11 : Nat → Int32) (u12 : Int32) (u13 : Int32) (I : Nat → Nat → Nat → Int32) (p1 : Int32) (p2 : Int32) (p3 : Int32) (p4 : Int32) : Int32 × (Nat → Int32) × Int32 × Int32 × (Nat → Nat → Nat → Int32) :=
  if f4_within p1 0 (u12 - 1) = 0 then ((-101), c5, u8, u9, I)
  else if (f4_isAccount p2) = 0 then ((-101), c5, u8, u9, I)
  else if (f4_within p4 1 100) = 0 then ((-102), c5, u8, u9, I)
  else if (I (tn p1) 4 0) = 1 then (if p3 = (f1_sumUp (I (tn p1) 0) (I (tn p1) 2 0)) then (if (f4_capsAllow c11 u12 I (I (tn p1) 1 0) (I (tn p1) 2 0)) = 0 then ((-105), c5, u8, u9, I)
      else if (f3_canPay c5 p2 (f4_rentOf c0 c2 u4 u13 (f4_chargedSize c0 c3 u4 u13 (I (tn p1) 2 0)) ((u13 - (I (tn p1) 3 0)) + p4))) = 0 then ((-106), c5, u8, u9, I)
      else ((f3_takeFrom c5 u8 u9 p2 0 (f4_rentOf c0 c2 u4 u13 (f4_chargedSize c0 c3 u4 u13 (I (tn p1) 2 0)) ((u13 - (I (tn p1) 3 0)) + p4))).1, (f3_takeFrom c5 u8 u9 p2 0 (f4_rentOf c0 c2 u4 u13 (f4_chargedSize c0 c3 u4 u13 (I (tn p1) 2 0)) ((u13 - (I (tn p1) 3 0)) + p4))).2.1, (f3_takeFrom c5 u8 u9 p2 0 (f4_rentOf c0 c2 u4 u13 (f4_chargedSize c0 c3 u4 u13 (I (tn p1) 2 0)) ((u13 - (I (tn p1) 3 0)) + p4))).2.2.1, (f3_takeFrom c5 u8 u9 p2 0 (f4_rentOf c0 c2 u4 u13 (f4_chargedSize c0 c3 u4 u13 (I (tn p1) 2 0)) ((u13 - (I (tn p1) 3 0)) + p4))).2.2.2, va_up I (tn p1) (JX (I (tn p1) 0) (I (tn p1) 1 0) (I (tn p1) 2 0) (u13 + p4) 0 (I (tn p1) 5) (I (tn p1) 6) (I (tn p1) 7) (I (tn p1) 8 0))))
    else ((-104), c5, u8, u9, I))
  else ((-103), c5, u8, u9, I)
set_option maxHeartbeats 4000000 in
set_option maxRecDepth 100000 in
theorem k4_back (l : Launch) (D : va_G) (ty : List (ClassId × FieldType)) (a : Nat → Nat) (b : Nat → Nat → Nat) (n : Nat) (cI cO : ClassId) (ht0 : ty[0]? = some (cI, .int)) (ht1 : ty[1]? = some (cO, .object "RentSizes$Item")) (c0 : Nat → Int32) (c1 : Nat → Int32) (c2 : Nat → Int32) (c3 : Nat → Int32) (u4 : Int32) (c5 : Nat → Int32) (c6 : Nat → Int32) (c7 : Nat → Int32) (u8 : Int32) (u9 : Int32) (u10 : Int32) (c11 : Nat → Int32) (u12 : Int32) (u13 : Int32) (I : Nat → Nat → Nat → Int32) (p1 : Int32) (p2 : Int32) (p3 : Int32) (p4 : Int32) (hob : u12 = nI (tn u12)) (hob2 : tn u12 ≤ n) (hn60 : n ≤ 60) (he0 : u4 = nI (tn u4)) (he1 : tn u4 ≤ 10) (he2 : 1 ≤ tn u4) (how : ∀ i, i < tn u12 → vp_in (I i 1 0) 6) : MetG l yX4_back wsX4_back { frames := 3, cells := 0, slots := 0, locals := 65 } D ty [.ref (a 0), .int (p1), .int (p2), .int (p3), .int (p4)] (CW a b n cI cO c0 c1 c2 c3 u4 c5 c6 c7 u8 u9 u10 c11 u12 u13 I) (va_Qi (fun r w => r = (f4_back c0 c2 c3 u4 c5 u8 u9 c11 u12 u13 I p1 p2 p3 p4).1 ∧ w = CW a b n cI cO c0 c1 c2 c3 u4 ((f4_back c0 c2 c3 u4 c5 u8 u9 c11 u12 u13 I p1 p2 p3 p4).2.1) c6 c7 ((f4_back c0 c2 c3 u4 c5 u8 u9 c11 u12 u13 I p1 p2 p3 p4).2.2.1) ((f4_back c0 c2 c3 u4 c5 u8 u9 c11 u12 u13 I p1 p2 p3 p4).2.2.2.1) u10 c11 u12 u13 ((f4_back c0 c2 c3 u4 c5 u8 u9 c11 u12 u13 I p1 p2 p3 p4).2.2.2.2))) 0 0 := by
  refine Met_start cX4_back 8 (some .int) (by decide) rfl (Nat.le_of_ble_eq_true rfl) ?_
  intro p e s m below meth c A ls hx hb hr hlocks hml hnm hts hown hw hl
  have hl : lv_has ls 8 [(0, .ref (a 0)), (1, .int (p1)), (2, .int (p2)), (3, .int (p3)), (4, .int (p4))] := hl
  have i1 : ∀ w ∈ wsX10, w ∈ wsX4_back := fun _ h => List.mem_cons_of_mem _ (List.mem_append_left _ (List.mem_append_left _ (List.mem_append_left _ (List.mem_append_right _ h))))
  have i4 : ∀ w ∈ wsX40, w ∈ wsX4_back := fun _ h => List.mem_cons_of_mem _ (List.mem_append_left _ (List.mem_append_left _ (List.mem_append_right _ h)))
  have lk41 := hts (.fieldLink RX4 41 "RentSizes" "height" "I") (by decide +kernel)
  have lk19 := hts (.fieldLink RX4 19 "RentSizes" "ledger" "LRentSizes$Ledger;") (by decide +kernel)
  refine lv_aload_n hx hb dX4_back_0 rfl (lv_at hl 0 rfl) ?_
  refine lv_iload_n hx hb dX4_back_1 rfl (lv_at hl 1 rfl) ?_
  refine r_callVq 0 rfl rfl (rest := []) ⟨hx, hb, hml, hown, hts⟩ hw [.int (p1)] (k4_find l D ty a b n cI cO ht0 ht1 c0 c1 c2 c3 u4 c5 c6 c7 u8 u9 u10 c11 u12 u13 I p1 (by assumption) (by assumption) (by assumption)) (cwV 1 hts gX4_back_X4_find rfl rfl rfl (by decide +kernel) ⟨Nat.le_of_ble_eq_true rfl, Nat.le_of_ble_eq_true rfl⟩) rfl hl.1 rfl (Nat.le_of_ble_eq_true rfl) dX4_back_2 ⟨Nat.le_of_ble_eq_true rfl, Nat.le_of_ble_eq_true rfl⟩ (fun r w H locs hp hw => ?_)
  obtain ⟨hr1, rfl⟩ := hp
  by_cases c_2 : f4_within p1 0 (u12 - 1) = 0
  · rw [if_pos c_2] at hr1
    subst hr1
    refine lv_astoreN (lv' := [(5, .null), (0, .ref (a 0)), (1, .int (p1)), (2, .int (p2)), (3, .int (p3)), (4, .int (p4))]) hx hb dX4_back_5 hl (by decide) rfl (fun ls hl => ?_)
    refine lv_aloadN hx hb dX4_back_7 (lv_at hl 0 rfl) ?_
    refine lv_ifnullN (tgt := 19) hx hb dX4_back_9 (by decide) ?_
    refine lv_bipush (v := (-101)) hx hb dX4_back_19 (by decide) ?_
    have e9 : f4_back c0 c2 c3 u4 c5 u8 u9 c11 u12 u13 I p1 p2 p3 p4 = ((-101), c5, u8, u9, I) := by unfold f4_back; rw [if_pos c_2]
    exact r_iret hx hb hr hlocks hw ⟨by rw [e9] <;> rfl, by rw [e9] <;> rfl⟩ dX4_back_21
  · rw [if_neg c_2] at hr1
    obtain ⟨i, hii, rfl⟩ := fi_in c_2 (by assumption) (by assumption) (by assumption)
    rw [tn_nI (by omega)] at hr1
    subst hr1
    have hi : i < n := by omega
    refine lv_astore (lv' := [(5, .ref (b i 0)), (0, .ref (a 0)), (1, .int (nI (i))), (2, .int (p2)), (3, .int (p3)), (4, .int (p4))]) hx hb dX4_back_5 hl (by decide) rfl (fun ls hl => ?_)
    refine lv_aload hx hb dX4_back_7 (lv_at hl 0 rfl) ?_
    refine lv_ifnull hx hb dX4_back_9 ?_
    refine lv_iload_n hx hb dX4_back_12 rfl (lv_at hl 3 rfl) ?_
    refine r_callSi (rest := []) ⟨hx, hb, hml, hown, hts⟩ hw [.int (p2)] (k4_isAccount l D ty a b n cI cO ht0 ht1 c0 c1 c2 c3 u4 c5 c6 c7 u8 u9 u10 c11 u12 u13 I p2) (va_cwS 1 hts gX4_back_X4_isAccount rfl rfl rfl (by decide +kernel) ⟨Nat.le_of_ble_eq_true rfl, Nat.le_of_ble_eq_true rfl⟩) rfl hl.1 rfl (Nat.le_of_ble_eq_true rfl) dX4_back_13 ⟨Nat.le_of_ble_eq_true rfl, Nat.le_of_ble_eq_true rfl⟩ (fun r w H locs hp hw => ?_)
    obtain ⟨rfl, rfl⟩ := hp
    refine lv_if_ne (tgt := 22) hx hb dX4_back_16 (by decide) (fun c_16 => ?_) (fun c_16 => ?_)
    · have hv2 := ia_in c_16
      refine lv_iload hx hb dX4_back_22 (lv_at hl 5 rfl) ?_
      refine lv_iconst (v := 1) hx hb dX4_back_24 (by decide) ?_
      refine lv_bipush (v := 100) hx hb dX4_back_25 (by decide) ?_
      refine r_callSi (rest := []) ⟨hx, hb, hml, hown, hts⟩ hw [.int (p4), .int (1), .int (100)] (k4_within l D ty a b n cI cO ht0 ht1 c0 c1 c2 c3 u4 c5 c6 c7 u8 u9 u10 c11 u12 u13 I p4 1 100) (va_cwS 3 hts gX4_back_X4_within rfl rfl rfl (by decide +kernel) ⟨Nat.le_of_ble_eq_true rfl, Nat.le_of_ble_eq_true rfl⟩) rfl hl.1 rfl (Nat.le_of_ble_eq_true rfl) dX4_back_27 ⟨Nat.le_of_ble_eq_true rfl, Nat.le_of_ble_eq_true rfl⟩ (fun r w H locs hp hw => ?_)
      obtain ⟨rfl, rfl⟩ := hp
      refine lv_if_ne (tgt := 36) hx hb dX4_back_30 (by decide) (fun c_30 => ?_) (fun c_30 => ?_)
      · refine lv_aload hx hb dX4_back_36 (lv_at hl 0 rfl) ?_
        refine r_getN (C := RX1) (T := TX1) (v := .int (I i 4 0)) hx hb hts i1 hown hw (12 + (6 * i + 0)) (CW_get _ (i := i) (by assumption) (by decide) rfl) rfl 5 (by decide) (List.mem_of_getElem? (i := 2) rfl) rfl dX4_back_38 ?_
        refine lv_iconst (v := 1) hx hb dX4_back_41 (by decide) ?_
        refine lv_icmp_eq (tgt := 48) hx hb dX4_back_42 (by decide) (fun c_42 => ?_) (fun c_42 => ?_)
        · refine lv_iload_n hx hb dX4_back_48 rfl (lv_at hl 4 rfl) ?_
          refine lv_aload hx hb dX4_back_49 (lv_at hl 0 rfl) ?_
          refine r_callVi (12 + (6 * i + 0)) (CW_getF _ _ _ (by assumption) (by decide) rfl) rfl (rest := [.int (p3)]) ⟨hx, hb, hml, hown, hts⟩ (hw.cast (CW_foc _ i)) [] (k1_sumUp l D ty a b n cI cO ht0 ht1 c0 c1 c2 c3 u4 c5 c6 c7 u8 u9 u10 c11 u12 u13 I i (I i 0) (I i 1 0) (I i 2 0) (I i 3 0) (I i 4 0) (I i 5) (I i 6) (I i 7) (I i 8 0) (by first | assumption | omega)) (cwV 0 hts gX4_back_X1_sumUp rfl rfl rfl (by decide +kernel) ⟨Nat.le_of_ble_eq_true rfl, Nat.le_of_ble_eq_true rfl⟩) rfl hl.1 rfl (Nat.le_of_ble_eq_true rfl) dX4_back_51 ⟨Nat.le_of_ble_eq_true rfl, Nat.le_of_ble_eq_true rfl⟩ (fun r w H locs hp hw => ?_)
          obtain ⟨rfl, rfl⟩ := hp
          replace hw := hw.cast (CW_foc _ i).symm
          refine lv_icmp_eq (tgt := 60) hx hb dX4_back_54 (by decide) (fun c_54 => ?_) (fun c_54 => ?_)
          · refine lv_aload_n hx hb dX4_back_60 rfl (lv_at hl 1 rfl) ?_
            refine lv_aload hx hb dX4_back_61 (lv_at hl 0 rfl) ?_
            refine r_getN (C := RX1) (T := TX1) (v := .int (I i 1 0)) hx hb hts i1 hown hw (12 + (6 * i + 0)) (CW_get _ (i := i) (by assumption) (by decide) rfl) rfl 2 (by decide) (List.mem_of_getElem? (i := 3) rfl) rfl dX4_back_63 ?_
            refine lv_aload hx hb dX4_back_66 (lv_at hl 0 rfl) ?_
            refine r_getN (C := RX1) (T := TX1) (v := .int (I i 2 0)) hx hb hts i1 hown hw (12 + (6 * i + 0)) (CW_get _ (i := i) (by assumption) (by decide) rfl) rfl 3 (by decide) (List.mem_of_getElem? (i := 4) rfl) rfl dX4_back_68 ?_
            refine r_callVi 0 rfl rfl (rest := []) ⟨hx, hb, hml, hown, hts⟩ hw [.int (I i 1 0), .int (I i 2 0)] (k4_capsAllow l D ty a b n cI cO ht0 ht1 c0 c1 c2 c3 u4 c5 c6 c7 u8 u9 u10 c11 u12 u13 I (I i 1 0) (I i 2 0) hob hob2 hn60 (how i hii)) (cwV 2 hts gX4_back_X4_capsAllow rfl rfl rfl (by decide +kernel) ⟨Nat.le_of_ble_eq_true rfl, Nat.le_of_ble_eq_true rfl⟩) rfl hl.1 rfl (Nat.le_of_ble_eq_true rfl) dX4_back_71 ⟨Nat.le_of_ble_eq_true rfl, Nat.le_of_ble_eq_true rfl⟩ (fun r w H locs hp hw => ?_)
            obtain ⟨rfl, rfl⟩ := hp
            refine lv_if_ne (tgt := 80) hx hb dX4_back_74 (by decide) (fun c_74 => ?_) (fun c_74 => ?_)
            · refine lv_aload_n hx hb dX4_back_80 rfl (lv_at hl 1 rfl) ?_
              refine lv_aload_n hx hb dX4_back_81 rfl (lv_at hl 1 rfl) ?_
              refine lv_aload hx hb dX4_back_82 (lv_at hl 0 rfl) ?_
              refine r_getN (C := RX1) (T := TX1) (v := .int (I i 2 0)) hx hb hts i1 hown hw (12 + (6 * i + 0)) (CW_get _ (i := i) (by assumption) (by decide) rfl) rfl 3 (by decide) (List.mem_of_getElem? (i := 4) rfl) rfl dX4_back_84 ?_
              refine r_callVi 0 rfl rfl (rest := [.ref (a 0)]) ⟨hx, hb, hml, hown, hts⟩ hw [.int (I i 2 0)] (k4_chargedSize l D ty a b n cI cO ht0 ht1 c0 c1 c2 c3 u4 c5 c6 c7 u8 u9 u10 c11 u12 u13 I (I i 2 0) (by first | assumption | omega) (by first | assumption | omega) (by first | assumption | omega)) (cwV 1 hts gX4_back_X4_chargedSize rfl rfl rfl (by decide +kernel) ⟨Nat.le_of_ble_eq_true rfl, Nat.le_of_ble_eq_true rfl⟩) rfl hl.1 rfl (Nat.le_of_ble_eq_true rfl) dX4_back_87 ⟨Nat.le_of_ble_eq_true rfl, Nat.le_of_ble_eq_true rfl⟩ (fun r w H locs hp hw => ?_)
              obtain ⟨rfl, rfl⟩ := hp
              refine lv_aload_n hx hb dX4_back_90 rfl (lv_at hl 1 rfl) ?_
              refine r_get (C := RX4) (T := TX4) (v := .int (u13)) hx hb hts i4 hown hw 0 rfl rfl 5 (by decide) lk41 rfl dX4_back_91 ?_
              refine lv_aload hx hb dX4_back_94 (lv_at hl 0 rfl) ?_
              refine r_getN (C := RX1) (T := TX1) (v := .int (I i 3 0)) hx hb hts i1 hown hw (12 + (6 * i + 0)) (CW_get _ (i := i) (by assumption) (by decide) rfl) rfl 4 (by decide) (List.mem_of_getElem? (i := 5) rfl) rfl dX4_back_96 ?_
              refine lv_isub hx hb dX4_back_99 ?_
              refine lv_iload hx hb dX4_back_100 (lv_at hl 5 rfl) ?_
              refine lv_iadd hx hb dX4_back_102 ?_
              refine r_callVl 0 rfl rfl (rest := []) ⟨hx, hb, hml, hown, hts⟩ hw [.int (f4_chargedSize c0 c3 u4 u13 (I i 2 0)), .int ((u13 - (I i 3 0)) + p4)] (k4_rentOf l D ty a b n cI cO ht0 ht1 c0 c1 c2 c3 u4 c5 c6 c7 u8 u9 u10 c11 u12 u13 I (f4_chargedSize c0 c3 u4 u13 (I i 2 0)) ((u13 - (I i 3 0)) + p4) (by first | assumption | omega) (by first | assumption | omega) (by first | assumption | omega)) (cwV 2 hts gX4_back_X4_rentOf rfl rfl rfl (by decide +kernel) ⟨Nat.le_of_ble_eq_true rfl, Nat.le_of_ble_eq_true rfl⟩) rfl hl.1 rfl (Nat.le_of_ble_eq_true rfl) dX4_back_103 ⟨Nat.le_of_ble_eq_true rfl, Nat.le_of_ble_eq_true rfl⟩ (fun r w H locs hp hw => ?_)
              obtain ⟨rfl, rfl⟩ := hp
              refine lv_lstore (lv' := [(6, .long (f4_rentOf c0 c2 u4 u13 (f4_chargedSize c0 c3 u4 u13 (I i 2 0)) ((u13 - (I i 3 0)) + p4))), (5, .ref (b i 0)), (0, .ref (a 0)), (1, .int (nI (i))), (2, .int (p2)), (3, .int (p3)), (4, .int (p4))]) hx hb dX4_back_106 hl (by decide) rfl (fun ls hl => ?_)
              refine lv_aload_n hx hb dX4_back_108 rfl (lv_at hl 2 rfl) ?_
              refine r_get (C := RX4) (T := TX4) (v := .ref (a 6)) hx hb hts i4 hown hw 0 rfl rfl 1 (by decide) lk19 rfl dX4_back_109 ?_
              refine lv_iload_n hx hb dX4_back_112 rfl (lv_at hl 4 rfl) ?_
              refine lv_lload hx hb dX4_back_113 (lv_at hl 0 rfl) ?_
              refine r_callVi 6 rfl rfl (rest := []) ⟨hx, hb, hml, hown, hts⟩ hw [.int (p2), .long (f4_rentOf c0 c2 u4 u13 (f4_chargedSize c0 c3 u4 u13 (I i 2 0)) ((u13 - (I i 3 0)) + p4))] (k3_canPay l D ty a b n cI cO ht0 ht1 c0 c1 c2 c3 u4 c5 c6 c7 u8 u9 u10 c11 u12 u13 I p2 (f4_rentOf c0 c2 u4 u13 (f4_chargedSize c0 c3 u4 u13 (I i 2 0)) ((u13 - (I i 3 0)) + p4)) (by first | assumption | omega)) (cwV 2 hts gX4_back_X3_canPay rfl rfl rfl (by decide +kernel) ⟨Nat.le_of_ble_eq_true rfl, Nat.le_of_ble_eq_true rfl⟩) rfl hl.1 rfl (Nat.le_of_ble_eq_true rfl) dX4_back_115 ⟨Nat.le_of_ble_eq_true rfl, Nat.le_of_ble_eq_true rfl⟩ (fun r w H locs hp hw => ?_)
              obtain ⟨rfl, rfl⟩ := hp
              refine lv_if_ne (tgt := 124) hx hb dX4_back_118 (by decide) (fun c_118 => ?_) (fun c_118 => ?_)
              · replace hw := hw.cast (CW_foc _ i)
                refine lv_aload hx hb dX4_back_124 (lv_at hl 1 rfl) ?_
                refine lv_iconst (v := 0) hx hb dX4_back_126 (by decide) ?_
                refine r_putN (C := RX1) (T := TX1) (ws' := CW a b n cI cO c0 c1 c2 c3 u4 c5 c6 c7 u8 u9 u10 c11 u12 u13 (va_up I i (JX (I i 0) (I i 1 0) (I i 2 0) (I i 3 0) 0 (I i 5) (I i 6) (I i 7) (I i 8 0)))) hx hb hts i1 tyX1 tyX1_ok nmX1 hown hw (12 + (6 * i + 0)) (CW_getF _ _ _ (by assumption) (by decide) rfl) rfl 5 (by decide) (List.mem_of_getElem? (i := 2) rfl) rfl (by decide +kernel) (Nat.le_of_ble_eq_true rfl) (CW_t4 (by assumption) _) dX4_back_127 (fun H locs hw => ?_)
                refine lv_aload hx hb dX4_back_130 (lv_at hl 1 rfl) ?_
                refine lv_aload_n hx hb dX4_back_132 rfl (lv_at hl 2 rfl) ?_
                refine r_get (C := RX4) (T := TX4) (v := .int (u13)) hx hb hts i4 hown hw 0 rfl rfl 5 (by decide) lk41 rfl dX4_back_133 ?_
                refine lv_iload hx hb dX4_back_136 (lv_at hl 6 rfl) ?_
                refine lv_iadd hx hb dX4_back_138 ?_
                refine r_putN (C := RX1) (T := TX1) (ws' := CW a b n cI cO c0 c1 c2 c3 u4 c5 c6 c7 u8 u9 u10 c11 u12 u13 (va_up I i (JX (I i 0) (I i 1 0) (I i 2 0) (u13 + p4) 0 (I i 5) (I i 6) (I i 7) (I i 8 0)))) hx hb hts i1 tyX1 tyX1_ok nmX1 hown hw (12 + (6 * i + 0)) (CW_getF _ _ _ (by assumption) (by decide) rfl) rfl 4 (by decide) (List.mem_of_getElem? (i := 5) rfl) rfl (by decide +kernel) (Nat.le_of_ble_eq_true rfl) (CW_t3 (by assumption) _) dX4_back_139 (fun H locs hw => ?_)
                refine lv_aload_n hx hb dX4_back_142 rfl (lv_at hl 2 rfl) ?_
                refine r_get (C := RX4) (T := TX4) (v := .ref (a 6)) hx hb hts i4 hown hw 0 rfl rfl 1 (by decide) lk19 rfl dX4_back_143 ?_
                refine lv_iload_n hx hb dX4_back_146 rfl (lv_at hl 4 rfl) ?_
                refine lv_lconst (v := 0) hx hb dX4_back_147 (by decide) ?_
                refine lv_lload hx hb dX4_back_148 (lv_at hl 0 rfl) ?_
                refine r_callVi 6 rfl rfl (rest := []) ⟨hx, hb, hml, hown, hts⟩ hw [.int (p2), .long (0), .long (f4_rentOf c0 c2 u4 u13 (f4_chargedSize c0 c3 u4 u13 (I i 2 0)) ((u13 - (I i 3 0)) + p4))] (k3_takeFrom l D ty a b n cI cO ht0 ht1 c0 c1 c2 c3 u4 c5 c6 c7 u8 u9 u10 c11 u12 u13 (va_up I i (JX (I i 0) (I i 1 0) (I i 2 0) (u13 + p4) 0 (I i 5) (I i 6) (I i 7) (I i 8 0))) p2 0 (f4_rentOf c0 c2 u4 u13 (f4_chargedSize c0 c3 u4 u13 (I i 2 0)) ((u13 - (I i 3 0)) + p4)) (by first | assumption | omega)) (cwV 3 hts gX4_back_X3_takeFrom rfl rfl rfl (by decide +kernel) ⟨Nat.le_of_ble_eq_true rfl, Nat.le_of_ble_eq_true rfl⟩) rfl hl.1 rfl (Nat.le_of_ble_eq_true rfl) dX4_back_150 ⟨Nat.le_of_ble_eq_true rfl, Nat.le_of_ble_eq_true rfl⟩ (fun r w H locs hp hw => ?_)
                obtain ⟨rfl, rfl⟩ := hp
                have e9 : f4_back c0 c2 c3 u4 c5 u8 u9 c11 u12 u13 I (nI i) p2 p3 p4 = ((f3_takeFrom c5 u8 u9 p2 0 (f4_rentOf c0 c2 u4 u13 (f4_chargedSize c0 c3 u4 u13 (I i 2 0)) ((u13 - (I i 3 0)) + p4))).1, (f3_takeFrom c5 u8 u9 p2 0 (f4_rentOf c0 c2 u4 u13 (f4_chargedSize c0 c3 u4 u13 (I i 2 0)) ((u13 - (I i 3 0)) + p4))).2.1, (f3_takeFrom c5 u8 u9 p2 0 (f4_rentOf c0 c2 u4 u13 (f4_chargedSize c0 c3 u4 u13 (I i 2 0)) ((u13 - (I i 3 0)) + p4))).2.2.1, (f3_takeFrom c5 u8 u9 p2 0 (f4_rentOf c0 c2 u4 u13 (f4_chargedSize c0 c3 u4 u13 (I i 2 0)) ((u13 - (I i 3 0)) + p4))).2.2.2, va_up I i (JX (I i 0) (I i 1 0) (I i 2 0) (u13 + p4) 0 (I i 5) (I i 6) (I i 7) (I i 8 0))) := by unfold f4_back; simp only [nI_clamp (show i < 2 ^ 31 by omega)]; rw [if_neg c_2, if_neg c_16, if_neg c_30, if_pos c_42, if_pos c_54, if_neg c_74, if_neg c_118]
                exact r_iret hx hb hr hlocks hw ⟨by rw [e9] <;> rfl, by rw [e9] <;> rfl⟩ dX4_back_153
              · refine lv_bipush (v := (-106)) hx hb dX4_back_121 (by decide) ?_
                have e9 : f4_back c0 c2 c3 u4 c5 u8 u9 c11 u12 u13 I (nI i) p2 p3 p4 = ((-106), c5, u8, u9, I) := by unfold f4_back; simp only [nI_clamp (show i < 2 ^ 31 by omega)]; rw [if_neg c_2, if_neg c_16, if_neg c_30, if_pos c_42, if_pos c_54, if_neg c_74, if_pos c_118]
                exact r_iret hx hb hr hlocks hw ⟨by rw [e9] <;> rfl, by rw [e9] <;> rfl⟩ dX4_back_123
            · refine lv_bipush (v := (-105)) hx hb dX4_back_77 (by decide) ?_
              have e9 : f4_back c0 c2 c3 u4 c5 u8 u9 c11 u12 u13 I (nI i) p2 p3 p4 = ((-105), c5, u8, u9, I) := by unfold f4_back; simp only [nI_clamp (show i < 2 ^ 31 by omega)]; rw [if_neg c_2, if_neg c_16, if_neg c_30, if_pos c_42, if_pos c_54, if_pos c_74]
              exact r_iret hx hb hr hlocks hw ⟨by rw [e9] <;> rfl, by rw [e9] <;> rfl⟩ dX4_back_79
          · refine lv_bipush (v := (-104)) hx hb dX4_back_57 (by decide) ?_
            have e9 : f4_back c0 c2 c3 u4 c5 u8 u9 c11 u12 u13 I (nI i) p2 p3 p4 = ((-104), c5, u8, u9, I) := by unfold f4_back; simp only [nI_clamp (show i < 2 ^ 31 by omega)]; rw [if_neg c_2, if_neg c_16, if_neg c_30, if_pos c_42, if_neg c_54]
            exact r_iret hx hb hr hlocks hw ⟨by rw [e9] <;> rfl, by rw [e9] <;> rfl⟩ dX4_back_59
        · refine lv_bipush (v := (-103)) hx hb dX4_back_45 (by decide) ?_
          have e9 : f4_back c0 c2 c3 u4 c5 u8 u9 c11 u12 u13 I (nI i) p2 p3 p4 = ((-103), c5, u8, u9, I) := by unfold f4_back; simp only [nI_clamp (show i < 2 ^ 31 by omega)]; rw [if_neg c_2, if_neg c_16, if_neg c_30, if_neg c_42]
          exact r_iret hx hb hr hlocks hw ⟨by rw [e9] <;> rfl, by rw [e9] <;> rfl⟩ dX4_back_47
      · refine lv_bipush (v := (-102)) hx hb dX4_back_33 (by decide) ?_
        have e9 : f4_back c0 c2 c3 u4 c5 u8 u9 c11 u12 u13 I (nI i) p2 p3 p4 = ((-102), c5, u8, u9, I) := by unfold f4_back; simp only [nI_clamp (show i < 2 ^ 31 by omega)]; rw [if_neg c_2, if_neg c_16, if_pos c_30]
        exact r_iret hx hb hr hlocks hw ⟨by rw [e9] <;> rfl, by rw [e9] <;> rfl⟩ dX4_back_35
    · refine lv_bipush (v := (-101)) hx hb dX4_back_19 (by decide) ?_
      have e9 : f4_back c0 c2 c3 u4 c5 u8 u9 c11 u12 u13 I (nI i) p2 p3 p4 = ((-101), c5, u8, u9, I) := by unfold f4_back; simp only [nI_clamp (show i < 2 ^ 31 by omega)]; rw [if_neg c_2, if_pos c_16]
      exact r_iret hx hb hr hlocks hw ⟨by rw [e9] <;> rfl, by rw [e9] <;> rfl⟩ dX4_back_21
def f4_digest (u12 : Int32) (I : Nat → Nat → Nat → Int32) (p1 : Int32) : Int32 :=
  if f4_within p1 0 (u12 - 1) = 0 then (-109)
  else f1_sumUp (I (tn p1) 0) (I (tn p1) 2 0)
set_option maxHeartbeats 4000000 in
set_option maxRecDepth 100000 in
theorem k4_digest (l : Launch) (D : va_G) (ty : List (ClassId × FieldType)) (a : Nat → Nat) (b : Nat → Nat → Nat) (n : Nat) (cI cO : ClassId) (ht0 : ty[0]? = some (cI, .int)) (ht1 : ty[1]? = some (cO, .object "RentSizes$Item")) (c0 : Nat → Int32) (c1 : Nat → Int32) (c2 : Nat → Int32) (c3 : Nat → Int32) (u4 : Int32) (c5 : Nat → Int32) (c6 : Nat → Int32) (c7 : Nat → Int32) (u8 : Int32) (u9 : Int32) (u10 : Int32) (c11 : Nat → Int32) (u12 : Int32) (u13 : Int32) (I : Nat → Nat → Nat → Int32) (p1 : Int32) (hob : u12 = nI (tn u12)) (hob2 : tn u12 ≤ n) (hn60 : n ≤ 60) : MetG l yX4_digest wsX4_digest { frames := 2, cells := 0, slots := 0, locals := 43 } D ty [.ref (a 0), .int (p1)] (CW a b n cI cO c0 c1 c2 c3 u4 c5 c6 c7 u8 u9 u10 c11 u12 u13 I) (va_Qi (fun r w => r = f4_digest u12 I p1 ∧ w = CW a b n cI cO c0 c1 c2 c3 u4 c5 c6 c7 u8 u9 u10 c11 u12 u13 I)) 0 0 := by
  refine Met_start cX4_digest 3 (some .int) (by decide) rfl (Nat.le_of_ble_eq_true rfl) ?_
  intro p e s m below meth c A ls hx hb hr hlocks hml hnm hts hown hw hl
  have hl : lv_has ls 3 [(0, .ref (a 0)), (1, .int (p1))] := hl
  refine lv_aload_n hx hb dX4_digest_0 rfl (lv_at hl 0 rfl) ?_
  refine lv_iload_n hx hb dX4_digest_1 rfl (lv_at hl 1 rfl) ?_
  refine r_callVq 0 rfl rfl (rest := []) ⟨hx, hb, hml, hown, hts⟩ hw [.int (p1)] (k4_find l D ty a b n cI cO ht0 ht1 c0 c1 c2 c3 u4 c5 c6 c7 u8 u9 u10 c11 u12 u13 I p1 (by assumption) (by assumption) (by assumption)) (cwV 1 hts gX4_digest_X4_find rfl rfl rfl (by decide +kernel) ⟨Nat.le_of_ble_eq_true rfl, Nat.le_of_ble_eq_true rfl⟩) rfl hl.1 rfl (Nat.le_of_ble_eq_true rfl) dX4_digest_2 ⟨Nat.le_of_ble_eq_true rfl, Nat.le_of_ble_eq_true rfl⟩ (fun r w H locs hp hw => ?_)
  obtain ⟨hr1, rfl⟩ := hp
  by_cases c_2 : f4_within p1 0 (u12 - 1) = 0
  · rw [if_pos c_2] at hr1
    subst hr1
    refine lv_astore_nN (lv' := [(2, .null), (0, .ref (a 0)), (1, .int (p1))]) hx hb dX4_digest_5 rfl hl (by decide) rfl (fun ls hl => ?_)
    refine lv_aload_nN hx hb dX4_digest_6 rfl (lv_at hl 0 rfl) ?_
    refine lv_ifnonnullN hx hb dX4_digest_7 ?_
    refine lv_bipush (v := (-109)) hx hb dX4_digest_10 (by decide) ?_
    refine lv_goto (tgt := 19) hx hb dX4_digest_12 (by decide) ?_
    have e9 : f4_digest u12 I p1 = (-109) := by unfold f4_digest; rw [if_pos c_2]
    exact r_iret hx hb hr hlocks hw ⟨by rw [e9] <;> rfl, rfl⟩ dX4_digest_19
  · rw [if_neg c_2] at hr1
    obtain ⟨i, hii, rfl⟩ := fi_in c_2 (by assumption) (by assumption) (by assumption)
    rw [tn_nI (by omega)] at hr1
    subst hr1
    have hi : i < n := by omega
    refine lv_astore_n (lv' := [(2, .ref (b i 0)), (0, .ref (a 0)), (1, .int (nI (i)))]) hx hb dX4_digest_5 rfl hl (by decide) rfl (fun ls hl => ?_)
    refine lv_aload_n hx hb dX4_digest_6 rfl (lv_at hl 0 rfl) ?_
    refine lv_ifnonnull (tgt := 15) hx hb dX4_digest_7 (by decide) ?_
    refine lv_aload_n hx hb dX4_digest_15 rfl (lv_at hl 0 rfl) ?_
    refine r_callVi (12 + (6 * i + 0)) (CW_getF _ _ _ (by assumption) (by decide) rfl) rfl (rest := []) ⟨hx, hb, hml, hown, hts⟩ (hw.cast (CW_foc _ i)) [] (k1_sumUp l D ty a b n cI cO ht0 ht1 c0 c1 c2 c3 u4 c5 c6 c7 u8 u9 u10 c11 u12 u13 I i (I i 0) (I i 1 0) (I i 2 0) (I i 3 0) (I i 4 0) (I i 5) (I i 6) (I i 7) (I i 8 0) (by first | assumption | omega)) (cwV 0 hts gX4_digest_X1_sumUp rfl rfl rfl (by decide +kernel) ⟨Nat.le_of_ble_eq_true rfl, Nat.le_of_ble_eq_true rfl⟩) rfl hl.1 rfl (Nat.le_of_ble_eq_true rfl) dX4_digest_16 ⟨Nat.le_of_ble_eq_true rfl, Nat.le_of_ble_eq_true rfl⟩ (fun r w H locs hp hw => ?_)
    obtain ⟨rfl, rfl⟩ := hp
    replace hw := hw.cast (CW_foc _ i).symm
    have e9 : f4_digest u12 I (nI i) = f1_sumUp (I i 0) (I i 2 0) := by unfold f4_digest; simp only [nI_clamp (show i < 2 ^ 31 by omega)]; rw [if_neg c_2]
    exact r_iret hx hb hr hlocks hw ⟨by rw [e9] <;> rfl, rfl⟩ dX4_digest_19
def f4_object (c0 : Nat → Int32) (c3 : Nat → Int32) (u4 : Int32) (u12 : Int32) (u13 : Int32) (I : Nat → Nat → Nat → Int32) (p1 : Int32) (p2 : Int32) : Int32 :=
  if f4_within p1 0 (u12 - 1) = 0 then (-101)
  else if p2 = 0 then I (tn p1) 1 0
  else if p2 = 1 then f1_sizeNow (I (tn p1) 2 0) (I (tn p1) 4 0)
  else if p2 = 2 then I (tn p1) 3 0
  else if p2 = 3 then I (tn p1) 4 0
  else if p2 = 4 then I (tn p1) 8 0
  else if p2 = 5 then f2_worth (I (tn p1) 5) (I (tn p1) 6) (I (tn p1) 8 0)
  else if p2 = 6 then (if (I (tn p1) 4 0) = 2 then 0
    else f4_chargedSize c0 c3 u4 u13 (I (tn p1) 2 0))
  else (-102)
set_option maxHeartbeats 4000000 in
set_option maxRecDepth 100000 in
theorem k4_object (l : Launch) (D : va_G) (ty : List (ClassId × FieldType)) (a : Nat → Nat) (b : Nat → Nat → Nat) (n : Nat) (cI cO : ClassId) (ht0 : ty[0]? = some (cI, .int)) (ht1 : ty[1]? = some (cO, .object "RentSizes$Item")) (c0 : Nat → Int32) (c1 : Nat → Int32) (c2 : Nat → Int32) (c3 : Nat → Int32) (u4 : Int32) (c5 : Nat → Int32) (c6 : Nat → Int32) (c7 : Nat → Int32) (u8 : Int32) (u9 : Int32) (u10 : Int32) (c11 : Nat → Int32) (u12 : Int32) (u13 : Int32) (I : Nat → Nat → Nat → Int32) (p1 : Int32) (p2 : Int32) (hob : u12 = nI (tn u12)) (hob2 : tn u12 ≤ n) (hn60 : n ≤ 60) (he0 : u4 = nI (tn u4)) (he1 : tn u4 ≤ 10) (he2 : 1 ≤ tn u4) (hlk : ∀ i, i < tn u12 → I i 8 0 = nI (tn (I i 8 0)) ∧ tn (I i 8 0) ≤ 16) : MetG l yX4_object wsX4_object { frames := 3, cells := 0, slots := 0, locals := 64 } D ty [.ref (a 0), .int (p1), .int (p2)] (CW a b n cI cO c0 c1 c2 c3 u4 c5 c6 c7 u8 u9 u10 c11 u12 u13 I) (va_Qi (fun r w => r = f4_object c0 c3 u4 u12 u13 I p1 p2 ∧ w = CW a b n cI cO c0 c1 c2 c3 u4 c5 c6 c7 u8 u9 u10 c11 u12 u13 I)) 0 0 := by
  refine Met_start cX4_object 4 (some .int) (by decide) rfl (Nat.le_of_ble_eq_true rfl) ?_
  intro p e s m below meth c A ls hx hb hr hlocks hml hnm hts hown hw hl
  have hl : lv_has ls 4 [(0, .ref (a 0)), (1, .int (p1)), (2, .int (p2))] := hl
  have i1 : ∀ w ∈ wsX10, w ∈ wsX4_object := fun _ h => List.mem_cons_of_mem _ (List.mem_append_left _ (List.mem_append_left _ (List.mem_append_left _ (List.mem_append_right _ h))))
  have i2 : ∀ w ∈ wsX20, w ∈ wsX4_object := fun _ h => List.mem_cons_of_mem _ (List.mem_append_left _ (List.mem_append_left _ (List.mem_append_right _ h)))
  refine lv_aload_n hx hb dX4_object_0 rfl (lv_at hl 0 rfl) ?_
  refine lv_iload_n hx hb dX4_object_1 rfl (lv_at hl 1 rfl) ?_
  refine r_callVq 0 rfl rfl (rest := []) ⟨hx, hb, hml, hown, hts⟩ hw [.int (p1)] (k4_find l D ty a b n cI cO ht0 ht1 c0 c1 c2 c3 u4 c5 c6 c7 u8 u9 u10 c11 u12 u13 I p1 (by assumption) (by assumption) (by assumption)) (cwV 1 hts gX4_object_X4_find rfl rfl rfl (by decide +kernel) ⟨Nat.le_of_ble_eq_true rfl, Nat.le_of_ble_eq_true rfl⟩) rfl hl.1 rfl (Nat.le_of_ble_eq_true rfl) dX4_object_2 ⟨Nat.le_of_ble_eq_true rfl, Nat.le_of_ble_eq_true rfl⟩ (fun r w H locs hp hw => ?_)
  obtain ⟨hr1, rfl⟩ := hp
  by_cases c_2 : f4_within p1 0 (u12 - 1) = 0
  · rw [if_pos c_2] at hr1
    subst hr1
    refine lv_astore_nN (lv' := [(3, .null), (0, .ref (a 0)), (1, .int (p1)), (2, .int (p2))]) hx hb dX4_object_5 rfl hl (by decide) rfl (fun ls hl => ?_)
    refine lv_aload_nN hx hb dX4_object_6 rfl (lv_at hl 0 rfl) ?_
    refine lv_ifnonnullN hx hb dX4_object_7 ?_
    refine lv_bipush (v := (-101)) hx hb dX4_object_10 (by decide) ?_
    have e9 : f4_object c0 c3 u4 u12 u13 I p1 p2 = (-101) := by unfold f4_object; rw [if_pos c_2]
    exact r_iret hx hb hr hlocks hw ⟨by rw [e9] <;> rfl, rfl⟩ dX4_object_12
  · rw [if_neg c_2] at hr1
    obtain ⟨i, hii, rfl⟩ := fi_in c_2 (by assumption) (by assumption) (by assumption)
    rw [tn_nI (by omega)] at hr1
    subst hr1
    have hi : i < n := by omega
    have hc0 := (hlk i hii).1
    have hc1 := (hlk i hii).2
    refine lv_astore_n (lv' := [(3, .ref (b i 0)), (0, .ref (a 0)), (1, .int (nI (i))), (2, .int (p2))]) hx hb dX4_object_5 rfl hl (by decide) rfl (fun ls hl => ?_)
    refine lv_aload_n hx hb dX4_object_6 rfl (lv_at hl 0 rfl) ?_
    refine lv_ifnonnull (tgt := 13) hx hb dX4_object_7 (by decide) ?_
    refine lv_iload_n hx hb dX4_object_13 rfl (lv_at hl 3 rfl) ?_
    by_cases c_14_0 : p2 = 0
    · refine lv_tableIn (off := 42) (tgt := 56) hx hb dX4_object_14 (by rw [c_14_0]; decide) (by rw [c_14_0]; decide) (by rw [c_14_0]; rfl) (by decide) ?_
      refine lv_aload_n hx hb dX4_object_56 rfl (lv_at hl 0 rfl) ?_
      refine r_getN (C := RX1) (T := TX1) (v := .int (I i 1 0)) hx hb hts i1 hown hw (12 + (6 * i + 0)) (CW_get _ (i := i) (by assumption) (by decide) rfl) rfl 2 (by decide) (List.mem_of_getElem? (i := 3) rfl) rfl dX4_object_57 ?_
      have e9 : f4_object c0 c3 u4 u12 u13 I (nI i) p2 = I i 1 0 := by unfold f4_object; simp only [nI_clamp (show i < 2 ^ 31 by omega)]; rw [if_neg c_2, if_pos c_14_0]
      exact r_iret hx hb hr hlocks hw ⟨by rw [e9] <;> rfl, rfl⟩ dX4_object_60
    by_cases c_14_1 : p2 = 1
    · refine lv_tableIn (off := 47) (tgt := 61) hx hb dX4_object_14 (by rw [c_14_1]; decide) (by rw [c_14_1]; decide) (by rw [c_14_1]; rfl) (by decide) ?_
      refine lv_aload_n hx hb dX4_object_61 rfl (lv_at hl 0 rfl) ?_
      refine r_callVi (12 + (6 * i + 0)) (CW_getF _ _ _ (by assumption) (by decide) rfl) rfl (rest := []) ⟨hx, hb, hml, hown, hts⟩ (hw.cast (CW_foc _ i)) [] (k1_sizeNow l D ty a b n cI cO ht0 ht1 c0 c1 c2 c3 u4 c5 c6 c7 u8 u9 u10 c11 u12 u13 I i (I i 0) (I i 1 0) (I i 2 0) (I i 3 0) (I i 4 0) (I i 5) (I i 6) (I i 7) (I i 8 0) (by first | assumption | omega)) (cwV 0 hts gX4_object_X1_sizeNow rfl rfl rfl (by decide +kernel) ⟨Nat.le_of_ble_eq_true rfl, Nat.le_of_ble_eq_true rfl⟩) rfl hl.1 rfl (Nat.le_of_ble_eq_true rfl) dX4_object_62 ⟨Nat.le_of_ble_eq_true rfl, Nat.le_of_ble_eq_true rfl⟩ (fun r w H locs hp hw => ?_)
      obtain ⟨rfl, rfl⟩ := hp
      replace hw := hw.cast (CW_foc _ i).symm
      have e9 : f4_object c0 c3 u4 u12 u13 I (nI i) p2 = f1_sizeNow (I i 2 0) (I i 4 0) := by unfold f4_object; simp only [nI_clamp (show i < 2 ^ 31 by omega)]; rw [if_neg c_2, if_neg c_14_0, if_pos c_14_1]
      exact r_iret hx hb hr hlocks hw ⟨by rw [e9] <;> rfl, rfl⟩ dX4_object_65
    by_cases c_14_2 : p2 = 2
    · refine lv_tableIn (off := 52) (tgt := 66) hx hb dX4_object_14 (by rw [c_14_2]; decide) (by rw [c_14_2]; decide) (by rw [c_14_2]; rfl) (by decide) ?_
      refine lv_aload_n hx hb dX4_object_66 rfl (lv_at hl 0 rfl) ?_
      refine r_getN (C := RX1) (T := TX1) (v := .int (I i 3 0)) hx hb hts i1 hown hw (12 + (6 * i + 0)) (CW_get _ (i := i) (by assumption) (by decide) rfl) rfl 4 (by decide) (List.mem_of_getElem? (i := 5) rfl) rfl dX4_object_67 ?_
      have e9 : f4_object c0 c3 u4 u12 u13 I (nI i) p2 = I i 3 0 := by unfold f4_object; simp only [nI_clamp (show i < 2 ^ 31 by omega)]; rw [if_neg c_2, if_neg c_14_0, if_neg c_14_1, if_pos c_14_2]
      exact r_iret hx hb hr hlocks hw ⟨by rw [e9] <;> rfl, rfl⟩ dX4_object_70
    by_cases c_14_3 : p2 = 3
    · refine lv_tableIn (off := 57) (tgt := 71) hx hb dX4_object_14 (by rw [c_14_3]; decide) (by rw [c_14_3]; decide) (by rw [c_14_3]; rfl) (by decide) ?_
      refine lv_aload_n hx hb dX4_object_71 rfl (lv_at hl 0 rfl) ?_
      refine r_getN (C := RX1) (T := TX1) (v := .int (I i 4 0)) hx hb hts i1 hown hw (12 + (6 * i + 0)) (CW_get _ (i := i) (by assumption) (by decide) rfl) rfl 5 (by decide) (List.mem_of_getElem? (i := 2) rfl) rfl dX4_object_72 ?_
      have e9 : f4_object c0 c3 u4 u12 u13 I (nI i) p2 = I i 4 0 := by unfold f4_object; simp only [nI_clamp (show i < 2 ^ 31 by omega)]; rw [if_neg c_2, if_neg c_14_0, if_neg c_14_1, if_neg c_14_2, if_pos c_14_3]
      exact r_iret hx hb hr hlocks hw ⟨by rw [e9] <;> rfl, rfl⟩ dX4_object_75
    by_cases c_14_4 : p2 = 4
    · refine lv_tableIn (off := 62) (tgt := 76) hx hb dX4_object_14 (by rw [c_14_4]; decide) (by rw [c_14_4]; decide) (by rw [c_14_4]; rfl) (by decide) ?_
      refine lv_aload_n hx hb dX4_object_76 rfl (lv_at hl 0 rfl) ?_
      refine r_getN (C := RX1) (T := TX1) (v := .ref (b i 2)) hx hb hts i1 hown hw (12 + (6 * i + 0)) (CW_get _ (i := i) (by assumption) (by decide) rfl) rfl 1 (by decide) (List.mem_of_getElem? (i := 1) rfl) rfl dX4_object_77 ?_
      refine r_getN (C := RX2) (T := TX2) (v := .int (I i 8 0)) hx hb hts i2 hown hw (12 + (6 * i + 2)) (CW_get _ (i := i) (by assumption) (by decide) rfl) rfl 3 (by decide) (List.mem_of_getElem? (i := 10) rfl) rfl dX4_object_80 ?_
      have e9 : f4_object c0 c3 u4 u12 u13 I (nI i) p2 = I i 8 0 := by unfold f4_object; simp only [nI_clamp (show i < 2 ^ 31 by omega)]; rw [if_neg c_2, if_neg c_14_0, if_neg c_14_1, if_neg c_14_2, if_neg c_14_3, if_pos c_14_4]
      exact r_iret hx hb hr hlocks hw ⟨by rw [e9] <;> rfl, rfl⟩ dX4_object_83
    by_cases c_14_5 : p2 = 5
    · refine lv_tableIn (off := 70) (tgt := 84) hx hb dX4_object_14 (by rw [c_14_5]; decide) (by rw [c_14_5]; decide) (by rw [c_14_5]; rfl) (by decide) ?_
      refine lv_aload_n hx hb dX4_object_84 rfl (lv_at hl 0 rfl) ?_
      refine r_getN (C := RX1) (T := TX1) (v := .ref (b i 2)) hx hb hts i1 hown hw (12 + (6 * i + 0)) (CW_get _ (i := i) (by assumption) (by decide) rfl) rfl 1 (by decide) (List.mem_of_getElem? (i := 1) rfl) rfl dX4_object_85 ?_
      refine r_callVi (12 + (6 * i + 2)) (CW_getF _ _ _ (by assumption) (by decide) rfl) rfl (rest := []) ⟨hx, hb, hml, hown, hts⟩ (hw.cast (CW_foc _ i)) [] (k2_worth l D ty a b n cI cO ht0 ht1 c0 c1 c2 c3 u4 c5 c6 c7 u8 u9 u10 c11 u12 u13 I i (I i 0) (I i 1 0) (I i 2 0) (I i 3 0) (I i 4 0) (I i 5) (I i 6) (I i 7) (I i 8 0) (by first | assumption | omega) (by first | assumption | omega) (by first | assumption | omega)) (cwV 0 hts gX4_object_X2_worth rfl rfl rfl (by decide +kernel) ⟨Nat.le_of_ble_eq_true rfl, Nat.le_of_ble_eq_true rfl⟩) rfl hl.1 rfl (Nat.le_of_ble_eq_true rfl) dX4_object_88 ⟨Nat.le_of_ble_eq_true rfl, Nat.le_of_ble_eq_true rfl⟩ (fun r w H locs hp hw => ?_)
      obtain ⟨rfl, rfl⟩ := hp
      replace hw := hw.cast (CW_foc _ i).symm
      have e9 : f4_object c0 c3 u4 u12 u13 I (nI i) p2 = f2_worth (I i 5) (I i 6) (I i 8 0) := by unfold f4_object; simp only [nI_clamp (show i < 2 ^ 31 by omega)]; rw [if_neg c_2, if_neg c_14_0, if_neg c_14_1, if_neg c_14_2, if_neg c_14_3, if_neg c_14_4, if_pos c_14_5]
      exact r_iret hx hb hr hlocks hw ⟨by rw [e9] <;> rfl, rfl⟩ dX4_object_91
    by_cases c_14_6 : p2 = 6
    · refine lv_tableIn (off := 78) (tgt := 92) hx hb dX4_object_14 (by rw [c_14_6]; decide) (by rw [c_14_6]; decide) (by rw [c_14_6]; rfl) (by decide) ?_
      refine lv_aload_n hx hb dX4_object_92 rfl (lv_at hl 0 rfl) ?_
      refine r_getN (C := RX1) (T := TX1) (v := .int (I i 4 0)) hx hb hts i1 hown hw (12 + (6 * i + 0)) (CW_get _ (i := i) (by assumption) (by decide) rfl) rfl 5 (by decide) (List.mem_of_getElem? (i := 2) rfl) rfl dX4_object_93 ?_
      refine lv_iconst (v := 2) hx hb dX4_object_96 (by decide) ?_
      refine lv_icmp_ne (tgt := 104) hx hb dX4_object_97 (by decide) (fun c_97 => ?_) (fun c_97 => ?_)
      · refine lv_aload_n hx hb dX4_object_104 rfl (lv_at hl 1 rfl) ?_
        refine lv_aload_n hx hb dX4_object_105 rfl (lv_at hl 0 rfl) ?_
        refine r_getN (C := RX1) (T := TX1) (v := .int (I i 2 0)) hx hb hts i1 hown hw (12 + (6 * i + 0)) (CW_get _ (i := i) (by assumption) (by decide) rfl) rfl 3 (by decide) (List.mem_of_getElem? (i := 4) rfl) rfl dX4_object_106 ?_
        refine r_callVi 0 rfl rfl (rest := []) ⟨hx, hb, hml, hown, hts⟩ hw [.int (I i 2 0)] (k4_chargedSize l D ty a b n cI cO ht0 ht1 c0 c1 c2 c3 u4 c5 c6 c7 u8 u9 u10 c11 u12 u13 I (I i 2 0) (by first | assumption | omega) (by first | assumption | omega) (by first | assumption | omega)) (cwV 1 hts gX4_object_X4_chargedSize rfl rfl rfl (by decide +kernel) ⟨Nat.le_of_ble_eq_true rfl, Nat.le_of_ble_eq_true rfl⟩) rfl hl.1 rfl (Nat.le_of_ble_eq_true rfl) dX4_object_109 ⟨Nat.le_of_ble_eq_true rfl, Nat.le_of_ble_eq_true rfl⟩ (fun r w H locs hp hw => ?_)
        obtain ⟨rfl, rfl⟩ := hp
        have e9 : f4_object c0 c3 u4 u12 u13 I (nI i) p2 = f4_chargedSize c0 c3 u4 u13 (I i 2 0) := by unfold f4_object; simp only [nI_clamp (show i < 2 ^ 31 by omega)]; rw [if_neg c_2, if_neg c_14_0, if_neg c_14_1, if_neg c_14_2, if_neg c_14_3, if_neg c_14_4, if_neg c_14_5, if_pos c_14_6, if_neg c_97]
        exact r_iret hx hb hr hlocks hw ⟨by rw [e9] <;> rfl, rfl⟩ dX4_object_112
      · refine lv_iconst (v := 0) hx hb dX4_object_100 (by decide) ?_
        refine lv_goto (tgt := 112) hx hb dX4_object_101 (by decide) ?_
        have e9 : f4_object c0 c3 u4 u12 u13 I (nI i) p2 = 0 := by unfold f4_object; simp only [nI_clamp (show i < 2 ^ 31 by omega)]; rw [if_neg c_2, if_neg c_14_0, if_neg c_14_1, if_neg c_14_2, if_neg c_14_3, if_neg c_14_4, if_neg c_14_5, if_pos c_14_6, if_pos c_97]
        exact r_iret hx hb hr hlocks hw ⟨by rw [e9] <;> rfl, rfl⟩ dX4_object_112
    refine lv_tableOut (tgt := 113) hx hb dX4_object_14 (by have := lv_neT c_14_0 (show (0 : Int32).toInt = 0 from rfl); have := lv_neT c_14_1 (show (1 : Int32).toInt = 1 from rfl); have := lv_neT c_14_2 (show (2 : Int32).toInt = 2 from rfl); have := lv_neT c_14_3 (show (3 : Int32).toInt = 3 from rfl); have := lv_neT c_14_4 (show (4 : Int32).toInt = 4 from rfl); have := lv_neT c_14_5 (show (5 : Int32).toInt = 5 from rfl); have := lv_neT c_14_6 (show (6 : Int32).toInt = 6 from rfl); omega) (by decide) ?_
    refine lv_bipush (v := (-102)) hx hb dX4_object_113 (by decide) ?_
    have e9 : f4_object c0 c3 u4 u12 u13 I (nI i) p2 = (-102) := by unfold f4_object; simp only [nI_clamp (show i < 2 ^ 31 by omega)]; rw [if_neg c_2, if_neg c_14_0, if_neg c_14_1, if_neg c_14_2, if_neg c_14_3, if_neg c_14_4, if_neg c_14_5, if_neg c_14_6]
    exact r_iret hx hb hr hlocks hw ⟨by rw [e9] <;> rfl, rfl⟩ dX4_object_115
theorem has_in {p t8 : Int32} (h : ¬ f2_has t8 p = 0) (h0 : t8 = nI (tn t8)) (h1 : tn t8 ≤ 16) : vp_in p 16 := by
  obtain ⟨i, hi, e⟩ := fi_in (n := 16) (show ¬ f4_within p 0 (t8 - 1) = 0 from h) h0 h1 (by omega)
  rw [e]; exact vp_in_nI (by omega) (by decide)
def f4_layer (u12 : Int32) (I : Nat → Nat → Nat → Int32) (p1 : Int32) (p2 : Int32) (p3 : Int32) : Int32 :=
  if f4_within p1 0 (u12 - 1) = 0 then (-101)
  else if (f4_within p3 0 2) = 0 then (-102)
  else if (f2_has (I (tn p1) 8 0) p2) = 0 then (-109)
  else if p3 = 0 then (I (tn p1) 5) (tn (p2))
  else if p3 = 1 then (I (tn p1) 6) (tn (p2))
  else (I (tn p1) 7) (tn (p2))
set_option maxHeartbeats 4000000 in
set_option maxRecDepth 100000 in
theorem k4_layer (l : Launch) (D : va_G) (ty : List (ClassId × FieldType)) (a : Nat → Nat) (b : Nat → Nat → Nat) (n : Nat) (cI cO : ClassId) (ht0 : ty[0]? = some (cI, .int)) (ht1 : ty[1]? = some (cO, .object "RentSizes$Item")) (c0 : Nat → Int32) (c1 : Nat → Int32) (c2 : Nat → Int32) (c3 : Nat → Int32) (u4 : Int32) (c5 : Nat → Int32) (c6 : Nat → Int32) (c7 : Nat → Int32) (u8 : Int32) (u9 : Int32) (u10 : Int32) (c11 : Nat → Int32) (u12 : Int32) (u13 : Int32) (I : Nat → Nat → Nat → Int32) (p1 : Int32) (p2 : Int32) (p3 : Int32) (hob : u12 = nI (tn u12)) (hob2 : tn u12 ≤ n) (hn60 : n ≤ 60) (hlk : ∀ i, i < tn u12 → I i 8 0 = nI (tn (I i 8 0)) ∧ tn (I i 8 0) ≤ 16) : MetG l yX4_layer wsX4_layer { frames := 2, cells := 0, slots := 0, locals := 43 } D ty [.ref (a 0), .int (p1), .int (p2), .int (p3)] (CW a b n cI cO c0 c1 c2 c3 u4 c5 c6 c7 u8 u9 u10 c11 u12 u13 I) (va_Qi (fun r w => r = f4_layer u12 I p1 p2 p3 ∧ w = CW a b n cI cO c0 c1 c2 c3 u4 c5 c6 c7 u8 u9 u10 c11 u12 u13 I)) 0 0 := by
  refine Met_start cX4_layer 5 (some .int) (by decide) rfl (Nat.le_of_ble_eq_true rfl) ?_
  intro p e s m below meth c A ls hx hb hr hlocks hml hnm hts hown hw hl
  have hl : lv_has ls 5 [(0, .ref (a 0)), (1, .int (p1)), (2, .int (p2)), (3, .int (p3))] := hl
  have i1 : ∀ w ∈ wsX10, w ∈ wsX4_layer := fun _ h => List.mem_cons_of_mem _ (List.mem_append_left _ (List.mem_append_left _ (List.mem_append_right _ h)))
  have i2 : ∀ w ∈ wsX20, w ∈ wsX4_layer := fun _ h => List.mem_cons_of_mem _ (List.mem_append_left _ (List.mem_append_right _ h))
  refine lv_aload_n hx hb dX4_layer_0 rfl (lv_at hl 0 rfl) ?_
  refine lv_iload_n hx hb dX4_layer_1 rfl (lv_at hl 1 rfl) ?_
  refine r_callVq 0 rfl rfl (rest := []) ⟨hx, hb, hml, hown, hts⟩ hw [.int (p1)] (k4_find l D ty a b n cI cO ht0 ht1 c0 c1 c2 c3 u4 c5 c6 c7 u8 u9 u10 c11 u12 u13 I p1 (by assumption) (by assumption) (by assumption)) (cwV 1 hts gX4_layer_X4_find rfl rfl rfl (by decide +kernel) ⟨Nat.le_of_ble_eq_true rfl, Nat.le_of_ble_eq_true rfl⟩) rfl hl.1 rfl (Nat.le_of_ble_eq_true rfl) dX4_layer_2 ⟨Nat.le_of_ble_eq_true rfl, Nat.le_of_ble_eq_true rfl⟩ (fun r w H locs hp hw => ?_)
  obtain ⟨hr1, rfl⟩ := hp
  by_cases c_2 : f4_within p1 0 (u12 - 1) = 0
  · rw [if_pos c_2] at hr1
    subst hr1
    refine lv_astoreN (lv' := [(4, .null), (0, .ref (a 0)), (1, .int (p1)), (2, .int (p2)), (3, .int (p3))]) hx hb dX4_layer_5 hl (by decide) rfl (fun ls hl => ?_)
    refine lv_aloadN hx hb dX4_layer_7 (lv_at hl 0 rfl) ?_
    refine lv_ifnonnullN hx hb dX4_layer_9 ?_
    refine lv_bipush (v := (-101)) hx hb dX4_layer_12 (by decide) ?_
    have e9 : f4_layer u12 I p1 p2 p3 = (-101) := by unfold f4_layer; rw [if_pos c_2]
    exact r_iret hx hb hr hlocks hw ⟨by rw [e9] <;> rfl, rfl⟩ dX4_layer_14
  · rw [if_neg c_2] at hr1
    obtain ⟨i, hii, rfl⟩ := fi_in c_2 (by assumption) (by assumption) (by assumption)
    rw [tn_nI (by omega)] at hr1
    subst hr1
    have hi : i < n := by omega
    have hc0 := (hlk i hii).1
    have hc1 := (hlk i hii).2
    refine lv_astore (lv' := [(4, .ref (b i 0)), (0, .ref (a 0)), (1, .int (nI (i))), (2, .int (p2)), (3, .int (p3))]) hx hb dX4_layer_5 hl (by decide) rfl (fun ls hl => ?_)
    refine lv_aload hx hb dX4_layer_7 (lv_at hl 0 rfl) ?_
    refine lv_ifnonnull (tgt := 15) hx hb dX4_layer_9 (by decide) ?_
    refine lv_iload_n hx hb dX4_layer_15 rfl (lv_at hl 4 rfl) ?_
    refine lv_iconst (v := 0) hx hb dX4_layer_16 (by decide) ?_
    refine lv_iconst (v := 2) hx hb dX4_layer_17 (by decide) ?_
    refine r_callSi (rest := []) ⟨hx, hb, hml, hown, hts⟩ hw [.int (p3), .int (0), .int (2)] (k4_within l D ty a b n cI cO ht0 ht1 c0 c1 c2 c3 u4 c5 c6 c7 u8 u9 u10 c11 u12 u13 I p3 0 2) (va_cwS 3 hts gX4_layer_X4_within rfl rfl rfl (by decide +kernel) ⟨Nat.le_of_ble_eq_true rfl, Nat.le_of_ble_eq_true rfl⟩) rfl hl.1 rfl (Nat.le_of_ble_eq_true rfl) dX4_layer_18 ⟨Nat.le_of_ble_eq_true rfl, Nat.le_of_ble_eq_true rfl⟩ (fun r w H locs hp hw => ?_)
    obtain ⟨rfl, rfl⟩ := hp
    refine lv_if_ne (tgt := 27) hx hb dX4_layer_21 (by decide) (fun c_21 => ?_) (fun c_21 => ?_)
    · refine lv_aload hx hb dX4_layer_27 (lv_at hl 0 rfl) ?_
      refine r_getN (C := RX1) (T := TX1) (v := .ref (b i 2)) hx hb hts i1 hown hw (12 + (6 * i + 0)) (CW_get _ (i := i) (by assumption) (by decide) rfl) rfl 1 (by decide) (List.mem_of_getElem? (i := 1) rfl) rfl dX4_layer_29 ?_
      refine lv_iload_n hx hb dX4_layer_32 rfl (lv_at hl 3 rfl) ?_
      refine r_callVi (12 + (6 * i + 2)) (CW_getF _ _ _ (by assumption) (by decide) rfl) rfl (rest := []) ⟨hx, hb, hml, hown, hts⟩ (hw.cast (CW_foc _ i)) [.int (p2)] (k2_has l D ty a b n cI cO ht0 ht1 c0 c1 c2 c3 u4 c5 c6 c7 u8 u9 u10 c11 u12 u13 I i (I i 0) (I i 1 0) (I i 2 0) (I i 3 0) (I i 4 0) (I i 5) (I i 6) (I i 7) (I i 8 0) p2 (by first | assumption | omega)) (cwV 1 hts gX4_layer_X2_has rfl rfl rfl (by decide +kernel) ⟨Nat.le_of_ble_eq_true rfl, Nat.le_of_ble_eq_true rfl⟩) rfl hl.1 rfl (Nat.le_of_ble_eq_true rfl) dX4_layer_33 ⟨Nat.le_of_ble_eq_true rfl, Nat.le_of_ble_eq_true rfl⟩ (fun r w H locs hp hw => ?_)
      obtain ⟨rfl, rfl⟩ := hp
      replace hw := hw.cast (CW_foc _ i).symm
      refine lv_if_ne (tgt := 42) hx hb dX4_layer_36 (by decide) (fun c_36 => ?_) (fun c_36 => ?_)
      · have hv := has_in c_36 hc0 hc1
        refine lv_iload_n hx hb dX4_layer_42 rfl (lv_at hl 4 rfl) ?_
        by_cases c_43_0 : p3 = 0
        · refine lv_lookup (off := 25) (tgt := 68) hx hb dX4_layer_43 (by decide) (by rw [c_43_0]; rfl) (by decide) ?_
          refine lv_aload hx hb dX4_layer_68 (lv_at hl 0 rfl) ?_
          refine r_getN (C := RX1) (T := TX1) (v := .ref (b i 2)) hx hb hts i1 hown hw (12 + (6 * i + 0)) (CW_get _ (i := i) (by assumption) (by decide) rfl) rfl 1 (by decide) (List.mem_of_getElem? (i := 1) rfl) rfl dX4_layer_70 ?_
          refine r_getN (C := RX2) (T := TX2) (v := .ref (b i 3)) hx hb hts i2 hown hw (12 + (6 * i + 2)) (CW_get _ (i := i) (by assumption) (by decide) rfl) rfl 0 (by decide) (List.mem_of_getElem? (i := 11) rfl) rfl dX4_layer_73 ?_
          refine lv_iload_n hx hb dX4_layer_76 rfl (lv_at hl 3 rfl) ?_
          refine r_iald (v := (I i 5) (tn (p2))) hx hb hw (12 + (6 * i + 3)) (CW_get _ (i := i) (by assumption) (by decide) rfl) ht0 (by first | assumption | exact vp_in_nI (by omega) (by omega)) dX4_layer_77 rfl ?_
          have e9 : f4_layer u12 I (nI i) p2 p3 = (I i 5) (tn (p2)) := by unfold f4_layer; simp only [nI_clamp (show i < 2 ^ 31 by omega)]; rw [if_neg c_2, if_neg c_21, if_neg c_36, if_pos c_43_0]
          exact r_iret hx hb hr hlocks hw ⟨by rw [e9] <;> rfl, rfl⟩ dX4_layer_78
        by_cases c_43_1 : p3 = 1
        · refine lv_lookup (off := 36) (tgt := 79) hx hb dX4_layer_43 (by decide) (by rw [c_43_1]; rfl) (by decide) ?_
          refine lv_aload hx hb dX4_layer_79 (lv_at hl 0 rfl) ?_
          refine r_getN (C := RX1) (T := TX1) (v := .ref (b i 2)) hx hb hts i1 hown hw (12 + (6 * i + 0)) (CW_get _ (i := i) (by assumption) (by decide) rfl) rfl 1 (by decide) (List.mem_of_getElem? (i := 1) rfl) rfl dX4_layer_81 ?_
          refine r_getN (C := RX2) (T := TX2) (v := .ref (b i 4)) hx hb hts i2 hown hw (12 + (6 * i + 2)) (CW_get _ (i := i) (by assumption) (by decide) rfl) rfl 1 (by decide) (List.mem_of_getElem? (i := 12) rfl) rfl dX4_layer_84 ?_
          refine lv_iload_n hx hb dX4_layer_87 rfl (lv_at hl 3 rfl) ?_
          refine r_iald (v := (I i 6) (tn (p2))) hx hb hw (12 + (6 * i + 4)) (CW_get _ (i := i) (by assumption) (by decide) rfl) ht0 (by first | assumption | exact vp_in_nI (by omega) (by omega)) dX4_layer_88 rfl ?_
          have e9 : f4_layer u12 I (nI i) p2 p3 = (I i 6) (tn (p2)) := by unfold f4_layer; simp only [nI_clamp (show i < 2 ^ 31 by omega)]; rw [if_neg c_2, if_neg c_21, if_neg c_36, if_neg c_43_0, if_pos c_43_1]
          exact r_iret hx hb hr hlocks hw ⟨by rw [e9] <;> rfl, rfl⟩ dX4_layer_89
        refine lv_lookup (off := 47) (tgt := 90) hx hb dX4_layer_43 (by decide) (by show Op.lookupswitch.offset [(0, 25), (1, 36)] 47 _ = _; rw [lv_osw c_43_0 (show (0 : Int32).toInt = 0 from rfl), lv_osw c_43_1 (show (1 : Int32).toInt = 1 from rfl)]; rfl) (by decide) ?_
        refine lv_aload hx hb dX4_layer_90 (lv_at hl 0 rfl) ?_
        refine r_getN (C := RX1) (T := TX1) (v := .ref (b i 2)) hx hb hts i1 hown hw (12 + (6 * i + 0)) (CW_get _ (i := i) (by assumption) (by decide) rfl) rfl 1 (by decide) (List.mem_of_getElem? (i := 1) rfl) rfl dX4_layer_92 ?_
        refine r_getN (C := RX2) (T := TX2) (v := .ref (b i 5)) hx hb hts i2 hown hw (12 + (6 * i + 2)) (CW_get _ (i := i) (by assumption) (by decide) rfl) rfl 2 (by decide) (List.mem_of_getElem? (i := 13) rfl) rfl dX4_layer_95 ?_
        refine lv_iload_n hx hb dX4_layer_98 rfl (lv_at hl 3 rfl) ?_
        refine r_iald (v := (I i 7) (tn (p2))) hx hb hw (12 + (6 * i + 5)) (CW_get _ (i := i) (by assumption) (by decide) rfl) ht0 (by first | assumption | exact vp_in_nI (by omega) (by omega)) dX4_layer_99 rfl ?_
        have e9 : f4_layer u12 I (nI i) p2 p3 = (I i 7) (tn (p2)) := by unfold f4_layer; simp only [nI_clamp (show i < 2 ^ 31 by omega)]; rw [if_neg c_2, if_neg c_21, if_neg c_36, if_neg c_43_0, if_neg c_43_1]
        exact r_iret hx hb hr hlocks hw ⟨by rw [e9] <;> rfl, rfl⟩ dX4_layer_100
      · refine lv_bipush (v := (-109)) hx hb dX4_layer_39 (by decide) ?_
        have e9 : f4_layer u12 I (nI i) p2 p3 = (-109) := by unfold f4_layer; simp only [nI_clamp (show i < 2 ^ 31 by omega)]; rw [if_neg c_2, if_neg c_21, if_pos c_36]
        exact r_iret hx hb hr hlocks hw ⟨by rw [e9] <;> rfl, rfl⟩ dX4_layer_41
    · refine lv_bipush (v := (-102)) hx hb dX4_layer_24 (by decide) ?_
      have e9 : f4_layer u12 I (nI i) p2 p3 = (-102) := by unfold f4_layer; simp only [nI_clamp (show i < 2 ^ 31 by omega)]; rw [if_neg c_2, if_pos c_21]
      exact r_iret hx hb hr hlocks hw ⟨by rw [e9] <;> rfl, rfl⟩ dX4_layer_26
def f4_word (u12 : Int32) (I : Nat → Nat → Nat → Int32) (p1 : Int32) (p2 : Int32) : Int32 :=
  if f4_within p1 0 (u12 - 1) = 0 then (-101)
  else if (f4_within p2 0 3) = 0 then (-102)
  else if (I (tn p1) 4 0) = 0 then (I (tn p1) 0) (tn (p2))
  else (-103)
set_option maxHeartbeats 4000000 in
set_option maxRecDepth 100000 in
theorem k4_word (l : Launch) (D : va_G) (ty : List (ClassId × FieldType)) (a : Nat → Nat) (b : Nat → Nat → Nat) (n : Nat) (cI cO : ClassId) (ht0 : ty[0]? = some (cI, .int)) (ht1 : ty[1]? = some (cO, .object "RentSizes$Item")) (c0 : Nat → Int32) (c1 : Nat → Int32) (c2 : Nat → Int32) (c3 : Nat → Int32) (u4 : Int32) (c5 : Nat → Int32) (c6 : Nat → Int32) (c7 : Nat → Int32) (u8 : Int32) (u9 : Int32) (u10 : Int32) (c11 : Nat → Int32) (u12 : Int32) (u13 : Int32) (I : Nat → Nat → Nat → Int32) (p1 : Int32) (p2 : Int32) (hob : u12 = nI (tn u12)) (hob2 : tn u12 ≤ n) (hn60 : n ≤ 60) : MetG l yX4_word wsX4_word { frames := 2, cells := 0, slots := 0, locals := 43 } D ty [.ref (a 0), .int (p1), .int (p2)] (CW a b n cI cO c0 c1 c2 c3 u4 c5 c6 c7 u8 u9 u10 c11 u12 u13 I) (va_Qi (fun r w => r = f4_word u12 I p1 p2 ∧ w = CW a b n cI cO c0 c1 c2 c3 u4 c5 c6 c7 u8 u9 u10 c11 u12 u13 I)) 0 0 := by
  refine Met_start cX4_word 4 (some .int) (by decide) rfl (Nat.le_of_ble_eq_true rfl) ?_
  intro p e s m below meth c A ls hx hb hr hlocks hml hnm hts hown hw hl
  have hl : lv_has ls 4 [(0, .ref (a 0)), (1, .int (p1)), (2, .int (p2))] := hl
  have i1 : ∀ w ∈ wsX10, w ∈ wsX4_word := fun _ h => List.mem_cons_of_mem _ (List.mem_append_left _ (List.mem_append_right _ h))
  refine lv_aload_n hx hb dX4_word_0 rfl (lv_at hl 0 rfl) ?_
  refine lv_iload_n hx hb dX4_word_1 rfl (lv_at hl 1 rfl) ?_
  refine r_callVq 0 rfl rfl (rest := []) ⟨hx, hb, hml, hown, hts⟩ hw [.int (p1)] (k4_find l D ty a b n cI cO ht0 ht1 c0 c1 c2 c3 u4 c5 c6 c7 u8 u9 u10 c11 u12 u13 I p1 (by assumption) (by assumption) (by assumption)) (cwV 1 hts gX4_word_X4_find rfl rfl rfl (by decide +kernel) ⟨Nat.le_of_ble_eq_true rfl, Nat.le_of_ble_eq_true rfl⟩) rfl hl.1 rfl (Nat.le_of_ble_eq_true rfl) dX4_word_2 ⟨Nat.le_of_ble_eq_true rfl, Nat.le_of_ble_eq_true rfl⟩ (fun r w H locs hp hw => ?_)
  obtain ⟨hr1, rfl⟩ := hp
  by_cases c_2 : f4_within p1 0 (u12 - 1) = 0
  · rw [if_pos c_2] at hr1
    subst hr1
    refine lv_astore_nN (lv' := [(3, .null), (0, .ref (a 0)), (1, .int (p1)), (2, .int (p2))]) hx hb dX4_word_5 rfl hl (by decide) rfl (fun ls hl => ?_)
    refine lv_aload_nN hx hb dX4_word_6 rfl (lv_at hl 0 rfl) ?_
    refine lv_ifnonnullN hx hb dX4_word_7 ?_
    refine lv_bipush (v := (-101)) hx hb dX4_word_10 (by decide) ?_
    have e9 : f4_word u12 I p1 p2 = (-101) := by unfold f4_word; rw [if_pos c_2]
    exact r_iret hx hb hr hlocks hw ⟨by rw [e9] <;> rfl, rfl⟩ dX4_word_12
  · rw [if_neg c_2] at hr1
    obtain ⟨i, hii, rfl⟩ := fi_in c_2 (by assumption) (by assumption) (by assumption)
    rw [tn_nI (by omega)] at hr1
    subst hr1
    have hi : i < n := by omega
    refine lv_astore_n (lv' := [(3, .ref (b i 0)), (0, .ref (a 0)), (1, .int (nI (i))), (2, .int (p2))]) hx hb dX4_word_5 rfl hl (by decide) rfl (fun ls hl => ?_)
    refine lv_aload_n hx hb dX4_word_6 rfl (lv_at hl 0 rfl) ?_
    refine lv_ifnonnull (tgt := 13) hx hb dX4_word_7 (by decide) ?_
    refine lv_iload_n hx hb dX4_word_13 rfl (lv_at hl 3 rfl) ?_
    refine lv_iconst (v := 0) hx hb dX4_word_14 (by decide) ?_
    refine lv_iconst (v := 3) hx hb dX4_word_15 (by decide) ?_
    refine r_callSi (rest := []) ⟨hx, hb, hml, hown, hts⟩ hw [.int (p2), .int (0), .int (3)] (k4_within l D ty a b n cI cO ht0 ht1 c0 c1 c2 c3 u4 c5 c6 c7 u8 u9 u10 c11 u12 u13 I p2 0 3) (va_cwS 3 hts gX4_word_X4_within rfl rfl rfl (by decide +kernel) ⟨Nat.le_of_ble_eq_true rfl, Nat.le_of_ble_eq_true rfl⟩) rfl hl.1 rfl (Nat.le_of_ble_eq_true rfl) dX4_word_16 ⟨Nat.le_of_ble_eq_true rfl, Nat.le_of_ble_eq_true rfl⟩ (fun r w H locs hp hw => ?_)
    obtain ⟨rfl, rfl⟩ := hp
    refine lv_if_ne (tgt := 25) hx hb dX4_word_19 (by decide) (fun c_19 => ?_) (fun c_19 => ?_)
    · have hv := wi_vp 4 c_19 rfl
      refine lv_aload_n hx hb dX4_word_25 rfl (lv_at hl 0 rfl) ?_
      refine r_getN (C := RX1) (T := TX1) (v := .int (I i 4 0)) hx hb hts i1 hown hw (12 + (6 * i + 0)) (CW_get _ (i := i) (by assumption) (by decide) rfl) rfl 5 (by decide) (List.mem_of_getElem? (i := 2) rfl) rfl dX4_word_26 ?_
      refine lv_if_ne (tgt := 41) hx hb dX4_word_29 (by decide) (fun c_29 => ?_) (fun c_29 => ?_)
      · refine lv_bipush (v := (-103)) hx hb dX4_word_41 (by decide) ?_
        have e9 : f4_word u12 I (nI i) p2 = (-103) := by unfold f4_word; simp only [nI_clamp (show i < 2 ^ 31 by omega)]; rw [if_neg c_2, if_neg c_19, if_neg c_29]
        exact r_iret hx hb hr hlocks hw ⟨by rw [e9] <;> rfl, rfl⟩ dX4_word_43
      · refine lv_aload_n hx hb dX4_word_32 rfl (lv_at hl 0 rfl) ?_
        refine r_getN (C := RX1) (T := TX1) (v := .ref (b i 1)) hx hb hts i1 hown hw (12 + (6 * i + 0)) (CW_get _ (i := i) (by assumption) (by decide) rfl) rfl 0 (by decide) (List.mem_of_getElem? (i := 6) rfl) rfl dX4_word_33 ?_
        refine lv_iload_n hx hb dX4_word_36 rfl (lv_at hl 3 rfl) ?_
        refine r_iald (v := (I i 0) (tn (p2))) hx hb hw (12 + (6 * i + 1)) (CW_get _ (i := i) (by assumption) (by decide) rfl) ht0 (by first | assumption | exact vp_in_nI (by omega) (by omega)) dX4_word_37 rfl ?_
        refine lv_goto (tgt := 43) hx hb dX4_word_38 (by decide) ?_
        have e9 : f4_word u12 I (nI i) p2 = (I i 0) (tn (p2)) := by unfold f4_word; simp only [nI_clamp (show i < 2 ^ 31 by omega)]; rw [if_neg c_2, if_neg c_19, if_pos c_29]
        exact r_iret hx hb hr hlocks hw ⟨by rw [e9] <;> rfl, rfl⟩ dX4_word_43
    · refine lv_bipush (v := (-102)) hx hb dX4_word_22 (by decide) ?_
      have e9 : f4_word u12 I (nI i) p2 = (-102) := by unfold f4_word; simp only [nI_clamp (show i < 2 ^ 31 by omega)]; rw [if_neg c_2, if_pos c_19]
      exact r_iret hx hb hr hlocks hw ⟨by rw [e9] <;> rfl, rfl⟩ dX4_word_24
def f4_wouldGive (u12 : Int32) (I : Nat → Nat → Nat → Int32) (p1 : Int32) (p2 : Int32) (p3 : Int32) : Int32 :=
  if f4_within p1 0 (u12 - 1) = 0 then (-101)
  else if (f4_isAccount p3) = 0 then (-101)
  else if (f4_refusalToShrink (I (tn p1) 2 0) (I (tn p1) 4 0) p2) = 0 then f2_worthTo (I (tn p1) 5) (I (tn p1) 6) (I (tn p1) 7) (I (tn p1) 8 0) p3 p2
  else f4_refusalToShrink (I (tn p1) 2 0) (I (tn p1) 4 0) p2
set_option maxHeartbeats 4000000 in
set_option maxRecDepth 100000 in
theorem k4_wouldGive (l : Launch) (D : va_G) (ty : List (ClassId × FieldType)) (a : Nat → Nat) (b : Nat → Nat → Nat) (n : Nat) (cI cO : ClassId) (ht0 : ty[0]? = some (cI, .int)) (ht1 : ty[1]? = some (cO, .object "RentSizes$Item")) (c0 : Nat → Int32) (c1 : Nat → Int32) (c2 : Nat → Int32) (c3 : Nat → Int32) (u4 : Int32) (c5 : Nat → Int32) (c6 : Nat → Int32) (c7 : Nat → Int32) (u8 : Int32) (u9 : Int32) (u10 : Int32) (c11 : Nat → Int32) (u12 : Int32) (u13 : Int32) (I : Nat → Nat → Nat → Int32) (p1 : Int32) (p2 : Int32) (p3 : Int32) (hob : u12 = nI (tn u12)) (hob2 : tn u12 ≤ n) (hn60 : n ≤ 60) (hlk : ∀ i, i < tn u12 → I i 8 0 = nI (tn (I i 8 0)) ∧ tn (I i 8 0) ≤ 16) : MetG l yX4_wouldGive wsX4_wouldGive { frames := 2, cells := 0, slots := 0, locals := 47 } D ty [.ref (a 0), .int (p1), .int (p2), .int (p3)] (CW a b n cI cO c0 c1 c2 c3 u4 c5 c6 c7 u8 u9 u10 c11 u12 u13 I) (va_Qi (fun r w => r = f4_wouldGive u12 I p1 p2 p3 ∧ w = CW a b n cI cO c0 c1 c2 c3 u4 c5 c6 c7 u8 u9 u10 c11 u12 u13 I)) 0 0 := by
  refine Met_start cX4_wouldGive 6 (some .int) (by decide) rfl (Nat.le_of_ble_eq_true rfl) ?_
  intro p e s m below meth c A ls hx hb hr hlocks hml hnm hts hown hw hl
  have hl : lv_has ls 6 [(0, .ref (a 0)), (1, .int (p1)), (2, .int (p2)), (3, .int (p3))] := hl
  have i1 : ∀ w ∈ wsX10, w ∈ wsX4_wouldGive := fun _ h => List.mem_cons_of_mem _ (List.mem_append_left _ (List.mem_append_left _ (List.mem_append_right _ h)))
  refine lv_aload_n hx hb dX4_wouldGive_0 rfl (lv_at hl 0 rfl) ?_
  refine lv_iload_n hx hb dX4_wouldGive_1 rfl (lv_at hl 1 rfl) ?_
  refine r_callVq 0 rfl rfl (rest := []) ⟨hx, hb, hml, hown, hts⟩ hw [.int (p1)] (k4_find l D ty a b n cI cO ht0 ht1 c0 c1 c2 c3 u4 c5 c6 c7 u8 u9 u10 c11 u12 u13 I p1 (by assumption) (by assumption) (by assumption)) (cwV 1 hts gX4_wouldGive_X4_find rfl rfl rfl (by decide +kernel) ⟨Nat.le_of_ble_eq_true rfl, Nat.le_of_ble_eq_true rfl⟩) rfl hl.1 rfl (Nat.le_of_ble_eq_true rfl) dX4_wouldGive_2 ⟨Nat.le_of_ble_eq_true rfl, Nat.le_of_ble_eq_true rfl⟩ (fun r w H locs hp hw => ?_)
  obtain ⟨hr1, rfl⟩ := hp
  by_cases c_2 : f4_within p1 0 (u12 - 1) = 0
  · rw [if_pos c_2] at hr1
    subst hr1
    refine lv_astoreN (lv' := [(4, .null), (0, .ref (a 0)), (1, .int (p1)), (2, .int (p2)), (3, .int (p3))]) hx hb dX4_wouldGive_5 hl (by decide) rfl (fun ls hl => ?_)
    refine lv_aloadN hx hb dX4_wouldGive_7 (lv_at hl 0 rfl) ?_
    refine lv_ifnullN (tgt := 19) hx hb dX4_wouldGive_9 (by decide) ?_
    refine lv_bipush (v := (-101)) hx hb dX4_wouldGive_19 (by decide) ?_
    have e9 : f4_wouldGive u12 I p1 p2 p3 = (-101) := by unfold f4_wouldGive; rw [if_pos c_2]
    exact r_iret hx hb hr hlocks hw ⟨by rw [e9] <;> rfl, rfl⟩ dX4_wouldGive_21
  · rw [if_neg c_2] at hr1
    obtain ⟨i, hii, rfl⟩ := fi_in c_2 (by assumption) (by assumption) (by assumption)
    rw [tn_nI (by omega)] at hr1
    subst hr1
    have hi : i < n := by omega
    have hc0 := (hlk i hii).1
    have hc1 := (hlk i hii).2
    refine lv_astore (lv' := [(4, .ref (b i 0)), (0, .ref (a 0)), (1, .int (nI (i))), (2, .int (p2)), (3, .int (p3))]) hx hb dX4_wouldGive_5 hl (by decide) rfl (fun ls hl => ?_)
    refine lv_aload hx hb dX4_wouldGive_7 (lv_at hl 0 rfl) ?_
    refine lv_ifnull hx hb dX4_wouldGive_9 ?_
    refine lv_iload_n hx hb dX4_wouldGive_12 rfl (lv_at hl 4 rfl) ?_
    refine r_callSi (rest := []) ⟨hx, hb, hml, hown, hts⟩ hw [.int (p3)] (k4_isAccount l D ty a b n cI cO ht0 ht1 c0 c1 c2 c3 u4 c5 c6 c7 u8 u9 u10 c11 u12 u13 I p3) (va_cwS 1 hts gX4_wouldGive_X4_isAccount rfl rfl rfl (by decide +kernel) ⟨Nat.le_of_ble_eq_true rfl, Nat.le_of_ble_eq_true rfl⟩) rfl hl.1 rfl (Nat.le_of_ble_eq_true rfl) dX4_wouldGive_13 ⟨Nat.le_of_ble_eq_true rfl, Nat.le_of_ble_eq_true rfl⟩ (fun r w H locs hp hw => ?_)
    obtain ⟨rfl, rfl⟩ := hp
    refine lv_if_ne (tgt := 22) hx hb dX4_wouldGive_16 (by decide) (fun c_16 => ?_) (fun c_16 => ?_)
    · refine lv_aload hx hb dX4_wouldGive_22 (lv_at hl 0 rfl) ?_
      refine lv_iload_n hx hb dX4_wouldGive_24 rfl (lv_at hl 3 rfl) ?_
      refine r_callSi (rest := []) ⟨hx, hb, hml, hown, hts⟩ (hw.cast (CW_foc _ i)) [.ref (b i 0), .int (p2)] (k4_refusalToShrink l D ty a b n cI cO ht0 ht1 c0 c1 c2 c3 u4 c5 c6 c7 u8 u9 u10 c11 u12 u13 I i (I i 0) (I i 1 0) (I i 2 0) (I i 3 0) (I i 4 0) (I i 5) (I i 6) (I i 7) (I i 8 0) p2 (by first | assumption | omega)) (va_cwS 2 hts gX4_wouldGive_X4_refusalToShrink rfl rfl rfl (by decide +kernel) ⟨Nat.le_of_ble_eq_true rfl, Nat.le_of_ble_eq_true rfl⟩) rfl hl.1 rfl (Nat.le_of_ble_eq_true rfl) dX4_wouldGive_25 ⟨Nat.le_of_ble_eq_true rfl, Nat.le_of_ble_eq_true rfl⟩ (fun r w H locs hp hw => ?_)
      obtain ⟨rfl, rfl⟩ := hp
      replace hw := hw.cast (CW_foc _ i).symm
      refine lv_istore (lv' := [(5, .int (f4_refusalToShrink (I i 2 0) (I i 4 0) p2)), (4, .ref (b i 0)), (0, .ref (a 0)), (1, .int (nI (i))), (2, .int (p2)), (3, .int (p3))]) hx hb dX4_wouldGive_28 hl (by decide) rfl (fun ls hl => ?_)
      refine lv_iload hx hb dX4_wouldGive_30 (lv_at hl 0 rfl) ?_
      refine lv_if_eq (tgt := 40) hx hb dX4_wouldGive_32 (by decide) (fun c_32 => ?_) (fun c_32 => ?_)
      · refine lv_aload hx hb dX4_wouldGive_40 (lv_at hl 1 rfl) ?_
        refine r_getN (C := RX1) (T := TX1) (v := .ref (b i 2)) hx hb hts i1 hown hw (12 + (6 * i + 0)) (CW_get _ (i := i) (by assumption) (by decide) rfl) rfl 1 (by decide) (List.mem_of_getElem? (i := 1) rfl) rfl dX4_wouldGive_42 ?_
        refine lv_iload_n hx hb dX4_wouldGive_45 rfl (lv_at hl 5 rfl) ?_
        refine lv_iload_n hx hb dX4_wouldGive_46 rfl (lv_at hl 4 rfl) ?_
        refine r_callVi (12 + (6 * i + 2)) (CW_getF _ _ _ (by assumption) (by decide) rfl) rfl (rest := []) ⟨hx, hb, hml, hown, hts⟩ (hw.cast (CW_foc _ i)) [.int (p3), .int (p2)] (k2_worthTo l D ty a b n cI cO ht0 ht1 c0 c1 c2 c3 u4 c5 c6 c7 u8 u9 u10 c11 u12 u13 I i (I i 0) (I i 1 0) (I i 2 0) (I i 3 0) (I i 4 0) (I i 5) (I i 6) (I i 7) (I i 8 0) p3 p2 (by first | assumption | omega) (by first | assumption | omega) (by first | assumption | omega)) (cwV 2 hts gX4_wouldGive_X2_worthTo rfl rfl rfl (by decide +kernel) ⟨Nat.le_of_ble_eq_true rfl, Nat.le_of_ble_eq_true rfl⟩) rfl hl.1 rfl (Nat.le_of_ble_eq_true rfl) dX4_wouldGive_47 ⟨Nat.le_of_ble_eq_true rfl, Nat.le_of_ble_eq_true rfl⟩ (fun r w H locs hp hw => ?_)
        obtain ⟨rfl, rfl⟩ := hp
        replace hw := hw.cast (CW_foc _ i).symm
        have e9 : f4_wouldGive u12 I (nI i) p2 p3 = f2_worthTo (I i 5) (I i 6) (I i 7) (I i 8 0) p3 p2 := by unfold f4_wouldGive; simp only [nI_clamp (show i < 2 ^ 31 by omega)]; rw [if_neg c_2, if_neg c_16, if_pos c_32]
        exact r_iret hx hb hr hlocks hw ⟨by rw [e9] <;> rfl, rfl⟩ dX4_wouldGive_50
      · refine lv_iload hx hb dX4_wouldGive_35 (lv_at hl 0 rfl) ?_
        refine lv_goto (tgt := 50) hx hb dX4_wouldGive_37 (by decide) ?_
        have e9 : f4_wouldGive u12 I (nI i) p2 p3 = f4_refusalToShrink (I i 2 0) (I i 4 0) p2 := by unfold f4_wouldGive; simp only [nI_clamp (show i < 2 ^ 31 by omega)]; rw [if_neg c_2, if_neg c_16, if_neg c_32]
        exact r_iret hx hb hr hlocks hw ⟨by rw [e9] <;> rfl, rfl⟩ dX4_wouldGive_50
    · refine lv_bipush (v := (-101)) hx hb dX4_wouldGive_19 (by decide) ?_
      have e9 : f4_wouldGive u12 I (nI i) p2 p3 = (-101) := by unfold f4_wouldGive; simp only [nI_clamp (show i < 2 ^ 31 by omega)]; rw [if_neg c_2, if_pos c_16]
      exact r_iret hx hb hr hlocks hw ⟨by rw [e9] <;> rfl, rfl⟩ dX4_wouldGive_21
def f4_told (u4 : Int32) (c5 : Nat → Int32) (c6 : Nat → Int32) (u8 : Int32) (u9 : Int32) (u10 : Int32) (u12 : Int32) (u13 : Int32) (I : Nat → Nat → Nat → Int32) (p1 : Int32) : Int32 :=
  if p1 = 0 then u13
  else if p1 = 1 then u12
  else if p1 = 2 then f4_countOf u12 I 0
  else if p1 = 3 then f4_countOf u12 I 1
  else if p1 = 4 then f4_liveSizes u12 I (-1)
  else if p1 = 5 then u8
  else if p1 = 6 then u9
  else if p1 = 7 then f3_allCoins c5 c6 u8 u9
  else if p1 = 8 then u4
  else if p1 = 9 then u10
  else (-102)
set_option maxHeartbeats 4000000 in
set_option maxRecDepth 100000 in
theorem k4_told (l : Launch) (D : va_G) (ty : List (ClassId × FieldType)) (a : Nat → Nat) (b : Nat → Nat → Nat) (n : Nat) (cI cO : ClassId) (ht0 : ty[0]? = some (cI, .int)) (ht1 : ty[1]? = some (cO, .object "RentSizes$Item")) (c0 : Nat → Int32) (c1 : Nat → Int32) (c2 : Nat → Int32) (c3 : Nat → Int32) (u4 : Int32) (c5 : Nat → Int32) (c6 : Nat → Int32) (c7 : Nat → Int32) (u8 : Int32) (u9 : Int32) (u10 : Int32) (c11 : Nat → Int32) (u12 : Int32) (u13 : Int32) (I : Nat → Nat → Nat → Int32) (p1 : Int32) (hob : u12 = nI (tn u12)) (hob2 : tn u12 ≤ n) (hn60 : n ≤ 60) : MetG l yX4_told wsX4_told { frames := 2, cells := 0, slots := 0, locals := 42 } D ty [.ref (a 0), .int (p1)] (CW a b n cI cO c0 c1 c2 c3 u4 c5 c6 c7 u8 u9 u10 c11 u12 u13 I) (va_Qi (fun r w => r = f4_told u4 c5 c6 u8 u9 u10 u12 u13 I p1 ∧ w = CW a b n cI cO c0 c1 c2 c3 u4 c5 c6 c7 u8 u9 u10 c11 u12 u13 I)) 0 0 := by
  refine Met_start cX4_told 2 (some .int) (by decide) rfl (Nat.le_of_ble_eq_true rfl) ?_
  intro p e s m below meth c A ls hx hb hr hlocks hml hnm hts hown hw hl
  have hl : lv_has ls 2 [(0, .ref (a 0)), (1, .int (p1))] := hl
  have i4 : ∀ w ∈ wsX40, w ∈ wsX4_told := fun _ h => List.mem_cons_of_mem _ (List.mem_append_left _ (List.mem_append_left _ (List.mem_append_left _ (List.mem_append_right _ h))))
  have lk41 := hts (.fieldLink RX4 41 "RentSizes" "height" "I") (by decide +kernel)
  have lk92 := hts (.fieldLink RX4 92 "RentSizes" "made" "I") (by decide +kernel)
  have lk19 := hts (.fieldLink RX4 19 "RentSizes" "ledger" "LRentSizes$Ledger;") (by decide +kernel)
  have i3 : ∀ w ∈ wsX30, w ∈ wsX4_told := fun _ h => List.mem_cons_of_mem _ (List.mem_append_left _ (List.mem_append_left _ (List.mem_append_right _ h)))
  have lk10 := hts (.fieldLink RX4 10 "RentSizes" "editions" "LRentSizes$Editions;") (by decide +kernel)
  have i0 : ∀ w ∈ wsX00, w ∈ wsX4_told := fun _ h => List.mem_cons_of_mem _ (List.mem_append_left _ (List.mem_append_right _ h))
  refine lv_iload_n hx hb dX4_told_0 rfl (lv_at hl 1 rfl) ?_
  by_cases c_1_0 : p1 = 0
  · refine lv_tableIn (off := 55) (tgt := 56) hx hb dX4_told_1 (by rw [c_1_0]; decide) (by rw [c_1_0]; decide) (by rw [c_1_0]; rfl) (by decide) ?_
    refine lv_aload_n hx hb dX4_told_56 rfl (lv_at hl 0 rfl) ?_
    refine r_get (C := RX4) (T := TX4) (v := .int (u13)) hx hb hts i4 hown hw 0 rfl rfl 5 (by decide) lk41 rfl dX4_told_57 ?_
    have e9 : f4_told u4 c5 c6 u8 u9 u10 u12 u13 I p1 = u13 := by unfold f4_told; rw [if_pos c_1_0]
    exact r_iret hx hb hr hlocks hw ⟨by rw [e9] <;> rfl, rfl⟩ dX4_told_60
  by_cases c_1_1 : p1 = 1
  · refine lv_tableIn (off := 60) (tgt := 61) hx hb dX4_told_1 (by rw [c_1_1]; decide) (by rw [c_1_1]; decide) (by rw [c_1_1]; rfl) (by decide) ?_
    refine lv_aload_n hx hb dX4_told_61 rfl (lv_at hl 0 rfl) ?_
    refine r_get (C := RX4) (T := TX4) (v := .int (u12)) hx hb hts i4 hown hw 0 rfl rfl 4 (by decide) lk92 rfl dX4_told_62 ?_
    have e9 : f4_told u4 c5 c6 u8 u9 u10 u12 u13 I p1 = u12 := by unfold f4_told; rw [if_neg c_1_0, if_pos c_1_1]
    exact r_iret hx hb hr hlocks hw ⟨by rw [e9] <;> rfl, rfl⟩ dX4_told_65
  by_cases c_1_2 : p1 = 2
  · refine lv_tableIn (off := 65) (tgt := 66) hx hb dX4_told_1 (by rw [c_1_2]; decide) (by rw [c_1_2]; decide) (by rw [c_1_2]; rfl) (by decide) ?_
    refine lv_aload_n hx hb dX4_told_66 rfl (lv_at hl 0 rfl) ?_
    refine lv_iconst (v := 0) hx hb dX4_told_67 (by decide) ?_
    refine r_callVi 0 rfl rfl (rest := []) ⟨hx, hb, hml, hown, hts⟩ hw [.int (0)] (k4_countOf l D ty a b n cI cO ht0 ht1 c0 c1 c2 c3 u4 c5 c6 c7 u8 u9 u10 c11 u12 u13 I 0 (by first | assumption | omega) (by first | assumption | omega) (by first | assumption | omega)) (cwV 1 hts gX4_told_X4_countOf rfl rfl rfl (by decide +kernel) ⟨Nat.le_of_ble_eq_true rfl, Nat.le_of_ble_eq_true rfl⟩) rfl hl.1 rfl (Nat.le_of_ble_eq_true rfl) dX4_told_68 ⟨Nat.le_of_ble_eq_true rfl, Nat.le_of_ble_eq_true rfl⟩ (fun r w H locs hp hw => ?_)
    obtain ⟨rfl, rfl⟩ := hp
    have e9 : f4_told u4 c5 c6 u8 u9 u10 u12 u13 I p1 = f4_countOf u12 I 0 := by unfold f4_told; rw [if_neg c_1_0, if_neg c_1_1, if_pos c_1_2]
    exact r_iret hx hb hr hlocks hw ⟨by rw [e9] <;> rfl, rfl⟩ dX4_told_71
  by_cases c_1_3 : p1 = 3
  · refine lv_tableIn (off := 71) (tgt := 72) hx hb dX4_told_1 (by rw [c_1_3]; decide) (by rw [c_1_3]; decide) (by rw [c_1_3]; rfl) (by decide) ?_
    refine lv_aload_n hx hb dX4_told_72 rfl (lv_at hl 0 rfl) ?_
    refine lv_iconst (v := 1) hx hb dX4_told_73 (by decide) ?_
    refine r_callVi 0 rfl rfl (rest := []) ⟨hx, hb, hml, hown, hts⟩ hw [.int (1)] (k4_countOf l D ty a b n cI cO ht0 ht1 c0 c1 c2 c3 u4 c5 c6 c7 u8 u9 u10 c11 u12 u13 I 1 (by first | assumption | omega) (by first | assumption | omega) (by first | assumption | omega)) (cwV 1 hts gX4_told_X4_countOf rfl rfl rfl (by decide +kernel) ⟨Nat.le_of_ble_eq_true rfl, Nat.le_of_ble_eq_true rfl⟩) rfl hl.1 rfl (Nat.le_of_ble_eq_true rfl) dX4_told_74 ⟨Nat.le_of_ble_eq_true rfl, Nat.le_of_ble_eq_true rfl⟩ (fun r w H locs hp hw => ?_)
    obtain ⟨rfl, rfl⟩ := hp
    have e9 : f4_told u4 c5 c6 u8 u9 u10 u12 u13 I p1 = f4_countOf u12 I 1 := by unfold f4_told; rw [if_neg c_1_0, if_neg c_1_1, if_neg c_1_2, if_pos c_1_3]
    exact r_iret hx hb hr hlocks hw ⟨by rw [e9] <;> rfl, rfl⟩ dX4_told_77
  by_cases c_1_4 : p1 = 4
  · refine lv_tableIn (off := 77) (tgt := 78) hx hb dX4_told_1 (by rw [c_1_4]; decide) (by rw [c_1_4]; decide) (by rw [c_1_4]; rfl) (by decide) ?_
    refine lv_aload_n hx hb dX4_told_78 rfl (lv_at hl 0 rfl) ?_
    refine lv_iconst (v := (-1)) hx hb dX4_told_79 (by decide) ?_
    refine r_callVi 0 rfl rfl (rest := []) ⟨hx, hb, hml, hown, hts⟩ hw [.int ((-1))] (k4_liveSizes l D ty a b n cI cO ht0 ht1 c0 c1 c2 c3 u4 c5 c6 c7 u8 u9 u10 c11 u12 u13 I (-1) (by first | assumption | omega) (by first | assumption | omega) (by first | assumption | omega)) (cwV 1 hts gX4_told_X4_liveSizes rfl rfl rfl (by decide +kernel) ⟨Nat.le_of_ble_eq_true rfl, Nat.le_of_ble_eq_true rfl⟩) rfl hl.1 rfl (Nat.le_of_ble_eq_true rfl) dX4_told_80 ⟨Nat.le_of_ble_eq_true rfl, Nat.le_of_ble_eq_true rfl⟩ (fun r w H locs hp hw => ?_)
    obtain ⟨rfl, rfl⟩ := hp
    have e9 : f4_told u4 c5 c6 u8 u9 u10 u12 u13 I p1 = f4_liveSizes u12 I (-1) := by unfold f4_told; rw [if_neg c_1_0, if_neg c_1_1, if_neg c_1_2, if_neg c_1_3, if_pos c_1_4]
    exact r_iret hx hb hr hlocks hw ⟨by rw [e9] <;> rfl, rfl⟩ dX4_told_83
  by_cases c_1_5 : p1 = 5
  · refine lv_tableIn (off := 83) (tgt := 84) hx hb dX4_told_1 (by rw [c_1_5]; decide) (by rw [c_1_5]; decide) (by rw [c_1_5]; rfl) (by decide) ?_
    refine lv_aload_n hx hb dX4_told_84 rfl (lv_at hl 0 rfl) ?_
    refine r_get (C := RX4) (T := TX4) (v := .ref (a 6)) hx hb hts i4 hown hw 0 rfl rfl 1 (by decide) lk19 rfl dX4_told_85 ?_
    refine r_getN (C := RX3) (T := TX3) (v := .int (u8)) hx hb hts i3 hown hw 6 rfl rfl 3 (by decide) (List.mem_of_getElem? (i := 14) rfl) rfl dX4_told_88 ?_
    have e9 : f4_told u4 c5 c6 u8 u9 u10 u12 u13 I p1 = u8 := by unfold f4_told; rw [if_neg c_1_0, if_neg c_1_1, if_neg c_1_2, if_neg c_1_3, if_neg c_1_4, if_pos c_1_5]
    exact r_iret hx hb hr hlocks hw ⟨by rw [e9] <;> rfl, rfl⟩ dX4_told_91
  by_cases c_1_6 : p1 = 6
  · refine lv_tableIn (off := 91) (tgt := 92) hx hb dX4_told_1 (by rw [c_1_6]; decide) (by rw [c_1_6]; decide) (by rw [c_1_6]; rfl) (by decide) ?_
    refine lv_aload_n hx hb dX4_told_92 rfl (lv_at hl 0 rfl) ?_
    refine r_get (C := RX4) (T := TX4) (v := .ref (a 6)) hx hb hts i4 hown hw 0 rfl rfl 1 (by decide) lk19 rfl dX4_told_93 ?_
    refine r_getN (C := RX3) (T := TX3) (v := .int (u9)) hx hb hts i3 hown hw 6 rfl rfl 4 (by decide) (List.mem_of_getElem? (i := 15) rfl) rfl dX4_told_96 ?_
    have e9 : f4_told u4 c5 c6 u8 u9 u10 u12 u13 I p1 = u9 := by unfold f4_told; rw [if_neg c_1_0, if_neg c_1_1, if_neg c_1_2, if_neg c_1_3, if_neg c_1_4, if_neg c_1_5, if_pos c_1_6]
    exact r_iret hx hb hr hlocks hw ⟨by rw [e9] <;> rfl, rfl⟩ dX4_told_99
  by_cases c_1_7 : p1 = 7
  · refine lv_tableIn (off := 99) (tgt := 100) hx hb dX4_told_1 (by rw [c_1_7]; decide) (by rw [c_1_7]; decide) (by rw [c_1_7]; rfl) (by decide) ?_
    refine lv_aload_n hx hb dX4_told_100 rfl (lv_at hl 0 rfl) ?_
    refine r_get (C := RX4) (T := TX4) (v := .ref (a 6)) hx hb hts i4 hown hw 0 rfl rfl 1 (by decide) lk19 rfl dX4_told_101 ?_
    refine r_callVi 6 rfl rfl (rest := []) ⟨hx, hb, hml, hown, hts⟩ hw [] (k3_allCoins l D ty a b n cI cO ht0 ht1 c0 c1 c2 c3 u4 c5 c6 c7 u8 u9 u10 c11 u12 u13 I) (cwV 0 hts gX4_told_X3_allCoins rfl rfl rfl (by decide +kernel) ⟨Nat.le_of_ble_eq_true rfl, Nat.le_of_ble_eq_true rfl⟩) rfl hl.1 rfl (Nat.le_of_ble_eq_true rfl) dX4_told_104 ⟨Nat.le_of_ble_eq_true rfl, Nat.le_of_ble_eq_true rfl⟩ (fun r w H locs hp hw => ?_)
    obtain ⟨rfl, rfl⟩ := hp
    have e9 : f4_told u4 c5 c6 u8 u9 u10 u12 u13 I p1 = f3_allCoins c5 c6 u8 u9 := by unfold f4_told; rw [if_neg c_1_0, if_neg c_1_1, if_neg c_1_2, if_neg c_1_3, if_neg c_1_4, if_neg c_1_5, if_neg c_1_6, if_pos c_1_7]
    exact r_iret hx hb hr hlocks hw ⟨by rw [e9] <;> rfl, rfl⟩ dX4_told_107
  by_cases c_1_8 : p1 = 8
  · refine lv_tableIn (off := 107) (tgt := 108) hx hb dX4_told_1 (by rw [c_1_8]; decide) (by rw [c_1_8]; decide) (by rw [c_1_8]; rfl) (by decide) ?_
    refine lv_aload_n hx hb dX4_told_108 rfl (lv_at hl 0 rfl) ?_
    refine r_get (C := RX4) (T := TX4) (v := .ref (a 1)) hx hb hts i4 hown hw 0 rfl rfl 0 (by decide) lk10 rfl dX4_told_109 ?_
    refine r_getN (C := RX0) (T := TX0) (v := .int (u4)) hx hb hts i0 hown hw 1 rfl rfl 4 (by decide) (List.mem_of_getElem? (i := 0) rfl) rfl dX4_told_112 ?_
    have e9 : f4_told u4 c5 c6 u8 u9 u10 u12 u13 I p1 = u4 := by unfold f4_told; rw [if_neg c_1_0, if_neg c_1_1, if_neg c_1_2, if_neg c_1_3, if_neg c_1_4, if_neg c_1_5, if_neg c_1_6, if_neg c_1_7, if_pos c_1_8]
    exact r_iret hx hb hr hlocks hw ⟨by rw [e9] <;> rfl, rfl⟩ dX4_told_115
  by_cases c_1_9 : p1 = 9
  · refine lv_tableIn (off := 115) (tgt := 116) hx hb dX4_told_1 (by rw [c_1_9]; decide) (by rw [c_1_9]; decide) (by rw [c_1_9]; rfl) (by decide) ?_
    refine lv_aload_n hx hb dX4_told_116 rfl (lv_at hl 0 rfl) ?_
    refine r_get (C := RX4) (T := TX4) (v := .ref (a 6)) hx hb hts i4 hown hw 0 rfl rfl 1 (by decide) lk19 rfl dX4_told_117 ?_
    refine r_getN (C := RX3) (T := TX3) (v := .int (u10)) hx hb hts i3 hown hw 6 rfl rfl 5 (by decide) (List.mem_of_getElem? (i := 16) rfl) rfl dX4_told_120 ?_
    have e9 : f4_told u4 c5 c6 u8 u9 u10 u12 u13 I p1 = u10 := by unfold f4_told; rw [if_neg c_1_0, if_neg c_1_1, if_neg c_1_2, if_neg c_1_3, if_neg c_1_4, if_neg c_1_5, if_neg c_1_6, if_neg c_1_7, if_neg c_1_8, if_pos c_1_9]
    exact r_iret hx hb hr hlocks hw ⟨by rw [e9] <;> rfl, rfl⟩ dX4_told_123
  refine lv_tableOut (tgt := 124) hx hb dX4_told_1 (by have := lv_neT c_1_0 (show (0 : Int32).toInt = 0 from rfl); have := lv_neT c_1_1 (show (1 : Int32).toInt = 1 from rfl); have := lv_neT c_1_2 (show (2 : Int32).toInt = 2 from rfl); have := lv_neT c_1_3 (show (3 : Int32).toInt = 3 from rfl); have := lv_neT c_1_4 (show (4 : Int32).toInt = 4 from rfl); have := lv_neT c_1_5 (show (5 : Int32).toInt = 5 from rfl); have := lv_neT c_1_6 (show (6 : Int32).toInt = 6 from rfl); have := lv_neT c_1_7 (show (7 : Int32).toInt = 7 from rfl); have := lv_neT c_1_8 (show (8 : Int32).toInt = 8 from rfl); have := lv_neT c_1_9 (show (9 : Int32).toInt = 9 from rfl); omega) (by decide) ?_
  refine lv_bipush (v := (-102)) hx hb dX4_told_124 (by decide) ?_
  have e9 : f4_told u4 c5 c6 u8 u9 u10 u12 u13 I p1 = (-102) := by unfold f4_told; rw [if_neg c_1_0, if_neg c_1_1, if_neg c_1_2, if_neg c_1_3, if_neg c_1_4, if_neg c_1_5, if_neg c_1_6, if_neg c_1_7, if_neg c_1_8, if_neg c_1_9]
  exact r_iret hx hb hr hlocks hw ⟨by rw [e9] <;> rfl, rfl⟩ dX4_told_126
def f4_beginAnew (c0 : Nat → Int32) (c1 : Nat → Int32) (c2 : Nat → Int32) (c3 : Nat → Int32) (c5 : Nat → Int32) (c6 : Nat → Int32) (c7 : Nat → Int32) (c11 : Nat → Int32) : (Nat → Int32) × (Nat → Int32) × (Nat → Int32) × (Nat → Int32) × Int32 × (Nat → Int32) × (Nat → Int32) × (Nat → Int32) × Int32 × Int32 × Int32 × (Nat → Int32) × Int32 × Int32 :=
  ((f0_reset c0 c1 c2 c3).1, (f0_reset c0 c1 c2 c3).2.1, (f0_reset c0 c1 c2 c3).2.2.1, (f0_reset c0 c1 c2 c3).2.2.2.1, (f0_reset c0 c1 c2 c3).2.2.2.2, (f3_reset c5 c6 c7).1, (f3_reset c5 c6 c7).2.1, (f3_reset c5 c6 c7).2.2.1, (f3_reset c5 c6 c7).2.2.2.1, (f3_reset c5 c6 c7).2.2.2.2.1, (f3_reset c5 c6 c7).2.2.2.2.2, f7_fill_53178 c11 6 1000, 0, 0)
set_option maxHeartbeats 4000000 in
set_option maxRecDepth 100000 in
theorem k4_beginAnew (l : Launch) (D : va_G) (ty : List (ClassId × FieldType)) (a : Nat → Nat) (b : Nat → Nat → Nat) (n : Nat) (cI cO : ClassId) (ht0 : ty[0]? = some (cI, .int)) (ht1 : ty[1]? = some (cO, .object "RentSizes$Item")) (c0 : Nat → Int32) (c1 : Nat → Int32) (c2 : Nat → Int32) (c3 : Nat → Int32) (u4 : Int32) (c5 : Nat → Int32) (c6 : Nat → Int32) (c7 : Nat → Int32) (u8 : Int32) (u9 : Int32) (u10 : Int32) (c11 : Nat → Int32) (u12 : Int32) (u13 : Int32) (I : Nat → Nat → Nat → Int32) : MetG l yX4_beginAnew wsX4_beginAnew { frames := 2, cells := 0, slots := 0, locals := 44 } D ty [.ref (a 0)] (CW a b n cI cO c0 c1 c2 c3 u4 c5 c6 c7 u8 u9 u10 c11 u12 u13 I) (va_Qv (fun w => w = CW a b n cI cO (f4_beginAnew c0 c1 c2 c3 c5 c6 c7 c11).1 (f4_beginAnew c0 c1 c2 c3 c5 c6 c7 c11).2.1 (f4_beginAnew c0 c1 c2 c3 c5 c6 c7 c11).2.2.1 (f4_beginAnew c0 c1 c2 c3 c5 c6 c7 c11).2.2.2.1 (f4_beginAnew c0 c1 c2 c3 c5 c6 c7 c11).2.2.2.2.1 (f4_beginAnew c0 c1 c2 c3 c5 c6 c7 c11).2.2.2.2.2.1 (f4_beginAnew c0 c1 c2 c3 c5 c6 c7 c11).2.2.2.2.2.2.1 (f4_beginAnew c0 c1 c2 c3 c5 c6 c7 c11).2.2.2.2.2.2.2.1 (f4_beginAnew c0 c1 c2 c3 c5 c6 c7 c11).2.2.2.2.2.2.2.2.1 (f4_beginAnew c0 c1 c2 c3 c5 c6 c7 c11).2.2.2.2.2.2.2.2.2.1 (f4_beginAnew c0 c1 c2 c3 c5 c6 c7 c11).2.2.2.2.2.2.2.2.2.2.1 (f4_beginAnew c0 c1 c2 c3 c5 c6 c7 c11).2.2.2.2.2.2.2.2.2.2.2.1 (f4_beginAnew c0 c1 c2 c3 c5 c6 c7 c11).2.2.2.2.2.2.2.2.2.2.2.2.1 (f4_beginAnew c0 c1 c2 c3 c5 c6 c7 c11).2.2.2.2.2.2.2.2.2.2.2.2.2 I)) 0 0 := by
  refine Met_start cX4_beginAnew 1 none (by decide) rfl (Nat.le_of_ble_eq_true rfl) ?_
  intro p e s m below meth c A ls hx hb hr hlocks hml hnm hts hown hw hl
  have hl : lv_has ls 1 [(0, .ref (a 0))] := hl
  have i4 : ∀ w ∈ wsX40, w ∈ wsX4_beginAnew := fun _ h => List.mem_cons_of_mem _ (List.mem_append_left _ (List.mem_append_left _ (List.mem_append_right _ h)))
  have lk10 := hts (.fieldLink RX4 10 "RentSizes" "editions" "LRentSizes$Editions;") (by decide +kernel)
  have lk19 := hts (.fieldLink RX4 19 "RentSizes" "ledger" "LRentSizes$Ledger;") (by decide +kernel)
  have lk23 := hts (.fieldLink RX4 23 "RentSizes" "caps" "[I") (by decide +kernel)
  have lk92 := hts (.fieldLink RX4 92 "RentSizes" "made" "I") (by decide +kernel)
  have lk41 := hts (.fieldLink RX4 41 "RentSizes" "height" "I") (by decide +kernel)
  refine lv_aload_n hx hb dX4_beginAnew_0 rfl (lv_at hl 0 rfl) ?_
  refine r_get (C := RX4) (T := TX4) (v := .ref (a 1)) hx hb hts i4 hown hw 0 rfl rfl 0 (by decide) lk10 rfl dX4_beginAnew_1 ?_
  refine r_callVv 1 rfl rfl (rest := []) ⟨hx, hb, hml, hown, hts⟩ hw [] (k0_reset l D ty a b n cI cO ht0 ht1 c0 c1 c2 c3 u4 c5 c6 c7 u8 u9 u10 c11 u12 u13 I) (cwV 0 hts gX4_beginAnew_X0_reset rfl rfl rfl (by decide +kernel) ⟨Nat.le_of_ble_eq_true rfl, Nat.le_of_ble_eq_true rfl⟩) rfl hl.1 rfl (Nat.le_of_ble_eq_true rfl) dX4_beginAnew_4 ⟨Nat.le_of_ble_eq_true rfl, Nat.le_of_ble_eq_true rfl⟩ (fun w H locs hp hw => ?_)
  subst hp
  refine lv_aload_n hx hb dX4_beginAnew_7 rfl (lv_at hl 0 rfl) ?_
  refine r_get (C := RX4) (T := TX4) (v := .ref (a 6)) hx hb hts i4 hown hw 0 rfl rfl 1 (by decide) lk19 rfl dX4_beginAnew_8 ?_
  refine r_callVv 6 rfl rfl (rest := []) ⟨hx, hb, hml, hown, hts⟩ hw [] (k3_reset l D ty a b n cI cO ht0 ht1 ((f0_reset c0 c1 c2 c3).1) ((f0_reset c0 c1 c2 c3).2.1) ((f0_reset c0 c1 c2 c3).2.2.1) ((f0_reset c0 c1 c2 c3).2.2.2.1) ((f0_reset c0 c1 c2 c3).2.2.2.2) c5 c6 c7 u8 u9 u10 c11 u12 u13 I) (cwV 0 hts gX4_beginAnew_X3_reset rfl rfl rfl (by decide +kernel) ⟨Nat.le_of_ble_eq_true rfl, Nat.le_of_ble_eq_true rfl⟩) rfl hl.1 rfl (Nat.le_of_ble_eq_true rfl) dX4_beginAnew_11 ⟨Nat.le_of_ble_eq_true rfl, Nat.le_of_ble_eq_true rfl⟩ (fun w H locs hp hw => ?_)
  subst hp
  refine lv_aload_n hx hb dX4_beginAnew_14 rfl (lv_at hl 0 rfl) ?_
  refine r_get (C := RX4) (T := TX4) (v := .ref (a 10)) hx hb hts i4 hown hw 0 rfl rfl 2 (by decide) lk23 rfl dX4_beginAnew_15 ?_
  refine lv_sipush (v := 1000) hx hb dX4_beginAnew_18 (by decide) ?_
  refine r_callSv (rest := []) ⟨hx, hb, hml, hown, hts⟩ (hw.cast (CW_u11 _).symm) [.ref (a 10), .int (1000)] (k7_fill_53178 l D ty cI ht0 (CW a b n cI cO ((f0_reset c0 c1 c2 c3).1) ((f0_reset c0 c1 c2 c3).2.1) ((f0_reset c0 c1 c2 c3).2.2.1) ((f0_reset c0 c1 c2 c3).2.2.2.1) ((f0_reset c0 c1 c2 c3).2.2.2.2) ((f3_reset c5 c6 c7).1) ((f3_reset c5 c6 c7).2.1) ((f3_reset c5 c6 c7).2.2.1) ((f3_reset c5 c6 c7).2.2.2.1) ((f3_reset c5 c6 c7).2.2.2.2.1) ((f3_reset c5 c6 c7).2.2.2.2.2) c11 u12 u13 I) 10 (a 10) 6 (List.getElem?_eq_some_iff.mp (show (CW a b n cI cO ((f0_reset c0 c1 c2 c3).1) ((f0_reset c0 c1 c2 c3).2.1) ((f0_reset c0 c1 c2 c3).2.2.1) ((f0_reset c0 c1 c2 c3).2.2.2.1) ((f0_reset c0 c1 c2 c3).2.2.2.2) ((f3_reset c5 c6 c7).1) ((f3_reset c5 c6 c7).2.1) ((f3_reset c5 c6 c7).2.2.1) ((f3_reset c5 c6 c7).2.2.2.1) ((f3_reset c5 c6 c7).2.2.2.2.1) ((f3_reset c5 c6 c7).2.2.2.2.2) c11 u12 u13 I)[10]? = some _ from rfl)).1 (by decide) c11 1000) (va_cwS 2 hts gX4_beginAnew_J7_fill_53178 rfl rfl rfl (by decide +kernel) ⟨Nat.le_of_ble_eq_true rfl, Nat.le_of_ble_eq_true rfl⟩) rfl hl.1 rfl (Nat.le_of_ble_eq_true rfl) dX4_beginAnew_21 ⟨Nat.le_of_ble_eq_true rfl, Nat.le_of_ble_eq_true rfl⟩ (fun w H locs hp hw => ?_)
  subst hp
  replace hw := hw.cast (CW_u11 _)
  refine lv_aload_n hx hb dX4_beginAnew_24 rfl (lv_at hl 0 rfl) ?_
  refine lv_iconst (v := 0) hx hb dX4_beginAnew_25 (by decide) ?_
  refine r_put (C := RX4) (T := TX4) (ws' := CW a b n cI cO ((f0_reset c0 c1 c2 c3).1) ((f0_reset c0 c1 c2 c3).2.1) ((f0_reset c0 c1 c2 c3).2.2.1) ((f0_reset c0 c1 c2 c3).2.2.2.1) ((f0_reset c0 c1 c2 c3).2.2.2.2) ((f3_reset c5 c6 c7).1) ((f3_reset c5 c6 c7).2.1) ((f3_reset c5 c6 c7).2.2.1) ((f3_reset c5 c6 c7).2.2.2.1) ((f3_reset c5 c6 c7).2.2.2.2.1) ((f3_reset c5 c6 c7).2.2.2.2.2) (f7_fill_53178 c11 6 1000) 0 u13 I) hx hb hts i4 tyX4 tyX4_ok nmX4 hown hw 0 rfl rfl 4 (by decide) lk92 rfl (by decide +kernel) (Nat.le_of_ble_eq_true rfl) (CW_s12 _) dX4_beginAnew_26 (fun H locs hw => ?_)
  refine lv_aload_n hx hb dX4_beginAnew_29 rfl (lv_at hl 0 rfl) ?_
  refine lv_iconst (v := 0) hx hb dX4_beginAnew_30 (by decide) ?_
  refine r_put (C := RX4) (T := TX4) (ws' := CW a b n cI cO ((f0_reset c0 c1 c2 c3).1) ((f0_reset c0 c1 c2 c3).2.1) ((f0_reset c0 c1 c2 c3).2.2.1) ((f0_reset c0 c1 c2 c3).2.2.2.1) ((f0_reset c0 c1 c2 c3).2.2.2.2) ((f3_reset c5 c6 c7).1) ((f3_reset c5 c6 c7).2.1) ((f3_reset c5 c6 c7).2.2.1) ((f3_reset c5 c6 c7).2.2.2.1) ((f3_reset c5 c6 c7).2.2.2.2.1) ((f3_reset c5 c6 c7).2.2.2.2.2) (f7_fill_53178 c11 6 1000) 0 0 I) hx hb hts i4 tyX4 tyX4_ok nmX4 hown hw 0 rfl rfl 5 (by decide) lk41 rfl (by decide +kernel) (Nat.le_of_ble_eq_true rfl) (CW_s13 _) dX4_beginAnew_31 (fun H locs hw => ?_)
  have e9 : f4_beginAnew c0 c1 c2 c3 c5 c6 c7 c11 = ((f0_reset c0 c1 c2 c3).1, (f0_reset c0 c1 c2 c3).2.1, (f0_reset c0 c1 c2 c3).2.2.1, (f0_reset c0 c1 c2 c3).2.2.2.1, (f0_reset c0 c1 c2 c3).2.2.2.2, (f3_reset c5 c6 c7).1, (f3_reset c5 c6 c7).2.1, (f3_reset c5 c6 c7).2.2.1, (f3_reset c5 c6 c7).2.2.2.1, (f3_reset c5 c6 c7).2.2.2.2.1, (f3_reset c5 c6 c7).2.2.2.2.2, f7_fill_53178 c11 6 1000, 0, 0) := by unfold f4_beginAnew; rfl
  exact r_vret hx hb hr hlocks hw (by rw [e9] <;> rfl) dX4_beginAnew_34
def f4_clear (c0 : Nat → Int32) (c1 : Nat → Int32) (c2 : Nat → Int32) (c3 : Nat → Int32) (c5 : Nat → Int32) (c6 : Nat → Int32) (c7 : Nat → Int32) (c11 : Nat → Int32) (u12 : Int32) : Int32 × (Nat → Int32) × (Nat → Int32) × (Nat → Int32) × (Nat → Int32) × Int32 × (Nat → Int32) × (Nat → Int32) × (Nat → Int32) × Int32 × Int32 × Int32 × (Nat → Int32) × Int32 × Int32 :=
  (u12, (f4_beginAnew c0 c1 c2 c3 c5 c6 c7 c11).1, (f4_beginAnew c0 c1 c2 c3 c5 c6 c7 c11).2.1, (f4_beginAnew c0 c1 c2 c3 c5 c6 c7 c11).2.2.1, (f4_beginAnew c0 c1 c2 c3 c5 c6 c7 c11).2.2.2.1, (f4_beginAnew c0 c1 c2 c3 c5 c6 c7 c11).2.2.2.2.1, (f4_beginAnew c0 c1 c2 c3 c5 c6 c7 c11).2.2.2.2.2.1, (f4_beginAnew c0 c1 c2 c3 c5 c6 c7 c11).2.2.2.2.2.2.1, (f4_beginAnew c0 c1 c2 c3 c5 c6 c7 c11).2.2.2.2.2.2.2.1, (f4_beginAnew c0 c1 c2 c3 c5 c6 c7 c11).2.2.2.2.2.2.2.2.1, (f4_beginAnew c0 c1 c2 c3 c5 c6 c7 c11).2.2.2.2.2.2.2.2.2.1, (f4_beginAnew c0 c1 c2 c3 c5 c6 c7 c11).2.2.2.2.2.2.2.2.2.2.1, (f4_beginAnew c0 c1 c2 c3 c5 c6 c7 c11).2.2.2.2.2.2.2.2.2.2.2.1, (f4_beginAnew c0 c1 c2 c3 c5 c6 c7 c11).2.2.2.2.2.2.2.2.2.2.2.2.1, (f4_beginAnew c0 c1 c2 c3 c5 c6 c7 c11).2.2.2.2.2.2.2.2.2.2.2.2.2)
set_option maxHeartbeats 4000000 in
set_option maxRecDepth 100000 in
theorem k4_clear (l : Launch) (D : va_G) (ty : List (ClassId × FieldType)) (a : Nat → Nat) (b : Nat → Nat → Nat) (n : Nat) (cI cO : ClassId) (ht0 : ty[0]? = some (cI, .int)) (ht1 : ty[1]? = some (cO, .object "RentSizes$Item")) (c0 : Nat → Int32) (c1 : Nat → Int32) (c2 : Nat → Int32) (c3 : Nat → Int32) (u4 : Int32) (c5 : Nat → Int32) (c6 : Nat → Int32) (c7 : Nat → Int32) (u8 : Int32) (u9 : Int32) (u10 : Int32) (c11 : Nat → Int32) (u12 : Int32) (u13 : Int32) (I : Nat → Nat → Nat → Int32) : MetG l yX4_clear wsX4_clear { frames := 3, cells := 0, slots := 0, locals := 64 } D ty [.ref (a 0)] (CW a b n cI cO c0 c1 c2 c3 u4 c5 c6 c7 u8 u9 u10 c11 u12 u13 I) (va_Qi (fun r w => r = (f4_clear c0 c1 c2 c3 c5 c6 c7 c11 u12).1 ∧ w = CW a b n cI cO (f4_clear c0 c1 c2 c3 c5 c6 c7 c11 u12).2.1 (f4_clear c0 c1 c2 c3 c5 c6 c7 c11 u12).2.2.1 (f4_clear c0 c1 c2 c3 c5 c6 c7 c11 u12).2.2.2.1 (f4_clear c0 c1 c2 c3 c5 c6 c7 c11 u12).2.2.2.2.1 (f4_clear c0 c1 c2 c3 c5 c6 c7 c11 u12).2.2.2.2.2.1 (f4_clear c0 c1 c2 c3 c5 c6 c7 c11 u12).2.2.2.2.2.2.1 (f4_clear c0 c1 c2 c3 c5 c6 c7 c11 u12).2.2.2.2.2.2.2.1 (f4_clear c0 c1 c2 c3 c5 c6 c7 c11 u12).2.2.2.2.2.2.2.2.1 (f4_clear c0 c1 c2 c3 c5 c6 c7 c11 u12).2.2.2.2.2.2.2.2.2.1 (f4_clear c0 c1 c2 c3 c5 c6 c7 c11 u12).2.2.2.2.2.2.2.2.2.2.1 (f4_clear c0 c1 c2 c3 c5 c6 c7 c11 u12).2.2.2.2.2.2.2.2.2.2.2.1 (f4_clear c0 c1 c2 c3 c5 c6 c7 c11 u12).2.2.2.2.2.2.2.2.2.2.2.2.1 (f4_clear c0 c1 c2 c3 c5 c6 c7 c11 u12).2.2.2.2.2.2.2.2.2.2.2.2.2.1 (f4_clear c0 c1 c2 c3 c5 c6 c7 c11 u12).2.2.2.2.2.2.2.2.2.2.2.2.2.2 I)) 0 0 := by
  refine Met_start cX4_clear 2 (some .int) (by decide) rfl (Nat.le_of_ble_eq_true rfl) ?_
  intro p e s m below meth c A ls hx hb hr hlocks hml hnm hts hown hw hl
  have hl : lv_has ls 2 [(0, .ref (a 0))] := hl
  have i4 : ∀ w ∈ wsX40, w ∈ wsX4_clear := fun _ h => List.mem_cons_of_mem _ (List.mem_append_left _ (List.mem_append_left _ (List.mem_append_right _ h)))
  have lk92 := hts (.fieldLink RX4 92 "RentSizes" "made" "I") (by decide +kernel)
  refine lv_aload_n hx hb dX4_clear_0 rfl (lv_at hl 0 rfl) ?_
  refine r_get (C := RX4) (T := TX4) (v := .int (u12)) hx hb hts i4 hown hw 0 rfl rfl 4 (by decide) lk92 rfl dX4_clear_1 ?_
  refine lv_istore_n (lv' := [(1, .int (u12)), (0, .ref (a 0))]) hx hb dX4_clear_4 rfl hl (by decide) rfl (fun ls hl => ?_)
  refine lv_aload_n hx hb dX4_clear_5 rfl (lv_at hl 1 rfl) ?_
  refine r_callVv 0 rfl rfl (rest := []) ⟨hx, hb, hml, hown, hts⟩ hw [] (k4_beginAnew l D ty a b n cI cO ht0 ht1 c0 c1 c2 c3 u4 c5 c6 c7 u8 u9 u10 c11 u12 u13 I) (cwV 0 hts gX4_clear_X4_beginAnew rfl rfl rfl (by decide +kernel) ⟨Nat.le_of_ble_eq_true rfl, Nat.le_of_ble_eq_true rfl⟩) rfl hl.1 rfl (Nat.le_of_ble_eq_true rfl) dX4_clear_6 ⟨Nat.le_of_ble_eq_true rfl, Nat.le_of_ble_eq_true rfl⟩ (fun w H locs hp hw => ?_)
  subst hp
  refine lv_iload_n hx hb dX4_clear_9 rfl (lv_at hl 0 rfl) ?_
  have e9 : f4_clear c0 c1 c2 c3 c5 c6 c7 c11 u12 = (u12, (f4_beginAnew c0 c1 c2 c3 c5 c6 c7 c11).1, (f4_beginAnew c0 c1 c2 c3 c5 c6 c7 c11).2.1, (f4_beginAnew c0 c1 c2 c3 c5 c6 c7 c11).2.2.1, (f4_beginAnew c0 c1 c2 c3 c5 c6 c7 c11).2.2.2.1, (f4_beginAnew c0 c1 c2 c3 c5 c6 c7 c11).2.2.2.2.1, (f4_beginAnew c0 c1 c2 c3 c5 c6 c7 c11).2.2.2.2.2.1, (f4_beginAnew c0 c1 c2 c3 c5 c6 c7 c11).2.2.2.2.2.2.1, (f4_beginAnew c0 c1 c2 c3 c5 c6 c7 c11).2.2.2.2.2.2.2.1, (f4_beginAnew c0 c1 c2 c3 c5 c6 c7 c11).2.2.2.2.2.2.2.2.1, (f4_beginAnew c0 c1 c2 c3 c5 c6 c7 c11).2.2.2.2.2.2.2.2.2.1, (f4_beginAnew c0 c1 c2 c3 c5 c6 c7 c11).2.2.2.2.2.2.2.2.2.2.1, (f4_beginAnew c0 c1 c2 c3 c5 c6 c7 c11).2.2.2.2.2.2.2.2.2.2.2.1, (f4_beginAnew c0 c1 c2 c3 c5 c6 c7 c11).2.2.2.2.2.2.2.2.2.2.2.2.1, (f4_beginAnew c0 c1 c2 c3 c5 c6 c7 c11).2.2.2.2.2.2.2.2.2.2.2.2.2) := by unfold f4_clear; rfl
  exact r_iret hx hb hr hlocks hw ⟨by rw [e9] <;> rfl, by rw [e9] <;> rfl⟩ dX4_clear_10
def lf4_tick_28 (c7 : Nat → Int32) (u12 : Int32) (p1 : Int32) (t : Nat) : Nat → Nat → Int32 → (Nat → Int32) → Int32 → Int32 → Int32 → (Nat → Nat → Nat → Int32) → Int32 × (Nat → Int32) × Int32 × Int32 × Int32 × (Nat → Nat → Nat → Int32)
  | 0, _, v2, f6, f9, f10, f13, Iv => (v2, f6, f9, f10, f13, Iv)
  | k + 1, j, v2, f6, f9, f10, f13, Iv => lf4_tick_28 c7 u12 p1 t k (j + 1) (v2 + ((f4_archiveUnpaid u12 (f13 + 1) Iv).1)) ((f3_sharePool f6 c7 f9 f10).1) ((f3_sharePool f6 c7 f9 f10).2.1) ((f3_sharePool f6 c7 f9 f10).2.2) (f13 + 1) ((f4_archiveUnpaid u12 (f13 + 1) Iv).2)
set_option maxHeartbeats 4000000 in
set_option maxRecDepth 100000 in
theorem lt4_tick_28 (l : Launch) (D : va_G) (ty : List (ClassId × FieldType)) (a : Nat → Nat) (b : Nat → Nat → Nat) (n : Nat) (cI cO : ClassId) (ht0 : ty[0]? = some (cI, .int)) (ht1 : ty[1]? = some (cO, .object "RentSizes$Item")) (c0 : Nat → Int32) (c1 : Nat → Int32) (c2 : Nat → Int32) (c3 : Nat → Int32) (u4 : Int32) (c5 : Nat → Int32) (c6 : Nat → Int32) (c7 : Nat → Int32) (u8 : Int32) (u9 : Int32) (u10 : Int32) (c11 : Nat → Int32) (u12 : Int32) (u13 : Int32) (I : Nat → Nat → Nat → Int32) (p1 : Int32) (hob : u12 = nI (tn u12)) (hob2 : tn u12 ≤ n) (hn60 : n ≤ 60) (t : Nat) {p : Program} {e : Env} {s : State} {m : MethodId} {args : Array Value} {below : List Frame} {meth : Method} {c : Code} {A : Nat → Prop} {H0 : Heap} {Q : State → Prop} (hx : p.tables.exec = Jvm.exec) (hb : c.code = cX4_tick) (hml : c.maxLocals = 4) (hts : ∀ w ∈ wsX4_tick, w.before args s = true) (hown : s.vm.findClass RX4 = some m.cls) : ∀ (k j : Nat) (v2 : Int32) (f6 : (Nat → Int32)) (f9 : Int32) (f10 : Int32) (f13 : Int32) (Iv : (Nat → Nat → Nat → Int32)) (hj : j + k = t) (htt : 1 ≤ t ∧ t ≤ 100) (H : Heap) (locs : List Loc) (ls : Array Slot) (hw : Wd D ty A H0 s (CW a b n cI cO c0 c1 c2 c3 u4 c5 f6 c7 u8 f9 f10 c11 u12 f13 Iv) H locs) (hl : lv_has ls 4 [(3, .int (nI (j))), (2, .int (v2)), (0, .ref (a 0)), (1, .int (nI (t)))]) (kk : ∀ (H1 : Heap) (locs1 : List Loc) (ls1 : Array Slot), Wd D ty A H0 s (CW a b n cI cO c0 c1 c2 c3 u4 c5 ((lf4_tick_28 c7 u12 p1 t k j v2 f6 f9 f10 f13 Iv).2.1) c7 u8 ((lf4_tick_28 c7 u12 p1 t k j v2 f6 f9 f10 f13 Iv).2.2.1) ((lf4_tick_28 c7 u12 p1 t k j v2 f6 f9 f10 f13 Iv).2.2.2.1) c11 u12 ((lf4_tick_28 c7 u12 p1 t k j v2 f6 f9 f10 f13 Iv).2.2.2.2.1) ((lf4_tick_28 c7 u12 p1 t k j v2 f6 f9 f10 f13 Iv).2.2.2.2.2)) H1 locs1 → lv_has ls1 4 [(3, .int (nI (t))), (2, .int ((lf4_tick_28 c7 u12 p1 t k j v2 f6 f9 f10 f13 Iv).1)), (0, .ref (a 0)), (1, .int (nI (t)))] → W p l e ({ frames := 2, cells := 0, slots := 0, locals := 47 } : Room) s m args below meth c H1 locs1 0 0 Q (F0 m 63 ls1 [])), W p l e ({ frames := 2, cells := 0, slots := 0, locals := 47 } : Room) s m args below meth c H locs 0 0 Q (F0 m 28 ls []) := by
  have i4 : ∀ w ∈ wsX40, w ∈ wsX4_tick := fun _ h => List.mem_cons_of_mem _ (List.mem_append_left _ (List.mem_append_left _ (List.mem_append_right _ h)))
  have lk41 := hts (.fieldLink RX4 41 "RentSizes" "height" "I") (by decide +kernel)
  have lk19 := hts (.fieldLink RX4 19 "RentSizes" "ledger" "LRentSizes$Ledger;") (by decide +kernel)
  intro k
  induction k with
  | zero =>
    intro j v2 f6 f9 f10 f13 Iv hj htt H locs ls hw hl kk
    have hj0 : j = t := by omega
    refine lv_iload_n hx hb dX4_tick_28 rfl (lv_at hl 0 rfl) ?_
    refine lv_iload_n hx hb dX4_tick_29 rfl (lv_at hl 3 rfl) ?_
    refine lv_icmp_ge (tgt := 63) hx hb dX4_tick_30 (by decide) (fun c_30 => ?_) (fun c_30 => ?_)
    · subst hj0
      exact kk _ _ _ hw (lv_sub hl [0, 1, 2, 3] rfl)
    · exact absurd (nI_le (by omega) (by omega)) c_30
  | succ k ih =>
    intro j v2 f6 f9 f10 f13 Iv hj htt H locs ls hw hl kk
    have hjb : j < t := by omega
    refine lv_iload_n hx hb dX4_tick_28 rfl (lv_at hl 0 rfl) ?_
    refine lv_iload_n hx hb dX4_tick_29 rfl (lv_at hl 3 rfl) ?_
    refine lv_icmp_ge (tgt := 63) hx hb dX4_tick_30 (by decide) (fun c_30 => ?_) (fun c_30 => ?_)
    · exact absurd c_30 (nI_ge (by omega) (by omega))
    · refine lv_aload_n hx hb dX4_tick_33 rfl (lv_at hl 2 rfl) ?_
      refine lv_dup hx hb dX4_tick_34 rfl ?_
      refine r_get (C := RX4) (T := TX4) (v := .int (f13)) hx hb hts i4 hown hw 0 rfl rfl 5 (by decide) lk41 rfl dX4_tick_35 ?_
      refine lv_iconst (v := 1) hx hb dX4_tick_38 (by decide) ?_
      refine lv_iadd hx hb dX4_tick_39 ?_
      refine r_put (C := RX4) (T := TX4) (ws' := CW a b n cI cO c0 c1 c2 c3 u4 c5 f6 c7 u8 f9 f10 c11 u12 (f13 + 1) Iv) hx hb hts i4 tyX4 tyX4_ok nmX4 hown hw 0 rfl rfl 5 (by decide) lk41 rfl (by decide +kernel) (Nat.le_of_ble_eq_true rfl) (CW_s13 _) dX4_tick_40 (fun H locs hw => ?_)
      refine lv_iload_n hx hb dX4_tick_43 rfl (lv_at hl 1 rfl) ?_
      refine lv_aload_n hx hb dX4_tick_44 rfl (lv_at hl 2 rfl) ?_
      refine r_callVi 0 rfl rfl (rest := [.int (v2)]) ⟨hx, hb, hml, hown, hts⟩ hw [] (k4_archiveUnpaid l D ty a b n cI cO ht0 ht1 c0 c1 c2 c3 u4 c5 f6 c7 u8 f9 f10 c11 u12 (f13 + 1) Iv (by first | assumption | omega) (by first | assumption | omega) (by first | assumption | omega)) (cwV 0 hts gX4_tick_X4_archiveUnpaid rfl rfl rfl (by decide +kernel) ⟨Nat.le_of_ble_eq_true rfl, Nat.le_of_ble_eq_true rfl⟩) rfl hl.1 rfl (Nat.le_of_ble_eq_true rfl) dX4_tick_45 ⟨Nat.le_of_ble_eq_true rfl, Nat.le_of_ble_eq_true rfl⟩ (fun r w H locs hp hw => ?_)
      obtain ⟨rfl, rfl⟩ := hp
      refine lv_iadd hx hb dX4_tick_48 ?_
      refine lv_istore_n (lv' := [(2, .int (v2 + ((f4_archiveUnpaid u12 (f13 + 1) Iv).1))), (3, .int (nI (j))), (0, .ref (a 0)), (1, .int (nI (t)))]) hx hb dX4_tick_49 rfl hl (by decide) rfl (fun ls hl => ?_)
      refine lv_aload_n hx hb dX4_tick_50 rfl (lv_at hl 2 rfl) ?_
      refine r_get (C := RX4) (T := TX4) (v := .ref (a 6)) hx hb hts i4 hown hw 0 rfl rfl 1 (by decide) lk19 rfl dX4_tick_51 ?_
      refine r_callVv 6 rfl rfl (rest := []) ⟨hx, hb, hml, hown, hts⟩ hw [] (k3_sharePool l D ty a b n cI cO ht0 ht1 c0 c1 c2 c3 u4 c5 f6 c7 u8 f9 f10 c11 u12 (f13 + 1) ((f4_archiveUnpaid u12 (f13 + 1) Iv).2)) (cwV 0 hts gX4_tick_X3_sharePool rfl rfl rfl (by decide +kernel) ⟨Nat.le_of_ble_eq_true rfl, Nat.le_of_ble_eq_true rfl⟩) rfl hl.1 rfl (Nat.le_of_ble_eq_true rfl) dX4_tick_54 ⟨Nat.le_of_ble_eq_true rfl, Nat.le_of_ble_eq_true rfl⟩ (fun w H locs hp hw => ?_)
      subst hp
      refine lv_iinc (v := nI (j + 1)) (lv' := [(3, .int (nI (j + 1))), (2, .int (v2 + ((f4_archiveUnpaid u12 (f13 + 1) Iv).1))), (0, .ref (a 0)), (1, .int (nI (t)))]) hx hb dX4_tick_57 hl (k := 1) rfl (by show nI (j) + 1 = _; exact nI_1 _) (by decide) rfl (fun ls hl => ?_)
      refine lv_goto (tgt := 28) hx hb dX4_tick_60 (by decide) ?_
      have e9 : lf4_tick_28 c7 u12 p1 t (k + 1) j v2 f6 f9 f10 f13 Iv = lf4_tick_28 c7 u12 p1 t k (j + 1) (v2 + ((f4_archiveUnpaid u12 (f13 + 1) Iv).1)) ((f3_sharePool f6 c7 f9 f10).1) ((f3_sharePool f6 c7 f9 f10).2.1) ((f3_sharePool f6 c7 f9 f10).2.2) (f13 + 1) ((f4_archiveUnpaid u12 (f13 + 1) Iv).2) := rfl
      rw [e9] at kk
      exact ih (j + 1) (v2 + ((f4_archiveUnpaid u12 (f13 + 1) Iv).1)) ((f3_sharePool f6 c7 f9 f10).1) ((f3_sharePool f6 c7 f9 f10).2.1) ((f3_sharePool f6 c7 f9 f10).2.2) (f13 + 1) ((f4_archiveUnpaid u12 (f13 + 1) Iv).2) (by omega) (by first | assumption | omega) _ _ _ hw (lv_sub hl [0, 1, 2, 3] rfl) kk
def f4_tick (c6 : Nat → Int32) (c7 : Nat → Int32) (u9 : Int32) (u10 : Int32) (u12 : Int32) (u13 : Int32) (I : Nat → Nat → Nat → Int32) (p1 : Int32) : Int32 × (Nat → Int32) × Int32 × Int32 × Int32 × (Nat → Nat → Nat → Int32) :=
  if (f4_within p1 1 100) = 0 then ((-102), c6, u9, u10, u13, I)
  else if (u13 + p1) ≤ 100000 then ((lf4_tick_28 c7 u12 (nI (tn p1)) (tn p1) (tn p1) 0 0 c6 u9 u10 u13 I).1, (lf4_tick_28 c7 u12 (nI (tn p1)) (tn p1) (tn p1) 0 0 c6 u9 u10 u13 I).2.1, (lf4_tick_28 c7 u12 (nI (tn p1)) (tn p1) (tn p1) 0 0 c6 u9 u10 u13 I).2.2.1, (lf4_tick_28 c7 u12 (nI (tn p1)) (tn p1) (tn p1) 0 0 c6 u9 u10 u13 I).2.2.2.1, (lf4_tick_28 c7 u12 (nI (tn p1)) (tn p1) (tn p1) 0 0 c6 u9 u10 u13 I).2.2.2.2.1, (lf4_tick_28 c7 u12 (nI (tn p1)) (tn p1) (tn p1) 0 0 c6 u9 u10 u13 I).2.2.2.2.2)
  else ((-102), c6, u9, u10, u13, I)
set_option maxHeartbeats 4000000 in
set_option maxRecDepth 100000 in
theorem k4_tick (l : Launch) (D : va_G) (ty : List (ClassId × FieldType)) (a : Nat → Nat) (b : Nat → Nat → Nat) (n : Nat) (cI cO : ClassId) (ht0 : ty[0]? = some (cI, .int)) (ht1 : ty[1]? = some (cO, .object "RentSizes$Item")) (c0 : Nat → Int32) (c1 : Nat → Int32) (c2 : Nat → Int32) (c3 : Nat → Int32) (u4 : Int32) (c5 : Nat → Int32) (c6 : Nat → Int32) (c7 : Nat → Int32) (u8 : Int32) (u9 : Int32) (u10 : Int32) (c11 : Nat → Int32) (u12 : Int32) (u13 : Int32) (I : Nat → Nat → Nat → Int32) (p1 : Int32) (hob : u12 = nI (tn u12)) (hob2 : tn u12 ≤ n) (hn60 : n ≤ 60) : MetG l yX4_tick wsX4_tick { frames := 2, cells := 0, slots := 0, locals := 47 } D ty [.ref (a 0), .int (p1)] (CW a b n cI cO c0 c1 c2 c3 u4 c5 c6 c7 u8 u9 u10 c11 u12 u13 I) (va_Qi (fun r w => r = (f4_tick c6 c7 u9 u10 u12 u13 I p1).1 ∧ w = CW a b n cI cO c0 c1 c2 c3 u4 c5 ((f4_tick c6 c7 u9 u10 u12 u13 I p1).2.1) c7 u8 ((f4_tick c6 c7 u9 u10 u12 u13 I p1).2.2.1) ((f4_tick c6 c7 u9 u10 u12 u13 I p1).2.2.2.1) c11 u12 ((f4_tick c6 c7 u9 u10 u12 u13 I p1).2.2.2.2.1) ((f4_tick c6 c7 u9 u10 u12 u13 I p1).2.2.2.2.2))) 0 0 := by
  refine Met_start cX4_tick 4 (some .int) (by decide) rfl (Nat.le_of_ble_eq_true rfl) ?_
  intro p e s m below meth c A ls hx hb hr hlocks hml hnm hts hown hw hl
  have hl : lv_has ls 4 [(0, .ref (a 0)), (1, .int (p1))] := hl
  have i4 : ∀ w ∈ wsX40, w ∈ wsX4_tick := fun _ h => List.mem_cons_of_mem _ (List.mem_append_left _ (List.mem_append_left _ (List.mem_append_right _ h)))
  have lk41 := hts (.fieldLink RX4 41 "RentSizes" "height" "I") (by decide +kernel)
  have ci36 := hts (.constant RX4 36 (100000)) (by decide +kernel)
  refine lv_iload_n hx hb dX4_tick_0 rfl (lv_at hl 1 rfl) ?_
  refine lv_iconst (v := 1) hx hb dX4_tick_1 (by decide) ?_
  refine lv_bipush (v := 100) hx hb dX4_tick_2 (by decide) ?_
  refine r_callSi (rest := []) ⟨hx, hb, hml, hown, hts⟩ hw [.int (p1), .int (1), .int (100)] (k4_within l D ty a b n cI cO ht0 ht1 c0 c1 c2 c3 u4 c5 c6 c7 u8 u9 u10 c11 u12 u13 I p1 1 100) (va_cwS 3 hts gX4_tick_X4_within rfl rfl rfl (by decide +kernel) ⟨Nat.le_of_ble_eq_true rfl, Nat.le_of_ble_eq_true rfl⟩) rfl hl.1 rfl (Nat.le_of_ble_eq_true rfl) dX4_tick_4 ⟨Nat.le_of_ble_eq_true rfl, Nat.le_of_ble_eq_true rfl⟩ (fun r w H locs hp hw => ?_)
  obtain ⟨rfl, rfl⟩ := hp
  refine lv_if_eq (tgt := 21) hx hb dX4_tick_7 (by decide) (fun c_7 => ?_) (fun c_7 => ?_)
  · refine lv_bipush (v := (-102)) hx hb dX4_tick_21 (by decide) ?_
    have e9 : f4_tick c6 c7 u9 u10 u12 u13 I p1 = ((-102), c6, u9, u10, u13, I) := by unfold f4_tick; rw [if_pos c_7]
    exact r_iret hx hb hr hlocks hw ⟨by rw [e9] <;> rfl, by rw [e9] <;> rfl⟩ dX4_tick_23
  · refine lv_aload_n hx hb dX4_tick_10 rfl (lv_at hl 0 rfl) ?_
    refine r_get (C := RX4) (T := TX4) (v := .int (u13)) hx hb hts i4 hown hw 0 rfl rfl 5 (by decide) lk41 rfl dX4_tick_11 ?_
    refine lv_iload_n hx hb dX4_tick_14 rfl (lv_at hl 1 rfl) ?_
    refine lv_iadd hx hb dX4_tick_15 ?_
    refine lv_ldc (v := 100000) hx hb hown ci36 dX4_tick_16 ?_
    refine lv_icmp_le (tgt := 24) hx hb dX4_tick_18 (by decide) (fun c_18 => ?_) (fun c_18 => ?_)
    · obtain ⟨t, htt, rfl⟩ := (wi_nat 1 100 c_7 rfl rfl)
      refine lv_iconst (v := 0) hx hb dX4_tick_24 (by decide) ?_
      refine lv_istore_n (lv' := [(2, .int (0)), (0, .ref (a 0)), (1, .int (nI (t)))]) hx hb dX4_tick_25 rfl hl (by decide) rfl (fun ls hl => ?_)
      refine lv_iconst (v := 0) hx hb dX4_tick_26 (by decide) ?_
      refine lv_istore_n (lv' := [(3, .int (0)), (2, .int (0)), (0, .ref (a 0)), (1, .int (nI (t)))]) hx hb dX4_tick_27 rfl hl (by decide) rfl (fun ls hl => ?_)
      refine lt4_tick_28 l D ty a b n cI cO ht0 ht1 c0 c1 c2 c3 u4 c5 c6 c7 u8 u9 u10 c11 u12 u13 I (nI t) hob hob2 hn60 t hx hb hml hts hown t 0 0 c6 u9 u10 u13 I (by omega) (by first | assumption | omega) _ _ _ hw hl (fun H locs ls hw hl => ?_)
      refine lv_iload_n hx hb dX4_tick_63 rfl (lv_at hl 1 rfl) ?_
      have e9 : f4_tick c6 c7 u9 u10 u12 u13 I (nI t) = ((lf4_tick_28 c7 u12 (nI t) t t 0 0 c6 u9 u10 u13 I).1, (lf4_tick_28 c7 u12 (nI t) t t 0 0 c6 u9 u10 u13 I).2.1, (lf4_tick_28 c7 u12 (nI t) t t 0 0 c6 u9 u10 u13 I).2.2.1, (lf4_tick_28 c7 u12 (nI t) t t 0 0 c6 u9 u10 u13 I).2.2.2.1, (lf4_tick_28 c7 u12 (nI t) t t 0 0 c6 u9 u10 u13 I).2.2.2.2.1, (lf4_tick_28 c7 u12 (nI t) t t 0 0 c6 u9 u10 u13 I).2.2.2.2.2) := by unfold f4_tick; simp only [nI_clamp (show t < 2 ^ 31 by omega)]; rw [if_neg c_7, if_pos c_18]
      exact r_iret hx hb hr hlocks hw ⟨by rw [e9] <;> rfl, by rw [e9] <;> rfl⟩ dX4_tick_64
    · refine lv_bipush (v := (-102)) hx hb dX4_tick_21 (by decide) ?_
      have e9 : f4_tick c6 c7 u9 u10 u12 u13 I p1 = ((-102), c6, u9, u10, u13, I) := by unfold f4_tick; rw [if_neg c_7, if_neg c_18]
      exact r_iret hx hb hr hlocks hw ⟨by rw [e9] <;> rfl, by rw [e9] <;> rfl⟩ dX4_tick_23
