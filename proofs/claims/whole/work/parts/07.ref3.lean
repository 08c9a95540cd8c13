theorem shr_le {p z : Int32} (h : ¬ f5_in p.toInt64 1 ((z - 1).toInt64) = 0) (hz : 1 ≤ z.toInt) : 1 ≤ p.toInt ∧ p.toInt ≤ z.toInt - 1 := by
  have q := in_i h
  have e1 : (1 : Int64).toInt = 1 := rfl
  have e2 : (1 : Int32).toInt = 1 := rfl
  have := i32_hi z
  rw [Int32.toInt_toInt64, sub_toInt (by rw [e2]; omega) (by rw [e2]; omega), e2] at q
  omega
theorem in_lay {p : Int32} {n : Nat} (h : ¬ f5_in p.toInt64 0 ((nI n - 1).toInt64) = 0) (hn : n ≤ 16) : ∃ y : Nat, y < n ∧ p = nI y := by
  have q := in_i h
  rw [Int32.toInt_toInt64, nI_sub1_toInt (by omega)] at q
  have e1 : (0 : Int64).toInt = 0 := rfl
  obtain ⟨t, ht, e⟩ := nat_of_in (p := p) (a := 0) (b := (n : Int) - 1) (by omega) (by omega) (by omega)
  exact ⟨t, by omega, e⟩
def f5_edition (s0 : Int32) (s1 : Int32) (a2 : Nat → Int32) (a3 : Nat → Int32) (a4 : Nat → Int32) (a5 : Nat → Int32) (p1 : Int32) (p2 : Int32) (p3 : Int32) (p4 : Int32) : Int32 × Int32 × (Nat → Int32) × (Nat → Int32) × (Nat → Int32) × (Nat → Int32) :=
  if (f5_in p1.toInt64 0 100000) = 0 then ((-102), s1, a2, a3, a4, a5)
  else if (f5_in p2.toInt64 0 100) = 0 then ((-102), s1, a2, a3, a4, a5)
  else if (f5_in p3.toInt64 0 20) = 0 then ((-102), s1, a2, a3, a4, a5)
  else if (f5_in p4.toInt64 1 64) = 0 then ((-102), s1, a2, a3, a4, a5)
  else if p1 < (s0 + 5) then ((-103), s1, a2, a3, a4, a5)
  else if (a2 (tn s1 - 1)) < p1 then (if (nI (tn s1)) = 10 then ((-107), s1, a2, a3, a4, a5)
    else (nI ((tn s1) + 1), nI ((tn s1) + 1), upd a2 (tn s1) p1, upd a3 (tn s1) p2, upd a4 (tn s1) p3, upd a5 (tn s1) p4))
  else ((-103), s1, a2, a3, a4, a5)
set_option maxHeartbeats 4000000 in
set_option maxRecDepth 100000 in
theorem k5_edition (l : Launch) (D : va_G) (ty : List (ClassId × FieldType)) (a : Nat → Nat) (cI : ClassId) (ht0 : ty[0]? = some (cI, .int)) (s0 : Int32) (s1 : Int32) (a2 : Nat → Int32) (a3 : Nat → Int32) (a4 : Nat → Int32) (a5 : Nat → Int32) (a6 : Nat → Int32) (a7 : Nat → Int32) (a8 : Nat → Int32) (a9 : Nat → Int32) (s10 : Int32) (s11 : Int32) (s12 : Int32) (a13 : Nat → Int32) (a14 : Nat → Int32) (a15 : Nat → Int32) (a16 : Nat → Int32) (a17 : Nat → Int32) (a18 : Nat → Int32) (a19 : Nat → Int32) (a20 : Nat → Int32) (a21 : Nat → Int32) (s22 : Int32) (p1 : Int32) (p2 : Int32) (p3 : Int32) (p4 : Int32) (he0 : s1 = nI (tn s1)) (he1 : tn s1 ≤ 10) (he2 : 1 ≤ tn s1) : MetG l yX5_edition wsX5_edition { frames := 1, cells := 0, slots := 0, locals := 25 } D ty [.ref (a 0), .int (p1), .int (p2), .int (p3), .int (p4)] (MW a cI s0 s1 a2 a3 a4 a5 a6 a7 a8 a9 s10 s11 s12 a13 a14 a15 a16 a17 a18 a19 a20 a21 s22) (va_Qi (fun r w => r = (f5_edition s0 s1 a2 a3 a4 a5 p1 p2 p3 p4).1 ∧ w = MW a cI s0 ((f5_edition s0 s1 a2 a3 a4 a5 p1 p2 p3 p4).2.1) ((f5_edition s0 s1 a2 a3 a4 a5 p1 p2 p3 p4).2.2.1) ((f5_edition s0 s1 a2 a3 a4 a5 p1 p2 p3 p4).2.2.2.1) ((f5_edition s0 s1 a2 a3 a4 a5 p1 p2 p3 p4).2.2.2.2.1) ((f5_edition s0 s1 a2 a3 a4 a5 p1 p2 p3 p4).2.2.2.2.2) a6 a7 a8 a9 s10 s11 s12 a13 a14 a15 a16 a17 a18 a19 a20 a21 s22)) 0 0 := by
  refine Met_start cX5_edition 5 (some .int) (by decide) rfl (Nat.le_of_ble_eq_true rfl) ?_
  intro p e s m below meth c A ls hx hb hr hlocks hml hnm hts hown hw hl
  have hl : lv_has ls 5 [(0, .ref (a 0)), (1, .int (p1)), (2, .int (p2)), (3, .int (p3)), (4, .int (p4))] := hl
  have ci87 := hts (.constantLong RX5 87 (100000)) (by decide +kernel)
  have ci89 := hts (.constantLong RX5 89 (100)) (by decide +kernel)
  have ci91 := hts (.constantLong RX5 91 (20)) (by decide +kernel)
  have ci93 := hts (.constantLong RX5 93 (64)) (by decide +kernel)
  have i5 : ∀ w ∈ wsX50, w ∈ wsX5_edition := fun _ h => List.mem_cons_of_mem _ (List.mem_append_right _ h)
  have lk64 := hts (.fieldLink RX5 64 "RentSizesModel" "height" "I") (by decide +kernel)
  have lk7 := hts (.fieldLink RX5 7 "RentSizesModel" "eFrom" "[I") (by decide +kernel)
  have lk68 := hts (.fieldLink RX5 68 "RentSizesModel" "editions" "I") (by decide +kernel)
  have lk13 := hts (.fieldLink RX5 13 "RentSizesModel" "ePrice" "[I") (by decide +kernel)
  have lk16 := hts (.fieldLink RX5 16 "RentSizesModel" "eRent" "[I") (by decide +kernel)
  have lk19 := hts (.fieldLink RX5 19 "RentSizesModel" "eLeast" "[I") (by decide +kernel)
  refine lv_iload_n hx hb dX5_edition_0 rfl (lv_at hl 1 rfl) ?_
  refine lv_i2l (v := p1.toInt64) hx hb dX5_edition_1 rfl ?_
  refine lv_lconst (v := 0) hx hb dX5_edition_2 (by decide) ?_
  refine lv_ldc2 (v := 100000) hx hb hown ci87 dX5_edition_3 ?_
  refine r_callSi (rest := []) ⟨hx, hb, hml, hown, hts⟩ hw [.long (p1.toInt64), .long (0), .long (100000)] (k5_in l D ty a cI ht0 s0 s1 a2 a3 a4 a5 a6 a7 a8 a9 s10 s11 s12 a13 a14 a15 a16 a17 a18 a19 a20 a21 s22 p1.toInt64 0 100000) (va_cwS 3 hts gX5_edition_X5_in rfl rfl rfl (by decide +kernel) ⟨Nat.le_of_ble_eq_true rfl, Nat.le_of_ble_eq_true rfl⟩) rfl hl.1 rfl (Nat.le_of_ble_eq_true rfl) dX5_edition_6 ⟨Nat.le_of_ble_eq_true rfl, Nat.le_of_ble_eq_true rfl⟩ (fun r w H locs hp hw => ?_)
  obtain ⟨rfl, rfl⟩ := hp
  refine lv_if_eq (tgt := 49) hx hb dX5_edition_9 (by decide) (fun c_9 => ?_) (fun c_9 => ?_)
  · refine lv_bipush (v := (-102)) hx hb dX5_edition_49 (by decide) ?_
    have e9 : f5_edition s0 s1 a2 a3 a4 a5 p1 p2 p3 p4 = ((-102), s1, a2, a3, a4, a5) := by unfold f5_edition; rw [if_pos c_9]
    exact r_iret hx hb hr hlocks hw ⟨by rw [e9] <;> rfl, by rw [e9] <;> rfl⟩ dX5_edition_51
  · refine lv_iload_n hx hb dX5_edition_12 rfl (lv_at hl 2 rfl) ?_
    refine lv_i2l (v := p2.toInt64) hx hb dX5_edition_13 rfl ?_
    refine lv_lconst (v := 0) hx hb dX5_edition_14 (by decide) ?_
    refine lv_ldc2 (v := 100) hx hb hown ci89 dX5_edition_15 ?_
    refine r_callSi (rest := []) ⟨hx, hb, hml, hown, hts⟩ hw [.long (p2.toInt64), .long (0), .long (100)] (k5_in l D ty a cI ht0 s0 s1 a2 a3 a4 a5 a6 a7 a8 a9 s10 s11 s12 a13 a14 a15 a16 a17 a18 a19 a20 a21 s22 p2.toInt64 0 100) (va_cwS 3 hts gX5_edition_X5_in rfl rfl rfl (by decide +kernel) ⟨Nat.le_of_ble_eq_true rfl, Nat.le_of_ble_eq_true rfl⟩) rfl hl.1 rfl (Nat.le_of_ble_eq_true rfl) dX5_edition_18 ⟨Nat.le_of_ble_eq_true rfl, Nat.le_of_ble_eq_true rfl⟩ (fun r w H locs hp hw => ?_)
    obtain ⟨rfl, rfl⟩ := hp
    refine lv_if_eq (tgt := 49) hx hb dX5_edition_21 (by decide) (fun c_21 => ?_) (fun c_21 => ?_)
    · refine lv_bipush (v := (-102)) hx hb dX5_edition_49 (by decide) ?_
      have e9 : f5_edition s0 s1 a2 a3 a4 a5 p1 p2 p3 p4 = ((-102), s1, a2, a3, a4, a5) := by unfold f5_edition; rw [if_neg c_9, if_pos c_21]
      exact r_iret hx hb hr hlocks hw ⟨by rw [e9] <;> rfl, by rw [e9] <;> rfl⟩ dX5_edition_51
    · refine lv_iload_n hx hb dX5_edition_24 rfl (lv_at hl 3 rfl) ?_
      refine lv_i2l (v := p3.toInt64) hx hb dX5_edition_25 rfl ?_
      refine lv_lconst (v := 0) hx hb dX5_edition_26 (by decide) ?_
      refine lv_ldc2 (v := 20) hx hb hown ci91 dX5_edition_27 ?_
      refine r_callSi (rest := []) ⟨hx, hb, hml, hown, hts⟩ hw [.long (p3.toInt64), .long (0), .long (20)] (k5_in l D ty a cI ht0 s0 s1 a2 a3 a4 a5 a6 a7 a8 a9 s10 s11 s12 a13 a14 a15 a16 a17 a18 a19 a20 a21 s22 p3.toInt64 0 20) (va_cwS 3 hts gX5_edition_X5_in rfl rfl rfl (by decide +kernel) ⟨Nat.le_of_ble_eq_true rfl, Nat.le_of_ble_eq_true rfl⟩) rfl hl.1 rfl (Nat.le_of_ble_eq_true rfl) dX5_edition_30 ⟨Nat.le_of_ble_eq_true rfl, Nat.le_of_ble_eq_true rfl⟩ (fun r w H locs hp hw => ?_)
      obtain ⟨rfl, rfl⟩ := hp
      refine lv_if_eq (tgt := 49) hx hb dX5_edition_33 (by decide) (fun c_33 => ?_) (fun c_33 => ?_)
      · refine lv_bipush (v := (-102)) hx hb dX5_edition_49 (by decide) ?_
        have e9 : f5_edition s0 s1 a2 a3 a4 a5 p1 p2 p3 p4 = ((-102), s1, a2, a3, a4, a5) := by unfold f5_edition; rw [if_neg c_9, if_neg c_21, if_pos c_33]
        exact r_iret hx hb hr hlocks hw ⟨by rw [e9] <;> rfl, by rw [e9] <;> rfl⟩ dX5_edition_51
      · refine lv_iload hx hb dX5_edition_36 (lv_at hl 4 rfl) ?_
        refine lv_i2l (v := p4.toInt64) hx hb dX5_edition_38 rfl ?_
        refine lv_lconst (v := 1) hx hb dX5_edition_39 (by decide) ?_
        refine lv_ldc2 (v := 64) hx hb hown ci93 dX5_edition_40 ?_
        refine r_callSi (rest := []) ⟨hx, hb, hml, hown, hts⟩ hw [.long (p4.toInt64), .long (1), .long (64)] (k5_in l D ty a cI ht0 s0 s1 a2 a3 a4 a5 a6 a7 a8 a9 s10 s11 s12 a13 a14 a15 a16 a17 a18 a19 a20 a21 s22 p4.toInt64 1 64) (va_cwS 3 hts gX5_edition_X5_in rfl rfl rfl (by decide +kernel) ⟨Nat.le_of_ble_eq_true rfl, Nat.le_of_ble_eq_true rfl⟩) rfl hl.1 rfl (Nat.le_of_ble_eq_true rfl) dX5_edition_43 ⟨Nat.le_of_ble_eq_true rfl, Nat.le_of_ble_eq_true rfl⟩ (fun r w H locs hp hw => ?_)
        obtain ⟨rfl, rfl⟩ := hp
        refine lv_if_ne (tgt := 52) hx hb dX5_edition_46 (by decide) (fun c_46 => ?_) (fun c_46 => ?_)
        · refine lv_iload_n hx hb dX5_edition_52 rfl (lv_at hl 1 rfl) ?_
          refine lv_aload_n hx hb dX5_edition_53 rfl (lv_at hl 0 rfl) ?_
          refine r_get (C := RX5) (T := TX5) (v := .int (s0)) hx hb hts i5 hown hw 0 rfl rfl 0 (by decide) lk64 rfl dX5_edition_54 ?_
          refine lv_iconst (v := 5) hx hb dX5_edition_57 (by decide) ?_
          refine lv_iadd hx hb dX5_edition_58 ?_
          refine lv_icmp_lt (tgt := 77) hx hb dX5_edition_59 (by decide) (fun c_59 => ?_) (fun c_59 => ?_)
          · refine lv_bipush (v := (-103)) hx hb dX5_edition_77 (by decide) ?_
            have e9 : f5_edition s0 s1 a2 a3 a4 a5 p1 p2 p3 p4 = ((-103), s1, a2, a3, a4, a5) := by unfold f5_edition; rw [if_neg c_9, if_neg c_21, if_neg c_33, if_neg c_46, if_pos c_59]
            exact r_iret hx hb hr hlocks hw ⟨by rw [e9] <;> rfl, by rw [e9] <;> rfl⟩ dX5_edition_79
          · refine lv_iload_n hx hb dX5_edition_62 rfl (lv_at hl 1 rfl) ?_
            refine lv_aload_n hx hb dX5_edition_63 rfl (lv_at hl 0 rfl) ?_
            refine r_get (C := RX5) (T := TX5) (v := .ref (a 2)) hx hb hts i5 hown hw 0 rfl rfl 2 (by decide) lk7 rfl dX5_edition_64 ?_
            refine lv_aload_n hx hb dX5_edition_67 rfl (lv_at hl 0 rfl) ?_
            refine r_get (C := RX5) (T := TX5) (v := .int (s1)) hx hb hts i5 hown hw 0 rfl rfl 1 (by decide) lk68 rfl dX5_edition_68 ?_
            refine r_top (nI (tn s1)) he0 ?_
            refine lv_iconst (v := 1) hx hb dX5_edition_71 (by decide) ?_
            refine lv_isub hx hb dX5_edition_72 ?_
            refine r_top (nI (tn s1 - 1)) (nI_sub1 he2) ?_
            refine r_ialdN (v := a2 (tn s1 - 1)) hx hb hw 1 rfl ht0 (tn s1 - 1) (by omega) (by decide) dX5_edition_73 rfl ?_
            refine lv_icmp_gt (tgt := 80) hx hb dX5_edition_74 (by decide) (fun c_74 => ?_) (fun c_74 => ?_)
            · refine lv_aload_n hx hb dX5_edition_80 rfl (lv_at hl 0 rfl) ?_
              refine r_get (C := RX5) (T := TX5) (v := .int (s1)) hx hb hts i5 hown hw 0 rfl rfl 1 (by decide) lk68 rfl dX5_edition_81 ?_
              refine r_top (nI (tn s1)) he0 ?_
              refine lv_bipush (v := 10) hx hb dX5_edition_84 (by decide) ?_
              refine lv_icmp_ne (tgt := 92) hx hb dX5_edition_86 (by decide) (fun c_86 => ?_) (fun c_86 => ?_)
              · have hE : tn s1 < 10 := Nat.lt_of_le_of_ne he1 (fun e => c_86 (by rw [e]; rfl))
                refine lv_aload_n hx hb dX5_edition_92 rfl (lv_at hl 0 rfl) ?_
                refine r_get (C := RX5) (T := TX5) (v := .ref (a 2)) hx hb hts i5 hown hw 0 rfl rfl 2 (by decide) lk7 rfl dX5_edition_93 ?_
                refine lv_aload_n hx hb dX5_edition_96 rfl (lv_at hl 0 rfl) ?_
                refine r_get (C := RX5) (T := TX5) (v := .int (s1)) hx hb hts i5 hown hw 0 rfl rfl 1 (by decide) lk68 rfl dX5_edition_97 ?_
                refine r_top (nI (tn s1)) he0 ?_
                refine lv_iload_n hx hb dX5_edition_100 rfl (lv_at hl 1 rfl) ?_
                refine r_iastN (ws' := MW a cI s0 s1 (upd a2 (tn s1) p1) a3 a4 a5 a6 a7 a8 a9 s10 s11 s12 a13 a14 a15 a16 a17 a18 a19 a20 a21 s22) hx hb hw 1 rfl ht0 (tn s1) (by omega) (by decide) (MW_u2 _) dX5_edition_101 (fun H locs hw => ?_)
                refine lv_aload_n hx hb dX5_edition_102 rfl (lv_at hl 0 rfl) ?_
                refine r_get (C := RX5) (T := TX5) (v := .ref (a 3)) hx hb hts i5 hown hw 0 rfl rfl 3 (by decide) lk13 rfl dX5_edition_103 ?_
                refine lv_aload_n hx hb dX5_edition_106 rfl (lv_at hl 0 rfl) ?_
                refine r_get (C := RX5) (T := TX5) (v := .int (s1)) hx hb hts i5 hown hw 0 rfl rfl 1 (by decide) lk68 rfl dX5_edition_107 ?_
                refine r_top (nI (tn s1)) he0 ?_
                refine lv_iload_n hx hb dX5_edition_110 rfl (lv_at hl 2 rfl) ?_
                refine r_iastN (ws' := MW a cI s0 s1 (upd a2 (tn s1) p1) (upd a3 (tn s1) p2) a4 a5 a6 a7 a8 a9 s10 s11 s12 a13 a14 a15 a16 a17 a18 a19 a20 a21 s22) hx hb hw 2 rfl ht0 (tn s1) (by omega) (by decide) (MW_u3 _) dX5_edition_111 (fun H locs hw => ?_)
                refine lv_aload_n hx hb dX5_edition_112 rfl (lv_at hl 0 rfl) ?_
                refine r_get (C := RX5) (T := TX5) (v := .ref (a 4)) hx hb hts i5 hown hw 0 rfl rfl 4 (by decide) lk16 rfl dX5_edition_113 ?_
                refine lv_aload_n hx hb dX5_edition_116 rfl (lv_at hl 0 rfl) ?_
                refine r_get (C := RX5) (T := TX5) (v := .int (s1)) hx hb hts i5 hown hw 0 rfl rfl 1 (by decide) lk68 rfl dX5_edition_117 ?_
                refine r_top (nI (tn s1)) he0 ?_
                refine lv_iload_n hx hb dX5_edition_120 rfl (lv_at hl 3 rfl) ?_
                refine r_iastN (ws' := MW a cI s0 s1 (upd a2 (tn s1) p1) (upd a3 (tn s1) p2) (upd a4 (tn s1) p3) a5 a6 a7 a8 a9 s10 s11 s12 a13 a14 a15 a16 a17 a18 a19 a20 a21 s22) hx hb hw 3 rfl ht0 (tn s1) (by omega) (by decide) (MW_u4 _) dX5_edition_121 (fun H locs hw => ?_)
                refine lv_aload_n hx hb dX5_edition_122 rfl (lv_at hl 0 rfl) ?_
                refine r_get (C := RX5) (T := TX5) (v := .ref (a 5)) hx hb hts i5 hown hw 0 rfl rfl 5 (by decide) lk19 rfl dX5_edition_123 ?_
                refine lv_aload_n hx hb dX5_edition_126 rfl (lv_at hl 0 rfl) ?_
                refine r_get (C := RX5) (T := TX5) (v := .int (s1)) hx hb hts i5 hown hw 0 rfl rfl 1 (by decide) lk68 rfl dX5_edition_127 ?_
                refine r_top (nI (tn s1)) he0 ?_
                refine lv_iload hx hb dX5_edition_130 (lv_at hl 4 rfl) ?_
                refine r_iastN (ws' := MW a cI s0 s1 (upd a2 (tn s1) p1) (upd a3 (tn s1) p2) (upd a4 (tn s1) p3) (upd a5 (tn s1) p4) a6 a7 a8 a9 s10 s11 s12 a13 a14 a15 a16 a17 a18 a19 a20 a21 s22) hx hb hw 4 rfl ht0 (tn s1) (by omega) (by decide) (MW_u5 _) dX5_edition_132 (fun H locs hw => ?_)
                refine lv_aload_n hx hb dX5_edition_133 rfl (lv_at hl 0 rfl) ?_
                refine lv_dup hx hb dX5_edition_134 rfl ?_
                refine r_get (C := RX5) (T := TX5) (v := .int (s1)) hx hb hts i5 hown hw 0 rfl rfl 1 (by decide) lk68 rfl dX5_edition_135 ?_
                refine r_top (nI (tn s1)) he0 ?_
                refine lv_iconst (v := 1) hx hb dX5_edition_138 (by decide) ?_
                refine lv_iadd hx hb dX5_edition_139 ?_
                refine r_top (nI ((tn s1) + 1)) (show nI (tn s1) + nI (1) = nI ((tn s1) + 1) from nI_add _ _) ?_
                refine r_put (C := RX5) (T := TX5) (ws' := MW a cI s0 (nI ((tn s1) + 1)) (upd a2 (tn s1) p1) (upd a3 (tn s1) p2) (upd a4 (tn s1) p3) (upd a5 (tn s1) p4) a6 a7 a8 a9 s10 s11 s12 a13 a14 a15 a16 a17 a18 a19 a20 a21 s22) hx hb hts i5 tyX5 tyX5_ok nmX5 hown hw 0 rfl rfl 1 (by decide) lk68 rfl (by decide +kernel) (Nat.le_of_ble_eq_true rfl) (MW_s1 _) dX5_edition_140 (fun H locs hw => ?_)
                refine lv_aload_n hx hb dX5_edition_143 rfl (lv_at hl 0 rfl) ?_
                refine r_get (C := RX5) (T := TX5) (v := .int (nI ((tn s1) + 1))) hx hb hts i5 hown hw 0 rfl rfl 1 (by decide) lk68 rfl dX5_edition_144 ?_
                have e9 : f5_edition s0 s1 a2 a3 a4 a5 p1 p2 p3 p4 = (nI ((tn s1) + 1), nI ((tn s1) + 1), upd a2 (tn s1) p1, upd a3 (tn s1) p2, upd a4 (tn s1) p3, upd a5 (tn s1) p4) := by unfold f5_edition; rw [if_neg c_9, if_neg c_21, if_neg c_33, if_neg c_46, if_neg c_59, if_pos c_74, if_neg c_86]
                exact r_iret hx hb hr hlocks hw ⟨by rw [e9] <;> rfl, by rw [e9] <;> rfl⟩ dX5_edition_147
              · refine lv_bipush (v := (-107)) hx hb dX5_edition_89 (by decide) ?_
                have e9 : f5_edition s0 s1 a2 a3 a4 a5 p1 p2 p3 p4 = ((-107), s1, a2, a3, a4, a5) := by unfold f5_edition; rw [if_neg c_9, if_neg c_21, if_neg c_33, if_neg c_46, if_neg c_59, if_pos c_74, if_pos c_86]
                exact r_iret hx hb hr hlocks hw ⟨by rw [e9] <;> rfl, by rw [e9] <;> rfl⟩ dX5_edition_91
            · refine lv_bipush (v := (-103)) hx hb dX5_edition_77 (by decide) ?_
              have e9 : f5_edition s0 s1 a2 a3 a4 a5 p1 p2 p3 p4 = ((-103), s1, a2, a3, a4, a5) := by unfold f5_edition; rw [if_neg c_9, if_neg c_21, if_neg c_33, if_neg c_46, if_neg c_59, if_neg c_74]
              exact r_iret hx hb hr hlocks hw ⟨by rw [e9] <;> rfl, by rw [e9] <;> rfl⟩ dX5_edition_79
        · refine lv_bipush (v := (-102)) hx hb dX5_edition_49 (by decide) ?_
          have e9 : f5_edition s0 s1 a2 a3 a4 a5 p1 p2 p3 p4 = ((-102), s1, a2, a3, a4, a5) := by unfold f5_edition; rw [if_neg c_9, if_neg c_21, if_neg c_33, if_pos c_46]
          exact r_iret hx hb hr hlocks hw ⟨by rw [e9] <;> rfl, by rw [e9] <;> rfl⟩ dX5_edition_51
def lf5_make_132 (s12 : Int32) (p1 : Int32) (p2 : Int32) (p3 : Int32) (p4 : Int32) (v5 : Int32) : Nat → Nat → (Nat → Int32) → (Nat → Int32)
  | 0, _, f15 => f15
  | k + 1, j, f15 => lf5_make_132 s12 p1 p2 p3 p4 v5 k (j + 1) (upd f15 ((4 * (tn s12)) + j) 0)
set_option maxHeartbeats 4000000 in
set_option maxRecDepth 100000 in
theorem lt5_make_132 (l : Launch) (D : va_G) (ty : List (ClassId × FieldType)) (a : Nat → Nat) (cI : ClassId) (ht0 : ty[0]? = some (cI, .int)) (s0 : Int32) (s1 : Int32) (a2 : Nat → Int32) (a3 : Nat → Int32) (a4 : Nat → Int32) (a5 : Nat → Int32) (a6 : Nat → Int32) (a7 : Nat → Int32) (a8 : Nat → Int32) (a9 : Nat → Int32) (s10 : Int32) (s11 : Int32) (s12 : Int32) (a13 : Nat → Int32) (a14 : Nat → Int32) (a15 : Nat → Int32) (a16 : Nat → Int32) (a17 : Nat → Int32) (a18 : Nat → Int32) (a19 : Nat → Int32) (a20 : Nat → Int32) (a21 : Nat → Int32) (s22 : Int32) (p1 : Int32) (p2 : Int32) (p3 : Int32) (p4 : Int32) (hob : s12 = nI (tn s12)) (hob2 : tn s12 ≤ 60) (he0 : s1 = nI (tn s1)) (he1 : tn s1 ≤ 10) (v5 : Int32) {p : Program} {e : Env} {s : State} {m : MethodId} {args : Array Value} {below : List Frame} {meth : Method} {c : Code} {A : Nat → Prop} {H0 : Heap} {Q : State → Prop} (hx : p.tables.exec = Jvm.exec) (hb : c.code = cX5_make) (hml : c.maxLocals = 8) (hts : ∀ w ∈ wsX5_make, w.before args s = true) (hown : s.vm.findClass RX5 = some m.cls) : ∀ (k j : Nat) (f15 : (Nat → Int32)) (hj : j + k = 4) (hnb : tn s12 < 60) (H : Heap) (locs : List Loc) (ls : Array Slot) (hw : Wd D ty A H0 s (MW a cI s0 s1 a2 a3 a4 a5 a6 a7 a8 a9 s10 s11 s12 (upd a13 (tn s12) p2) (upd a14 (tn s12) p3) f15 a16 a17 a18 a19 a20 a21 s22) H locs) (hl : lv_has ls 8 [(7, .int (nI (j))), (6, .int (nI (tn s12))), (5, .int (v5)), (0, .ref (a 0)), (1, .int (p1)), (2, .int (p2)), (3, .int (p3)), (4, .int (p4))]) (kk : ∀ (H1 : Heap) (locs1 : List Loc) (ls1 : Array Slot), Wd D ty A H0 s (MW a cI s0 s1 a2 a3 a4 a5 a6 a7 a8 a9 s10 s11 s12 (upd a13 (tn s12) p2) (upd a14 (tn s12) p3) (lf5_make_132 s12 p1 p2 p3 p4 v5 k j f15) a16 a17 a18 a19 a20 a21 s22) H1 locs1 → lv_has ls1 8 [(7, .int (nI (4))), (6, .int (nI (tn s12))), (5, .int (v5)), (0, .ref (a 0)), (1, .int (p1)), (2, .int (p2)), (3, .int (p3)), (4, .int (p4))] → W p l e ({ frames := 4, cells := 0, slots := 0, locals := 90 } : Room) s m args below meth c H1 locs1 0 0 Q (F0 m 157 ls1 [])), W p l e ({ frames := 4, cells := 0, slots := 0, locals := 90 } : Room) s m args below meth c H locs 0 0 Q (F0 m 132 ls []) := by
  have i5 : ∀ w ∈ wsX50, w ∈ wsX5_make := fun _ h => List.mem_cons_of_mem _ (List.mem_append_right _ h)
  have lk40 := hts (.fieldLink RX5 40 "RentSizesModel" "words" "[I") (by decide +kernel)
  intro k
  induction k with
  | zero =>
    intro j f15 hj hnb H locs ls hw hl kk
    have hj0 : j = 4 := by omega
    refine lv_iload hx hb dX5_make_132 (lv_at hl 0 rfl) ?_
    refine lv_iconst (v := 4) hx hb dX5_make_134 (by decide) ?_
    refine r_top (nI 4) rfl ?_
    refine lv_icmp_ge (tgt := 157) hx hb dX5_make_135 (by decide) (fun c_135 => ?_) (fun c_135 => ?_)
    · subst hj0
      exact kk _ _ _ hw (lv_sub hl [0, 1, 2, 3, 4, 5, 6, 7] rfl)
    · exact absurd (nI_le (by omega) (by omega)) c_135
  | succ k ih =>
    intro j f15 hj hnb H locs ls hw hl kk
    have hjb : j < 4 := by omega
    refine lv_iload hx hb dX5_make_132 (lv_at hl 0 rfl) ?_
    refine lv_iconst (v := 4) hx hb dX5_make_134 (by decide) ?_
    refine r_top (nI 4) rfl ?_
    refine lv_icmp_ge (tgt := 157) hx hb dX5_make_135 (by decide) (fun c_135 => ?_) (fun c_135 => ?_)
    · exact absurd c_135 (nI_ge (by omega) (by omega))
    · refine lv_aload_n hx hb dX5_make_138 rfl (lv_at hl 3 rfl) ?_
      refine r_get (C := RX5) (T := TX5) (v := .ref (a 15)) hx hb hts i5 hown hw 0 rfl rfl 15 (by decide) lk40 rfl dX5_make_139 ?_
      refine lv_iconst (v := 4) hx hb dX5_make_142 (by decide) ?_
      refine lv_iload hx hb dX5_make_143 (lv_at hl 1 rfl) ?_
      refine lv_imul hx hb dX5_make_145 ?_
      refine r_top (nI (4 * (tn s12))) (show nI (4) * nI (tn s12) = nI (4 * (tn s12)) from pk_mul _ _) ?_
      refine lv_iload hx hb dX5_make_146 (lv_at hl 0 rfl) ?_
      refine lv_iadd hx hb dX5_make_148 ?_
      refine r_top (nI ((4 * (tn s12)) + j)) (show nI (4 * (tn s12)) + nI (j) = nI ((4 * (tn s12)) + j) from nI_add _ _) ?_
      refine lv_iconst (v := 0) hx hb dX5_make_149 (by decide) ?_
      refine r_iastN (ws' := MW a cI s0 s1 a2 a3 a4 a5 a6 a7 a8 a9 s10 s11 s12 (upd a13 (tn s12) p2) (upd a14 (tn s12) p3) (upd f15 ((4 * (tn s12)) + j) 0) a16 a17 a18 a19 a20 a21 s22) hx hb hw 11 rfl ht0 ((4 * (tn s12)) + j) (by omega) (by decide) (MW_u15 _) dX5_make_150 (fun H locs hw => ?_)
      refine lv_iinc (v := nI (j + 1)) (lv' := [(7, .int (nI (j + 1))), (6, .int (nI (tn s12))), (5, .int (v5)), (0, .ref (a 0)), (1, .int (p1)), (2, .int (p2)), (3, .int (p3)), (4, .int (p4))]) hx hb dX5_make_151 hl (k := 0) rfl (by show nI (j) + 1 = _; exact nI_1 _) (by decide) rfl (fun ls hl => ?_)
      refine lv_goto (tgt := 132) hx hb dX5_make_154 (by decide) ?_
      have e9 : lf5_make_132 s12 p1 p2 p3 p4 v5 (k + 1) j f15 = lf5_make_132 s12 p1 p2 p3 p4 v5 k (j + 1) (upd f15 ((4 * (tn s12)) + j) 0) := rfl
      rw [e9] at kk
      exact ih (j + 1) (upd f15 ((4 * (tn s12)) + j) 0) (by omega) (by first | assumption | omega) _ _ _ hw (lv_sub hl [0, 1, 2, 3, 4, 5, 6, 7] rfl) kk
set_option maxHeartbeats 4000000 in
set_option maxRecDepth 100000 in
theorem sg5_make_113 (l : Launch) (D : va_G) (ty : List (ClassId × FieldType)) (a : Nat → Nat) (cI : ClassId) (ht0 : ty[0]? = some (cI, .int)) (s0 : Int32) (s1 : Int32) (a2 : Nat → Int32) (a3 : Nat → Int32) (a4 : Nat → Int32) (a5 : Nat → Int32) (a6 : Nat → Int32) (a7 : Nat → Int32) (a8 : Nat → Int32) (a9 : Nat → Int32) (s10 : Int32) (s11 : Int32) (s12 : Int32) (a13 : Nat → Int32) (a14 : Nat → Int32) (a15 : Nat → Int32) (a16 : Nat → Int32) (a17 : Nat → Int32) (a18 : Nat → Int32) (a19 : Nat → Int32) (a20 : Nat → Int32) (a21 : Nat → Int32) (s22 : Int32) (p1 : Int32) (p2 : Int32) (p3 : Int32) (p4 : Int32) (hob : s12 = nI (tn s12)) (hob2 : tn s12 ≤ 60) (he0 : s1 = nI (tn s1)) (he1 : tn s1 ≤ 10) (hnb : tn s12 < 60) (hv1 : vp_in p1 6) (hv2 : vp_in p2 6) {p : Program} {e : Env} {s : State} {m : MethodId} {args : Array Value} {below : List Frame} {meth : Method} {c : Code} {A : Nat → Prop} (hx : p.tables.exec = Jvm.exec) (hb : c.code = cX5_make) (hr : meth.sig.returnType = (some .int)) (hlocks : meth.locks = false) (hml : c.maxLocals = 8) (hts : ∀ w ∈ wsX5_make, w.before args s = true) (hown : s.vm.findClass RX5 = some m.cls) (post : Int32 → va_W → Prop) (H : Heap) (locs : List Loc) (ls : Array Slot) (hw : Wd D ty A s.heap s (MW a cI s0 s1 a2 a3 a4 a5 a6 a7 a8 a9 s10 s11 s12 a13 a14 a15 a16 a17 a18 a19 a20 a21 s22) H locs) (hl : lv_has ls 8 [(6, .int (nI (tn s12))), (5, .int (((f5_charged s0 s1 a2 a5 p3) * (f5_rent s0 s1 a2 a4)) * p4)), (0, .ref (a 0)), (1, .int (p1)), (2, .int (p2)), (3, .int (p3)), (4, .int (p4))]) (hp : post (nI (tn s12)) (MW a cI s0 s1 a2 a3 a4 a5 (upd a6 (tn (p1)) ((a6 (tn (p1))) - ((p3 * (f5_price s0 s1 a2 a3)) + (((f5_charged s0 s1 a2 a5 p3) * (f5_rent s0 s1 a2 a4)) * p4)))) a7 a8 a9 (s10 + (((f5_charged s0 s1 a2 a5 p3) * (f5_rent s0 s1 a2 a4)) * p4)) s11 (nI ((tn s12) + 1)) (upd a13 (tn s12) p2) (upd a14 (tn s12) p3) (lf5_make_132 s12 p1 p2 p3 p4 (((f5_charged s0 s1 a2 a5 p3) * (f5_rent s0 s1 a2 a4)) * p4) 4 0 a15) (upd a16 (tn s12) (s0 + p4)) (upd a17 (tn s12) 0) ((f5_comes s0 s1 a2 a3 (upd a18 (tn s12) 0) a19 a20 a21 (tn s12) p1 p3).1) ((f5_comes s0 s1 a2 a3 (upd a18 (tn s12) 0) a19 a20 a21 (tn s12) p1 p3).2.1) ((f5_comes s0 s1 a2 a3 (upd a18 (tn s12) 0) a19 a20 a21 (tn s12) p1 p3).2.2.1) ((f5_comes s0 s1 a2 a3 (upd a18 (tn s12) 0) a19 a20 a21 (tn s12) p1 p3).2.2.2) s22)) : W p l e ({ frames := 4, cells := 0, slots := 0, locals := 90 } : Room) s m args below meth c H locs 0 0 (MQ below (va_Qi post (cB D ty A) A) args s 0 0 A) (F0 m 113 ls []) := by
  have i5 : ∀ w ∈ wsX50, w ∈ wsX5_make := fun _ h => List.mem_cons_of_mem _ (List.mem_append_right _ h)
  have lk34 := hts (.fieldLink RX5 34 "RentSizesModel" "owner" "[I") (by decide +kernel)
  have lk37 := hts (.fieldLink RX5 37 "RentSizesModel" "size" "[I") (by decide +kernel)
  have lk43 := hts (.fieldLink RX5 43 "RentSizesModel" "paid" "[I") (by decide +kernel)
  have lk64 := hts (.fieldLink RX5 64 "RentSizesModel" "height" "I") (by decide +kernel)
  have lk46 := hts (.fieldLink RX5 46 "RentSizesModel" "state" "[I") (by decide +kernel)
  have lk49 := hts (.fieldLink RX5 49 "RentSizesModel" "layers" "[I") (by decide +kernel)
  have lk22 := hts (.fieldLink RX5 22 "RentSizesModel" "accountCoins" "[I") (by decide +kernel)
  have lk72 := hts (.fieldLink RX5 72 "RentSizesModel" "pool" "I") (by decide +kernel)
  have lk78 := hts (.fieldLink RX5 78 "RentSizesModel" "objects" "I") (by decide +kernel)
  refine lv_aload_n hx hb dX5_make_113 rfl (lv_at hl 2 rfl) ?_
  refine r_get (C := RX5) (T := TX5) (v := .ref (a 13)) hx hb hts i5 hown hw 0 rfl rfl 13 (by decide) lk34 rfl dX5_make_114 ?_
  refine lv_iload hx hb dX5_make_117 (lv_at hl 0 rfl) ?_
  refine lv_iload_n hx hb dX5_make_119 rfl (lv_at hl 4 rfl) ?_
  refine r_iastN (ws' := MW a cI s0 s1 a2 a3 a4 a5 a6 a7 a8 a9 s10 s11 s12 (upd a13 (tn s12) p2) a14 a15 a16 a17 a18 a19 a20 a21 s22) hx hb hw 9 rfl ht0 (tn s12) (by omega) (by decide) (MW_u13 _) dX5_make_120 (fun H locs hw => ?_)
  refine lv_aload_n hx hb dX5_make_121 rfl (lv_at hl 2 rfl) ?_
  refine r_get (C := RX5) (T := TX5) (v := .ref (a 14)) hx hb hts i5 hown hw 0 rfl rfl 14 (by decide) lk37 rfl dX5_make_122 ?_
  refine lv_iload hx hb dX5_make_125 (lv_at hl 0 rfl) ?_
  refine lv_iload_n hx hb dX5_make_127 rfl (lv_at hl 5 rfl) ?_
  refine r_iastN (ws' := MW a cI s0 s1 a2 a3 a4 a5 a6 a7 a8 a9 s10 s11 s12 (upd a13 (tn s12) p2) (upd a14 (tn s12) p3) a15 a16 a17 a18 a19 a20 a21 s22) hx hb hw 10 rfl ht0 (tn s12) (by omega) (by decide) (MW_u14 _) dX5_make_128 (fun H locs hw => ?_)
  refine lv_iconst (v := 0) hx hb dX5_make_129 (by decide) ?_
  refine lv_istore (lv' := [(7, .int (0)), (6, .int (nI (tn s12))), (5, .int (((f5_charged s0 s1 a2 a5 p3) * (f5_rent s0 s1 a2 a4)) * p4)), (0, .ref (a 0)), (1, .int (p1)), (2, .int (p2)), (3, .int (p3)), (4, .int (p4))]) hx hb dX5_make_130 hl (by decide) rfl (fun ls hl => ?_)
  refine lt5_make_132 l D ty a cI ht0 s0 s1 a2 a3 a4 a5 a6 a7 a8 a9 s10 s11 s12 a13 a14 a15 a16 a17 a18 a19 a20 a21 s22 p1 p2 p3 p4 hob hob2 he0 he1 (((f5_charged s0 s1 a2 a5 p3) * (f5_rent s0 s1 a2 a4)) * p4) hx hb hml hts hown 4 0 a15 (by omega) (by first | assumption | omega) _ _ _ hw hl (fun H locs ls hw hl => ?_)
  refine lv_aload_n hx hb dX5_make_157 rfl (lv_at hl 3 rfl) ?_
  refine r_get (C := RX5) (T := TX5) (v := .ref (a 16)) hx hb hts i5 hown hw 0 rfl rfl 16 (by decide) lk43 rfl dX5_make_158 ?_
  refine lv_iload hx hb dX5_make_161 (lv_at hl 1 rfl) ?_
  refine lv_aload_n hx hb dX5_make_163 rfl (lv_at hl 3 rfl) ?_
  refine r_get (C := RX5) (T := TX5) (v := .int (s0)) hx hb hts i5 hown hw 0 rfl rfl 0 (by decide) lk64 rfl dX5_make_164 ?_
  refine lv_iload hx hb dX5_make_167 (lv_at hl 7 rfl) ?_
  refine lv_iadd hx hb dX5_make_169 ?_
  refine r_iastN (ws' := MW a cI s0 s1 a2 a3 a4 a5 a6 a7 a8 a9 s10 s11 s12 (upd a13 (tn s12) p2) (upd a14 (tn s12) p3) (lf5_make_132 s12 p1 p2 p3 p4 (((f5_charged s0 s1 a2 a5 p3) * (f5_rent s0 s1 a2 a4)) * p4) 4 0 a15) (upd a16 (tn s12) (s0 + p4)) a17 a18 a19 a20 a21 s22) hx hb hw 12 rfl ht0 (tn s12) (by omega) (by decide) (MW_u16 _) dX5_make_170 (fun H locs hw => ?_)
  refine lv_aload_n hx hb dX5_make_171 rfl (lv_at hl 3 rfl) ?_
  refine r_get (C := RX5) (T := TX5) (v := .ref (a 17)) hx hb hts i5 hown hw 0 rfl rfl 17 (by decide) lk46 rfl dX5_make_172 ?_
  refine lv_iload hx hb dX5_make_175 (lv_at hl 1 rfl) ?_
  refine lv_iconst (v := 0) hx hb dX5_make_177 (by decide) ?_
  refine r_iastN (ws' := MW a cI s0 s1 a2 a3 a4 a5 a6 a7 a8 a9 s10 s11 s12 (upd a13 (tn s12) p2) (upd a14 (tn s12) p3) (lf5_make_132 s12 p1 p2 p3 p4 (((f5_charged s0 s1 a2 a5 p3) * (f5_rent s0 s1 a2 a4)) * p4) 4 0 a15) (upd a16 (tn s12) (s0 + p4)) (upd a17 (tn s12) 0) a18 a19 a20 a21 s22) hx hb hw 13 rfl ht0 (tn s12) (by omega) (by decide) (MW_u17 _) dX5_make_178 (fun H locs hw => ?_)
  refine lv_aload_n hx hb dX5_make_179 rfl (lv_at hl 3 rfl) ?_
  refine r_get (C := RX5) (T := TX5) (v := .ref (a 18)) hx hb hts i5 hown hw 0 rfl rfl 18 (by decide) lk49 rfl dX5_make_180 ?_
  refine lv_iload hx hb dX5_make_183 (lv_at hl 1 rfl) ?_
  refine lv_iconst (v := 0) hx hb dX5_make_185 (by decide) ?_
  refine r_iastN (ws' := MW a cI s0 s1 a2 a3 a4 a5 a6 a7 a8 a9 s10 s11 s12 (upd a13 (tn s12) p2) (upd a14 (tn s12) p3) (lf5_make_132 s12 p1 p2 p3 p4 (((f5_charged s0 s1 a2 a5 p3) * (f5_rent s0 s1 a2 a4)) * p4) 4 0 a15) (upd a16 (tn s12) (s0 + p4)) (upd a17 (tn s12) 0) (upd a18 (tn s12) 0) a19 a20 a21 s22) hx hb hw 14 rfl ht0 (tn s12) (by omega) (by decide) (MW_u18 _) dX5_make_186 (fun H locs hw => ?_)
  refine lv_aload_n hx hb dX5_make_187 rfl (lv_at hl 3 rfl) ?_
  refine lv_iload hx hb dX5_make_188 (lv_at hl 1 rfl) ?_
  refine lv_iload_n hx hb dX5_make_190 rfl (lv_at hl 4 rfl) ?_
  refine lv_iload_n hx hb dX5_make_191 rfl (lv_at hl 6 rfl) ?_
  refine r_callVv 0 rfl rfl (rest := []) ⟨hx, hb, hml, hown, hts⟩ hw [.int (nI (tn s12)), .int (p1), .int (p3)] (k5_comes l D ty a cI ht0 s0 s1 a2 a3 a4 a5 a6 a7 a8 a9 s10 s11 s12 (upd a13 (tn s12) p2) (upd a14 (tn s12) p3) (lf5_make_132 s12 p1 p2 p3 p4 (((f5_charged s0 s1 a2 a5 p3) * (f5_rent s0 s1 a2 a4)) * p4) 4 0 a15) (upd a16 (tn s12) (s0 + p4)) (upd a17 (tn s12) 0) (upd a18 (tn s12) 0) a19 a20 a21 s22 (tn s12) p1 p3 (by omega) (by show upd _ _ _ _ = nI (tn (upd _ _ _ _)); rw [pk_us]; rfl) (by show tn (upd _ _ _ _) ≤ 16; rw [pk_us]; decide) (by assumption) (by assumption) (fun _ => by show tn (upd _ _ _ _) < 16; rw [pk_us]; decide)) (cwV 3 hts gX5_make_X5_comes rfl rfl rfl (by decide +kernel) ⟨Nat.le_of_ble_eq_true rfl, Nat.le_of_ble_eq_true rfl⟩) rfl hl.1 rfl (Nat.le_of_ble_eq_true rfl) dX5_make_192 ⟨Nat.le_of_ble_eq_true rfl, Nat.le_of_ble_eq_true rfl⟩ (fun w H locs hp hw => ?_)
  subst hp
  refine lv_aload_n hx hb dX5_make_195 rfl (lv_at hl 3 rfl) ?_
  refine r_get (C := RX5) (T := TX5) (v := .ref (a 6)) hx hb hts i5 hown hw 0 rfl rfl 6 (by decide) lk22 rfl dX5_make_196 ?_
  refine lv_iload_n hx hb dX5_make_199 rfl (lv_at hl 4 rfl) ?_
  refine lv_dup2_11 hx hb dX5_make_200 rfl rfl ?_
  refine r_iald (v := a6 (tn (p1))) hx hb hw 5 rfl ht0 (by first | assumption | exact vp_in_nI (by omega) (by omega)) dX5_make_201 rfl ?_
  refine lv_iload_n hx hb dX5_make_202 rfl (lv_at hl 6 rfl) ?_
  refine lv_aload_n hx hb dX5_make_203 rfl (lv_at hl 3 rfl) ?_
  refine r_callVi 0 rfl rfl (rest := [.int (p3), .int (a6 (tn (p1))), .int (p1), .ref (a 6)]) ⟨hx, hb, hml, hown, hts⟩ hw [] (k5_price l D ty a cI ht0 s0 s1 a2 a3 a4 a5 a6 a7 a8 a9 s10 s11 s12 (upd a13 (tn s12) p2) (upd a14 (tn s12) p3) (lf5_make_132 s12 p1 p2 p3 p4 (((f5_charged s0 s1 a2 a5 p3) * (f5_rent s0 s1 a2 a4)) * p4) 4 0 a15) (upd a16 (tn s12) (s0 + p4)) (upd a17 (tn s12) 0) ((f5_comes s0 s1 a2 a3 (upd a18 (tn s12) 0) a19 a20 a21 (tn s12) p1 p3).1) ((f5_comes s0 s1 a2 a3 (upd a18 (tn s12) 0) a19 a20 a21 (tn s12) p1 p3).2.1) ((f5_comes s0 s1 a2 a3 (upd a18 (tn s12) 0) a19 a20 a21 (tn s12) p1 p3).2.2.1) ((f5_comes s0 s1 a2 a3 (upd a18 (tn s12) 0) a19 a20 a21 (tn s12) p1 p3).2.2.2) s22 (by first | assumption | omega) (by first | assumption | omega)) (cwV 0 hts gX5_make_X5_price rfl rfl rfl (by decide +kernel) ⟨Nat.le_of_ble_eq_true rfl, Nat.le_of_ble_eq_true rfl⟩) rfl hl.1 rfl (Nat.le_of_ble_eq_true rfl) dX5_make_204 ⟨Nat.le_of_ble_eq_true rfl, Nat.le_of_ble_eq_true rfl⟩ (fun r w H locs hp hw => ?_)
  obtain ⟨rfl, rfl⟩ := hp
  refine lv_imul hx hb dX5_make_207 ?_
  refine lv_iload hx hb dX5_make_208 (lv_at hl 2 rfl) ?_
  refine lv_iadd hx hb dX5_make_210 ?_
  refine lv_isub hx hb dX5_make_211 ?_
  refine r_iast (ws' := MW a cI s0 s1 a2 a3 a4 a5 (upd a6 (tn (p1)) ((a6 (tn (p1))) - ((p3 * (f5_price s0 s1 a2 a3)) + (((f5_charged s0 s1 a2 a5 p3) * (f5_rent s0 s1 a2 a4)) * p4)))) a7 a8 a9 s10 s11 s12 (upd a13 (tn s12) p2) (upd a14 (tn s12) p3) (lf5_make_132 s12 p1 p2 p3 p4 (((f5_charged s0 s1 a2 a5 p3) * (f5_rent s0 s1 a2 a4)) * p4) 4 0 a15) (upd a16 (tn s12) (s0 + p4)) (upd a17 (tn s12) 0) ((f5_comes s0 s1 a2 a3 (upd a18 (tn s12) 0) a19 a20 a21 (tn s12) p1 p3).1) ((f5_comes s0 s1 a2 a3 (upd a18 (tn s12) 0) a19 a20 a21 (tn s12) p1 p3).2.1) ((f5_comes s0 s1 a2 a3 (upd a18 (tn s12) 0) a19 a20 a21 (tn s12) p1 p3).2.2.1) ((f5_comes s0 s1 a2 a3 (upd a18 (tn s12) 0) a19 a20 a21 (tn s12) p1 p3).2.2.2) s22) hx hb hw 5 rfl ht0 (by first | assumption | exact vp_in_nI (by omega) (by omega)) (MW_u6 _) dX5_make_212 (fun H locs hw => ?_)
  refine lv_aload_n hx hb dX5_make_213 rfl (lv_at hl 3 rfl) ?_
  refine lv_dup hx hb dX5_make_214 rfl ?_
  refine r_get (C := RX5) (T := TX5) (v := .int (s10)) hx hb hts i5 hown hw 0 rfl rfl 10 (by decide) lk72 rfl dX5_make_215 ?_
  refine lv_iload hx hb dX5_make_218 (lv_at hl 2 rfl) ?_
  refine lv_iadd hx hb dX5_make_220 ?_
  refine r_put (C := RX5) (T := TX5) (ws' := MW a cI s0 s1 a2 a3 a4 a5 (upd a6 (tn (p1)) ((a6 (tn (p1))) - ((p3 * (f5_price s0 s1 a2 a3)) + (((f5_charged s0 s1 a2 a5 p3) * (f5_rent s0 s1 a2 a4)) * p4)))) a7 a8 a9 (s10 + (((f5_charged s0 s1 a2 a5 p3) * (f5_rent s0 s1 a2 a4)) * p4)) s11 s12 (upd a13 (tn s12) p2) (upd a14 (tn s12) p3) (lf5_make_132 s12 p1 p2 p3 p4 (((f5_charged s0 s1 a2 a5 p3) * (f5_rent s0 s1 a2 a4)) * p4) 4 0 a15) (upd a16 (tn s12) (s0 + p4)) (upd a17 (tn s12) 0) ((f5_comes s0 s1 a2 a3 (upd a18 (tn s12) 0) a19 a20 a21 (tn s12) p1 p3).1) ((f5_comes s0 s1 a2 a3 (upd a18 (tn s12) 0) a19 a20 a21 (tn s12) p1 p3).2.1) ((f5_comes s0 s1 a2 a3 (upd a18 (tn s12) 0) a19 a20 a21 (tn s12) p1 p3).2.2.1) ((f5_comes s0 s1 a2 a3 (upd a18 (tn s12) 0) a19 a20 a21 (tn s12) p1 p3).2.2.2) s22) hx hb hts i5 tyX5 tyX5_ok nmX5 hown hw 0 rfl rfl 10 (by decide) lk72 rfl (by decide +kernel) (Nat.le_of_ble_eq_true rfl) (MW_s10 _) dX5_make_221 (fun H locs hw => ?_)
  refine lv_aload_n hx hb dX5_make_224 rfl (lv_at hl 3 rfl) ?_
  refine lv_dup hx hb dX5_make_225 rfl ?_
  refine r_get (C := RX5) (T := TX5) (v := .int (s12)) hx hb hts i5 hown hw 0 rfl rfl 12 (by decide) lk78 rfl dX5_make_226 ?_
  refine r_top (nI (tn s12)) hob ?_
  refine lv_iconst (v := 1) hx hb dX5_make_229 (by decide) ?_
  refine lv_iadd hx hb dX5_make_230 ?_
  refine r_top (nI ((tn s12) + 1)) (show nI (tn s12) + nI (1) = nI ((tn s12) + 1) from nI_add _ _) ?_
  refine r_put (C := RX5) (T := TX5) (ws' := MW a cI s0 s1 a2 a3 a4 a5 (upd a6 (tn (p1)) ((a6 (tn (p1))) - ((p3 * (f5_price s0 s1 a2 a3)) + (((f5_charged s0 s1 a2 a5 p3) * (f5_rent s0 s1 a2 a4)) * p4)))) a7 a8 a9 (s10 + (((f5_charged s0 s1 a2 a5 p3) * (f5_rent s0 s1 a2 a4)) * p4)) s11 (nI ((tn s12) + 1)) (upd a13 (tn s12) p2) (upd a14 (tn s12) p3) (lf5_make_132 s12 p1 p2 p3 p4 (((f5_charged s0 s1 a2 a5 p3) * (f5_rent s0 s1 a2 a4)) * p4) 4 0 a15) (upd a16 (tn s12) (s0 + p4)) (upd a17 (tn s12) 0) ((f5_comes s0 s1 a2 a3 (upd a18 (tn s12) 0) a19 a20 a21 (tn s12) p1 p3).1) ((f5_comes s0 s1 a2 a3 (upd a18 (tn s12) 0) a19 a20 a21 (tn s12) p1 p3).2.1) ((f5_comes s0 s1 a2 a3 (upd a18 (tn s12) 0) a19 a20 a21 (tn s12) p1 p3).2.2.1) ((f5_comes s0 s1 a2 a3 (upd a18 (tn s12) 0) a19 a20 a21 (tn s12) p1 p3).2.2.2) s22) hx hb hts i5 tyX5 tyX5_ok nmX5 hown hw 0 rfl rfl 12 (by decide) lk78 rfl (by decide +kernel) (Nat.le_of_ble_eq_true rfl) (MW_s12 _) dX5_make_231 (fun H locs hw => ?_)
  refine lv_iload hx hb dX5_make_234 (lv_at hl 1 rfl) ?_
  exact r_iret hx hb hr hlocks hw hp dX5_make_236
def f5_make (s0 : Int32) (s1 : Int32) (a2 : Nat → Int32) (a3 : Nat → Int32) (a4 : Nat → Int32) (a5 : Nat → Int32) (a6 : Nat → Int32) (a7 : Nat → Int32) (s10 : Int32) (s12 : Int32) (a13 : Nat → Int32) (a14 : Nat → Int32) (a15 : Nat → Int32) (a16 : Nat → Int32) (a17 : Nat → Int32) (a18 : Nat → Int32) (a19 : Nat → Int32) (a20 : Nat → Int32) (a21 : Nat → Int32) (p1 : Int32) (p2 : Int32) (p3 : Int32) (p4 : Int32) : Int32 × (Nat → Int32) × Int32 × Int32 × (Nat → Int32) × (Nat → Int32) × (Nat → Int32) × (Nat → Int32) × (Nat → Int32) × (Nat → Int32) × (Nat → Int32) × (Nat → Int32) × (Nat → Int32) :=
  if (f5_noAccount p1) = 0 then (if (f5_noAccount p2) = 0 then (if (f5_in p3.toInt64 1 1000) = 0 then ((-102), a6, s10, s12, a13, a14, a15, a16, a17, a18, a19, a20, a21)
      else if (f5_in p4.toInt64 1 100) = 0 then ((-102), a6, s10, s12, a13, a14, a15, a16, a17, a18, a19, a20, a21)
      else if (f5_isCapped a7 s12 a13 a14 a17 p2 p3) = 0 then (if ((p3 * (f5_price s0 s1 a2 a3)) + (((f5_charged s0 s1 a2 a5 p3) * (f5_rent s0 s1 a2 a4)) * p4)) ≤ (a6 (tn (p1))) then (if (nI (tn s12)) = 60 then ((-107), a6, s10, s12, a13, a14, a15, a16, a17, a18, a19, a20, a21)
          else (nI (tn s12), upd a6 (tn (p1)) ((a6 (tn (p1))) - ((p3 * (f5_price s0 s1 a2 a3)) + (((f5_charged s0 s1 a2 a5 p3) * (f5_rent s0 s1 a2 a4)) * p4))), s10 + (((f5_charged s0 s1 a2 a5 p3) * (f5_rent s0 s1 a2 a4)) * p4), nI ((tn s12) + 1), upd a13 (tn s12) p2, upd a14 (tn s12) p3, (lf5_make_132 s12 p1 p2 p3 p4 (((f5_charged s0 s1 a2 a5 p3) * (f5_rent s0 s1 a2 a4)) * p4) 4 0 a15), upd a16 (tn s12) (s0 + p4), upd a17 (tn s12) 0, (f5_comes s0 s1 a2 a3 (upd a18 (tn s12) 0) a19 a20 a21 (tn s12) p1 p3).1, (f5_comes s0 s1 a2 a3 (upd a18 (tn s12) 0) a19 a20 a21 (tn s12) p1 p3).2.1, (f5_comes s0 s1 a2 a3 (upd a18 (tn s12) 0) a19 a20 a21 (tn s12) p1 p3).2.2.1, (f5_comes s0 s1 a2 a3 (upd a18 (tn s12) 0) a19 a20 a21 (tn s12) p1 p3).2.2.2))
        else ((-106), a6, s10, s12, a13, a14, a15, a16, a17, a18, a19, a20, a21))
      else ((-105), a6, s10, s12, a13, a14, a15, a16, a17, a18, a19, a20, a21))
    else ((-101), a6, s10, s12, a13, a14, a15, a16, a17, a18, a19, a20, a21))
  else ((-101), a6, s10, s12, a13, a14, a15, a16, a17, a18, a19, a20, a21)
set_option maxHeartbeats 4000000 in
set_option maxRecDepth 100000 in
theorem k5_make (l : Launch) (D : va_G) (ty : List (ClassId × FieldType)) (a : Nat → Nat) (cI : ClassId) (ht0 : ty[0]? = some (cI, .int)) (s0 : Int32) (s1 : Int32) (a2 : Nat → Int32) (a3 : Nat → Int32) (a4 : Nat → Int32) (a5 : Nat → Int32) (a6 : Nat → Int32) (a7 : Nat → Int32) (a8 : Nat → Int32) (a9 : Nat → Int32) (s10 : Int32) (s11 : Int32) (s12 : Int32) (a13 : Nat → Int32) (a14 : Nat → Int32) (a15 : Nat → Int32) (a16 : Nat → Int32) (a17 : Nat → Int32) (a18 : Nat → Int32) (a19 : Nat → Int32) (a20 : Nat → Int32) (a21 : Nat → Int32) (s22 : Int32) (p1 : Int32) (p2 : Int32) (p3 : Int32) (p4 : Int32) (hob : s12 = nI (tn s12)) (hob2 : tn s12 ≤ 60) (he0 : s1 = nI (tn s1)) (he1 : tn s1 ≤ 10) : MetG l yX5_make wsX5_make { frames := 4, cells := 0, slots := 0, locals := 90 } D ty [.ref (a 0), .int (p1), .int (p2), .int (p3), .int (p4)] (MW a cI s0 s1 a2 a3 a4 a5 a6 a7 a8 a9 s10 s11 s12 a13 a14 a15 a16 a17 a18 a19 a20 a21 s22) (va_Qi (fun r w => r = (f5_make s0 s1 a2 a3 a4 a5 a6 a7 s10 s12 a13 a14 a15 a16 a17 a18 a19 a20 a21 p1 p2 p3 p4).1 ∧ w = MW a cI s0 s1 a2 a3 a4 a5 ((f5_make s0 s1 a2 a3 a4 a5 a6 a7 s10 s12 a13 a14 a15 a16 a17 a18 a19 a20 a21 p1 p2 p3 p4).2.1) a7 a8 a9 ((f5_make s0 s1 a2 a3 a4 a5 a6 a7 s10 s12 a13 a14 a15 a16 a17 a18 a19 a20 a21 p1 p2 p3 p4).2.2.1) s11 ((f5_make s0 s1 a2 a3 a4 a5 a6 a7 s10 s12 a13 a14 a15 a16 a17 a18 a19 a20 a21 p1 p2 p3 p4).2.2.2.1) ((f5_make s0 s1 a2 a3 a4 a5 a6 a7 s10 s12 a13 a14 a15 a16 a17 a18 a19 a20 a21 p1 p2 p3 p4).2.2.2.2.1) ((f5_make s0 s1 a2 a3 a4 a5 a6 a7 s10 s12 a13 a14 a15 a16 a17 a18 a19 a20 a21 p1 p2 p3 p4).2.2.2.2.2.1) ((f5_make s0 s1 a2 a3 a4 a5 a6 a7 s10 s12 a13 a14 a15 a16 a17 a18 a19 a20 a21 p1 p2 p3 p4).2.2.2.2.2.2.1) ((f5_make s0 s1 a2 a3 a4 a5 a6 a7 s10 s12 a13 a14 a15 a16 a17 a18 a19 a20 a21 p1 p2 p3 p4).2.2.2.2.2.2.2.1) ((f5_make s0 s1 a2 a3 a4 a5 a6 a7 s10 s12 a13 a14 a15 a16 a17 a18 a19 a20 a21 p1 p2 p3 p4).2.2.2.2.2.2.2.2.1) ((f5_make s0 s1 a2 a3 a4 a5 a6 a7 s10 s12 a13 a14 a15 a16 a17 a18 a19 a20 a21 p1 p2 p3 p4).2.2.2.2.2.2.2.2.2.1) ((f5_make s0 s1 a2 a3 a4 a5 a6 a7 s10 s12 a13 a14 a15 a16 a17 a18 a19 a20 a21 p1 p2 p3 p4).2.2.2.2.2.2.2.2.2.2.1) ((f5_make s0 s1 a2 a3 a4 a5 a6 a7 s10 s12 a13 a14 a15 a16 a17 a18 a19 a20 a21 p1 p2 p3 p4).2.2.2.2.2.2.2.2.2.2.2.1) ((f5_make s0 s1 a2 a3 a4 a5 a6 a7 s10 s12 a13 a14 a15 a16 a17 a18 a19 a20 a21 p1 p2 p3 p4).2.2.2.2.2.2.2.2.2.2.2.2) s22)) 0 0 := by
  refine Met_start cX5_make 8 (some .int) (by decide) rfl (Nat.le_of_ble_eq_true rfl) ?_
  intro p e s m below meth c A ls hx hb hr hlocks hml hnm hts hown hw hl
  have hl : lv_has ls 8 [(0, .ref (a 0)), (1, .int (p1)), (2, .int (p2)), (3, .int (p3)), (4, .int (p4))] := hl
  have ci122 := hts (.constantLong RX5 122 (1000)) (by decide +kernel)
  have ci89 := hts (.constantLong RX5 89 (100)) (by decide +kernel)
  have i5 : ∀ w ∈ wsX50, w ∈ wsX5_make := fun _ h => List.mem_cons_of_mem _ (List.mem_append_right _ h)
  have lk22 := hts (.fieldLink RX5 22 "RentSizesModel" "accountCoins" "[I") (by decide +kernel)
  have lk78 := hts (.fieldLink RX5 78 "RentSizesModel" "objects" "I") (by decide +kernel)
  refine lv_aload_n hx hb dX5_make_0 rfl (lv_at hl 0 rfl) ?_
  refine lv_iload_n hx hb dX5_make_1 rfl (lv_at hl 1 rfl) ?_
  refine r_callVi 0 rfl rfl (rest := []) ⟨hx, hb, hml, hown, hts⟩ hw [.int (p1)] (k5_noAccount l D ty a cI ht0 s0 s1 a2 a3 a4 a5 a6 a7 a8 a9 s10 s11 s12 a13 a14 a15 a16 a17 a18 a19 a20 a21 s22 p1) (cwV 1 hts gX5_make_X5_noAccount rfl rfl rfl (by decide +kernel) ⟨Nat.le_of_ble_eq_true rfl, Nat.le_of_ble_eq_true rfl⟩) rfl hl.1 rfl (Nat.le_of_ble_eq_true rfl) dX5_make_2 ⟨Nat.le_of_ble_eq_true rfl, Nat.le_of_ble_eq_true rfl⟩ (fun r w H locs hp hw => ?_)
  obtain ⟨rfl, rfl⟩ := hp
  refine lv_if_ne (tgt := 16) hx hb dX5_make_5 (by decide) (fun c_5 => ?_) (fun c_5 => ?_)
  · refine lv_bipush (v := (-101)) hx hb dX5_make_16 (by decide) ?_
    have e9 : f5_make s0 s1 a2 a3 a4 a5 a6 a7 s10 s12 a13 a14 a15 a16 a17 a18 a19 a20 a21 p1 p2 p3 p4 = ((-101), a6, s10, s12, a13, a14, a15, a16, a17, a18, a19, a20, a21) := by unfold f5_make; rw [if_neg c_5]
    exact r_iret hx hb hr hlocks hw ⟨by rw [e9] <;> rfl, by rw [e9] <;> rfl⟩ dX5_make_18
  · refine lv_aload_n hx hb dX5_make_8 rfl (lv_at hl 0 rfl) ?_
    refine lv_iload_n hx hb dX5_make_9 rfl (lv_at hl 2 rfl) ?_
    refine r_callVi 0 rfl rfl (rest := []) ⟨hx, hb, hml, hown, hts⟩ hw [.int (p2)] (k5_noAccount l D ty a cI ht0 s0 s1 a2 a3 a4 a5 a6 a7 a8 a9 s10 s11 s12 a13 a14 a15 a16 a17 a18 a19 a20 a21 s22 p2) (cwV 1 hts gX5_make_X5_noAccount rfl rfl rfl (by decide +kernel) ⟨Nat.le_of_ble_eq_true rfl, Nat.le_of_ble_eq_true rfl⟩) rfl hl.1 rfl (Nat.le_of_ble_eq_true rfl) dX5_make_10 ⟨Nat.le_of_ble_eq_true rfl, Nat.le_of_ble_eq_true rfl⟩ (fun r w H locs hp hw => ?_)
    obtain ⟨rfl, rfl⟩ := hp
    refine lv_if_eq (tgt := 19) hx hb dX5_make_13 (by decide) (fun c_13 => ?_) (fun c_13 => ?_)
    · have hv1 := na_in c_5
      have hv2 := na_in c_13
      refine lv_iload_n hx hb dX5_make_19 rfl (lv_at hl 3 rfl) ?_
      refine lv_i2l (v := p3.toInt64) hx hb dX5_make_20 rfl ?_
      refine lv_lconst (v := 1) hx hb dX5_make_21 (by decide) ?_
      refine lv_ldc2 (v := 1000) hx hb hown ci122 dX5_make_22 ?_
      refine r_callSi (rest := []) ⟨hx, hb, hml, hown, hts⟩ hw [.long (p3.toInt64), .long (1), .long (1000)] (k5_in l D ty a cI ht0 s0 s1 a2 a3 a4 a5 a6 a7 a8 a9 s10 s11 s12 a13 a14 a15 a16 a17 a18 a19 a20 a21 s22 p3.toInt64 1 1000) (va_cwS 3 hts gX5_make_X5_in rfl rfl rfl (by decide +kernel) ⟨Nat.le_of_ble_eq_true rfl, Nat.le_of_ble_eq_true rfl⟩) rfl hl.1 rfl (Nat.le_of_ble_eq_true rfl) dX5_make_25 ⟨Nat.le_of_ble_eq_true rfl, Nat.le_of_ble_eq_true rfl⟩ (fun r w H locs hp hw => ?_)
      obtain ⟨rfl, rfl⟩ := hp
      refine lv_if_eq (tgt := 44) hx hb dX5_make_28 (by decide) (fun c_28 => ?_) (fun c_28 => ?_)
      · refine lv_bipush (v := (-102)) hx hb dX5_make_44 (by decide) ?_
        have e9 : f5_make s0 s1 a2 a3 a4 a5 a6 a7 s10 s12 a13 a14 a15 a16 a17 a18 a19 a20 a21 p1 p2 p3 p4 = ((-102), a6, s10, s12, a13, a14, a15, a16, a17, a18, a19, a20, a21) := by unfold f5_make; rw [if_pos c_5, if_pos c_13, if_pos c_28]
        exact r_iret hx hb hr hlocks hw ⟨by rw [e9] <;> rfl, by rw [e9] <;> rfl⟩ dX5_make_46
      · refine lv_iload hx hb dX5_make_31 (lv_at hl 4 rfl) ?_
        refine lv_i2l (v := p4.toInt64) hx hb dX5_make_33 rfl ?_
        refine lv_lconst (v := 1) hx hb dX5_make_34 (by decide) ?_
        refine lv_ldc2 (v := 100) hx hb hown ci89 dX5_make_35 ?_
        refine r_callSi (rest := []) ⟨hx, hb, hml, hown, hts⟩ hw [.long (p4.toInt64), .long (1), .long (100)] (k5_in l D ty a cI ht0 s0 s1 a2 a3 a4 a5 a6 a7 a8 a9 s10 s11 s12 a13 a14 a15 a16 a17 a18 a19 a20 a21 s22 p4.toInt64 1 100) (va_cwS 3 hts gX5_make_X5_in rfl rfl rfl (by decide +kernel) ⟨Nat.le_of_ble_eq_true rfl, Nat.le_of_ble_eq_true rfl⟩) rfl hl.1 rfl (Nat.le_of_ble_eq_true rfl) dX5_make_38 ⟨Nat.le_of_ble_eq_true rfl, Nat.le_of_ble_eq_true rfl⟩ (fun r w H locs hp hw => ?_)
        obtain ⟨rfl, rfl⟩ := hp
        refine lv_if_ne (tgt := 47) hx hb dX5_make_41 (by decide) (fun c_41 => ?_) (fun c_41 => ?_)
        · refine lv_aload_n hx hb dX5_make_47 rfl (lv_at hl 0 rfl) ?_
          refine lv_iload_n hx hb dX5_make_48 rfl (lv_at hl 2 rfl) ?_
          refine lv_iload_n hx hb dX5_make_49 rfl (lv_at hl 3 rfl) ?_
          refine r_callVi 0 rfl rfl (rest := []) ⟨hx, hb, hml, hown, hts⟩ hw [.int (p2), .int (p3)] (k5_isCapped l D ty a cI ht0 s0 s1 a2 a3 a4 a5 a6 a7 a8 a9 s10 s11 s12 a13 a14 a15 a16 a17 a18 a19 a20 a21 s22 p2 p3 (by first | assumption | omega) (by first | assumption | omega) (by first | assumption | omega)) (cwV 2 hts gX5_make_X5_isCapped rfl rfl rfl (by decide +kernel) ⟨Nat.le_of_ble_eq_true rfl, Nat.le_of_ble_eq_true rfl⟩) rfl hl.1 rfl (Nat.le_of_ble_eq_true rfl) dX5_make_50 ⟨Nat.le_of_ble_eq_true rfl, Nat.le_of_ble_eq_true rfl⟩ (fun r w H locs hp hw => ?_)
          obtain ⟨rfl, rfl⟩ := hp
          refine lv_if_eq (tgt := 59) hx hb dX5_make_53 (by decide) (fun c_53 => ?_) (fun c_53 => ?_)
          · refine lv_aload_n hx hb dX5_make_59 rfl (lv_at hl 0 rfl) ?_
            refine lv_iload_n hx hb dX5_make_60 rfl (lv_at hl 3 rfl) ?_
            refine r_callVi 0 rfl rfl (rest := []) ⟨hx, hb, hml, hown, hts⟩ hw [.int (p3)] (k5_charged l D ty a cI ht0 s0 s1 a2 a3 a4 a5 a6 a7 a8 a9 s10 s11 s12 a13 a14 a15 a16 a17 a18 a19 a20 a21 s22 p3 (by first | assumption | omega) (by first | assumption | omega)) (cwV 1 hts gX5_make_X5_charged rfl rfl rfl (by decide +kernel) ⟨Nat.le_of_ble_eq_true rfl, Nat.le_of_ble_eq_true rfl⟩) rfl hl.1 rfl (Nat.le_of_ble_eq_true rfl) dX5_make_61 ⟨Nat.le_of_ble_eq_true rfl, Nat.le_of_ble_eq_true rfl⟩ (fun r w H locs hp hw => ?_)
            obtain ⟨rfl, rfl⟩ := hp
            refine lv_aload_n hx hb dX5_make_64 rfl (lv_at hl 0 rfl) ?_
            refine r_callVi 0 rfl rfl (rest := [.int (f5_charged s0 s1 a2 a5 p3)]) ⟨hx, hb, hml, hown, hts⟩ hw [] (k5_rent l D ty a cI ht0 s0 s1 a2 a3 a4 a5 a6 a7 a8 a9 s10 s11 s12 a13 a14 a15 a16 a17 a18 a19 a20 a21 s22 (by first | assumption | omega) (by first | assumption | omega)) (cwV 0 hts gX5_make_X5_rent rfl rfl rfl (by decide +kernel) ⟨Nat.le_of_ble_eq_true rfl, Nat.le_of_ble_eq_true rfl⟩) rfl hl.1 rfl (Nat.le_of_ble_eq_true rfl) dX5_make_65 ⟨Nat.le_of_ble_eq_true rfl, Nat.le_of_ble_eq_true rfl⟩ (fun r w H locs hp hw => ?_)
            obtain ⟨rfl, rfl⟩ := hp
            refine lv_imul hx hb dX5_make_68 ?_
            refine lv_iload hx hb dX5_make_69 (lv_at hl 4 rfl) ?_
            refine lv_imul hx hb dX5_make_71 ?_
            refine lv_istore (lv' := [(5, .int (((f5_charged s0 s1 a2 a5 p3) * (f5_rent s0 s1 a2 a4)) * p4)), (0, .ref (a 0)), (1, .int (p1)), (2, .int (p2)), (3, .int (p3)), (4, .int (p4))]) hx hb dX5_make_72 hl (by decide) rfl (fun ls hl => ?_)
            refine lv_aload_n hx hb dX5_make_74 rfl (lv_at hl 1 rfl) ?_
            refine r_get (C := RX5) (T := TX5) (v := .ref (a 6)) hx hb hts i5 hown hw 0 rfl rfl 6 (by decide) lk22 rfl dX5_make_75 ?_
            refine lv_iload_n hx hb dX5_make_78 rfl (lv_at hl 2 rfl) ?_
            refine r_iald (v := a6 (tn (p1))) hx hb hw 5 rfl ht0 (by first | assumption | exact vp_in_nI (by omega) (by omega)) dX5_make_79 rfl ?_
            refine lv_iload_n hx hb dX5_make_80 rfl (lv_at hl 4 rfl) ?_
            refine lv_aload_n hx hb dX5_make_81 rfl (lv_at hl 1 rfl) ?_
            refine r_callVi 0 rfl rfl (rest := [.int (p3), .int (a6 (tn (p1)))]) ⟨hx, hb, hml, hown, hts⟩ hw [] (k5_price l D ty a cI ht0 s0 s1 a2 a3 a4 a5 a6 a7 a8 a9 s10 s11 s12 a13 a14 a15 a16 a17 a18 a19 a20 a21 s22 (by first | assumption | omega) (by first | assumption | omega)) (cwV 0 hts gX5_make_X5_price rfl rfl rfl (by decide +kernel) ⟨Nat.le_of_ble_eq_true rfl, Nat.le_of_ble_eq_true rfl⟩) rfl hl.1 rfl (Nat.le_of_ble_eq_true rfl) dX5_make_82 ⟨Nat.le_of_ble_eq_true rfl, Nat.le_of_ble_eq_true rfl⟩ (fun r w H locs hp hw => ?_)
            obtain ⟨rfl, rfl⟩ := hp
            refine lv_imul hx hb dX5_make_85 ?_
            refine lv_iload hx hb dX5_make_86 (lv_at hl 0 rfl) ?_
            refine lv_iadd hx hb dX5_make_88 ?_
            refine lv_icmp_ge (tgt := 95) hx hb dX5_make_89 (by decide) (fun c_89 => ?_) (fun c_89 => ?_)
            · refine lv_aload_n hx hb dX5_make_95 rfl (lv_at hl 1 rfl) ?_
              refine r_get (C := RX5) (T := TX5) (v := .int (s12)) hx hb hts i5 hown hw 0 rfl rfl 12 (by decide) lk78 rfl dX5_make_96 ?_
              refine r_top (nI (tn s12)) hob ?_
              refine lv_bipush (v := 60) hx hb dX5_make_99 (by decide) ?_
              refine lv_icmp_ne (tgt := 107) hx hb dX5_make_101 (by decide) (fun c_101 => ?_) (fun c_101 => ?_)
              · have hnb : tn s12 < 60 := Nat.lt_of_le_of_ne hob2 (fun e => c_101 (by rw [e]; rfl))
                refine lv_aload_n hx hb dX5_make_107 rfl (lv_at hl 1 rfl) ?_
                refine r_get (C := RX5) (T := TX5) (v := .int (s12)) hx hb hts i5 hown hw 0 rfl rfl 12 (by decide) lk78 rfl dX5_make_108 ?_
                refine r_top (nI (tn s12)) hob ?_
                refine lv_istore (lv' := [(6, .int (nI (tn s12))), (5, .int (((f5_charged s0 s1 a2 a5 p3) * (f5_rent s0 s1 a2 a4)) * p4)), (0, .ref (a 0)), (1, .int (p1)), (2, .int (p2)), (3, .int (p3)), (4, .int (p4))]) hx hb dX5_make_111 hl (by decide) rfl (fun ls hl => ?_)
                have e9 : f5_make s0 s1 a2 a3 a4 a5 a6 a7 s10 s12 a13 a14 a15 a16 a17 a18 a19 a20 a21 p1 p2 p3 p4 = (nI (tn s12), upd a6 (tn (p1)) ((a6 (tn (p1))) - ((p3 * (f5_price s0 s1 a2 a3)) + (((f5_charged s0 s1 a2 a5 p3) * (f5_rent s0 s1 a2 a4)) * p4))), s10 + (((f5_charged s0 s1 a2 a5 p3) * (f5_rent s0 s1 a2 a4)) * p4), nI ((tn s12) + 1), upd a13 (tn s12) p2, upd a14 (tn s12) p3, (lf5_make_132 s12 p1 p2 p3 p4 (((f5_charged s0 s1 a2 a5 p3) * (f5_rent s0 s1 a2 a4)) * p4) 4 0 a15), upd a16 (tn s12) (s0 + p4), upd a17 (tn s12) 0, (f5_comes s0 s1 a2 a3 (upd a18 (tn s12) 0) a19 a20 a21 (tn s12) p1 p3).1, (f5_comes s0 s1 a2 a3 (upd a18 (tn s12) 0) a19 a20 a21 (tn s12) p1 p3).2.1, (f5_comes s0 s1 a2 a3 (upd a18 (tn s12) 0) a19 a20 a21 (tn s12) p1 p3).2.2.1, (f5_comes s0 s1 a2 a3 (upd a18 (tn s12) 0) a19 a20 a21 (tn s12) p1 p3).2.2.2) := by unfold f5_make; rw [if_pos c_5, if_pos c_13, if_neg c_28, if_neg c_41, if_pos c_53, if_pos c_89, if_neg c_101]
                exact sg5_make_113 l D ty a cI ht0 s0 s1 a2 a3 a4 a5 a6 a7 a8 a9 s10 s11 s12 a13 a14 a15 a16 a17 a18 a19 a20 a21 s22 p1 p2 p3 p4 hob hob2 he0 he1 hnb hv1 hv2 hx hb hr hlocks hml hts hown _ _ _ _ hw hl ⟨by rw [e9] <;> rfl, by rw [e9] <;> rfl⟩
              · refine lv_bipush (v := (-107)) hx hb dX5_make_104 (by decide) ?_
                have e9 : f5_make s0 s1 a2 a3 a4 a5 a6 a7 s10 s12 a13 a14 a15 a16 a17 a18 a19 a20 a21 p1 p2 p3 p4 = ((-107), a6, s10, s12, a13, a14, a15, a16, a17, a18, a19, a20, a21) := by unfold f5_make; rw [if_pos c_5, if_pos c_13, if_neg c_28, if_neg c_41, if_pos c_53, if_pos c_89, if_pos c_101]
                exact r_iret hx hb hr hlocks hw ⟨by rw [e9] <;> rfl, by rw [e9] <;> rfl⟩ dX5_make_106
            · refine lv_bipush (v := (-106)) hx hb dX5_make_92 (by decide) ?_
              have e9 : f5_make s0 s1 a2 a3 a4 a5 a6 a7 s10 s12 a13 a14 a15 a16 a17 a18 a19 a20 a21 p1 p2 p3 p4 = ((-106), a6, s10, s12, a13, a14, a15, a16, a17, a18, a19, a20, a21) := by unfold f5_make; rw [if_pos c_5, if_pos c_13, if_neg c_28, if_neg c_41, if_pos c_53, if_neg c_89]
              exact r_iret hx hb hr hlocks hw ⟨by rw [e9] <;> rfl, by rw [e9] <;> rfl⟩ dX5_make_94
          · refine lv_bipush (v := (-105)) hx hb dX5_make_56 (by decide) ?_
            have e9 : f5_make s0 s1 a2 a3 a4 a5 a6 a7 s10 s12 a13 a14 a15 a16 a17 a18 a19 a20 a21 p1 p2 p3 p4 = ((-105), a6, s10, s12, a13, a14, a15, a16, a17, a18, a19, a20, a21) := by unfold f5_make; rw [if_pos c_5, if_pos c_13, if_neg c_28, if_neg c_41, if_neg c_53]
            exact r_iret hx hb hr hlocks hw ⟨by rw [e9] <;> rfl, by rw [e9] <;> rfl⟩ dX5_make_58
        · refine lv_bipush (v := (-102)) hx hb dX5_make_44 (by decide) ?_
          have e9 : f5_make s0 s1 a2 a3 a4 a5 a6 a7 s10 s12 a13 a14 a15 a16 a17 a18 a19 a20 a21 p1 p2 p3 p4 = ((-102), a6, s10, s12, a13, a14, a15, a16, a17, a18, a19, a20, a21) := by unfold f5_make; rw [if_pos c_5, if_pos c_13, if_neg c_28, if_pos c_41]
          exact r_iret hx hb hr hlocks hw ⟨by rw [e9] <;> rfl, by rw [e9] <;> rfl⟩ dX5_make_46
    · refine lv_bipush (v := (-101)) hx hb dX5_make_16 (by decide) ?_
      have e9 : f5_make s0 s1 a2 a3 a4 a5 a6 a7 s10 s12 a13 a14 a15 a16 a17 a18 a19 a20 a21 p1 p2 p3 p4 = ((-101), a6, s10, s12, a13, a14, a15, a16, a17, a18, a19, a20, a21) := by unfold f5_make; rw [if_pos c_5, if_neg c_13]
      exact r_iret hx hb hr hlocks hw ⟨by rw [e9] <;> rfl, by rw [e9] <;> rfl⟩ dX5_make_18
def f5_grow (s0 : Int32) (s1 : Int32) (a2 : Nat → Int32) (a3 : Nat → Int32) (a4 : Nat → Int32) (a5 : Nat → Int32) (a6 : Nat → Int32) (a7 : Nat → Int32) (s10 : Int32) (s12 : Int32) (a13 : Nat → Int32) (a14 : Nat → Int32) (a16 : Nat → Int32) (a17 : Nat → Int32) (a18 : Nat → Int32) (a19 : Nat → Int32) (a20 : Nat → Int32) (a21 : Nat → Int32) (p1 : Int32) (p2 : Int32) (p3 : Int32) : Int32 × (Nat → Int32) × Int32 × (Nat → Int32) × (Nat → Int32) × (Nat → Int32) × (Nat → Int32) × (Nat → Int32) :=
  if (f5_noObject s12 p1) = 0 then (if (f5_noAccount p2) = 0 then (if (f5_in p3.toInt64 1 999) = 0 then ((-102), a6, s10, a14, a18, a19, a20, a21)
      else if ((f5_sizeNow a14 a17 (tn p1)) + p3) ≤ 1000 then (if (a17 (tn p1)) = 0 then (if (f5_isCapped a7 s12 a13 a14 a17 (a13 (tn p1)) p3) = 0 then (if ((p3 * (f5_price s0 s1 a2 a3)) + ((((f5_charged s0 s1 a2 a5 ((a14 (tn p1)) + p3)) - (f5_charged s0 s1 a2 a5 (a14 (tn p1)))) * (f5_rent s0 s1 a2 a4)) * ((a16 (tn p1)) - s0))) ≤ (a6 (tn (p2))) then (if (f5_needsLayer s0 s1 a2 a3 a18 a20 a21 (tn p1) p2) = 0 then ((p3 * (f5_price s0 s1 a2 a3)) + ((((f5_charged s0 s1 a2 a5 ((a14 (tn p1)) + p3)) - (f5_charged s0 s1 a2 a5 (a14 (tn p1)))) * (f5_rent s0 s1 a2 a4)) * ((a16 (tn p1)) - s0)), upd a6 (tn (p2)) ((a6 (tn (p2))) - ((p3 * (f5_price s0 s1 a2 a3)) + ((((f5_charged s0 s1 a2 a5 ((a14 (tn p1)) + p3)) - (f5_charged s0 s1 a2 a5 (a14 (tn p1)))) * (f5_rent s0 s1 a2 a4)) * ((a16 (tn p1)) - s0)))), s10 + ((((f5_charged s0 s1 a2 a5 ((a14 (tn p1)) + p3)) - (f5_charged s0 s1 a2 a5 (a14 (tn p1)))) * (f5_rent s0 s1 a2 a4)) * ((a16 (tn p1)) - s0)), upd a14 (tn p1) ((a14 (tn p1)) + p3), (f5_comes s0 s1 a2 a3 a18 a19 a20 a21 (tn p1) p2 p3).1, (f5_comes s0 s1 a2 a3 a18 a19 a20 a21 (tn p1) p2 p3).2.1, (f5_comes s0 s1 a2 a3 a18 a19 a20 a21 (tn p1) p2 p3).2.2.1, (f5_comes s0 s1 a2 a3 a18 a19 a20 a21 (tn p1) p2 p3).2.2.2)
              else if (nI (tn (a18 (tn p1)))) = 16 then ((-107), a6, s10, a14, a18, a19, a20, a21)
              else ((p3 * (f5_price s0 s1 a2 a3)) + ((((f5_charged s0 s1 a2 a5 ((a14 (tn p1)) + p3)) - (f5_charged s0 s1 a2 a5 (a14 (tn p1)))) * (f5_rent s0 s1 a2 a4)) * ((a16 (tn p1)) - s0)), upd a6 (tn (p2)) ((a6 (tn (p2))) - ((p3 * (f5_price s0 s1 a2 a3)) + ((((f5_charged s0 s1 a2 a5 ((a14 (tn p1)) + p3)) - (f5_charged s0 s1 a2 a5 (a14 (tn p1)))) * (f5_rent s0 s1 a2 a4)) * ((a16 (tn p1)) - s0)))), s10 + ((((f5_charged s0 s1 a2 a5 ((a14 (tn p1)) + p3)) - (f5_charged s0 s1 a2 a5 (a14 (tn p1)))) * (f5_rent s0 s1 a2 a4)) * ((a16 (tn p1)) - s0)), upd a14 (tn p1) ((a14 (tn p1)) + p3), (f5_comes s0 s1 a2 a3 a18 a19 a20 a21 (tn p1) p2 p3).1, (f5_comes s0 s1 a2 a3 a18 a19 a20 a21 (tn p1) p2 p3).2.1, (f5_comes s0 s1 a2 a3 a18 a19 a20 a21 (tn p1) p2 p3).2.2.1, (f5_comes s0 s1 a2 a3 a18 a19 a20 a21 (tn p1) p2 p3).2.2.2))
            else ((-106), a6, s10, a14, a18, a19, a20, a21))
          else ((-105), a6, s10, a14, a18, a19, a20, a21))
        else ((-103), a6, s10, a14, a18, a19, a20, a21))
      else ((-102), a6, s10, a14, a18, a19, a20, a21))
    else ((-101), a6, s10, a14, a18, a19, a20, a21))
  else ((-101), a6, s10, a14, a18, a19, a20, a21)
set_option maxHeartbeats 4000000 in
set_option maxRecDepth 100000 in
theorem k5_grow (l : Launch) (D : va_G) (ty : List (ClassId × FieldType)) (a : Nat → Nat) (cI : ClassId) (ht0 : ty[0]? = some (cI, .int)) (s0 : Int32) (s1 : Int32) (a2 : Nat → Int32) (a3 : Nat → Int32) (a4 : Nat → Int32) (a5 : Nat → Int32) (a6 : Nat → Int32) (a7 : Nat → Int32) (a8 : Nat → Int32) (a9 : Nat → Int32) (s10 : Int32) (s11 : Int32) (s12 : Int32) (a13 : Nat → Int32) (a14 : Nat → Int32) (a15 : Nat → Int32) (a16 : Nat → Int32) (a17 : Nat → Int32) (a18 : Nat → Int32) (a19 : Nat → Int32) (a20 : Nat → Int32) (a21 : Nat → Int32) (s22 : Int32) (p1 : Int32) (p2 : Int32) (p3 : Int32) (hob : s12 = nI (tn s12)) (hob2 : tn s12 ≤ 60) (he0 : s1 = nI (tn s1)) (he1 : tn s1 ≤ 10) (hlk : ∀ x, x < tn s12 → a18 x = nI (tn (a18 x)) ∧ tn (a18 x) ≤ 16) (how : ∀ x, x < tn s12 → vp_in (a13 x) 6) : MetG l yX5_grow wsX5_grow { frames := 4, cells := 0, slots := 0, locals := 90 } D ty [.ref (a 0), .int (p1), .int (p2), .int (p3)] (MW a cI s0 s1 a2 a3 a4 a5 a6 a7 a8 a9 s10 s11 s12 a13 a14 a15 a16 a17 a18 a19 a20 a21 s22) (va_Qi (fun r w => r = (f5_grow s0 s1 a2 a3 a4 a5 a6 a7 s10 s12 a13 a14 a16 a17 a18 a19 a20 a21 p1 p2 p3).1 ∧ w = MW a cI s0 s1 a2 a3 a4 a5 ((f5_grow s0 s1 a2 a3 a4 a5 a6 a7 s10 s12 a13 a14 a16 a17 a18 a19 a20 a21 p1 p2 p3).2.1) a7 a8 a9 ((f5_grow s0 s1 a2 a3 a4 a5 a6 a7 s10 s12 a13 a14 a16 a17 a18 a19 a20 a21 p1 p2 p3).2.2.1) s11 s12 a13 ((f5_grow s0 s1 a2 a3 a4 a5 a6 a7 s10 s12 a13 a14 a16 a17 a18 a19 a20 a21 p1 p2 p3).2.2.2.1) a15 a16 a17 ((f5_grow s0 s1 a2 a3 a4 a5 a6 a7 s10 s12 a13 a14 a16 a17 a18 a19 a20 a21 p1 p2 p3).2.2.2.2.1) ((f5_grow s0 s1 a2 a3 a4 a5 a6 a7 s10 s12 a13 a14 a16 a17 a18 a19 a20 a21 p1 p2 p3).2.2.2.2.2.1) ((f5_grow s0 s1 a2 a3 a4 a5 a6 a7 s10 s12 a13 a14 a16 a17 a18 a19 a20 a21 p1 p2 p3).2.2.2.2.2.2.1) ((f5_grow s0 s1 a2 a3 a4 a5 a6 a7 s10 s12 a13 a14 a16 a17 a18 a19 a20 a21 p1 p2 p3).2.2.2.2.2.2.2) s22)) 0 0 := by
  refine Met_start cX5_grow 6 (some .int) (by decide) rfl (Nat.le_of_ble_eq_true rfl) ?_
  intro p e s m below meth c A ls hx hb hr hlocks hml hnm hts hown hw hl
  have hl : lv_has ls 6 [(0, .ref (a 0)), (1, .int (p1)), (2, .int (p2)), (3, .int (p3))] := hl
  have ci140 := hts (.constantLong RX5 140 (999)) (by decide +kernel)
  have i5 : ∀ w ∈ wsX50, w ∈ wsX5_grow := fun _ h => List.mem_cons_of_mem _ (List.mem_append_right _ h)
  have lk46 := hts (.fieldLink RX5 46 "RentSizesModel" "state" "[I") (by decide +kernel)
  have lk34 := hts (.fieldLink RX5 34 "RentSizesModel" "owner" "[I") (by decide +kernel)
  have lk37 := hts (.fieldLink RX5 37 "RentSizesModel" "size" "[I") (by decide +kernel)
  have lk43 := hts (.fieldLink RX5 43 "RentSizesModel" "paid" "[I") (by decide +kernel)
  have lk64 := hts (.fieldLink RX5 64 "RentSizesModel" "height" "I") (by decide +kernel)
  have lk22 := hts (.fieldLink RX5 22 "RentSizesModel" "accountCoins" "[I") (by decide +kernel)
  have lk72 := hts (.fieldLink RX5 72 "RentSizesModel" "pool" "I") (by decide +kernel)
  have lk49 := hts (.fieldLink RX5 49 "RentSizesModel" "layers" "[I") (by decide +kernel)
  refine lv_aload_n hx hb dX5_grow_0 rfl (lv_at hl 0 rfl) ?_
  refine lv_iload_n hx hb dX5_grow_1 rfl (lv_at hl 1 rfl) ?_
  refine r_callVi 0 rfl rfl (rest := []) ⟨hx, hb, hml, hown, hts⟩ hw [.int (p1)] (k5_noObject l D ty a cI ht0 s0 s1 a2 a3 a4 a5 a6 a7 a8 a9 s10 s11 s12 a13 a14 a15 a16 a17 a18 a19 a20 a21 s22 p1) (cwV 1 hts gX5_grow_X5_noObject rfl rfl rfl (by decide +kernel) ⟨Nat.le_of_ble_eq_true rfl, Nat.le_of_ble_eq_true rfl⟩) rfl hl.1 rfl (Nat.le_of_ble_eq_true rfl) dX5_grow_2 ⟨Nat.le_of_ble_eq_true rfl, Nat.le_of_ble_eq_true rfl⟩ (fun r w H locs hp hw => ?_)
  obtain ⟨rfl, rfl⟩ := hp
  refine lv_if_ne (tgt := 16) hx hb dX5_grow_5 (by decide) (fun c_5 => ?_) (fun c_5 => ?_)
  · refine lv_bipush (v := (-101)) hx hb dX5_grow_16 (by decide) ?_
    have e9 : f5_grow s0 s1 a2 a3 a4 a5 a6 a7 s10 s12 a13 a14 a16 a17 a18 a19 a20 a21 p1 p2 p3 = ((-101), a6, s10, a14, a18, a19, a20, a21) := by unfold f5_grow; rw [if_neg c_5]
    exact r_iret hx hb hr hlocks hw ⟨by rw [e9] <;> rfl, by rw [e9] <;> rfl⟩ dX5_grow_18
  · refine lv_aload_n hx hb dX5_grow_8 rfl (lv_at hl 0 rfl) ?_
    refine lv_iload_n hx hb dX5_grow_9 rfl (lv_at hl 2 rfl) ?_
    refine r_callVi 0 rfl rfl (rest := []) ⟨hx, hb, hml, hown, hts⟩ hw [.int (p2)] (k5_noAccount l D ty a cI ht0 s0 s1 a2 a3 a4 a5 a6 a7 a8 a9 s10 s11 s12 a13 a14 a15 a16 a17 a18 a19 a20 a21 s22 p2) (cwV 1 hts gX5_grow_X5_noAccount rfl rfl rfl (by decide +kernel) ⟨Nat.le_of_ble_eq_true rfl, Nat.le_of_ble_eq_true rfl⟩) rfl hl.1 rfl (Nat.le_of_ble_eq_true rfl) dX5_grow_10 ⟨Nat.le_of_ble_eq_true rfl, Nat.le_of_ble_eq_true rfl⟩ (fun r w H locs hp hw => ?_)
    obtain ⟨rfl, rfl⟩ := hp
    refine lv_if_eq (tgt := 19) hx hb dX5_grow_13 (by decide) (fun c_13 => ?_) (fun c_13 => ?_)
    · obtain ⟨x, hxx, rfl⟩ := (no_in c_5 hob hob2)
      have hv2 := na_in c_13
      have hl0 := (hlk x hxx).1
      have hl1 := (hlk x hxx).2
      have hx60 : x < 60 := by omega
      refine lv_iload_n hx hb dX5_grow_19 rfl (lv_at hl 3 rfl) ?_
      refine lv_i2l (v := p3.toInt64) hx hb dX5_grow_20 rfl ?_
      refine lv_lconst (v := 1) hx hb dX5_grow_21 (by decide) ?_
      refine lv_ldc2 (v := 999) hx hb hown ci140 dX5_grow_22 ?_
      refine r_callSi (rest := []) ⟨hx, hb, hml, hown, hts⟩ hw [.long (p3.toInt64), .long (1), .long (999)] (k5_in l D ty a cI ht0 s0 s1 a2 a3 a4 a5 a6 a7 a8 a9 s10 s11 s12 a13 a14 a15 a16 a17 a18 a19 a20 a21 s22 p3.toInt64 1 999) (va_cwS 3 hts gX5_grow_X5_in rfl rfl rfl (by decide +kernel) ⟨Nat.le_of_ble_eq_true rfl, Nat.le_of_ble_eq_true rfl⟩) rfl hl.1 rfl (Nat.le_of_ble_eq_true rfl) dX5_grow_25 ⟨Nat.le_of_ble_eq_true rfl, Nat.le_of_ble_eq_true rfl⟩ (fun r w H locs hp hw => ?_)
      obtain ⟨rfl, rfl⟩ := hp
      refine lv_if_eq (tgt := 44) hx hb dX5_grow_28 (by decide) (fun c_28 => ?_) (fun c_28 => ?_)
      · refine lv_bipush (v := (-102)) hx hb dX5_grow_44 (by decide) ?_
        have e9 : f5_grow s0 s1 a2 a3 a4 a5 a6 a7 s10 s12 a13 a14 a16 a17 a18 a19 a20 a21 (nI x) p2 p3 = ((-102), a6, s10, a14, a18, a19, a20, a21) := by unfold f5_grow; simp only [nI_clamp (show x < 2 ^ 31 by omega)]; rw [if_pos c_5, if_pos c_13, if_pos c_28]
        exact r_iret hx hb hr hlocks hw ⟨by rw [e9] <;> rfl, by rw [e9] <;> rfl⟩ dX5_grow_46
      · refine lv_aload_n hx hb dX5_grow_31 rfl (lv_at hl 0 rfl) ?_
        refine lv_iload_n hx hb dX5_grow_32 rfl (lv_at hl 1 rfl) ?_
        refine r_callVi 0 rfl rfl (rest := []) ⟨hx, hb, hml, hown, hts⟩ hw [.int (nI (x))] (k5_sizeNow l D ty a cI ht0 s0 s1 a2 a3 a4 a5 a6 a7 a8 a9 s10 s11 s12 a13 a14 a15 a16 a17 a18 a19 a20 a21 s22 x (by first | assumption | omega)) (cwV 1 hts gX5_grow_X5_sizeNow rfl rfl rfl (by decide +kernel) ⟨Nat.le_of_ble_eq_true rfl, Nat.le_of_ble_eq_true rfl⟩) rfl hl.1 rfl (Nat.le_of_ble_eq_true rfl) dX5_grow_33 ⟨Nat.le_of_ble_eq_true rfl, Nat.le_of_ble_eq_true rfl⟩ (fun r w H locs hp hw => ?_)
        obtain ⟨rfl, rfl⟩ := hp
        refine lv_iload_n hx hb dX5_grow_36 rfl (lv_at hl 3 rfl) ?_
        refine lv_iadd hx hb dX5_grow_37 ?_
        refine lv_sipush (v := 1000) hx hb dX5_grow_38 (by decide) ?_
        refine lv_icmp_le (tgt := 47) hx hb dX5_grow_41 (by decide) (fun c_41 => ?_) (fun c_41 => ?_)
        · refine lv_aload_n hx hb dX5_grow_47 rfl (lv_at hl 0 rfl) ?_
          refine r_get (C := RX5) (T := TX5) (v := .ref (a 17)) hx hb hts i5 hown hw 0 rfl rfl 17 (by decide) lk46 rfl dX5_grow_48 ?_
          refine lv_iload_n hx hb dX5_grow_51 rfl (lv_at hl 1 rfl) ?_
          refine r_ialdN (v := a17 x) hx hb hw 13 rfl ht0 x (by omega) (by decide) dX5_grow_52 rfl ?_
          refine lv_if_eq (tgt := 59) hx hb dX5_grow_53 (by decide) (fun c_53 => ?_) (fun c_53 => ?_)
          · refine lv_aload_n hx hb dX5_grow_59 rfl (lv_at hl 0 rfl) ?_
            refine lv_aload_n hx hb dX5_grow_60 rfl (lv_at hl 0 rfl) ?_
            refine r_get (C := RX5) (T := TX5) (v := .ref (a 13)) hx hb hts i5 hown hw 0 rfl rfl 13 (by decide) lk34 rfl dX5_grow_61 ?_
            refine lv_iload_n hx hb dX5_grow_64 rfl (lv_at hl 1 rfl) ?_
            refine r_ialdN (v := a13 x) hx hb hw 9 rfl ht0 x (by omega) (by decide) dX5_grow_65 rfl ?_
            refine lv_iload_n hx hb dX5_grow_66 rfl (lv_at hl 3 rfl) ?_
            refine r_callVi 0 rfl rfl (rest := []) ⟨hx, hb, hml, hown, hts⟩ hw [.int (a13 x), .int (p3)] (k5_isCapped l D ty a cI ht0 s0 s1 a2 a3 a4 a5 a6 a7 a8 a9 s10 s11 s12 a13 a14 a15 a16 a17 a18 a19 a20 a21 s22 (a13 x) p3 hob hob2 (how x hxx)) (cwV 2 hts gX5_grow_X5_isCapped rfl rfl rfl (by decide +kernel) ⟨Nat.le_of_ble_eq_true rfl, Nat.le_of_ble_eq_true rfl⟩) rfl hl.1 rfl (Nat.le_of_ble_eq_true rfl) dX5_grow_67 ⟨Nat.le_of_ble_eq_true rfl, Nat.le_of_ble_eq_true rfl⟩ (fun r w H locs hp hw => ?_)
            obtain ⟨rfl, rfl⟩ := hp
            refine lv_if_eq (tgt := 76) hx hb dX5_grow_70 (by decide) (fun c_70 => ?_) (fun c_70 => ?_)
            · refine lv_aload_n hx hb dX5_grow_76 rfl (lv_at hl 0 rfl) ?_
              refine lv_aload_n hx hb dX5_grow_77 rfl (lv_at hl 0 rfl) ?_
              refine r_get (C := RX5) (T := TX5) (v := .ref (a 14)) hx hb hts i5 hown hw 0 rfl rfl 14 (by decide) lk37 rfl dX5_grow_78 ?_
              refine lv_iload_n hx hb dX5_grow_81 rfl (lv_at hl 1 rfl) ?_
              refine r_ialdN (v := a14 x) hx hb hw 10 rfl ht0 x (by omega) (by decide) dX5_grow_82 rfl ?_
              refine lv_iload_n hx hb dX5_grow_83 rfl (lv_at hl 3 rfl) ?_
              refine lv_iadd hx hb dX5_grow_84 ?_
              refine r_callVi 0 rfl rfl (rest := []) ⟨hx, hb, hml, hown, hts⟩ hw [.int ((a14 x) + p3)] (k5_charged l D ty a cI ht0 s0 s1 a2 a3 a4 a5 a6 a7 a8 a9 s10 s11 s12 a13 a14 a15 a16 a17 a18 a19 a20 a21 s22 ((a14 x) + p3) (by first | assumption | omega) (by first | assumption | omega)) (cwV 1 hts gX5_grow_X5_charged rfl rfl rfl (by decide +kernel) ⟨Nat.le_of_ble_eq_true rfl, Nat.le_of_ble_eq_true rfl⟩) rfl hl.1 rfl (Nat.le_of_ble_eq_true rfl) dX5_grow_85 ⟨Nat.le_of_ble_eq_true rfl, Nat.le_of_ble_eq_true rfl⟩ (fun r w H locs hp hw => ?_)
              obtain ⟨rfl, rfl⟩ := hp
              refine lv_aload_n hx hb dX5_grow_88 rfl (lv_at hl 0 rfl) ?_
              refine lv_aload_n hx hb dX5_grow_89 rfl (lv_at hl 0 rfl) ?_
              refine r_get (C := RX5) (T := TX5) (v := .ref (a 14)) hx hb hts i5 hown hw 0 rfl rfl 14 (by decide) lk37 rfl dX5_grow_90 ?_
              refine lv_iload_n hx hb dX5_grow_93 rfl (lv_at hl 1 rfl) ?_
              refine r_ialdN (v := a14 x) hx hb hw 10 rfl ht0 x (by omega) (by decide) dX5_grow_94 rfl ?_
              refine r_callVi 0 rfl rfl (rest := [.int (f5_charged s0 s1 a2 a5 ((a14 x) + p3))]) ⟨hx, hb, hml, hown, hts⟩ hw [.int (a14 x)] (k5_charged l D ty a cI ht0 s0 s1 a2 a3 a4 a5 a6 a7 a8 a9 s10 s11 s12 a13 a14 a15 a16 a17 a18 a19 a20 a21 s22 (a14 x) (by first | assumption | omega) (by first | assumption | omega)) (cwV 1 hts gX5_grow_X5_charged rfl rfl rfl (by decide +kernel) ⟨Nat.le_of_ble_eq_true rfl, Nat.le_of_ble_eq_true rfl⟩) rfl hl.1 rfl (Nat.le_of_ble_eq_true rfl) dX5_grow_95 ⟨Nat.le_of_ble_eq_true rfl, Nat.le_of_ble_eq_true rfl⟩ (fun r w H locs hp hw => ?_)
              obtain ⟨rfl, rfl⟩ := hp
              refine lv_isub hx hb dX5_grow_98 ?_
              refine lv_aload_n hx hb dX5_grow_99 rfl (lv_at hl 0 rfl) ?_
              refine r_callVi 0 rfl rfl (rest := [.int ((f5_charged s0 s1 a2 a5 ((a14 x) + p3)) - (f5_charged s0 s1 a2 a5 (a14 x)))]) ⟨hx, hb, hml, hown, hts⟩ hw [] (k5_rent l D ty a cI ht0 s0 s1 a2 a3 a4 a5 a6 a7 a8 a9 s10 s11 s12 a13 a14 a15 a16 a17 a18 a19 a20 a21 s22 (by first | assumption | omega) (by first | assumption | omega)) (cwV 0 hts gX5_grow_X5_rent rfl rfl rfl (by decide +kernel) ⟨Nat.le_of_ble_eq_true rfl, Nat.le_of_ble_eq_true rfl⟩) rfl hl.1 rfl (Nat.le_of_ble_eq_true rfl) dX5_grow_100 ⟨Nat.le_of_ble_eq_true rfl, Nat.le_of_ble_eq_true rfl⟩ (fun r w H locs hp hw => ?_)
              obtain ⟨rfl, rfl⟩ := hp
              refine lv_imul hx hb dX5_grow_103 ?_
              refine lv_aload_n hx hb dX5_grow_104 rfl (lv_at hl 0 rfl) ?_
              refine r_get (C := RX5) (T := TX5) (v := .ref (a 16)) hx hb hts i5 hown hw 0 rfl rfl 16 (by decide) lk43 rfl dX5_grow_105 ?_
              refine lv_iload_n hx hb dX5_grow_108 rfl (lv_at hl 1 rfl) ?_
              refine r_ialdN (v := a16 x) hx hb hw 12 rfl ht0 x (by omega) (by decide) dX5_grow_109 rfl ?_
              refine lv_aload_n hx hb dX5_grow_110 rfl (lv_at hl 0 rfl) ?_
              refine r_get (C := RX5) (T := TX5) (v := .int (s0)) hx hb hts i5 hown hw 0 rfl rfl 0 (by decide) lk64 rfl dX5_grow_111 ?_
              refine lv_isub hx hb dX5_grow_114 ?_
              refine lv_imul hx hb dX5_grow_115 ?_
              refine lv_istore (lv' := [(4, .int ((((f5_charged s0 s1 a2 a5 ((a14 x) + p3)) - (f5_charged s0 s1 a2 a5 (a14 x))) * (f5_rent s0 s1 a2 a4)) * ((a16 x) - s0))), (0, .ref (a 0)), (1, .int (nI (x))), (2, .int (p2)), (3, .int (p3))]) hx hb dX5_grow_116 hl (by decide) rfl (fun ls hl => ?_)
              refine lv_iload_n hx hb dX5_grow_118 rfl (lv_at hl 4 rfl) ?_
              refine lv_aload_n hx hb dX5_grow_119 rfl (lv_at hl 1 rfl) ?_
              refine r_callVi 0 rfl rfl (rest := [.int (p3)]) ⟨hx, hb, hml, hown, hts⟩ hw [] (k5_price l D ty a cI ht0 s0 s1 a2 a3 a4 a5 a6 a7 a8 a9 s10 s11 s12 a13 a14 a15 a16 a17 a18 a19 a20 a21 s22 (by first | assumption | omega) (by first | assumption | omega)) (cwV 0 hts gX5_grow_X5_price rfl rfl rfl (by decide +kernel) ⟨Nat.le_of_ble_eq_true rfl, Nat.le_of_ble_eq_true rfl⟩) rfl hl.1 rfl (Nat.le_of_ble_eq_true rfl) dX5_grow_120 ⟨Nat.le_of_ble_eq_true rfl, Nat.le_of_ble_eq_true rfl⟩ (fun r w H locs hp hw => ?_)
              obtain ⟨rfl, rfl⟩ := hp
              refine lv_imul hx hb dX5_grow_123 ?_
              refine lv_iload hx hb dX5_grow_124 (lv_at hl 0 rfl) ?_
              refine lv_iadd hx hb dX5_grow_126 ?_
              refine lv_istore (lv' := [(5, .int ((p3 * (f5_price s0 s1 a2 a3)) + ((((f5_charged s0 s1 a2 a5 ((a14 x) + p3)) - (f5_charged s0 s1 a2 a5 (a14 x))) * (f5_rent s0 s1 a2 a4)) * ((a16 x) - s0)))), (4, .int ((((f5_charged s0 s1 a2 a5 ((a14 x) + p3)) - (f5_charged s0 s1 a2 a5 (a14 x))) * (f5_rent s0 s1 a2 a4)) * ((a16 x) - s0))), (0, .ref (a 0)), (1, .int (nI (x))), (2, .int (p2)), (3, .int (p3))]) hx hb dX5_grow_127 hl (by decide) rfl (fun ls hl => ?_)
              refine lv_aload_n hx hb dX5_grow_129 rfl (lv_at hl 2 rfl) ?_
              refine r_get (C := RX5) (T := TX5) (v := .ref (a 6)) hx hb hts i5 hown hw 0 rfl rfl 6 (by decide) lk22 rfl dX5_grow_130 ?_
              refine lv_iload_n hx hb dX5_grow_133 rfl (lv_at hl 4 rfl) ?_
              refine r_iald (v := a6 (tn (p2))) hx hb hw 5 rfl ht0 (by first | assumption | exact vp_in_nI (by omega) (by omega)) dX5_grow_134 rfl ?_
              refine lv_iload hx hb dX5_grow_135 (lv_at hl 0 rfl) ?_
              refine lv_icmp_ge (tgt := 143) hx hb dX5_grow_137 (by decide) (fun c_137 => ?_) (fun c_137 => ?_)
              · refine lv_aload_n hx hb dX5_grow_143 rfl (lv_at hl 2 rfl) ?_
                refine lv_iload_n hx hb dX5_grow_144 rfl (lv_at hl 3 rfl) ?_
                refine lv_iload_n hx hb dX5_grow_145 rfl (lv_at hl 4 rfl) ?_
                refine r_callVi 0 rfl rfl (rest := []) ⟨hx, hb, hml, hown, hts⟩ hw [.int (nI (x)), .int (p2)] (k5_needsLayer l D ty a cI ht0 s0 s1 a2 a3 a4 a5 a6 a7 a8 a9 s10 s11 s12 a13 a14 a15 a16 a17 a18 a19 a20 a21 s22 x p2 (by first | assumption | omega) (by first | assumption | omega) (by first | assumption | omega) (by first | assumption | omega) (by first | assumption | omega)) (cwV 2 hts gX5_grow_X5_needsLayer rfl rfl rfl (by decide +kernel) ⟨Nat.le_of_ble_eq_true rfl, Nat.le_of_ble_eq_true rfl⟩) rfl hl.1 rfl (Nat.le_of_ble_eq_true rfl) dX5_grow_146 ⟨Nat.le_of_ble_eq_true rfl, Nat.le_of_ble_eq_true rfl⟩ (fun r w H locs hp hw => ?_)
                obtain ⟨rfl, rfl⟩ := hp
                refine lv_if_eq (tgt := 166) hx hb dX5_grow_149 (by decide) (fun c_149 => ?_) (fun c_149 => ?_)
                · refine lv_aload_n hx hb dX5_grow_166 rfl (lv_at hl 2 rfl) ?_
                  refine lv_iload_n hx hb dX5_grow_167 rfl (lv_at hl 3 rfl) ?_
                  refine lv_iload_n hx hb dX5_grow_168 rfl (lv_at hl 4 rfl) ?_
                  refine lv_iload_n hx hb dX5_grow_169 rfl (lv_at hl 5 rfl) ?_
                  refine r_callVv 0 rfl rfl (rest := []) ⟨hx, hb, hml, hown, hts⟩ hw [.int (nI (x)), .int (p2), .int (p3)] (k5_comes l D ty a cI ht0 s0 s1 a2 a3 a4 a5 a6 a7 a8 a9 s10 s11 s12 a13 a14 a15 a16 a17 a18 a19 a20 a21 s22 x p2 p3 (by omega) hl0 hl1 (by assumption) (by assumption) (by first | exact fun h => absurd c_149 h | exact fun _ => Nat.lt_of_le_of_ne hl1 (fun e => c_160 (by rw [e]; rfl)))) (cwV 3 hts gX5_grow_X5_comes rfl rfl rfl (by decide +kernel) ⟨Nat.le_of_ble_eq_true rfl, Nat.le_of_ble_eq_true rfl⟩) rfl hl.1 rfl (Nat.le_of_ble_eq_true rfl) dX5_grow_170 ⟨Nat.le_of_ble_eq_true rfl, Nat.le_of_ble_eq_true rfl⟩ (fun w H locs hp hw => ?_)
                  subst hp
                  refine lv_aload_n hx hb dX5_grow_173 rfl (lv_at hl 2 rfl) ?_
                  refine r_get (C := RX5) (T := TX5) (v := .ref (a 14)) hx hb hts i5 hown hw 0 rfl rfl 14 (by decide) lk37 rfl dX5_grow_174 ?_
                  refine lv_iload_n hx hb dX5_grow_177 rfl (lv_at hl 3 rfl) ?_
                  refine lv_dup2_11 hx hb dX5_grow_178 rfl rfl ?_
                  refine r_ialdN (v := a14 x) hx hb hw 10 rfl ht0 x (by omega) (by decide) dX5_grow_179 rfl ?_
                  refine lv_iload_n hx hb dX5_grow_180 rfl (lv_at hl 5 rfl) ?_
                  refine lv_iadd hx hb dX5_grow_181 ?_
                  refine r_iastN (ws' := MW a cI s0 s1 a2 a3 a4 a5 a6 a7 a8 a9 s10 s11 s12 a13 (upd a14 x ((a14 x) + p3)) a15 a16 a17 ((f5_comes s0 s1 a2 a3 a18 a19 a20 a21 x p2 p3).1) ((f5_comes s0 s1 a2 a3 a18 a19 a20 a21 x p2 p3).2.1) ((f5_comes s0 s1 a2 a3 a18 a19 a20 a21 x p2 p3).2.2.1) ((f5_comes s0 s1 a2 a3 a18 a19 a20 a21 x p2 p3).2.2.2) s22) hx hb hw 10 rfl ht0 x (by omega) (by decide) (MW_u14 _) dX5_grow_182 (fun H locs hw => ?_)
                  refine lv_aload_n hx hb dX5_grow_183 rfl (lv_at hl 2 rfl) ?_
                  refine r_get (C := RX5) (T := TX5) (v := .ref (a 6)) hx hb hts i5 hown hw 0 rfl rfl 6 (by decide) lk22 rfl dX5_grow_184 ?_
                  refine lv_iload_n hx hb dX5_grow_187 rfl (lv_at hl 4 rfl) ?_
                  refine lv_dup2_11 hx hb dX5_grow_188 rfl rfl ?_
                  refine r_iald (v := a6 (tn (p2))) hx hb hw 5 rfl ht0 (by first | assumption | exact vp_in_nI (by omega) (by omega)) dX5_grow_189 rfl ?_
                  refine lv_iload hx hb dX5_grow_190 (lv_at hl 0 rfl) ?_
                  refine lv_isub hx hb dX5_grow_192 ?_
                  refine r_iast (ws' := MW a cI s0 s1 a2 a3 a4 a5 (upd a6 (tn (p2)) ((a6 (tn (p2))) - ((p3 * (f5_price s0 s1 a2 a3)) + ((((f5_charged s0 s1 a2 a5 ((a14 x) + p3)) - (f5_charged s0 s1 a2 a5 (a14 x))) * (f5_rent s0 s1 a2 a4)) * ((a16 x) - s0))))) a7 a8 a9 s10 s11 s12 a13 (upd a14 x ((a14 x) + p3)) a15 a16 a17 ((f5_comes s0 s1 a2 a3 a18 a19 a20 a21 x p2 p3).1) ((f5_comes s0 s1 a2 a3 a18 a19 a20 a21 x p2 p3).2.1) ((f5_comes s0 s1 a2 a3 a18 a19 a20 a21 x p2 p3).2.2.1) ((f5_comes s0 s1 a2 a3 a18 a19 a20 a21 x p2 p3).2.2.2) s22) hx hb hw 5 rfl ht0 (by first | assumption | exact vp_in_nI (by omega) (by omega)) (MW_u6 _) dX5_grow_193 (fun H locs hw => ?_)
                  refine lv_aload_n hx hb dX5_grow_194 rfl (lv_at hl 2 rfl) ?_
                  refine lv_dup hx hb dX5_grow_195 rfl ?_
                  refine r_get (C := RX5) (T := TX5) (v := .int (s10)) hx hb hts i5 hown hw 0 rfl rfl 10 (by decide) lk72 rfl dX5_grow_196 ?_
                  refine lv_iload hx hb dX5_grow_199 (lv_at hl 1 rfl) ?_
                  refine lv_iadd hx hb dX5_grow_201 ?_
                  refine r_put (C := RX5) (T := TX5) (ws' := MW a cI s0 s1 a2 a3 a4 a5 (upd a6 (tn (p2)) ((a6 (tn (p2))) - ((p3 * (f5_price s0 s1 a2 a3)) + ((((f5_charged s0 s1 a2 a5 ((a14 x) + p3)) - (f5_charged s0 s1 a2 a5 (a14 x))) * (f5_rent s0 s1 a2 a4)) * ((a16 x) - s0))))) a7 a8 a9 (s10 + ((((f5_charged s0 s1 a2 a5 ((a14 x) + p3)) - (f5_charged s0 s1 a2 a5 (a14 x))) * (f5_rent s0 s1 a2 a4)) * ((a16 x) - s0))) s11 s12 a13 (upd a14 x ((a14 x) + p3)) a15 a16 a17 ((f5_comes s0 s1 a2 a3 a18 a19 a20 a21 x p2 p3).1) ((f5_comes s0 s1 a2 a3 a18 a19 a20 a21 x p2 p3).2.1) ((f5_comes s0 s1 a2 a3 a18 a19 a20 a21 x p2 p3).2.2.1) ((f5_comes s0 s1 a2 a3 a18 a19 a20 a21 x p2 p3).2.2.2) s22) hx hb hts i5 tyX5 tyX5_ok nmX5 hown hw 0 rfl rfl 10 (by decide) lk72 rfl (by decide +kernel) (Nat.le_of_ble_eq_true rfl) (MW_s10 _) dX5_grow_202 (fun H locs hw => ?_)
                  refine lv_iload hx hb dX5_grow_205 (lv_at hl 0 rfl) ?_
                  have e9 : f5_grow s0 s1 a2 a3 a4 a5 a6 a7 s10 s12 a13 a14 a16 a17 a18 a19 a20 a21 (nI x) p2 p3 = ((p3 * (f5_price s0 s1 a2 a3)) + ((((f5_charged s0 s1 a2 a5 ((a14 x) + p3)) - (f5_charged s0 s1 a2 a5 (a14 x))) * (f5_rent s0 s1 a2 a4)) * ((a16 x) - s0)), upd a6 (tn (p2)) ((a6 (tn (p2))) - ((p3 * (f5_price s0 s1 a2 a3)) + ((((f5_charged s0 s1 a2 a5 ((a14 x) + p3)) - (f5_charged s0 s1 a2 a5 (a14 x))) * (f5_rent s0 s1 a2 a4)) * ((a16 x) - s0)))), s10 + ((((f5_charged s0 s1 a2 a5 ((a14 x) + p3)) - (f5_charged s0 s1 a2 a5 (a14 x))) * (f5_rent s0 s1 a2 a4)) * ((a16 x) - s0)), upd a14 x ((a14 x) + p3), (f5_comes s0 s1 a2 a3 a18 a19 a20 a21 x p2 p3).1, (f5_comes s0 s1 a2 a3 a18 a19 a20 a21 x p2 p3).2.1, (f5_comes s0 s1 a2 a3 a18 a19 a20 a21 x p2 p3).2.2.1, (f5_comes s0 s1 a2 a3 a18 a19 a20 a21 x p2 p3).2.2.2) := by unfold f5_grow; simp only [nI_clamp (show x < 2 ^ 31 by omega)]; rw [if_pos c_5, if_pos c_13, if_neg c_28, if_pos c_41, if_pos c_53, if_pos c_70, if_pos c_137, if_pos c_149]
                  exact r_iret hx hb hr hlocks hw ⟨by rw [e9] <;> rfl, by rw [e9] <;> rfl⟩ dX5_grow_207
                · refine lv_aload_n hx hb dX5_grow_152 rfl (lv_at hl 2 rfl) ?_
                  refine r_get (C := RX5) (T := TX5) (v := .ref (a 18)) hx hb hts i5 hown hw 0 rfl rfl 18 (by decide) lk49 rfl dX5_grow_153 ?_
                  refine lv_iload_n hx hb dX5_grow_156 rfl (lv_at hl 3 rfl) ?_
                  refine r_ialdN (v := a18 x) hx hb hw 14 rfl ht0 x (by omega) (by decide) dX5_grow_157 rfl ?_
                  refine r_top (nI (tn (a18 x))) hl0 ?_
                  refine lv_bipush (v := 16) hx hb dX5_grow_158 (by decide) ?_
                  refine lv_icmp_ne (tgt := 166) hx hb dX5_grow_160 (by decide) (fun c_160 => ?_) (fun c_160 => ?_)
                  · refine lv_aload_n hx hb dX5_grow_166 rfl (lv_at hl 2 rfl) ?_
                    refine lv_iload_n hx hb dX5_grow_167 rfl (lv_at hl 3 rfl) ?_
                    refine lv_iload_n hx hb dX5_grow_168 rfl (lv_at hl 4 rfl) ?_
                    refine lv_iload_n hx hb dX5_grow_169 rfl (lv_at hl 5 rfl) ?_
                    refine r_callVv 0 rfl rfl (rest := []) ⟨hx, hb, hml, hown, hts⟩ hw [.int (nI (x)), .int (p2), .int (p3)] (k5_comes l D ty a cI ht0 s0 s1 a2 a3 a4 a5 a6 a7 a8 a9 s10 s11 s12 a13 a14 a15 a16 a17 a18 a19 a20 a21 s22 x p2 p3 (by omega) hl0 hl1 (by assumption) (by assumption) (by first | exact fun h => absurd c_149 h | exact fun _ => Nat.lt_of_le_of_ne hl1 (fun e => c_160 (by rw [e]; rfl)))) (cwV 3 hts gX5_grow_X5_comes rfl rfl rfl (by decide +kernel) ⟨Nat.le_of_ble_eq_true rfl, Nat.le_of_ble_eq_true rfl⟩) rfl hl.1 rfl (Nat.le_of_ble_eq_true rfl) dX5_grow_170 ⟨Nat.le_of_ble_eq_true rfl, Nat.le_of_ble_eq_true rfl⟩ (fun w H locs hp hw => ?_)
                    subst hp
                    refine lv_aload_n hx hb dX5_grow_173 rfl (lv_at hl 2 rfl) ?_
                    refine r_get (C := RX5) (T := TX5) (v := .ref (a 14)) hx hb hts i5 hown hw 0 rfl rfl 14 (by decide) lk37 rfl dX5_grow_174 ?_
                    refine lv_iload_n hx hb dX5_grow_177 rfl (lv_at hl 3 rfl) ?_
                    refine lv_dup2_11 hx hb dX5_grow_178 rfl rfl ?_
                    refine r_ialdN (v := a14 x) hx hb hw 10 rfl ht0 x (by omega) (by decide) dX5_grow_179 rfl ?_
                    refine lv_iload_n hx hb dX5_grow_180 rfl (lv_at hl 5 rfl) ?_
                    refine lv_iadd hx hb dX5_grow_181 ?_
                    refine r_iastN (ws' := MW a cI s0 s1 a2 a3 a4 a5 a6 a7 a8 a9 s10 s11 s12 a13 (upd a14 x ((a14 x) + p3)) a15 a16 a17 ((f5_comes s0 s1 a2 a3 a18 a19 a20 a21 x p2 p3).1) ((f5_comes s0 s1 a2 a3 a18 a19 a20 a21 x p2 p3).2.1) ((f5_comes s0 s1 a2 a3 a18 a19 a20 a21 x p2 p3).2.2.1) ((f5_comes s0 s1 a2 a3 a18 a19 a20 a21 x p2 p3).2.2.2) s22) hx hb hw 10 rfl ht0 x (by omega) (by decide) (MW_u14 _) dX5_grow_182 (fun H locs hw => ?_)
                    refine lv_aload_n hx hb dX5_grow_183 rfl (lv_at hl 2 rfl) ?_
                    refine r_get (C := RX5) (T := TX5) (v := .ref (a 6)) hx hb hts i5 hown hw 0 rfl rfl 6 (by decide) lk22 rfl dX5_grow_184 ?_
                    refine lv_iload_n hx hb dX5_grow_187 rfl (lv_at hl 4 rfl) ?_
                    refine lv_dup2_11 hx hb dX5_grow_188 rfl rfl ?_
                    refine r_iald (v := a6 (tn (p2))) hx hb hw 5 rfl ht0 (by first | assumption | exact vp_in_nI (by omega) (by omega)) dX5_grow_189 rfl ?_
                    refine lv_iload hx hb dX5_grow_190 (lv_at hl 0 rfl) ?_
                    refine lv_isub hx hb dX5_grow_192 ?_
                    refine r_iast (ws' := MW a cI s0 s1 a2 a3 a4 a5 (upd a6 (tn (p2)) ((a6 (tn (p2))) - ((p3 * (f5_price s0 s1 a2 a3)) + ((((f5_charged s0 s1 a2 a5 ((a14 x) + p3)) - (f5_charged s0 s1 a2 a5 (a14 x))) * (f5_rent s0 s1 a2 a4)) * ((a16 x) - s0))))) a7 a8 a9 s10 s11 s12 a13 (upd a14 x ((a14 x) + p3)) a15 a16 a17 ((f5_comes s0 s1 a2 a3 a18 a19 a20 a21 x p2 p3).1) ((f5_comes s0 s1 a2 a3 a18 a19 a20 a21 x p2 p3).2.1) ((f5_comes s0 s1 a2 a3 a18 a19 a20 a21 x p2 p3).2.2.1) ((f5_comes s0 s1 a2 a3 a18 a19 a20 a21 x p2 p3).2.2.2) s22) hx hb hw 5 rfl ht0 (by first | assumption | exact vp_in_nI (by omega) (by omega)) (MW_u6 _) dX5_grow_193 (fun H locs hw => ?_)
                    refine lv_aload_n hx hb dX5_grow_194 rfl (lv_at hl 2 rfl) ?_
                    refine lv_dup hx hb dX5_grow_195 rfl ?_
                    refine r_get (C := RX5) (T := TX5) (v := .int (s10)) hx hb hts i5 hown hw 0 rfl rfl 10 (by decide) lk72 rfl dX5_grow_196 ?_
                    refine lv_iload hx hb dX5_grow_199 (lv_at hl 1 rfl) ?_
                    refine lv_iadd hx hb dX5_grow_201 ?_
                    refine r_put (C := RX5) (T := TX5) (ws' := MW a cI s0 s1 a2 a3 a4 a5 (upd a6 (tn (p2)) ((a6 (tn (p2))) - ((p3 * (f5_price s0 s1 a2 a3)) + ((((f5_charged s0 s1 a2 a5 ((a14 x) + p3)) - (f5_charged s0 s1 a2 a5 (a14 x))) * (f5_rent s0 s1 a2 a4)) * ((a16 x) - s0))))) a7 a8 a9 (s10 + ((((f5_charged s0 s1 a2 a5 ((a14 x) + p3)) - (f5_charged s0 s1 a2 a5 (a14 x))) * (f5_rent s0 s1 a2 a4)) * ((a16 x) - s0))) s11 s12 a13 (upd a14 x ((a14 x) + p3)) a15 a16 a17 ((f5_comes s0 s1 a2 a3 a18 a19 a20 a21 x p2 p3).1) ((f5_comes s0 s1 a2 a3 a18 a19 a20 a21 x p2 p3).2.1) ((f5_comes s0 s1 a2 a3 a18 a19 a20 a21 x p2 p3).2.2.1) ((f5_comes s0 s1 a2 a3 a18 a19 a20 a21 x p2 p3).2.2.2) s22) hx hb hts i5 tyX5 tyX5_ok nmX5 hown hw 0 rfl rfl 10 (by decide) lk72 rfl (by decide +kernel) (Nat.le_of_ble_eq_true rfl) (MW_s10 _) dX5_grow_202 (fun H locs hw => ?_)
                    refine lv_iload hx hb dX5_grow_205 (lv_at hl 0 rfl) ?_
                    have e9 : f5_grow s0 s1 a2 a3 a4 a5 a6 a7 s10 s12 a13 a14 a16 a17 a18 a19 a20 a21 (nI x) p2 p3 = ((p3 * (f5_price s0 s1 a2 a3)) + ((((f5_charged s0 s1 a2 a5 ((a14 x) + p3)) - (f5_charged s0 s1 a2 a5 (a14 x))) * (f5_rent s0 s1 a2 a4)) * ((a16 x) - s0)), upd a6 (tn (p2)) ((a6 (tn (p2))) - ((p3 * (f5_price s0 s1 a2 a3)) + ((((f5_charged s0 s1 a2 a5 ((a14 x) + p3)) - (f5_charged s0 s1 a2 a5 (a14 x))) * (f5_rent s0 s1 a2 a4)) * ((a16 x) - s0)))), s10 + ((((f5_charged s0 s1 a2 a5 ((a14 x) + p3)) - (f5_charged s0 s1 a2 a5 (a14 x))) * (f5_rent s0 s1 a2 a4)) * ((a16 x) - s0)), upd a14 x ((a14 x) + p3), (f5_comes s0 s1 a2 a3 a18 a19 a20 a21 x p2 p3).1, (f5_comes s0 s1 a2 a3 a18 a19 a20 a21 x p2 p3).2.1, (f5_comes s0 s1 a2 a3 a18 a19 a20 a21 x p2 p3).2.2.1, (f5_comes s0 s1 a2 a3 a18 a19 a20 a21 x p2 p3).2.2.2) := by unfold f5_grow; simp only [nI_clamp (show x < 2 ^ 31 by omega)]; rw [if_pos c_5, if_pos c_13, if_neg c_28, if_pos c_41, if_pos c_53, if_pos c_70, if_pos c_137, if_neg c_149, if_neg c_160]
                    exact r_iret hx hb hr hlocks hw ⟨by rw [e9] <;> rfl, by rw [e9] <;> rfl⟩ dX5_grow_207
                  · refine lv_bipush (v := (-107)) hx hb dX5_grow_163 (by decide) ?_
                    have e9 : f5_grow s0 s1 a2 a3 a4 a5 a6 a7 s10 s12 a13 a14 a16 a17 a18 a19 a20 a21 (nI x) p2 p3 = ((-107), a6, s10, a14, a18, a19, a20, a21) := by unfold f5_grow; simp only [nI_clamp (show x < 2 ^ 31 by omega)]; rw [if_pos c_5, if_pos c_13, if_neg c_28, if_pos c_41, if_pos c_53, if_pos c_70, if_pos c_137, if_neg c_149, if_pos c_160]
                    exact r_iret hx hb hr hlocks hw ⟨by rw [e9] <;> rfl, by rw [e9] <;> rfl⟩ dX5_grow_165
              · refine lv_bipush (v := (-106)) hx hb dX5_grow_140 (by decide) ?_
                have e9 : f5_grow s0 s1 a2 a3 a4 a5 a6 a7 s10 s12 a13 a14 a16 a17 a18 a19 a20 a21 (nI x) p2 p3 = ((-106), a6, s10, a14, a18, a19, a20, a21) := by unfold f5_grow; simp only [nI_clamp (show x < 2 ^ 31 by omega)]; rw [if_pos c_5, if_pos c_13, if_neg c_28, if_pos c_41, if_pos c_53, if_pos c_70, if_neg c_137]
                exact r_iret hx hb hr hlocks hw ⟨by rw [e9] <;> rfl, by rw [e9] <;> rfl⟩ dX5_grow_142
            · refine lv_bipush (v := (-105)) hx hb dX5_grow_73 (by decide) ?_
              have e9 : f5_grow s0 s1 a2 a3 a4 a5 a6 a7 s10 s12 a13 a14 a16 a17 a18 a19 a20 a21 (nI x) p2 p3 = ((-105), a6, s10, a14, a18, a19, a20, a21) := by unfold f5_grow; simp only [nI_clamp (show x < 2 ^ 31 by omega)]; rw [if_pos c_5, if_pos c_13, if_neg c_28, if_pos c_41, if_pos c_53, if_neg c_70]
              exact r_iret hx hb hr hlocks hw ⟨by rw [e9] <;> rfl, by rw [e9] <;> rfl⟩ dX5_grow_75
          · refine lv_bipush (v := (-103)) hx hb dX5_grow_56 (by decide) ?_
            have e9 : f5_grow s0 s1 a2 a3 a4 a5 a6 a7 s10 s12 a13 a14 a16 a17 a18 a19 a20 a21 (nI x) p2 p3 = ((-103), a6, s10, a14, a18, a19, a20, a21) := by unfold f5_grow; simp only [nI_clamp (show x < 2 ^ 31 by omega)]; rw [if_pos c_5, if_pos c_13, if_neg c_28, if_pos c_41, if_neg c_53]
            exact r_iret hx hb hr hlocks hw ⟨by rw [e9] <;> rfl, by rw [e9] <;> rfl⟩ dX5_grow_58
        · refine lv_bipush (v := (-102)) hx hb dX5_grow_44 (by decide) ?_
          have e9 : f5_grow s0 s1 a2 a3 a4 a5 a6 a7 s10 s12 a13 a14 a16 a17 a18 a19 a20 a21 (nI x) p2 p3 = ((-102), a6, s10, a14, a18, a19, a20, a21) := by unfold f5_grow; simp only [nI_clamp (show x < 2 ^ 31 by omega)]; rw [if_pos c_5, if_pos c_13, if_neg c_28, if_neg c_41]
          exact r_iret hx hb hr hlocks hw ⟨by rw [e9] <;> rfl, by rw [e9] <;> rfl⟩ dX5_grow_46
    · refine lv_bipush (v := (-101)) hx hb dX5_grow_16 (by decide) ?_
      have e9 : f5_grow s0 s1 a2 a3 a4 a5 a6 a7 s10 s12 a13 a14 a16 a17 a18 a19 a20 a21 p1 p2 p3 = ((-101), a6, s10, a14, a18, a19, a20, a21) := by unfold f5_grow; rw [if_pos c_5, if_neg c_13]
      exact r_iret hx hb hr hlocks hw ⟨by rw [e9] <;> rfl, by rw [e9] <;> rfl⟩ dX5_grow_18
def f5_shrink (a6 : Nat → Int32) (s12 : Int32) (a14 : Nat → Int32) (a17 : Nat → Int32) (a18 : Nat → Int32) (a19 : Nat → Int32) (a20 : Nat → Int32) (a21 : Nat → Int32) (p1 : Int32) (p2 : Int32) : Int32 × (Nat → Int32) × (Nat → Int32) × (Nat → Int32) × (Nat → Int32) :=
  if (f5_noObject s12 p1) = 0 then (if (a17 (tn p1)) = 0 then (if (f5_in p2.toInt64 1 (((a14 (tn p1)) - 1).toInt64)) = 0 then ((-102), a6, a14, a18, a19)
      else ((f5_goes a6 a18 a19 a20 a21 (tn p1) p2).1, (f5_goes a6 a18 a19 a20 a21 (tn p1) p2).2.1, upd a14 (tn p1) ((a14 (tn p1)) - p2), (f5_goes a6 a18 a19 a20 a21 (tn p1) p2).2.2.1, (f5_goes a6 a18 a19 a20 a21 (tn p1) p2).2.2.2))
    else ((-103), a6, a14, a18, a19))
  else ((-101), a6, a14, a18, a19)
set_option maxHeartbeats 4000000 in
set_option maxRecDepth 100000 in
theorem k5_shrink (l : Launch) (D : va_G) (ty : List (ClassId × FieldType)) (a : Nat → Nat) (cI : ClassId) (ht0 : ty[0]? = some (cI, .int)) (s0 : Int32) (s1 : Int32) (a2 : Nat → Int32) (a3 : Nat → Int32) (a4 : Nat → Int32) (a5 : Nat → Int32) (a6 : Nat → Int32) (a7 : Nat → Int32) (a8 : Nat → Int32) (a9 : Nat → Int32) (s10 : Int32) (s11 : Int32) (s12 : Int32) (a13 : Nat → Int32) (a14 : Nat → Int32) (a15 : Nat → Int32) (a16 : Nat → Int32) (a17 : Nat → Int32) (a18 : Nat → Int32) (a19 : Nat → Int32) (a20 : Nat → Int32) (a21 : Nat → Int32) (s22 : Int32) (p1 : Int32) (p2 : Int32) (hob : s12 = nI (tn s12)) (hob2 : tn s12 ≤ 60) (hlk : ∀ x, x < tn s12 → a18 x = nI (tn (a18 x)) ∧ tn (a18 x) ≤ 16) (hsz : ∀ x, x < tn s12 → 1 ≤ (a14 x).toInt ∧ (a14 x).toInt ≤ 1000) (hlay : ∀ x, x < tn s12 → ¬ a17 x = 2 → (∀ i, i < tn (a18 x) → 0 < (a19 (16 * x + i)).toInt) ∧ sB a19 (16 * x) (tn (a18 x)) = (a14 x).toInt) : MetG l yX5_shrink wsX5_shrink { frames := 2, cells := 0, slots := 0, locals := 54 } D ty [.ref (a 0), .int (p1), .int (p2)] (MW a cI s0 s1 a2 a3 a4 a5 a6 a7 a8 a9 s10 s11 s12 a13 a14 a15 a16 a17 a18 a19 a20 a21 s22) (va_Qi (fun r w => r = (f5_shrink a6 s12 a14 a17 a18 a19 a20 a21 p1 p2).1 ∧ w = MW a cI s0 s1 a2 a3 a4 a5 ((f5_shrink a6 s12 a14 a17 a18 a19 a20 a21 p1 p2).2.1) a7 a8 a9 s10 s11 s12 a13 ((f5_shrink a6 s12 a14 a17 a18 a19 a20 a21 p1 p2).2.2.1) a15 a16 a17 ((f5_shrink a6 s12 a14 a17 a18 a19 a20 a21 p1 p2).2.2.2.1) ((f5_shrink a6 s12 a14 a17 a18 a19 a20 a21 p1 p2).2.2.2.2) a20 a21 s22)) 0 0 := by
  refine Met_start cX5_shrink 3 (some .int) (by decide) rfl (Nat.le_of_ble_eq_true rfl) ?_
  intro p e s m below meth c A ls hx hb hr hlocks hml hnm hts hown hw hl
  have hl : lv_has ls 3 [(0, .ref (a 0)), (1, .int (p1)), (2, .int (p2))] := hl
  have i5 : ∀ w ∈ wsX50, w ∈ wsX5_shrink := fun _ h => List.mem_cons_of_mem _ (List.mem_append_right _ h)
  have lk46 := hts (.fieldLink RX5 46 "RentSizesModel" "state" "[I") (by decide +kernel)
  have lk37 := hts (.fieldLink RX5 37 "RentSizesModel" "size" "[I") (by decide +kernel)
  refine lv_aload_n hx hb dX5_shrink_0 rfl (lv_at hl 0 rfl) ?_
  refine lv_iload_n hx hb dX5_shrink_1 rfl (lv_at hl 1 rfl) ?_
  refine r_callVi 0 rfl rfl (rest := []) ⟨hx, hb, hml, hown, hts⟩ hw [.int (p1)] (k5_noObject l D ty a cI ht0 s0 s1 a2 a3 a4 a5 a6 a7 a8 a9 s10 s11 s12 a13 a14 a15 a16 a17 a18 a19 a20 a21 s22 p1) (cwV 1 hts gX5_shrink_X5_noObject rfl rfl rfl (by decide +kernel) ⟨Nat.le_of_ble_eq_true rfl, Nat.le_of_ble_eq_true rfl⟩) rfl hl.1 rfl (Nat.le_of_ble_eq_true rfl) dX5_shrink_2 ⟨Nat.le_of_ble_eq_true rfl, Nat.le_of_ble_eq_true rfl⟩ (fun r w H locs hp hw => ?_)
  obtain ⟨rfl, rfl⟩ := hp
  refine lv_if_eq (tgt := 11) hx hb dX5_shrink_5 (by decide) (fun c_5 => ?_) (fun c_5 => ?_)
  · obtain ⟨x, hxx, rfl⟩ := (no_in c_5 hob hob2)
    have hl0 := (hlk x hxx).1
    have hl1 := (hlk x hxx).2
    have hx60 : x < 60 := by omega
    refine lv_aload_n hx hb dX5_shrink_11 rfl (lv_at hl 0 rfl) ?_
    refine r_get (C := RX5) (T := TX5) (v := .ref (a 17)) hx hb hts i5 hown hw 0 rfl rfl 17 (by decide) lk46 rfl dX5_shrink_12 ?_
    refine lv_iload_n hx hb dX5_shrink_15 rfl (lv_at hl 1 rfl) ?_
    refine r_ialdN (v := a17 x) hx hb hw 13 rfl ht0 x (by omega) (by decide) dX5_shrink_16 rfl ?_
    refine lv_if_eq (tgt := 23) hx hb dX5_shrink_17 (by decide) (fun c_17 => ?_) (fun c_17 => ?_)
    · refine lv_iload_n hx hb dX5_shrink_23 rfl (lv_at hl 2 rfl) ?_
      refine lv_i2l (v := p2.toInt64) hx hb dX5_shrink_24 rfl ?_
      refine lv_lconst (v := 1) hx hb dX5_shrink_25 (by decide) ?_
      refine lv_aload_n hx hb dX5_shrink_26 rfl (lv_at hl 0 rfl) ?_
      refine r_get (C := RX5) (T := TX5) (v := .ref (a 14)) hx hb hts i5 hown hw 0 rfl rfl 14 (by decide) lk37 rfl dX5_shrink_27 ?_
      refine lv_iload_n hx hb dX5_shrink_30 rfl (lv_at hl 1 rfl) ?_
      refine r_ialdN (v := a14 x) hx hb hw 10 rfl ht0 x (by omega) (by decide) dX5_shrink_31 rfl ?_
      refine lv_iconst (v := 1) hx hb dX5_shrink_32 (by decide) ?_
      refine lv_isub hx hb dX5_shrink_33 ?_
      refine lv_i2l (v := ((a14 x) - 1).toInt64) hx hb dX5_shrink_34 rfl ?_
      refine r_callSi (rest := []) ⟨hx, hb, hml, hown, hts⟩ hw [.long (p2.toInt64), .long (1), .long (((a14 x) - 1).toInt64)] (k5_in l D ty a cI ht0 s0 s1 a2 a3 a4 a5 a6 a7 a8 a9 s10 s11 s12 a13 a14 a15 a16 a17 a18 a19 a20 a21 s22 p2.toInt64 1 (((a14 x) - 1).toInt64)) (va_cwS 3 hts gX5_shrink_X5_in rfl rfl rfl (by decide +kernel) ⟨Nat.le_of_ble_eq_true rfl, Nat.le_of_ble_eq_true rfl⟩) rfl hl.1 rfl (Nat.le_of_ble_eq_true rfl) dX5_shrink_35 ⟨Nat.le_of_ble_eq_true rfl, Nat.le_of_ble_eq_true rfl⟩ (fun r w H locs hp hw => ?_)
      obtain ⟨rfl, rfl⟩ := hp
      refine lv_if_ne (tgt := 44) hx hb dX5_shrink_38 (by decide) (fun c_38 => ?_) (fun c_38 => ?_)
      · have hq := shr_le c_38 (hsz x hxx).1
        have hy := hlay x hxx (by rw [c_17]; decide)
        refine lv_aload_n hx hb dX5_shrink_44 rfl (lv_at hl 0 rfl) ?_
        refine r_get (C := RX5) (T := TX5) (v := .ref (a 14)) hx hb hts i5 hown hw 0 rfl rfl 14 (by decide) lk37 rfl dX5_shrink_45 ?_
        refine lv_iload_n hx hb dX5_shrink_48 rfl (lv_at hl 1 rfl) ?_
        refine lv_dup2_11 hx hb dX5_shrink_49 rfl rfl ?_
        refine r_ialdN (v := a14 x) hx hb hw 10 rfl ht0 x (by omega) (by decide) dX5_shrink_50 rfl ?_
        refine lv_iload_n hx hb dX5_shrink_51 rfl (lv_at hl 2 rfl) ?_
        refine lv_isub hx hb dX5_shrink_52 ?_
        refine r_iastN (ws' := MW a cI s0 s1 a2 a3 a4 a5 a6 a7 a8 a9 s10 s11 s12 a13 (upd a14 x ((a14 x) - p2)) a15 a16 a17 a18 a19 a20 a21 s22) hx hb hw 10 rfl ht0 x (by omega) (by decide) (MW_u14 _) dX5_shrink_53 (fun H locs hw => ?_)
        refine lv_aload_n hx hb dX5_shrink_54 rfl (lv_at hl 0 rfl) ?_
        refine lv_iload_n hx hb dX5_shrink_55 rfl (lv_at hl 1 rfl) ?_
        refine lv_iload_n hx hb dX5_shrink_56 rfl (lv_at hl 2 rfl) ?_
        refine r_callVi 0 rfl rfl (rest := []) ⟨hx, hb, hml, hown, hts⟩ hw [.int (nI (x)), .int (p2)] (k5_goes l D ty a cI ht0 s0 s1 a2 a3 a4 a5 a6 a7 a8 a9 s10 s11 s12 a13 (upd a14 x ((a14 x) - p2)) a15 a16 a17 a18 a19 a20 a21 s22 x p2 (by omega) hl0 hl1 hy.1 (by have := hy.2; show p2.toInt ≤ sB a19 (16 * x) (tn (a18 x)); omega) (by omega)) (cwV 2 hts gX5_shrink_X5_goes rfl rfl rfl (by decide +kernel) ⟨Nat.le_of_ble_eq_true rfl, Nat.le_of_ble_eq_true rfl⟩) rfl hl.1 rfl (Nat.le_of_ble_eq_true rfl) dX5_shrink_57 ⟨Nat.le_of_ble_eq_true rfl, Nat.le_of_ble_eq_true rfl⟩ (fun r w H locs hp hw => ?_)
        obtain ⟨rfl, rfl⟩ := hp
        have e9 : f5_shrink a6 s12 a14 a17 a18 a19 a20 a21 (nI x) p2 = ((f5_goes a6 a18 a19 a20 a21 x p2).1, (f5_goes a6 a18 a19 a20 a21 x p2).2.1, upd a14 x ((a14 x) - p2), (f5_goes a6 a18 a19 a20 a21 x p2).2.2.1, (f5_goes a6 a18 a19 a20 a21 x p2).2.2.2) := by unfold f5_shrink; simp only [nI_clamp (show x < 2 ^ 31 by omega)]; rw [if_pos c_5, if_pos c_17, if_neg c_38]
        exact r_iret hx hb hr hlocks hw ⟨by rw [e9] <;> rfl, by rw [e9] <;> rfl⟩ dX5_shrink_60
      · refine lv_bipush (v := (-102)) hx hb dX5_shrink_41 (by decide) ?_
        have e9 : f5_shrink a6 s12 a14 a17 a18 a19 a20 a21 (nI x) p2 = ((-102), a6, a14, a18, a19) := by unfold f5_shrink; simp only [nI_clamp (show x < 2 ^ 31 by omega)]; rw [if_pos c_5, if_pos c_17, if_pos c_38]
        exact r_iret hx hb hr hlocks hw ⟨by rw [e9] <;> rfl, by rw [e9] <;> rfl⟩ dX5_shrink_43
    · refine lv_bipush (v := (-103)) hx hb dX5_shrink_20 (by decide) ?_
      have e9 : f5_shrink a6 s12 a14 a17 a18 a19 a20 a21 (nI x) p2 = ((-103), a6, a14, a18, a19) := by unfold f5_shrink; simp only [nI_clamp (show x < 2 ^ 31 by omega)]; rw [if_pos c_5, if_neg c_17]
      exact r_iret hx hb hr hlocks hw ⟨by rw [e9] <;> rfl, by rw [e9] <;> rfl⟩ dX5_shrink_22
  · refine lv_bipush (v := (-101)) hx hb dX5_shrink_8 (by decide) ?_
    have e9 : f5_shrink a6 s12 a14 a17 a18 a19 a20 a21 p1 p2 = ((-101), a6, a14, a18, a19) := by unfold f5_shrink; rw [if_neg c_5]
    exact r_iret hx hb hr hlocks hw ⟨by rw [e9] <;> rfl, by rw [e9] <;> rfl⟩ dX5_shrink_10
def f5_pay (s0 : Int32) (s1 : Int32) (a2 : Nat → Int32) (a4 : Nat → Int32) (a5 : Nat → Int32) (a6 : Nat → Int32) (s10 : Int32) (s12 : Int32) (a14 : Nat → Int32) (a16 : Nat → Int32) (a17 : Nat → Int32) (p1 : Int32) (p2 : Int32) (p3 : Int32) : Int32 × (Nat → Int32) × Int32 × (Nat → Int32) :=
  if (f5_noObject s12 p1) = 0 then (if (f5_noAccount p2) = 0 then (if (f5_in p3.toInt64 1 100) = 0 then ((-102), a6, s10, a16)
      else if (a17 (tn p1)) = 0 then (if ((a16 (tn p1)) + p3) ≤ (s0 + 400) then (if (((f5_charged s0 s1 a2 a5 (a14 (tn p1))) * (f5_rent s0 s1 a2 a4)) * p3) ≤ (a6 (tn (p2))) then (((f5_charged s0 s1 a2 a5 (a14 (tn p1))) * (f5_rent s0 s1 a2 a4)) * p3, upd a6 (tn (p2)) ((a6 (tn (p2))) - (((f5_charged s0 s1 a2 a5 (a14 (tn p1))) * (f5_rent s0 s1 a2 a4)) * p3)), s10 + (((f5_charged s0 s1 a2 a5 (a14 (tn p1))) * (f5_rent s0 s1 a2 a4)) * p3), upd a16 (tn p1) ((a16 (tn p1)) + p3))
          else ((-106), a6, s10, a16))
        else ((-103), a6, s10, a16))
      else ((-103), a6, s10, a16))
    else ((-101), a6, s10, a16))
  else ((-101), a6, s10, a16)
set_option maxHeartbeats 4000000 in
set_option maxRecDepth 100000 in
theorem k5_pay (l : Launch) (D : va_G) (ty : List (ClassId × FieldType)) (a : Nat → Nat) (cI : ClassId) (ht0 : ty[0]? = some (cI, .int)) (s0 : Int32) (s1 : Int32) (a2 : Nat → Int32) (a3 : Nat → Int32) (a4 : Nat → Int32) (a5 : Nat → Int32) (a6 : Nat → Int32) (a7 : Nat → Int32) (a8 : Nat → Int32) (a9 : Nat → Int32) (s10 : Int32) (s11 : Int32) (s12 : Int32) (a13 : Nat → Int32) (a14 : Nat → Int32) (a15 : Nat → Int32) (a16 : Nat → Int32) (a17 : Nat → Int32) (a18 : Nat → Int32) (a19 : Nat → Int32) (a20 : Nat → Int32) (a21 : Nat → Int32) (s22 : Int32) (p1 : Int32) (p2 : Int32) (p3 : Int32) (hob : s12 = nI (tn s12)) (hob2 : tn s12 ≤ 60) (he0 : s1 = nI (tn s1)) (he1 : tn s1 ≤ 10) : MetG l yX5_pay wsX5_pay { frames := 2, cells := 0, slots := 0, locals := 46 } D ty [.ref (a 0), .int (p1), .int (p2), .int (p3)] (MW a cI s0 s1 a2 a3 a4 a5 a6 a7 a8 a9 s10 s11 s12 a13 a14 a15 a16 a17 a18 a19 a20 a21 s22) (va_Qi (fun r w => r = (f5_pay s0 s1 a2 a4 a5 a6 s10 s12 a14 a16 a17 p1 p2 p3).1 ∧ w = MW a cI s0 s1 a2 a3 a4 a5 ((f5_pay s0 s1 a2 a4 a5 a6 s10 s12 a14 a16 a17 p1 p2 p3).2.1) a7 a8 a9 ((f5_pay s0 s1 a2 a4 a5 a6 s10 s12 a14 a16 a17 p1 p2 p3).2.2.1) s11 s12 a13 a14 a15 ((f5_pay s0 s1 a2 a4 a5 a6 s10 s12 a14 a16 a17 p1 p2 p3).2.2.2) a17 a18 a19 a20 a21 s22)) 0 0 := by
  refine Met_start cX5_pay 5 (some .int) (by decide) rfl (Nat.le_of_ble_eq_true rfl) ?_
  intro p e s m below meth c A ls hx hb hr hlocks hml hnm hts hown hw hl
  have hl : lv_has ls 5 [(0, .ref (a 0)), (1, .int (p1)), (2, .int (p2)), (3, .int (p3))] := hl
  have ci89 := hts (.constantLong RX5 89 (100)) (by decide +kernel)
  have i5 : ∀ w ∈ wsX50, w ∈ wsX5_pay := fun _ h => List.mem_cons_of_mem _ (List.mem_append_right _ h)
  have lk46 := hts (.fieldLink RX5 46 "RentSizesModel" "state" "[I") (by decide +kernel)
  have lk43 := hts (.fieldLink RX5 43 "RentSizesModel" "paid" "[I") (by decide +kernel)
  have lk64 := hts (.fieldLink RX5 64 "RentSizesModel" "height" "I") (by decide +kernel)
  have lk37 := hts (.fieldLink RX5 37 "RentSizesModel" "size" "[I") (by decide +kernel)
  have lk22 := hts (.fieldLink RX5 22 "RentSizesModel" "accountCoins" "[I") (by decide +kernel)
  have lk72 := hts (.fieldLink RX5 72 "RentSizesModel" "pool" "I") (by decide +kernel)
  refine lv_aload_n hx hb dX5_pay_0 rfl (lv_at hl 0 rfl) ?_
  refine lv_iload_n hx hb dX5_pay_1 rfl (lv_at hl 1 rfl) ?_
  refine r_callVi 0 rfl rfl (rest := []) ⟨hx, hb, hml, hown, hts⟩ hw [.int (p1)] (k5_noObject l D ty a cI ht0 s0 s1 a2 a3 a4 a5 a6 a7 a8 a9 s10 s11 s12 a13 a14 a15 a16 a17 a18 a19 a20 a21 s22 p1) (cwV 1 hts gX5_pay_X5_noObject rfl rfl rfl (by decide +kernel) ⟨Nat.le_of_ble_eq_true rfl, Nat.le_of_ble_eq_true rfl⟩) rfl hl.1 rfl (Nat.le_of_ble_eq_true rfl) dX5_pay_2 ⟨Nat.le_of_ble_eq_true rfl, Nat.le_of_ble_eq_true rfl⟩ (fun r w H locs hp hw => ?_)
  obtain ⟨rfl, rfl⟩ := hp
  refine lv_if_ne (tgt := 16) hx hb dX5_pay_5 (by decide) (fun c_5 => ?_) (fun c_5 => ?_)
  · refine lv_bipush (v := (-101)) hx hb dX5_pay_16 (by decide) ?_
    have e9 : f5_pay s0 s1 a2 a4 a5 a6 s10 s12 a14 a16 a17 p1 p2 p3 = ((-101), a6, s10, a16) := by unfold f5_pay; rw [if_neg c_5]
    exact r_iret hx hb hr hlocks hw ⟨by rw [e9] <;> rfl, by rw [e9] <;> rfl⟩ dX5_pay_18
  · refine lv_aload_n hx hb dX5_pay_8 rfl (lv_at hl 0 rfl) ?_
    refine lv_iload_n hx hb dX5_pay_9 rfl (lv_at hl 2 rfl) ?_
    refine r_callVi 0 rfl rfl (rest := []) ⟨hx, hb, hml, hown, hts⟩ hw [.int (p2)] (k5_noAccount l D ty a cI ht0 s0 s1 a2 a3 a4 a5 a6 a7 a8 a9 s10 s11 s12 a13 a14 a15 a16 a17 a18 a19 a20 a21 s22 p2) (cwV 1 hts gX5_pay_X5_noAccount rfl rfl rfl (by decide +kernel) ⟨Nat.le_of_ble_eq_true rfl, Nat.le_of_ble_eq_true rfl⟩) rfl hl.1 rfl (Nat.le_of_ble_eq_true rfl) dX5_pay_10 ⟨Nat.le_of_ble_eq_true rfl, Nat.le_of_ble_eq_true rfl⟩ (fun r w H locs hp hw => ?_)
    obtain ⟨rfl, rfl⟩ := hp
    refine lv_if_eq (tgt := 19) hx hb dX5_pay_13 (by decide) (fun c_13 => ?_) (fun c_13 => ?_)
    · obtain ⟨x, hxx, rfl⟩ := (no_in c_5 hob hob2)
      have hv2 := na_in c_13
      have hx60 : x < 60 := by omega
      refine lv_iload_n hx hb dX5_pay_19 rfl (lv_at hl 3 rfl) ?_
      refine lv_i2l (v := p3.toInt64) hx hb dX5_pay_20 rfl ?_
      refine lv_lconst (v := 1) hx hb dX5_pay_21 (by decide) ?_
      refine lv_ldc2 (v := 100) hx hb hown ci89 dX5_pay_22 ?_
      refine r_callSi (rest := []) ⟨hx, hb, hml, hown, hts⟩ hw [.long (p3.toInt64), .long (1), .long (100)] (k5_in l D ty a cI ht0 s0 s1 a2 a3 a4 a5 a6 a7 a8 a9 s10 s11 s12 a13 a14 a15 a16 a17 a18 a19 a20 a21 s22 p3.toInt64 1 100) (va_cwS 3 hts gX5_pay_X5_in rfl rfl rfl (by decide +kernel) ⟨Nat.le_of_ble_eq_true rfl, Nat.le_of_ble_eq_true rfl⟩) rfl hl.1 rfl (Nat.le_of_ble_eq_true rfl) dX5_pay_25 ⟨Nat.le_of_ble_eq_true rfl, Nat.le_of_ble_eq_true rfl⟩ (fun r w H locs hp hw => ?_)
      obtain ⟨rfl, rfl⟩ := hp
      refine lv_if_ne (tgt := 34) hx hb dX5_pay_28 (by decide) (fun c_28 => ?_) (fun c_28 => ?_)
      · refine lv_aload_n hx hb dX5_pay_34 rfl (lv_at hl 0 rfl) ?_
        refine r_get (C := RX5) (T := TX5) (v := .ref (a 17)) hx hb hts i5 hown hw 0 rfl rfl 17 (by decide) lk46 rfl dX5_pay_35 ?_
        refine lv_iload_n hx hb dX5_pay_38 rfl (lv_at hl 1 rfl) ?_
        refine r_ialdN (v := a17 x) hx hb hw 13 rfl ht0 x (by omega) (by decide) dX5_pay_39 rfl ?_
        refine lv_if_ne (tgt := 62) hx hb dX5_pay_40 (by decide) (fun c_40 => ?_) (fun c_40 => ?_)
        · refine lv_bipush (v := (-103)) hx hb dX5_pay_62 (by decide) ?_
          have e9 : f5_pay s0 s1 a2 a4 a5 a6 s10 s12 a14 a16 a17 (nI x) p2 p3 = ((-103), a6, s10, a16) := by unfold f5_pay; simp only [nI_clamp (show x < 2 ^ 31 by omega)]; rw [if_pos c_5, if_pos c_13, if_neg c_28, if_neg c_40]
          exact r_iret hx hb hr hlocks hw ⟨by rw [e9] <;> rfl, by rw [e9] <;> rfl⟩ dX5_pay_64
        · refine lv_aload_n hx hb dX5_pay_43 rfl (lv_at hl 0 rfl) ?_
          refine r_get (C := RX5) (T := TX5) (v := .ref (a 16)) hx hb hts i5 hown hw 0 rfl rfl 16 (by decide) lk43 rfl dX5_pay_44 ?_
          refine lv_iload_n hx hb dX5_pay_47 rfl (lv_at hl 1 rfl) ?_
          refine r_ialdN (v := a16 x) hx hb hw 12 rfl ht0 x (by omega) (by decide) dX5_pay_48 rfl ?_
          refine lv_iload_n hx hb dX5_pay_49 rfl (lv_at hl 3 rfl) ?_
          refine lv_iadd hx hb dX5_pay_50 ?_
          refine lv_aload_n hx hb dX5_pay_51 rfl (lv_at hl 0 rfl) ?_
          refine r_get (C := RX5) (T := TX5) (v := .int (s0)) hx hb hts i5 hown hw 0 rfl rfl 0 (by decide) lk64 rfl dX5_pay_52 ?_
          refine lv_sipush (v := 400) hx hb dX5_pay_55 (by decide) ?_
          refine lv_iadd hx hb dX5_pay_58 ?_
          refine lv_icmp_le (tgt := 65) hx hb dX5_pay_59 (by decide) (fun c_59 => ?_) (fun c_59 => ?_)
          · refine lv_aload_n hx hb dX5_pay_65 rfl (lv_at hl 0 rfl) ?_
            refine lv_aload_n hx hb dX5_pay_66 rfl (lv_at hl 0 rfl) ?_
            refine r_get (C := RX5) (T := TX5) (v := .ref (a 14)) hx hb hts i5 hown hw 0 rfl rfl 14 (by decide) lk37 rfl dX5_pay_67 ?_
            refine lv_iload_n hx hb dX5_pay_70 rfl (lv_at hl 1 rfl) ?_
            refine r_ialdN (v := a14 x) hx hb hw 10 rfl ht0 x (by omega) (by decide) dX5_pay_71 rfl ?_
            refine r_callVi 0 rfl rfl (rest := []) ⟨hx, hb, hml, hown, hts⟩ hw [.int (a14 x)] (k5_charged l D ty a cI ht0 s0 s1 a2 a3 a4 a5 a6 a7 a8 a9 s10 s11 s12 a13 a14 a15 a16 a17 a18 a19 a20 a21 s22 (a14 x) (by first | assumption | omega) (by first | assumption | omega)) (cwV 1 hts gX5_pay_X5_charged rfl rfl rfl (by decide +kernel) ⟨Nat.le_of_ble_eq_true rfl, Nat.le_of_ble_eq_true rfl⟩) rfl hl.1 rfl (Nat.le_of_ble_eq_true rfl) dX5_pay_72 ⟨Nat.le_of_ble_eq_true rfl, Nat.le_of_ble_eq_true rfl⟩ (fun r w H locs hp hw => ?_)
            obtain ⟨rfl, rfl⟩ := hp
            refine lv_aload_n hx hb dX5_pay_75 rfl (lv_at hl 0 rfl) ?_
            refine r_callVi 0 rfl rfl (rest := [.int (f5_charged s0 s1 a2 a5 (a14 x))]) ⟨hx, hb, hml, hown, hts⟩ hw [] (k5_rent l D ty a cI ht0 s0 s1 a2 a3 a4 a5 a6 a7 a8 a9 s10 s11 s12 a13 a14 a15 a16 a17 a18 a19 a20 a21 s22 (by first | assumption | omega) (by first | assumption | omega)) (cwV 0 hts gX5_pay_X5_rent rfl rfl rfl (by decide +kernel) ⟨Nat.le_of_ble_eq_true rfl, Nat.le_of_ble_eq_true rfl⟩) rfl hl.1 rfl (Nat.le_of_ble_eq_true rfl) dX5_pay_76 ⟨Nat.le_of_ble_eq_true rfl, Nat.le_of_ble_eq_true rfl⟩ (fun r w H locs hp hw => ?_)
            obtain ⟨rfl, rfl⟩ := hp
            refine lv_imul hx hb dX5_pay_79 ?_
            refine lv_iload_n hx hb dX5_pay_80 rfl (lv_at hl 3 rfl) ?_
            refine lv_imul hx hb dX5_pay_81 ?_
            refine lv_istore (lv' := [(4, .int (((f5_charged s0 s1 a2 a5 (a14 x)) * (f5_rent s0 s1 a2 a4)) * p3)), (0, .ref (a 0)), (1, .int (nI (x))), (2, .int (p2)), (3, .int (p3))]) hx hb dX5_pay_82 hl (by decide) rfl (fun ls hl => ?_)
            refine lv_aload_n hx hb dX5_pay_84 rfl (lv_at hl 1 rfl) ?_
            refine r_get (C := RX5) (T := TX5) (v := .ref (a 6)) hx hb hts i5 hown hw 0 rfl rfl 6 (by decide) lk22 rfl dX5_pay_85 ?_
            refine lv_iload_n hx hb dX5_pay_88 rfl (lv_at hl 3 rfl) ?_
            refine r_iald (v := a6 (tn (p2))) hx hb hw 5 rfl ht0 (by first | assumption | exact vp_in_nI (by omega) (by omega)) dX5_pay_89 rfl ?_
            refine lv_iload hx hb dX5_pay_90 (lv_at hl 0 rfl) ?_
            refine lv_icmp_ge (tgt := 98) hx hb dX5_pay_92 (by decide) (fun c_92 => ?_) (fun c_92 => ?_)
            · refine lv_aload_n hx hb dX5_pay_98 rfl (lv_at hl 1 rfl) ?_
              refine r_get (C := RX5) (T := TX5) (v := .ref (a 6)) hx hb hts i5 hown hw 0 rfl rfl 6 (by decide) lk22 rfl dX5_pay_99 ?_
              refine lv_iload_n hx hb dX5_pay_102 rfl (lv_at hl 3 rfl) ?_
              refine lv_dup2_11 hx hb dX5_pay_103 rfl rfl ?_
              refine r_iald (v := a6 (tn (p2))) hx hb hw 5 rfl ht0 (by first | assumption | exact vp_in_nI (by omega) (by omega)) dX5_pay_104 rfl ?_
              refine lv_iload hx hb dX5_pay_105 (lv_at hl 0 rfl) ?_
              refine lv_isub hx hb dX5_pay_107 ?_
              refine r_iast (ws' := MW a cI s0 s1 a2 a3 a4 a5 (upd a6 (tn (p2)) ((a6 (tn (p2))) - (((f5_charged s0 s1 a2 a5 (a14 x)) * (f5_rent s0 s1 a2 a4)) * p3))) a7 a8 a9 s10 s11 s12 a13 a14 a15 a16 a17 a18 a19 a20 a21 s22) hx hb hw 5 rfl ht0 (by first | assumption | exact vp_in_nI (by omega) (by omega)) (MW_u6 _) dX5_pay_108 (fun H locs hw => ?_)
              refine lv_aload_n hx hb dX5_pay_109 rfl (lv_at hl 1 rfl) ?_
              refine lv_dup hx hb dX5_pay_110 rfl ?_
              refine r_get (C := RX5) (T := TX5) (v := .int (s10)) hx hb hts i5 hown hw 0 rfl rfl 10 (by decide) lk72 rfl dX5_pay_111 ?_
              refine lv_iload hx hb dX5_pay_114 (lv_at hl 0 rfl) ?_
              refine lv_iadd hx hb dX5_pay_116 ?_
              refine r_put (C := RX5) (T := TX5) (ws' := MW a cI s0 s1 a2 a3 a4 a5 (upd a6 (tn (p2)) ((a6 (tn (p2))) - (((f5_charged s0 s1 a2 a5 (a14 x)) * (f5_rent s0 s1 a2 a4)) * p3))) a7 a8 a9 (s10 + (((f5_charged s0 s1 a2 a5 (a14 x)) * (f5_rent s0 s1 a2 a4)) * p3)) s11 s12 a13 a14 a15 a16 a17 a18 a19 a20 a21 s22) hx hb hts i5 tyX5 tyX5_ok nmX5 hown hw 0 rfl rfl 10 (by decide) lk72 rfl (by decide +kernel) (Nat.le_of_ble_eq_true rfl) (MW_s10 _) dX5_pay_117 (fun H locs hw => ?_)
              refine lv_aload_n hx hb dX5_pay_120 rfl (lv_at hl 1 rfl) ?_
              refine r_get (C := RX5) (T := TX5) (v := .ref (a 16)) hx hb hts i5 hown hw 0 rfl rfl 16 (by decide) lk43 rfl dX5_pay_121 ?_
              refine lv_iload_n hx hb dX5_pay_124 rfl (lv_at hl 2 rfl) ?_
              refine lv_dup2_11 hx hb dX5_pay_125 rfl rfl ?_
              refine r_ialdN (v := a16 x) hx hb hw 12 rfl ht0 x (by omega) (by decide) dX5_pay_126 rfl ?_
              refine lv_iload_n hx hb dX5_pay_127 rfl (lv_at hl 4 rfl) ?_
              refine lv_iadd hx hb dX5_pay_128 ?_
              refine r_iastN (ws' := MW a cI s0 s1 a2 a3 a4 a5 (upd a6 (tn (p2)) ((a6 (tn (p2))) - (((f5_charged s0 s1 a2 a5 (a14 x)) * (f5_rent s0 s1 a2 a4)) * p3))) a7 a8 a9 (s10 + (((f5_charged s0 s1 a2 a5 (a14 x)) * (f5_rent s0 s1 a2 a4)) * p3)) s11 s12 a13 a14 a15 (upd a16 x ((a16 x) + p3)) a17 a18 a19 a20 a21 s22) hx hb hw 12 rfl ht0 x (by omega) (by decide) (MW_u16 _) dX5_pay_129 (fun H locs hw => ?_)
              refine lv_iload hx hb dX5_pay_130 (lv_at hl 0 rfl) ?_
              have e9 : f5_pay s0 s1 a2 a4 a5 a6 s10 s12 a14 a16 a17 (nI x) p2 p3 = (((f5_charged s0 s1 a2 a5 (a14 x)) * (f5_rent s0 s1 a2 a4)) * p3, upd a6 (tn (p2)) ((a6 (tn (p2))) - (((f5_charged s0 s1 a2 a5 (a14 x)) * (f5_rent s0 s1 a2 a4)) * p3)), s10 + (((f5_charged s0 s1 a2 a5 (a14 x)) * (f5_rent s0 s1 a2 a4)) * p3), upd a16 x ((a16 x) + p3)) := by unfold f5_pay; simp only [nI_clamp (show x < 2 ^ 31 by omega)]; rw [if_pos c_5, if_pos c_13, if_neg c_28, if_pos c_40, if_pos c_59, if_pos c_92]
              exact r_iret hx hb hr hlocks hw ⟨by rw [e9] <;> rfl, by rw [e9] <;> rfl⟩ dX5_pay_132
            · refine lv_bipush (v := (-106)) hx hb dX5_pay_95 (by decide) ?_
              have e9 : f5_pay s0 s1 a2 a4 a5 a6 s10 s12 a14 a16 a17 (nI x) p2 p3 = ((-106), a6, s10, a16) := by unfold f5_pay; simp only [nI_clamp (show x < 2 ^ 31 by omega)]; rw [if_pos c_5, if_pos c_13, if_neg c_28, if_pos c_40, if_pos c_59, if_neg c_92]
              exact r_iret hx hb hr hlocks hw ⟨by rw [e9] <;> rfl, by rw [e9] <;> rfl⟩ dX5_pay_97
          · refine lv_bipush (v := (-103)) hx hb dX5_pay_62 (by decide) ?_
            have e9 : f5_pay s0 s1 a2 a4 a5 a6 s10 s12 a14 a16 a17 (nI x) p2 p3 = ((-103), a6, s10, a16) := by unfold f5_pay; simp only [nI_clamp (show x < 2 ^ 31 by omega)]; rw [if_pos c_5, if_pos c_13, if_neg c_28, if_pos c_40, if_neg c_59]
            exact r_iret hx hb hr hlocks hw ⟨by rw [e9] <;> rfl, by rw [e9] <;> rfl⟩ dX5_pay_64
      · refine lv_bipush (v := (-102)) hx hb dX5_pay_31 (by decide) ?_
        have e9 : f5_pay s0 s1 a2 a4 a5 a6 s10 s12 a14 a16 a17 (nI x) p2 p3 = ((-102), a6, s10, a16) := by unfold f5_pay; simp only [nI_clamp (show x < 2 ^ 31 by omega)]; rw [if_pos c_5, if_pos c_13, if_pos c_28]
        exact r_iret hx hb hr hlocks hw ⟨by rw [e9] <;> rfl, by rw [e9] <;> rfl⟩ dX5_pay_33
    · refine lv_bipush (v := (-101)) hx hb dX5_pay_16 (by decide) ?_
      have e9 : f5_pay s0 s1 a2 a4 a5 a6 s10 s12 a14 a16 a17 p1 p2 p3 = ((-101), a6, s10, a16) := by unfold f5_pay; rw [if_pos c_5, if_neg c_13]
      exact r_iret hx hb hr hlocks hw ⟨by rw [e9] <;> rfl, by rw [e9] <;> rfl⟩ dX5_pay_18
def f5_write (s12 : Int32) (a15 : Nat → Int32) (a17 : Nat → Int32) (p1 : Int32) (p2 : Int32) (p3 : Int32) : Int32 × (Nat → Int32) :=
  if (f5_noObject s12 p1) = 0 then (if (f5_in p2.toInt64 0 3) = 0 then ((-102), a15)
    else if (a17 (tn p1)) = 0 then (1, upd a15 ((4 * (tn p1)) + (tn p2)) p3)
    else ((-103), a15))
  else ((-101), a15)
set_option maxHeartbeats 4000000 in
set_option maxRecDepth 100000 in
theorem k5_write (l : Launch) (D : va_G) (ty : List (ClassId × FieldType)) (a : Nat → Nat) (cI : ClassId) (ht0 : ty[0]? = some (cI, .int)) (s0 : Int32) (s1 : Int32) (a2 : Nat → Int32) (a3 : Nat → Int32) (a4 : Nat → Int32) (a5 : Nat → Int32) (a6 : Nat → Int32) (a7 : Nat → Int32) (a8 : Nat → Int32) (a9 : Nat → Int32) (s10 : Int32) (s11 : Int32) (s12 : Int32) (a13 : Nat → Int32) (a14 : Nat → Int32) (a15 : Nat → Int32) (a16 : Nat → Int32) (a17 : Nat → Int32) (a18 : Nat → Int32) (a19 : Nat → Int32) (a20 : Nat → Int32) (a21 : Nat → Int32) (s22 : Int32) (p1 : Int32) (p2 : Int32) (p3 : Int32) (hob : s12 = nI (tn s12)) (hob2 : tn s12 ≤ 60) : MetG l yX5_write wsX5_write { frames := 2, cells := 0, slots := 0, locals := 46 } D ty [.ref (a 0), .int (p1), .int (p2), .int (p3)] (MW a cI s0 s1 a2 a3 a4 a5 a6 a7 a8 a9 s10 s11 s12 a13 a14 a15 a16 a17 a18 a19 a20 a21 s22) (va_Qi (fun r w => r = (f5_write s12 a15 a17 p1 p2 p3).1 ∧ w = MW a cI s0 s1 a2 a3 a4 a5 a6 a7 a8 a9 s10 s11 s12 a13 a14 ((f5_write s12 a15 a17 p1 p2 p3).2) a16 a17 a18 a19 a20 a21 s22)) 0 0 := by
  refine Met_start cX5_write 4 (some .int) (by decide) rfl (Nat.le_of_ble_eq_true rfl) ?_
  intro p e s m below meth c A ls hx hb hr hlocks hml hnm hts hown hw hl
  have hl : lv_has ls 4 [(0, .ref (a 0)), (1, .int (p1)), (2, .int (p2)), (3, .int (p3))] := hl
  have ci95 := hts (.constantLong RX5 95 (3)) (by decide +kernel)
  have i5 : ∀ w ∈ wsX50, w ∈ wsX5_write := fun _ h => List.mem_cons_of_mem _ (List.mem_append_right _ h)
  have lk46 := hts (.fieldLink RX5 46 "RentSizesModel" "state" "[I") (by decide +kernel)
  have lk40 := hts (.fieldLink RX5 40 "RentSizesModel" "words" "[I") (by decide +kernel)
  refine lv_aload_n hx hb dX5_write_0 rfl (lv_at hl 0 rfl) ?_
  refine lv_iload_n hx hb dX5_write_1 rfl (lv_at hl 1 rfl) ?_
  refine r_callVi 0 rfl rfl (rest := []) ⟨hx, hb, hml, hown, hts⟩ hw [.int (p1)] (k5_noObject l D ty a cI ht0 s0 s1 a2 a3 a4 a5 a6 a7 a8 a9 s10 s11 s12 a13 a14 a15 a16 a17 a18 a19 a20 a21 s22 p1) (cwV 1 hts gX5_write_X5_noObject rfl rfl rfl (by decide +kernel) ⟨Nat.le_of_ble_eq_true rfl, Nat.le_of_ble_eq_true rfl⟩) rfl hl.1 rfl (Nat.le_of_ble_eq_true rfl) dX5_write_2 ⟨Nat.le_of_ble_eq_true rfl, Nat.le_of_ble_eq_true rfl⟩ (fun r w H locs hp hw => ?_)
  obtain ⟨rfl, rfl⟩ := hp
  refine lv_if_eq (tgt := 11) hx hb dX5_write_5 (by decide) (fun c_5 => ?_) (fun c_5 => ?_)
  · obtain ⟨x, hxx, rfl⟩ := (no_in c_5 hob hob2)
    have hx60 : x < 60 := by omega
    refine lv_iload_n hx hb dX5_write_11 rfl (lv_at hl 2 rfl) ?_
    refine lv_i2l (v := p2.toInt64) hx hb dX5_write_12 rfl ?_
    refine lv_lconst (v := 0) hx hb dX5_write_13 (by decide) ?_
    refine lv_ldc2 (v := 3) hx hb hown ci95 dX5_write_14 ?_
    refine r_callSi (rest := []) ⟨hx, hb, hml, hown, hts⟩ hw [.long (p2.toInt64), .long (0), .long (3)] (k5_in l D ty a cI ht0 s0 s1 a2 a3 a4 a5 a6 a7 a8 a9 s10 s11 s12 a13 a14 a15 a16 a17 a18 a19 a20 a21 s22 p2.toInt64 0 3) (va_cwS 3 hts gX5_write_X5_in rfl rfl rfl (by decide +kernel) ⟨Nat.le_of_ble_eq_true rfl, Nat.le_of_ble_eq_true rfl⟩) rfl hl.1 rfl (Nat.le_of_ble_eq_true rfl) dX5_write_17 ⟨Nat.le_of_ble_eq_true rfl, Nat.le_of_ble_eq_true rfl⟩ (fun r w H locs hp hw => ?_)
    obtain ⟨rfl, rfl⟩ := hp
    refine lv_if_ne (tgt := 26) hx hb dX5_write_20 (by decide) (fun c_20 => ?_) (fun c_20 => ?_)
    · obtain ⟨y, hyy, rfl⟩ := (in_nat 0 3 c_20 rfl rfl)
      refine lv_aload_n hx hb dX5_write_26 rfl (lv_at hl 0 rfl) ?_
      refine r_get (C := RX5) (T := TX5) (v := .ref (a 17)) hx hb hts i5 hown hw 0 rfl rfl 17 (by decide) lk46 rfl dX5_write_27 ?_
      refine lv_iload_n hx hb dX5_write_30 rfl (lv_at hl 1 rfl) ?_
      refine r_ialdN (v := a17 x) hx hb hw 13 rfl ht0 x (by omega) (by decide) dX5_write_31 rfl ?_
      refine lv_if_eq (tgt := 38) hx hb dX5_write_32 (by decide) (fun c_32 => ?_) (fun c_32 => ?_)
      · refine lv_aload_n hx hb dX5_write_38 rfl (lv_at hl 0 rfl) ?_
        refine r_get (C := RX5) (T := TX5) (v := .ref (a 15)) hx hb hts i5 hown hw 0 rfl rfl 15 (by decide) lk40 rfl dX5_write_39 ?_
        refine lv_iconst (v := 4) hx hb dX5_write_42 (by decide) ?_
        refine lv_iload_n hx hb dX5_write_43 rfl (lv_at hl 1 rfl) ?_
        refine lv_imul hx hb dX5_write_44 ?_
        refine r_top (nI (4 * x)) (show nI (4) * nI (x) = nI (4 * x) from pk_mul _ _) ?_
        refine lv_iload_n hx hb dX5_write_45 rfl (lv_at hl 2 rfl) ?_
        refine lv_iadd hx hb dX5_write_46 ?_
        refine r_top (nI ((4 * x) + y)) (show nI (4 * x) + nI (y) = nI ((4 * x) + y) from nI_add _ _) ?_
        refine lv_iload_n hx hb dX5_write_47 rfl (lv_at hl 3 rfl) ?_
        refine r_iastN (ws' := MW a cI s0 s1 a2 a3 a4 a5 a6 a7 a8 a9 s10 s11 s12 a13 a14 (upd a15 ((4 * x) + y) p3) a16 a17 a18 a19 a20 a21 s22) hx hb hw 11 rfl ht0 ((4 * x) + y) (by omega) (by decide) (MW_u15 _) dX5_write_48 (fun H locs hw => ?_)
        refine lv_iconst (v := 1) hx hb dX5_write_49 (by decide) ?_
        have e9 : f5_write s12 a15 a17 (nI x) (nI y) p3 = (1, upd a15 ((4 * x) + y) p3) := by unfold f5_write; simp only [nI_clamp (show x < 2 ^ 31 by omega), nI_clamp (show y < 2 ^ 31 by omega)]; rw [if_pos c_5, if_neg c_20, if_pos c_32]
        exact r_iret hx hb hr hlocks hw ⟨by rw [e9] <;> rfl, by rw [e9] <;> rfl⟩ dX5_write_50
      · refine lv_bipush (v := (-103)) hx hb dX5_write_35 (by decide) ?_
        have e9 : f5_write s12 a15 a17 (nI x) (nI y) p3 = ((-103), a15) := by unfold f5_write; simp only [nI_clamp (show x < 2 ^ 31 by omega), nI_clamp (show y < 2 ^ 31 by omega)]; rw [if_pos c_5, if_neg c_20, if_neg c_32]
        exact r_iret hx hb hr hlocks hw ⟨by rw [e9] <;> rfl, by rw [e9] <;> rfl⟩ dX5_write_37
    · refine lv_bipush (v := (-102)) hx hb dX5_write_23 (by decide) ?_
      have e9 : f5_write s12 a15 a17 (nI x) p2 p3 = ((-102), a15) := by unfold f5_write; simp only [nI_clamp (show x < 2 ^ 31 by omega)]; rw [if_pos c_5, if_pos c_20]
      exact r_iret hx hb hr hlocks hw ⟨by rw [e9] <;> rfl, by rw [e9] <;> rfl⟩ dX5_write_25
  · refine lv_bipush (v := (-101)) hx hb dX5_write_8 (by decide) ?_
    have e9 : f5_write s12 a15 a17 p1 p2 p3 = ((-101), a15) := by unfold f5_write; rw [if_neg c_5]
    exact r_iret hx hb hr hlocks hw ⟨by rw [e9] <;> rfl, by rw [e9] <;> rfl⟩ dX5_write_10
def f5_drop (a6 : Nat → Int32) (s12 : Int32) (a14 : Nat → Int32) (a17 : Nat → Int32) (a18 : Nat → Int32) (a19 : Nat → Int32) (a20 : Nat → Int32) (a21 : Nat → Int32) (p1 : Int32) : Int32 × (Nat → Int32) × (Nat → Int32) × (Nat → Int32) × (Nat → Int32) :=
  if (f5_noObject s12 p1) = 0 then (if (a17 (tn p1)) = 2 then ((-103), a6, a17, a18, a19)
    else ((f5_goes a6 a18 a19 a20 a21 (tn p1) (a14 (tn p1))).1, (f5_goes a6 a18 a19 a20 a21 (tn p1) (a14 (tn p1))).2.1, upd a17 (tn p1) 2, (f5_goes a6 a18 a19 a20 a21 (tn p1) (a14 (tn p1))).2.2.1, (f5_goes a6 a18 a19 a20 a21 (tn p1) (a14 (tn p1))).2.2.2))
  else ((-101), a6, a17, a18, a19)
set_option maxHeartbeats 4000000 in
set_option maxRecDepth 100000 in
theorem k5_drop (l : Launch) (D : va_G) (ty : List (ClassId × FieldType)) (a : Nat → Nat) (cI : ClassId) (ht0 : ty[0]? = some (cI, .int)) (s0 : Int32) (s1 : Int32) (a2 : Nat → Int32) (a3 : Nat → Int32) (a4 : Nat → Int32) (a5 : Nat → Int32) (a6 : Nat → Int32) (a7 : Nat → Int32) (a8 : Nat → Int32) (a9 : Nat → Int32) (s10 : Int32) (s11 : Int32) (s12 : Int32) (a13 : Nat → Int32) (a14 : Nat → Int32) (a15 : Nat → Int32) (a16 : Nat → Int32) (a17 : Nat → Int32) (a18 : Nat → Int32) (a19 : Nat → Int32) (a20 : Nat → Int32) (a21 : Nat → Int32) (s22 : Int32) (p1 : Int32) (hob : s12 = nI (tn s12)) (hob2 : tn s12 ≤ 60) (hlk : ∀ x, x < tn s12 → a18 x = nI (tn (a18 x)) ∧ tn (a18 x) ≤ 16) (hsz : ∀ x, x < tn s12 → 1 ≤ (a14 x).toInt ∧ (a14 x).toInt ≤ 1000) (hlay : ∀ x, x < tn s12 → ¬ a17 x = 2 → (∀ i, i < tn (a18 x) → 0 < (a19 (16 * x + i)).toInt) ∧ sB a19 (16 * x) (tn (a18 x)) = (a14 x).toInt) : MetG l yX5_drop wsX5_drop { frames := 2, cells := 0, slots := 0, locals := 54 } D ty [.ref (a 0), .int (p1)] (MW a cI s0 s1 a2 a3 a4 a5 a6 a7 a8 a9 s10 s11 s12 a13 a14 a15 a16 a17 a18 a19 a20 a21 s22) (va_Qi (fun r w => r = (f5_drop a6 s12 a14 a17 a18 a19 a20 a21 p1).1 ∧ w = MW a cI s0 s1 a2 a3 a4 a5 ((f5_drop a6 s12 a14 a17 a18 a19 a20 a21 p1).2.1) a7 a8 a9 s10 s11 s12 a13 a14 a15 a16 ((f5_drop a6 s12 a14 a17 a18 a19 a20 a21 p1).2.2.1) ((f5_drop a6 s12 a14 a17 a18 a19 a20 a21 p1).2.2.2.1) ((f5_drop a6 s12 a14 a17 a18 a19 a20 a21 p1).2.2.2.2) a20 a21 s22)) 0 0 := by
  refine Met_start cX5_drop 2 (some .int) (by decide) rfl (Nat.le_of_ble_eq_true rfl) ?_
  intro p e s m below meth c A ls hx hb hr hlocks hml hnm hts hown hw hl
  have hl : lv_has ls 2 [(0, .ref (a 0)), (1, .int (p1))] := hl
  have i5 : ∀ w ∈ wsX50, w ∈ wsX5_drop := fun _ h => List.mem_cons_of_mem _ (List.mem_append_right _ h)
  have lk46 := hts (.fieldLink RX5 46 "RentSizesModel" "state" "[I") (by decide +kernel)
  have lk37 := hts (.fieldLink RX5 37 "RentSizesModel" "size" "[I") (by decide +kernel)
  refine lv_aload_n hx hb dX5_drop_0 rfl (lv_at hl 0 rfl) ?_
  refine lv_iload_n hx hb dX5_drop_1 rfl (lv_at hl 1 rfl) ?_
  refine r_callVi 0 rfl rfl (rest := []) ⟨hx, hb, hml, hown, hts⟩ hw [.int (p1)] (k5_noObject l D ty a cI ht0 s0 s1 a2 a3 a4 a5 a6 a7 a8 a9 s10 s11 s12 a13 a14 a15 a16 a17 a18 a19 a20 a21 s22 p1) (cwV 1 hts gX5_drop_X5_noObject rfl rfl rfl (by decide +kernel) ⟨Nat.le_of_ble_eq_true rfl, Nat.le_of_ble_eq_true rfl⟩) rfl hl.1 rfl (Nat.le_of_ble_eq_true rfl) dX5_drop_2 ⟨Nat.le_of_ble_eq_true rfl, Nat.le_of_ble_eq_true rfl⟩ (fun r w H locs hp hw => ?_)
  obtain ⟨rfl, rfl⟩ := hp
  refine lv_if_eq (tgt := 11) hx hb dX5_drop_5 (by decide) (fun c_5 => ?_) (fun c_5 => ?_)
  · obtain ⟨x, hxx, rfl⟩ := (no_in c_5 hob hob2)
    have hl0 := (hlk x hxx).1
    have hl1 := (hlk x hxx).2
    have hx60 : x < 60 := by omega
    refine lv_aload_n hx hb dX5_drop_11 rfl (lv_at hl 0 rfl) ?_
    refine r_get (C := RX5) (T := TX5) (v := .ref (a 17)) hx hb hts i5 hown hw 0 rfl rfl 17 (by decide) lk46 rfl dX5_drop_12 ?_
    refine lv_iload_n hx hb dX5_drop_15 rfl (lv_at hl 1 rfl) ?_
    refine r_ialdN (v := a17 x) hx hb hw 13 rfl ht0 x (by omega) (by decide) dX5_drop_16 rfl ?_
    refine lv_iconst (v := 2) hx hb dX5_drop_17 (by decide) ?_
    refine lv_icmp_ne (tgt := 24) hx hb dX5_drop_18 (by decide) (fun c_18 => ?_) (fun c_18 => ?_)
    · have hy := hlay x hxx c_18
      refine lv_aload_n hx hb dX5_drop_24 rfl (lv_at hl 0 rfl) ?_
      refine r_get (C := RX5) (T := TX5) (v := .ref (a 17)) hx hb hts i5 hown hw 0 rfl rfl 17 (by decide) lk46 rfl dX5_drop_25 ?_
      refine lv_iload_n hx hb dX5_drop_28 rfl (lv_at hl 1 rfl) ?_
      refine lv_iconst (v := 2) hx hb dX5_drop_29 (by decide) ?_
      refine r_iastN (ws' := MW a cI s0 s1 a2 a3 a4 a5 a6 a7 a8 a9 s10 s11 s12 a13 a14 a15 a16 (upd a17 x 2) a18 a19 a20 a21 s22) hx hb hw 13 rfl ht0 x (by omega) (by decide) (MW_u17 _) dX5_drop_30 (fun H locs hw => ?_)
      refine lv_aload_n hx hb dX5_drop_31 rfl (lv_at hl 0 rfl) ?_
      refine lv_iload_n hx hb dX5_drop_32 rfl (lv_at hl 1 rfl) ?_
      refine lv_aload_n hx hb dX5_drop_33 rfl (lv_at hl 0 rfl) ?_
      refine r_get (C := RX5) (T := TX5) (v := .ref (a 14)) hx hb hts i5 hown hw 0 rfl rfl 14 (by decide) lk37 rfl dX5_drop_34 ?_
      refine lv_iload_n hx hb dX5_drop_37 rfl (lv_at hl 1 rfl) ?_
      refine r_ialdN (v := a14 x) hx hb hw 10 rfl ht0 x (by omega) (by decide) dX5_drop_38 rfl ?_
      refine r_callVi 0 rfl rfl (rest := []) ⟨hx, hb, hml, hown, hts⟩ hw [.int (nI (x)), .int (a14 x)] (k5_goes l D ty a cI ht0 s0 s1 a2 a3 a4 a5 a6 a7 a8 a9 s10 s11 s12 a13 a14 a15 a16 (upd a17 x 2) a18 a19 a20 a21 s22 x (a14 x) (by omega) hl0 hl1 hy.1 (by have := hy.2; show (a14 x).toInt ≤ sB a19 (16 * x) (tn (a18 x)); omega) (by have := hsz x hxx; show 0 ≤ (a14 x).toInt; omega)) (cwV 2 hts gX5_drop_X5_goes rfl rfl rfl (by decide +kernel) ⟨Nat.le_of_ble_eq_true rfl, Nat.le_of_ble_eq_true rfl⟩) rfl hl.1 rfl (Nat.le_of_ble_eq_true rfl) dX5_drop_39 ⟨Nat.le_of_ble_eq_true rfl, Nat.le_of_ble_eq_true rfl⟩ (fun r w H locs hp hw => ?_)
      obtain ⟨rfl, rfl⟩ := hp
      have e9 : f5_drop a6 s12 a14 a17 a18 a19 a20 a21 (nI x) = ((f5_goes a6 a18 a19 a20 a21 x (a14 x)).1, (f5_goes a6 a18 a19 a20 a21 x (a14 x)).2.1, upd a17 x 2, (f5_goes a6 a18 a19 a20 a21 x (a14 x)).2.2.1, (f5_goes a6 a18 a19 a20 a21 x (a14 x)).2.2.2) := by unfold f5_drop; simp only [nI_clamp (show x < 2 ^ 31 by omega)]; rw [if_pos c_5, if_neg c_18]
      exact r_iret hx hb hr hlocks hw ⟨by rw [e9] <;> rfl, by rw [e9] <;> rfl⟩ dX5_drop_42
    · refine lv_bipush (v := (-103)) hx hb dX5_drop_21 (by decide) ?_
      have e9 : f5_drop a6 s12 a14 a17 a18 a19 a20 a21 (nI x) = ((-103), a6, a17, a18, a19) := by unfold f5_drop; simp only [nI_clamp (show x < 2 ^ 31 by omega)]; rw [if_pos c_5, if_pos c_18]
      exact r_iret hx hb hr hlocks hw ⟨by rw [e9] <;> rfl, by rw [e9] <;> rfl⟩ dX5_drop_23
  · refine lv_bipush (v := (-101)) hx hb dX5_drop_8 (by decide) ?_
    have e9 : f5_drop a6 s12 a14 a17 a18 a19 a20 a21 p1 = ((-101), a6, a17, a18, a19) := by unfold f5_drop; rw [if_neg c_5]
    exact r_iret hx hb hr hlocks hw ⟨by rw [e9] <;> rfl, by rw [e9] <;> rfl⟩ dX5_drop_10
def f5_back (s0 : Int32) (s1 : Int32) (a2 : Nat → Int32) (a4 : Nat → Int32) (a5 : Nat → Int32) (a6 : Nat → Int32) (a7 : Nat → Int32) (s10 : Int32) (s12 : Int32) (a13 : Nat → Int32) (a14 : Nat → Int32) (a15 : Nat → Int32) (a16 : Nat → Int32) (a17 : Nat → Int32) (p1 : Int32) (p2 : Int32) (p3 : Int32) (p4 : Int32) : Int32 × (Nat → Int32) × Int32 × (Nat → Int32) × (Nat → Int32) :=
  if (f5_noObject s12 p1) = 0 then (if (f5_noAccount p2) = 0 then (if (f5_in p4.toInt64 1 100) = 0 then ((-102), a6, s10, a16, a17)
      else if (a17 (tn p1)) = 1 then (if p3 = (f5_digestOf a14 a15 (tn p1)) then (if (f5_isCapped a7 s12 a13 a14 a17 (a13 (tn p1)) (a14 (tn p1))) = 0 then (if 0 ≤ (lg_cmp ((a6 (tn (p2))).toInt64) ((((f5_charged s0 s1 a2 a5 (a14 (tn p1))).toInt64) * ((f5_rent s0 s1 a2 a4).toInt64)) * (((p4 + s0) - (a16 (tn p1))).toInt64))) then (((((f5_charged s0 s1 a2 a5 (a14 (tn p1))).toInt64) * ((f5_rent s0 s1 a2 a4).toInt64)) * (((p4 + s0) - (a16 (tn p1))).toInt64)).toInt32, upd a6 (tn (p2)) ((a6 (tn (p2))) - (((((f5_charged s0 s1 a2 a5 (a14 (tn p1))).toInt64) * ((f5_rent s0 s1 a2 a4).toInt64)) * (((p4 + s0) - (a16 (tn p1))).toInt64)).toInt32)), s10 + (((((f5_charged s0 s1 a2 a5 (a14 (tn p1))).toInt64) * ((f5_rent s0 s1 a2 a4).toInt64)) * (((p4 + s0) - (a16 (tn p1))).toInt64)).toInt32), upd a16 (tn p1) (s0 + p4), upd a17 (tn p1) 0)
            else ((-106), a6, s10, a16, a17))
          else ((-105), a6, s10, a16, a17))
        else ((-104), a6, s10, a16, a17))
      else ((-103), a6, s10, a16, a17))
    else ((-101), a6, s10, a16, a17))
  else ((-101), a6, s10, a16, a17)
set_option maxHeartbeats 4000000 in
set_option maxRecDepth 100000 in
theorem k5_back (l : Launch) (D : va_G) (ty : List (ClassId × FieldType)) (a : Nat → Nat) (cI : ClassId) (ht0 : ty[0]? = some (cI, .int)) (s0 : Int32) (s1 : Int32) (a2 : Nat → Int32) (a3 : Nat → Int32) (a4 : Nat → Int32) (a5 : Nat → Int32) (a6 : Nat → Int32) (a7 : Nat → Int32) (a8 : Nat → Int32) (a9 : Nat → Int32) (s10 : Int32) (s11 : Int32) (s12 : Int32) (a13 : Nat → Int32) (a14 : Nat → Int32) (a15 : Nat → Int32) (a16 : Nat → Int32) (a17 : Nat → Int32) (a18 : Nat → Int32) (a19 : Nat → Int32) (a20 : Nat → Int32) (a21 : Nat → Int32) (s22 : Int32) (p1 : Int32) (p2 : Int32) (p3 : Int32) (p4 : Int32) (hob : s12 = nI (tn s12)) (hob2 : tn s12 ≤ 60) (he0 : s1 = nI (tn s1)) (he1 : tn s1 ≤ 10) (how : ∀ x, x < tn s12 → vp_in (a13 x) 6) : MetG l yX5_back wsX5_back { frames := 2, cells := 0, slots := 0, locals := 46 } D ty [.ref (a 0), .int (p1), .int (p2), .int (p3), .int (p4)] (MW a cI s0 s1 a2 a3 a4 a5 a6 a7 a8 a9 s10 s11 s12 a13 a14 a15 a16 a17 a18 a19 a20 a21 s22) (va_Qi (fun r w => r = (f5_back s0 s1 a2 a4 a5 a6 a7 s10 s12 a13 a14 a15 a16 a17 p1 p2 p3 p4).1 ∧ w = MW a cI s0 s1 a2 a3 a4 a5 ((f5_back s0 s1 a2 a4 a5 a6 a7 s10 s12 a13 a14 a15 a16 a17 p1 p2 p3 p4).2.1) a7 a8 a9 ((f5_back s0 s1 a2 a4 a5 a6 a7 s10 s12 a13 a14 a15 a16 a17 p1 p2 p3 p4).2.2.1) s11 s12 a13 a14 a15 ((f5_back s0 s1 a2 a4 a5 a6 a7 s10 s12 a13 a14 a15 a16 a17 p1 p2 p3 p4).2.2.2.1) ((f5_back s0 s1 a2 a4 a5 a6 a7 s10 s12 a13 a14 a15 a16 a17 p1 p2 p3 p4).2.2.2.2) a18 a19 a20 a21 s22)) 0 0 := by
  refine Met_start cX5_back 7 (some .int) (by decide) rfl (Nat.le_of_ble_eq_true rfl) ?_
  intro p e s m below meth c A ls hx hb hr hlocks hml hnm hts hown hw hl
  have hl : lv_has ls 7 [(0, .ref (a 0)), (1, .int (p1)), (2, .int (p2)), (3, .int (p3)), (4, .int (p4))] := hl
  have ci89 := hts (.constantLong RX5 89 (100)) (by decide +kernel)
  have i5 : ∀ w ∈ wsX50, w ∈ wsX5_back := fun _ h => List.mem_cons_of_mem _ (List.mem_append_right _ h)
  have lk46 := hts (.fieldLink RX5 46 "RentSizesModel" "state" "[I") (by decide +kernel)
  have lk34 := hts (.fieldLink RX5 34 "RentSizesModel" "owner" "[I") (by decide +kernel)
  have lk37 := hts (.fieldLink RX5 37 "RentSizesModel" "size" "[I") (by decide +kernel)
  have lk64 := hts (.fieldLink RX5 64 "RentSizesModel" "height" "I") (by decide +kernel)
  have lk43 := hts (.fieldLink RX5 43 "RentSizesModel" "paid" "[I") (by decide +kernel)
  have lk22 := hts (.fieldLink RX5 22 "RentSizesModel" "accountCoins" "[I") (by decide +kernel)
  have lk72 := hts (.fieldLink RX5 72 "RentSizesModel" "pool" "I") (by decide +kernel)
  refine lv_aload_n hx hb dX5_back_0 rfl (lv_at hl 0 rfl) ?_
  refine lv_iload_n hx hb dX5_back_1 rfl (lv_at hl 1 rfl) ?_
  refine r_callVi 0 rfl rfl (rest := []) ⟨hx, hb, hml, hown, hts⟩ hw [.int (p1)] (k5_noObject l D ty a cI ht0 s0 s1 a2 a3 a4 a5 a6 a7 a8 a9 s10 s11 s12 a13 a14 a15 a16 a17 a18 a19 a20 a21 s22 p1) (cwV 1 hts gX5_back_X5_noObject rfl rfl rfl (by decide +kernel) ⟨Nat.le_of_ble_eq_true rfl, Nat.le_of_ble_eq_true rfl⟩) rfl hl.1 rfl (Nat.le_of_ble_eq_true rfl) dX5_back_2 ⟨Nat.le_of_ble_eq_true rfl, Nat.le_of_ble_eq_true rfl⟩ (fun r w H locs hp hw => ?_)
  obtain ⟨rfl, rfl⟩ := hp
  refine lv_if_ne (tgt := 16) hx hb dX5_back_5 (by decide) (fun c_5 => ?_) (fun c_5 => ?_)
  · refine lv_bipush (v := (-101)) hx hb dX5_back_16 (by decide) ?_
    have e9 : f5_back s0 s1 a2 a4 a5 a6 a7 s10 s12 a13 a14 a15 a16 a17 p1 p2 p3 p4 = ((-101), a6, s10, a16, a17) := by unfold f5_back; rw [if_neg c_5]
    exact r_iret hx hb hr hlocks hw ⟨by rw [e9] <;> rfl, by rw [e9] <;> rfl⟩ dX5_back_18
  · refine lv_aload_n hx hb dX5_back_8 rfl (lv_at hl 0 rfl) ?_
    refine lv_iload_n hx hb dX5_back_9 rfl (lv_at hl 2 rfl) ?_
    refine r_callVi 0 rfl rfl (rest := []) ⟨hx, hb, hml, hown, hts⟩ hw [.int (p2)] (k5_noAccount l D ty a cI ht0 s0 s1 a2 a3 a4 a5 a6 a7 a8 a9 s10 s11 s12 a13 a14 a15 a16 a17 a18 a19 a20 a21 s22 p2) (cwV 1 hts gX5_back_X5_noAccount rfl rfl rfl (by decide +kernel) ⟨Nat.le_of_ble_eq_true rfl, Nat.le_of_ble_eq_true rfl⟩) rfl hl.1 rfl (Nat.le_of_ble_eq_true rfl) dX5_back_10 ⟨Nat.le_of_ble_eq_true rfl, Nat.le_of_ble_eq_true rfl⟩ (fun r w H locs hp hw => ?_)
    obtain ⟨rfl, rfl⟩ := hp
    refine lv_if_eq (tgt := 19) hx hb dX5_back_13 (by decide) (fun c_13 => ?_) (fun c_13 => ?_)
    · obtain ⟨x, hxx, rfl⟩ := (no_in c_5 hob hob2)
      have hv2 := na_in c_13
      have hx60 : x < 60 := by omega
      refine lv_iload hx hb dX5_back_19 (lv_at hl 4 rfl) ?_
      refine lv_i2l (v := p4.toInt64) hx hb dX5_back_21 rfl ?_
      refine lv_lconst (v := 1) hx hb dX5_back_22 (by decide) ?_
      refine lv_ldc2 (v := 100) hx hb hown ci89 dX5_back_23 ?_
      refine r_callSi (rest := []) ⟨hx, hb, hml, hown, hts⟩ hw [.long (p4.toInt64), .long (1), .long (100)] (k5_in l D ty a cI ht0 s0 s1 a2 a3 a4 a5 a6 a7 a8 a9 s10 s11 s12 a13 a14 a15 a16 a17 a18 a19 a20 a21 s22 p4.toInt64 1 100) (va_cwS 3 hts gX5_back_X5_in rfl rfl rfl (by decide +kernel) ⟨Nat.le_of_ble_eq_true rfl, Nat.le_of_ble_eq_true rfl⟩) rfl hl.1 rfl (Nat.le_of_ble_eq_true rfl) dX5_back_26 ⟨Nat.le_of_ble_eq_true rfl, Nat.le_of_ble_eq_true rfl⟩ (fun r w H locs hp hw => ?_)
      obtain ⟨rfl, rfl⟩ := hp
      refine lv_if_ne (tgt := 35) hx hb dX5_back_29 (by decide) (fun c_29 => ?_) (fun c_29 => ?_)
      · refine lv_aload_n hx hb dX5_back_35 rfl (lv_at hl 0 rfl) ?_
        refine r_get (C := RX5) (T := TX5) (v := .ref (a 17)) hx hb hts i5 hown hw 0 rfl rfl 17 (by decide) lk46 rfl dX5_back_36 ?_
        refine lv_iload_n hx hb dX5_back_39 rfl (lv_at hl 1 rfl) ?_
        refine r_ialdN (v := a17 x) hx hb hw 13 rfl ht0 x (by omega) (by decide) dX5_back_40 rfl ?_
        refine lv_iconst (v := 1) hx hb dX5_back_41 (by decide) ?_
        refine lv_icmp_eq (tgt := 48) hx hb dX5_back_42 (by decide) (fun c_42 => ?_) (fun c_42 => ?_)
        · refine lv_iload_n hx hb dX5_back_48 rfl (lv_at hl 3 rfl) ?_
          refine lv_aload_n hx hb dX5_back_49 rfl (lv_at hl 0 rfl) ?_
          refine lv_iload_n hx hb dX5_back_50 rfl (lv_at hl 1 rfl) ?_
          refine r_callVi 0 rfl rfl (rest := [.int (p3)]) ⟨hx, hb, hml, hown, hts⟩ hw [.int (nI (x))] (k5_digestOf l D ty a cI ht0 s0 s1 a2 a3 a4 a5 a6 a7 a8 a9 s10 s11 s12 a13 a14 a15 a16 a17 a18 a19 a20 a21 s22 x (by first | assumption | omega)) (cwV 1 hts gX5_back_X5_digestOf rfl rfl rfl (by decide +kernel) ⟨Nat.le_of_ble_eq_true rfl, Nat.le_of_ble_eq_true rfl⟩) rfl hl.1 rfl (Nat.le_of_ble_eq_true rfl) dX5_back_51 ⟨Nat.le_of_ble_eq_true rfl, Nat.le_of_ble_eq_true rfl⟩ (fun r w H locs hp hw => ?_)
          obtain ⟨rfl, rfl⟩ := hp
          refine lv_icmp_eq (tgt := 60) hx hb dX5_back_54 (by decide) (fun c_54 => ?_) (fun c_54 => ?_)
          · refine lv_aload_n hx hb dX5_back_60 rfl (lv_at hl 0 rfl) ?_
            refine lv_aload_n hx hb dX5_back_61 rfl (lv_at hl 0 rfl) ?_
            refine r_get (C := RX5) (T := TX5) (v := .ref (a 13)) hx hb hts i5 hown hw 0 rfl rfl 13 (by decide) lk34 rfl dX5_back_62 ?_
            refine lv_iload_n hx hb dX5_back_65 rfl (lv_at hl 1 rfl) ?_
            refine r_ialdN (v := a13 x) hx hb hw 9 rfl ht0 x (by omega) (by decide) dX5_back_66 rfl ?_
            refine lv_aload_n hx hb dX5_back_67 rfl (lv_at hl 0 rfl) ?_
            refine r_get (C := RX5) (T := TX5) (v := .ref (a 14)) hx hb hts i5 hown hw 0 rfl rfl 14 (by decide) lk37 rfl dX5_back_68 ?_
            refine lv_iload_n hx hb dX5_back_71 rfl (lv_at hl 1 rfl) ?_
            refine r_ialdN (v := a14 x) hx hb hw 10 rfl ht0 x (by omega) (by decide) dX5_back_72 rfl ?_
            refine r_callVi 0 rfl rfl (rest := []) ⟨hx, hb, hml, hown, hts⟩ hw [.int (a13 x), .int (a14 x)] (k5_isCapped l D ty a cI ht0 s0 s1 a2 a3 a4 a5 a6 a7 a8 a9 s10 s11 s12 a13 a14 a15 a16 a17 a18 a19 a20 a21 s22 (a13 x) (a14 x) hob hob2 (how x hxx)) (cwV 2 hts gX5_back_X5_isCapped rfl rfl rfl (by decide +kernel) ⟨Nat.le_of_ble_eq_true rfl, Nat.le_of_ble_eq_true rfl⟩) rfl hl.1 rfl (Nat.le_of_ble_eq_true rfl) dX5_back_73 ⟨Nat.le_of_ble_eq_true rfl, Nat.le_of_ble_eq_true rfl⟩ (fun r w H locs hp hw => ?_)
            obtain ⟨rfl, rfl⟩ := hp
            refine lv_if_eq (tgt := 82) hx hb dX5_back_76 (by decide) (fun c_76 => ?_) (fun c_76 => ?_)
            · refine lv_aload_n hx hb dX5_back_82 rfl (lv_at hl 0 rfl) ?_
              refine lv_aload_n hx hb dX5_back_83 rfl (lv_at hl 0 rfl) ?_
              refine r_get (C := RX5) (T := TX5) (v := .ref (a 14)) hx hb hts i5 hown hw 0 rfl rfl 14 (by decide) lk37 rfl dX5_back_84 ?_
              refine lv_iload_n hx hb dX5_back_87 rfl (lv_at hl 1 rfl) ?_
              refine r_ialdN (v := a14 x) hx hb hw 10 rfl ht0 x (by omega) (by decide) dX5_back_88 rfl ?_
              refine r_callVi 0 rfl rfl (rest := []) ⟨hx, hb, hml, hown, hts⟩ hw [.int (a14 x)] (k5_charged l D ty a cI ht0 s0 s1 a2 a3 a4 a5 a6 a7 a8 a9 s10 s11 s12 a13 a14 a15 a16 a17 a18 a19 a20 a21 s22 (a14 x) (by first | assumption | omega) (by first | assumption | omega)) (cwV 1 hts gX5_back_X5_charged rfl rfl rfl (by decide +kernel) ⟨Nat.le_of_ble_eq_true rfl, Nat.le_of_ble_eq_true rfl⟩) rfl hl.1 rfl (Nat.le_of_ble_eq_true rfl) dX5_back_89 ⟨Nat.le_of_ble_eq_true rfl, Nat.le_of_ble_eq_true rfl⟩ (fun r w H locs hp hw => ?_)
              obtain ⟨rfl, rfl⟩ := hp
              refine lv_i2l (v := (f5_charged s0 s1 a2 a5 (a14 x)).toInt64) hx hb dX5_back_92 rfl ?_
              refine lv_aload_n hx hb dX5_back_93 rfl (lv_at hl 0 rfl) ?_
              refine r_callVi 0 rfl rfl (rest := [.long ((f5_charged s0 s1 a2 a5 (a14 x)).toInt64)]) ⟨hx, hb, hml, hown, hts⟩ hw [] (k5_rent l D ty a cI ht0 s0 s1 a2 a3 a4 a5 a6 a7 a8 a9 s10 s11 s12 a13 a14 a15 a16 a17 a18 a19 a20 a21 s22 (by first | assumption | omega) (by first | assumption | omega)) (cwV 0 hts gX5_back_X5_rent rfl rfl rfl (by decide +kernel) ⟨Nat.le_of_ble_eq_true rfl, Nat.le_of_ble_eq_true rfl⟩) rfl hl.1 rfl (Nat.le_of_ble_eq_true rfl) dX5_back_94 ⟨Nat.le_of_ble_eq_true rfl, Nat.le_of_ble_eq_true rfl⟩ (fun r w H locs hp hw => ?_)
              obtain ⟨rfl, rfl⟩ := hp
              refine lv_i2l (v := (f5_rent s0 s1 a2 a4).toInt64) hx hb dX5_back_97 rfl ?_
              refine lv_lmul hx hb dX5_back_98 ?_
              refine lv_iload hx hb dX5_back_99 (lv_at hl 4 rfl) ?_
              refine lv_aload_n hx hb dX5_back_101 rfl (lv_at hl 0 rfl) ?_
              refine r_get (C := RX5) (T := TX5) (v := .int (s0)) hx hb hts i5 hown hw 0 rfl rfl 0 (by decide) lk64 rfl dX5_back_102 ?_
              refine lv_iadd hx hb dX5_back_105 ?_
              refine lv_aload_n hx hb dX5_back_106 rfl (lv_at hl 0 rfl) ?_
              refine r_get (C := RX5) (T := TX5) (v := .ref (a 16)) hx hb hts i5 hown hw 0 rfl rfl 16 (by decide) lk43 rfl dX5_back_107 ?_
              refine lv_iload_n hx hb dX5_back_110 rfl (lv_at hl 1 rfl) ?_
              refine r_ialdN (v := a16 x) hx hb hw 12 rfl ht0 x (by omega) (by decide) dX5_back_111 rfl ?_
              refine lv_isub hx hb dX5_back_112 ?_
              refine lv_i2l (v := ((p4 + s0) - (a16 x)).toInt64) hx hb dX5_back_113 rfl ?_
              refine lv_lmul hx hb dX5_back_114 ?_
              refine lv_lstore (lv' := [(5, .long ((((f5_charged s0 s1 a2 a5 (a14 x)).toInt64) * ((f5_rent s0 s1 a2 a4).toInt64)) * (((p4 + s0) - (a16 x)).toInt64))), (0, .ref (a 0)), (1, .int (nI (x))), (2, .int (p2)), (3, .int (p3)), (4, .int (p4))]) hx hb dX5_back_115 hl (by decide) rfl (fun ls hl => ?_)
              refine lv_aload_n hx hb dX5_back_117 rfl (lv_at hl 1 rfl) ?_
              refine r_get (C := RX5) (T := TX5) (v := .ref (a 6)) hx hb hts i5 hown hw 0 rfl rfl 6 (by decide) lk22 rfl dX5_back_118 ?_
              refine lv_iload_n hx hb dX5_back_121 rfl (lv_at hl 3 rfl) ?_
              refine r_iald (v := a6 (tn (p2))) hx hb hw 5 rfl ht0 (by first | assumption | exact vp_in_nI (by omega) (by omega)) dX5_back_122 rfl ?_
              refine lv_i2l (v := (a6 (tn (p2))).toInt64) hx hb dX5_back_123 rfl ?_
              refine lv_lload hx hb dX5_back_124 (lv_at hl 0 rfl) ?_
              refine W.lcmp hx hb dX5_back_126 ?_
              refine lv_if_ge (tgt := 133) hx hb dX5_back_127 (by decide) (fun c_127 => ?_) (fun c_127 => ?_)
              · refine lv_aload_n hx hb dX5_back_133 rfl (lv_at hl 1 rfl) ?_
                refine r_get (C := RX5) (T := TX5) (v := .ref (a 6)) hx hb hts i5 hown hw 0 rfl rfl 6 (by decide) lk22 rfl dX5_back_134 ?_
                refine lv_iload_n hx hb dX5_back_137 rfl (lv_at hl 3 rfl) ?_
                refine lv_dup2_11 hx hb dX5_back_138 rfl rfl ?_
                refine r_iald (v := a6 (tn (p2))) hx hb hw 5 rfl ht0 (by first | assumption | exact vp_in_nI (by omega) (by omega)) dX5_back_139 rfl ?_
                refine lv_lload hx hb dX5_back_140 (lv_at hl 0 rfl) ?_
                refine lv_l2i (v := ((((f5_charged s0 s1 a2 a5 (a14 x)).toInt64) * ((f5_rent s0 s1 a2 a4).toInt64)) * (((p4 + s0) - (a16 x)).toInt64)).toInt32) hx hb dX5_back_142 rfl ?_
                refine lv_isub hx hb dX5_back_143 ?_
                refine r_iast (ws' := MW a cI s0 s1 a2 a3 a4 a5 (upd a6 (tn (p2)) ((a6 (tn (p2))) - (((((f5_charged s0 s1 a2 a5 (a14 x)).toInt64) * ((f5_rent s0 s1 a2 a4).toInt64)) * (((p4 + s0) - (a16 x)).toInt64)).toInt32))) a7 a8 a9 s10 s11 s12 a13 a14 a15 a16 a17 a18 a19 a20 a21 s22) hx hb hw 5 rfl ht0 (by first | assumption | exact vp_in_nI (by omega) (by omega)) (MW_u6 _) dX5_back_144 (fun H locs hw => ?_)
                refine lv_aload_n hx hb dX5_back_145 rfl (lv_at hl 1 rfl) ?_
                refine lv_dup hx hb dX5_back_146 rfl ?_
                refine r_get (C := RX5) (T := TX5) (v := .int (s10)) hx hb hts i5 hown hw 0 rfl rfl 10 (by decide) lk72 rfl dX5_back_147 ?_
                refine lv_lload hx hb dX5_back_150 (lv_at hl 0 rfl) ?_
                refine lv_l2i (v := ((((f5_charged s0 s1 a2 a5 (a14 x)).toInt64) * ((f5_rent s0 s1 a2 a4).toInt64)) * (((p4 + s0) - (a16 x)).toInt64)).toInt32) hx hb dX5_back_152 rfl ?_
                refine lv_iadd hx hb dX5_back_153 ?_
                refine r_put (C := RX5) (T := TX5) (ws' := MW a cI s0 s1 a2 a3 a4 a5 (upd a6 (tn (p2)) ((a6 (tn (p2))) - (((((f5_charged s0 s1 a2 a5 (a14 x)).toInt64) * ((f5_rent s0 s1 a2 a4).toInt64)) * (((p4 + s0) - (a16 x)).toInt64)).toInt32))) a7 a8 a9 (s10 + (((((f5_charged s0 s1 a2 a5 (a14 x)).toInt64) * ((f5_rent s0 s1 a2 a4).toInt64)) * (((p4 + s0) - (a16 x)).toInt64)).toInt32)) s11 s12 a13 a14 a15 a16 a17 a18 a19 a20 a21 s22) hx hb hts i5 tyX5 tyX5_ok nmX5 hown hw 0 rfl rfl 10 (by decide) lk72 rfl (by decide +kernel) (Nat.le_of_ble_eq_true rfl) (MW_s10 _) dX5_back_154 (fun H locs hw => ?_)
                refine lv_aload_n hx hb dX5_back_157 rfl (lv_at hl 1 rfl) ?_
                refine r_get (C := RX5) (T := TX5) (v := .ref (a 16)) hx hb hts i5 hown hw 0 rfl rfl 16 (by decide) lk43 rfl dX5_back_158 ?_
                refine lv_iload_n hx hb dX5_back_161 rfl (lv_at hl 2 rfl) ?_
                refine lv_aload_n hx hb dX5_back_162 rfl (lv_at hl 1 rfl) ?_
                refine r_get (C := RX5) (T := TX5) (v := .int (s0)) hx hb hts i5 hown hw 0 rfl rfl 0 (by decide) lk64 rfl dX5_back_163 ?_
                refine lv_iload hx hb dX5_back_166 (lv_at hl 5 rfl) ?_
                refine lv_iadd hx hb dX5_back_168 ?_
                refine r_iastN (ws' := MW a cI s0 s1 a2 a3 a4 a5 (upd a6 (tn (p2)) ((a6 (tn (p2))) - (((((f5_charged s0 s1 a2 a5 (a14 x)).toInt64) * ((f5_rent s0 s1 a2 a4).toInt64)) * (((p4 + s0) - (a16 x)).toInt64)).toInt32))) a7 a8 a9 (s10 + (((((f5_charged s0 s1 a2 a5 (a14 x)).toInt64) * ((f5_rent s0 s1 a2 a4).toInt64)) * (((p4 + s0) - (a16 x)).toInt64)).toInt32)) s11 s12 a13 a14 a15 (upd a16 x (s0 + p4)) a17 a18 a19 a20 a21 s22) hx hb hw 12 rfl ht0 x (by omega) (by decide) (MW_u16 _) dX5_back_169 (fun H locs hw => ?_)
                refine lv_aload_n hx hb dX5_back_170 rfl (lv_at hl 1 rfl) ?_
                refine r_get (C := RX5) (T := TX5) (v := .ref (a 17)) hx hb hts i5 hown hw 0 rfl rfl 17 (by decide) lk46 rfl dX5_back_171 ?_
                refine lv_iload_n hx hb dX5_back_174 rfl (lv_at hl 2 rfl) ?_
                refine lv_iconst (v := 0) hx hb dX5_back_175 (by decide) ?_
                refine r_iastN (ws' := MW a cI s0 s1 a2 a3 a4 a5 (upd a6 (tn (p2)) ((a6 (tn (p2))) - (((((f5_charged s0 s1 a2 a5 (a14 x)).toInt64) * ((f5_rent s0 s1 a2 a4).toInt64)) * (((p4 + s0) - (a16 x)).toInt64)).toInt32))) a7 a8 a9 (s10 + (((((f5_charged s0 s1 a2 a5 (a14 x)).toInt64) * ((f5_rent s0 s1 a2 a4).toInt64)) * (((p4 + s0) - (a16 x)).toInt64)).toInt32)) s11 s12 a13 a14 a15 (upd a16 x (s0 + p4)) (upd a17 x 0) a18 a19 a20 a21 s22) hx hb hw 13 rfl ht0 x (by omega) (by decide) (MW_u17 _) dX5_back_176 (fun H locs hw => ?_)
                refine lv_lload hx hb dX5_back_177 (lv_at hl 0 rfl) ?_
                refine lv_l2i (v := ((((f5_charged s0 s1 a2 a5 (a14 x)).toInt64) * ((f5_rent s0 s1 a2 a4).toInt64)) * (((p4 + s0) - (a16 x)).toInt64)).toInt32) hx hb dX5_back_179 rfl ?_
                have e9 : f5_back s0 s1 a2 a4 a5 a6 a7 s10 s12 a13 a14 a15 a16 a17 (nI x) p2 p3 p4 = (((((f5_charged s0 s1 a2 a5 (a14 x)).toInt64) * ((f5_rent s0 s1 a2 a4).toInt64)) * (((p4 + s0) - (a16 x)).toInt64)).toInt32, upd a6 (tn (p2)) ((a6 (tn (p2))) - (((((f5_charged s0 s1 a2 a5 (a14 x)).toInt64) * ((f5_rent s0 s1 a2 a4).toInt64)) * (((p4 + s0) - (a16 x)).toInt64)).toInt32)), s10 + (((((f5_charged s0 s1 a2 a5 (a14 x)).toInt64) * ((f5_rent s0 s1 a2 a4).toInt64)) * (((p4 + s0) - (a16 x)).toInt64)).toInt32), upd a16 x (s0 + p4), upd a17 x 0) := by unfold f5_back; simp only [nI_clamp (show x < 2 ^ 31 by omega)]; rw [if_pos c_5, if_pos c_13, if_neg c_29, if_pos c_42, if_pos c_54, if_pos c_76, if_pos c_127]
                exact r_iret hx hb hr hlocks hw ⟨by rw [e9] <;> rfl, by rw [e9] <;> rfl⟩ dX5_back_180
              · refine lv_bipush (v := (-106)) hx hb dX5_back_130 (by decide) ?_
                have e9 : f5_back s0 s1 a2 a4 a5 a6 a7 s10 s12 a13 a14 a15 a16 a17 (nI x) p2 p3 p4 = ((-106), a6, s10, a16, a17) := by unfold f5_back; simp only [nI_clamp (show x < 2 ^ 31 by omega)]; rw [if_pos c_5, if_pos c_13, if_neg c_29, if_pos c_42, if_pos c_54, if_pos c_76, if_neg c_127]
                exact r_iret hx hb hr hlocks hw ⟨by rw [e9] <;> rfl, by rw [e9] <;> rfl⟩ dX5_back_132
            · refine lv_bipush (v := (-105)) hx hb dX5_back_79 (by decide) ?_
              have e9 : f5_back s0 s1 a2 a4 a5 a6 a7 s10 s12 a13 a14 a15 a16 a17 (nI x) p2 p3 p4 = ((-105), a6, s10, a16, a17) := by unfold f5_back; simp only [nI_clamp (show x < 2 ^ 31 by omega)]; rw [if_pos c_5, if_pos c_13, if_neg c_29, if_pos c_42, if_pos c_54, if_neg c_76]
              exact r_iret hx hb hr hlocks hw ⟨by rw [e9] <;> rfl, by rw [e9] <;> rfl⟩ dX5_back_81
          · refine lv_bipush (v := (-104)) hx hb dX5_back_57 (by decide) ?_
            have e9 : f5_back s0 s1 a2 a4 a5 a6 a7 s10 s12 a13 a14 a15 a16 a17 (nI x) p2 p3 p4 = ((-104), a6, s10, a16, a17) := by unfold f5_back; simp only [nI_clamp (show x < 2 ^ 31 by omega)]; rw [if_pos c_5, if_pos c_13, if_neg c_29, if_pos c_42, if_neg c_54]
            exact r_iret hx hb hr hlocks hw ⟨by rw [e9] <;> rfl, by rw [e9] <;> rfl⟩ dX5_back_59
        · refine lv_bipush (v := (-103)) hx hb dX5_back_45 (by decide) ?_
          have e9 : f5_back s0 s1 a2 a4 a5 a6 a7 s10 s12 a13 a14 a15 a16 a17 (nI x) p2 p3 p4 = ((-103), a6, s10, a16, a17) := by unfold f5_back; simp only [nI_clamp (show x < 2 ^ 31 by omega)]; rw [if_pos c_5, if_pos c_13, if_neg c_29, if_neg c_42]
          exact r_iret hx hb hr hlocks hw ⟨by rw [e9] <;> rfl, by rw [e9] <;> rfl⟩ dX5_back_47
      · refine lv_bipush (v := (-102)) hx hb dX5_back_32 (by decide) ?_
        have e9 : f5_back s0 s1 a2 a4 a5 a6 a7 s10 s12 a13 a14 a15 a16 a17 (nI x) p2 p3 p4 = ((-102), a6, s10, a16, a17) := by unfold f5_back; simp only [nI_clamp (show x < 2 ^ 31 by omega)]; rw [if_pos c_5, if_pos c_13, if_pos c_29]
        exact r_iret hx hb hr hlocks hw ⟨by rw [e9] <;> rfl, by rw [e9] <;> rfl⟩ dX5_back_34
    · refine lv_bipush (v := (-101)) hx hb dX5_back_16 (by decide) ?_
      have e9 : f5_back s0 s1 a2 a4 a5 a6 a7 s10 s12 a13 a14 a15 a16 a17 p1 p2 p3 p4 = ((-101), a6, s10, a16, a17) := by unfold f5_back; rw [if_pos c_5, if_neg c_13]
      exact r_iret hx hb hr hlocks hw ⟨by rw [e9] <;> rfl, by rw [e9] <;> rfl⟩ dX5_back_18
def f5_object (s0 : Int32) (s1 : Int32) (a2 : Nat → Int32) (a5 : Nat → Int32) (s12 : Int32) (a13 : Nat → Int32) (a14 : Nat → Int32) (a16 : Nat → Int32) (a17 : Nat → Int32) (a18 : Nat → Int32) (a19 : Nat → Int32) (a20 : Nat → Int32) (p1 : Int32) (p2 : Int32) : Int32 :=
  if (f5_noObject s12 p1) = 0 then (if p2 = 0 then a13 (tn p1)
    else if p2 = 1 then f5_sizeNow a14 a17 (tn p1)
    else if p2 = 2 then a16 (tn p1)
    else if p2 = 3 then a17 (tn p1)
    else if p2 = 4 then a18 (tn p1)
    else if p2 = 5 then f5_heldFor a18 a19 a20 (tn p1)
    else if p2 = 6 then (if (a17 (tn p1)) = 2 then 0
      else f5_charged s0 s1 a2 a5 (a14 (tn p1)))
    else (-102))
  else (-101)
set_option maxHeartbeats 4000000 in
set_option maxRecDepth 100000 in
theorem k5_object (l : Launch) (D : va_G) (ty : List (ClassId × FieldType)) (a : Nat → Nat) (cI : ClassId) (ht0 : ty[0]? = some (cI, .int)) (s0 : Int32) (s1 : Int32) (a2 : Nat → Int32) (a3 : Nat → Int32) (a4 : Nat → Int32) (a5 : Nat → Int32) (a6 : Nat → Int32) (a7 : Nat → Int32) (a8 : Nat → Int32) (a9 : Nat → Int32) (s10 : Int32) (s11 : Int32) (s12 : Int32) (a13 : Nat → Int32) (a14 : Nat → Int32) (a15 : Nat → Int32) (a16 : Nat → Int32) (a17 : Nat → Int32) (a18 : Nat → Int32) (a19 : Nat → Int32) (a20 : Nat → Int32) (a21 : Nat → Int32) (s22 : Int32) (p1 : Int32) (p2 : Int32) (hob : s12 = nI (tn s12)) (hob2 : tn s12 ≤ 60) (he0 : s1 = nI (tn s1)) (he1 : tn s1 ≤ 10) (hlk : ∀ x, x < tn s12 → a18 x = nI (tn (a18 x)) ∧ tn (a18 x) ≤ 16) : MetG l yX5_object wsX5_object { frames := 2, cells := 0, slots := 0, locals := 46 } D ty [.ref (a 0), .int (p1), .int (p2)] (MW a cI s0 s1 a2 a3 a4 a5 a6 a7 a8 a9 s10 s11 s12 a13 a14 a15 a16 a17 a18 a19 a20 a21 s22) (va_Qi (fun r w => r = f5_object s0 s1 a2 a5 s12 a13 a14 a16 a17 a18 a19 a20 p1 p2 ∧ w = MW a cI s0 s1 a2 a3 a4 a5 a6 a7 a8 a9 s10 s11 s12 a13 a14 a15 a16 a17 a18 a19 a20 a21 s22)) 0 0 := by
  refine Met_start cX5_object 3 (some .int) (by decide) rfl (Nat.le_of_ble_eq_true rfl) ?_
  intro p e s m below meth c A ls hx hb hr hlocks hml hnm hts hown hw hl
  have hl : lv_has ls 3 [(0, .ref (a 0)), (1, .int (p1)), (2, .int (p2))] := hl
  have i5 : ∀ w ∈ wsX50, w ∈ wsX5_object := fun _ h => List.mem_cons_of_mem _ (List.mem_append_right _ h)
  have lk34 := hts (.fieldLink RX5 34 "RentSizesModel" "owner" "[I") (by decide +kernel)
  have lk43 := hts (.fieldLink RX5 43 "RentSizesModel" "paid" "[I") (by decide +kernel)
  have lk46 := hts (.fieldLink RX5 46 "RentSizesModel" "state" "[I") (by decide +kernel)
  have lk49 := hts (.fieldLink RX5 49 "RentSizesModel" "layers" "[I") (by decide +kernel)
  have lk37 := hts (.fieldLink RX5 37 "RentSizesModel" "size" "[I") (by decide +kernel)
  refine lv_aload_n hx hb dX5_object_0 rfl (lv_at hl 0 rfl) ?_
  refine lv_iload_n hx hb dX5_object_1 rfl (lv_at hl 1 rfl) ?_
  refine r_callVi 0 rfl rfl (rest := []) ⟨hx, hb, hml, hown, hts⟩ hw [.int (p1)] (k5_noObject l D ty a cI ht0 s0 s1 a2 a3 a4 a5 a6 a7 a8 a9 s10 s11 s12 a13 a14 a15 a16 a17 a18 a19 a20 a21 s22 p1) (cwV 1 hts gX5_object_X5_noObject rfl rfl rfl (by decide +kernel) ⟨Nat.le_of_ble_eq_true rfl, Nat.le_of_ble_eq_true rfl⟩) rfl hl.1 rfl (Nat.le_of_ble_eq_true rfl) dX5_object_2 ⟨Nat.le_of_ble_eq_true rfl, Nat.le_of_ble_eq_true rfl⟩ (fun r w H locs hp hw => ?_)
  obtain ⟨rfl, rfl⟩ := hp
  refine lv_if_eq (tgt := 11) hx hb dX5_object_5 (by decide) (fun c_5 => ?_) (fun c_5 => ?_)
  · obtain ⟨x, hxx, rfl⟩ := (no_in c_5 hob hob2)
    have hl0 := (hlk x hxx).1
    have hl1 := (hlk x hxx).2
    have hx60 : x < 60 := by omega
    refine lv_iload_n hx hb dX5_object_11 rfl (lv_at hl 2 rfl) ?_
    by_cases c_12_0 : p2 = 0
    · refine lv_tableIn (off := 44) (tgt := 56) hx hb dX5_object_12 (by rw [c_12_0]; decide) (by rw [c_12_0]; decide) (by rw [c_12_0]; rfl) (by decide) ?_
      refine lv_aload_n hx hb dX5_object_56 rfl (lv_at hl 0 rfl) ?_
      refine r_get (C := RX5) (T := TX5) (v := .ref (a 13)) hx hb hts i5 hown hw 0 rfl rfl 13 (by decide) lk34 rfl dX5_object_57 ?_
      refine lv_iload_n hx hb dX5_object_60 rfl (lv_at hl 1 rfl) ?_
      refine r_ialdN (v := a13 x) hx hb hw 9 rfl ht0 x (by omega) (by decide) dX5_object_61 rfl ?_
      have e9 : f5_object s0 s1 a2 a5 s12 a13 a14 a16 a17 a18 a19 a20 (nI x) p2 = a13 x := by unfold f5_object; simp only [nI_clamp (show x < 2 ^ 31 by omega)]; rw [if_pos c_5, if_pos c_12_0]
      exact r_iret hx hb hr hlocks hw ⟨by rw [e9] <;> rfl, rfl⟩ dX5_object_62
    by_cases c_12_1 : p2 = 1
    · refine lv_tableIn (off := 51) (tgt := 63) hx hb dX5_object_12 (by rw [c_12_1]; decide) (by rw [c_12_1]; decide) (by rw [c_12_1]; rfl) (by decide) ?_
      refine lv_aload_n hx hb dX5_object_63 rfl (lv_at hl 0 rfl) ?_
      refine lv_iload_n hx hb dX5_object_64 rfl (lv_at hl 1 rfl) ?_
      refine r_callVi 0 rfl rfl (rest := []) ⟨hx, hb, hml, hown, hts⟩ hw [.int (nI (x))] (k5_sizeNow l D ty a cI ht0 s0 s1 a2 a3 a4 a5 a6 a7 a8 a9 s10 s11 s12 a13 a14 a15 a16 a17 a18 a19 a20 a21 s22 x (by first | assumption | omega)) (cwV 1 hts gX5_object_X5_sizeNow rfl rfl rfl (by decide +kernel) ⟨Nat.le_of_ble_eq_true rfl, Nat.le_of_ble_eq_true rfl⟩) rfl hl.1 rfl (Nat.le_of_ble_eq_true rfl) dX5_object_65 ⟨Nat.le_of_ble_eq_true rfl, Nat.le_of_ble_eq_true rfl⟩ (fun r w H locs hp hw => ?_)
      obtain ⟨rfl, rfl⟩ := hp
      have e9 : f5_object s0 s1 a2 a5 s12 a13 a14 a16 a17 a18 a19 a20 (nI x) p2 = f5_sizeNow a14 a17 x := by unfold f5_object; simp only [nI_clamp (show x < 2 ^ 31 by omega)]; rw [if_pos c_5, if_neg c_12_0, if_pos c_12_1]
      exact r_iret hx hb hr hlocks hw ⟨by rw [e9] <;> rfl, rfl⟩ dX5_object_68
    by_cases c_12_2 : p2 = 2
    · refine lv_tableIn (off := 57) (tgt := 69) hx hb dX5_object_12 (by rw [c_12_2]; decide) (by rw [c_12_2]; decide) (by rw [c_12_2]; rfl) (by decide) ?_
      refine lv_aload_n hx hb dX5_object_69 rfl (lv_at hl 0 rfl) ?_
      refine r_get (C := RX5) (T := TX5) (v := .ref (a 16)) hx hb hts i5 hown hw 0 rfl rfl 16 (by decide) lk43 rfl dX5_object_70 ?_
      refine lv_iload_n hx hb dX5_object_73 rfl (lv_at hl 1 rfl) ?_
      refine r_ialdN (v := a16 x) hx hb hw 12 rfl ht0 x (by omega) (by decide) dX5_object_74 rfl ?_
      have e9 : f5_object s0 s1 a2 a5 s12 a13 a14 a16 a17 a18 a19 a20 (nI x) p2 = a16 x := by unfold f5_object; simp only [nI_clamp (show x < 2 ^ 31 by omega)]; rw [if_pos c_5, if_neg c_12_0, if_neg c_12_1, if_pos c_12_2]
      exact r_iret hx hb hr hlocks hw ⟨by rw [e9] <;> rfl, rfl⟩ dX5_object_75
    by_cases c_12_3 : p2 = 3
    · refine lv_tableIn (off := 64) (tgt := 76) hx hb dX5_object_12 (by rw [c_12_3]; decide) (by rw [c_12_3]; decide) (by rw [c_12_3]; rfl) (by decide) ?_
      refine lv_aload_n hx hb dX5_object_76 rfl (lv_at hl 0 rfl) ?_
      refine r_get (C := RX5) (T := TX5) (v := .ref (a 17)) hx hb hts i5 hown hw 0 rfl rfl 17 (by decide) lk46 rfl dX5_object_77 ?_
      refine lv_iload_n hx hb dX5_object_80 rfl (lv_at hl 1 rfl) ?_
      refine r_ialdN (v := a17 x) hx hb hw 13 rfl ht0 x (by omega) (by decide) dX5_object_81 rfl ?_
      have e9 : f5_object s0 s1 a2 a5 s12 a13 a14 a16 a17 a18 a19 a20 (nI x) p2 = a17 x := by unfold f5_object; simp only [nI_clamp (show x < 2 ^ 31 by omega)]; rw [if_pos c_5, if_neg c_12_0, if_neg c_12_1, if_neg c_12_2, if_pos c_12_3]
      exact r_iret hx hb hr hlocks hw ⟨by rw [e9] <;> rfl, rfl⟩ dX5_object_82
    by_cases c_12_4 : p2 = 4
    · refine lv_tableIn (off := 71) (tgt := 83) hx hb dX5_object_12 (by rw [c_12_4]; decide) (by rw [c_12_4]; decide) (by rw [c_12_4]; rfl) (by decide) ?_
      refine lv_aload_n hx hb dX5_object_83 rfl (lv_at hl 0 rfl) ?_
      refine r_get (C := RX5) (T := TX5) (v := .ref (a 18)) hx hb hts i5 hown hw 0 rfl rfl 18 (by decide) lk49 rfl dX5_object_84 ?_
      refine lv_iload_n hx hb dX5_object_87 rfl (lv_at hl 1 rfl) ?_
      refine r_ialdN (v := a18 x) hx hb hw 14 rfl ht0 x (by omega) (by decide) dX5_object_88 rfl ?_
      have e9 : f5_object s0 s1 a2 a5 s12 a13 a14 a16 a17 a18 a19 a20 (nI x) p2 = a18 x := by unfold f5_object; simp only [nI_clamp (show x < 2 ^ 31 by omega)]; rw [if_pos c_5, if_neg c_12_0, if_neg c_12_1, if_neg c_12_2, if_neg c_12_3, if_pos c_12_4]
      exact r_iret hx hb hr hlocks hw ⟨by rw [e9] <;> rfl, rfl⟩ dX5_object_89
    by_cases c_12_5 : p2 = 5
    · refine lv_tableIn (off := 78) (tgt := 90) hx hb dX5_object_12 (by rw [c_12_5]; decide) (by rw [c_12_5]; decide) (by rw [c_12_5]; rfl) (by decide) ?_
      refine lv_aload_n hx hb dX5_object_90 rfl (lv_at hl 0 rfl) ?_
      refine lv_iload_n hx hb dX5_object_91 rfl (lv_at hl 1 rfl) ?_
      refine r_callVi 0 rfl rfl (rest := []) ⟨hx, hb, hml, hown, hts⟩ hw [.int (nI (x))] (k5_heldFor l D ty a cI ht0 s0 s1 a2 a3 a4 a5 a6 a7 a8 a9 s10 s11 s12 a13 a14 a15 a16 a17 a18 a19 a20 a21 s22 x (by first | assumption | omega) (by first | assumption | omega) (by first | assumption | omega)) (cwV 1 hts gX5_object_X5_heldFor rfl rfl rfl (by decide +kernel) ⟨Nat.le_of_ble_eq_true rfl, Nat.le_of_ble_eq_true rfl⟩) rfl hl.1 rfl (Nat.le_of_ble_eq_true rfl) dX5_object_92 ⟨Nat.le_of_ble_eq_true rfl, Nat.le_of_ble_eq_true rfl⟩ (fun r w H locs hp hw => ?_)
      obtain ⟨rfl, rfl⟩ := hp
      have e9 : f5_object s0 s1 a2 a5 s12 a13 a14 a16 a17 a18 a19 a20 (nI x) p2 = f5_heldFor a18 a19 a20 x := by unfold f5_object; simp only [nI_clamp (show x < 2 ^ 31 by omega)]; rw [if_pos c_5, if_neg c_12_0, if_neg c_12_1, if_neg c_12_2, if_neg c_12_3, if_neg c_12_4, if_pos c_12_5]
      exact r_iret hx hb hr hlocks hw ⟨by rw [e9] <;> rfl, rfl⟩ dX5_object_95
    by_cases c_12_6 : p2 = 6
    · refine lv_tableIn (off := 84) (tgt := 96) hx hb dX5_object_12 (by rw [c_12_6]; decide) (by rw [c_12_6]; decide) (by rw [c_12_6]; rfl) (by decide) ?_
      refine lv_aload_n hx hb dX5_object_96 rfl (lv_at hl 0 rfl) ?_
      refine r_get (C := RX5) (T := TX5) (v := .ref (a 17)) hx hb hts i5 hown hw 0 rfl rfl 17 (by decide) lk46 rfl dX5_object_97 ?_
      refine lv_iload_n hx hb dX5_object_100 rfl (lv_at hl 1 rfl) ?_
      refine r_ialdN (v := a17 x) hx hb hw 13 rfl ht0 x (by omega) (by decide) dX5_object_101 rfl ?_
      refine lv_iconst (v := 2) hx hb dX5_object_102 (by decide) ?_
      refine lv_icmp_ne (tgt := 110) hx hb dX5_object_103 (by decide) (fun c_103 => ?_) (fun c_103 => ?_)
      · refine lv_aload_n hx hb dX5_object_110 rfl (lv_at hl 0 rfl) ?_
        refine lv_aload_n hx hb dX5_object_111 rfl (lv_at hl 0 rfl) ?_
        refine r_get (C := RX5) (T := TX5) (v := .ref (a 14)) hx hb hts i5 hown hw 0 rfl rfl 14 (by decide) lk37 rfl dX5_object_112 ?_
        refine lv_iload_n hx hb dX5_object_115 rfl (lv_at hl 1 rfl) ?_
        refine r_ialdN (v := a14 x) hx hb hw 10 rfl ht0 x (by omega) (by decide) dX5_object_116 rfl ?_
        refine r_callVi 0 rfl rfl (rest := []) ⟨hx, hb, hml, hown, hts⟩ hw [.int (a14 x)] (k5_charged l D ty a cI ht0 s0 s1 a2 a3 a4 a5 a6 a7 a8 a9 s10 s11 s12 a13 a14 a15 a16 a17 a18 a19 a20 a21 s22 (a14 x) (by first | assumption | omega) (by first | assumption | omega)) (cwV 1 hts gX5_object_X5_charged rfl rfl rfl (by decide +kernel) ⟨Nat.le_of_ble_eq_true rfl, Nat.le_of_ble_eq_true rfl⟩) rfl hl.1 rfl (Nat.le_of_ble_eq_true rfl) dX5_object_117 ⟨Nat.le_of_ble_eq_true rfl, Nat.le_of_ble_eq_true rfl⟩ (fun r w H locs hp hw => ?_)
        obtain ⟨rfl, rfl⟩ := hp
        have e9 : f5_object s0 s1 a2 a5 s12 a13 a14 a16 a17 a18 a19 a20 (nI x) p2 = f5_charged s0 s1 a2 a5 (a14 x) := by unfold f5_object; simp only [nI_clamp (show x < 2 ^ 31 by omega)]; rw [if_pos c_5, if_neg c_12_0, if_neg c_12_1, if_neg c_12_2, if_neg c_12_3, if_neg c_12_4, if_neg c_12_5, if_pos c_12_6, if_neg c_103]
        exact r_iret hx hb hr hlocks hw ⟨by rw [e9] <;> rfl, rfl⟩ dX5_object_120
      · refine lv_iconst (v := 0) hx hb dX5_object_106 (by decide) ?_
        refine lv_goto (tgt := 120) hx hb dX5_object_107 (by decide) ?_
        have e9 : f5_object s0 s1 a2 a5 s12 a13 a14 a16 a17 a18 a19 a20 (nI x) p2 = 0 := by unfold f5_object; simp only [nI_clamp (show x < 2 ^ 31 by omega)]; rw [if_pos c_5, if_neg c_12_0, if_neg c_12_1, if_neg c_12_2, if_neg c_12_3, if_neg c_12_4, if_neg c_12_5, if_pos c_12_6, if_pos c_103]
        exact r_iret hx hb hr hlocks hw ⟨by rw [e9] <;> rfl, rfl⟩ dX5_object_120
    refine lv_tableOut (tgt := 121) hx hb dX5_object_12 (by have := lv_neT c_12_0 (show (0 : Int32).toInt = 0 from rfl); have := lv_neT c_12_1 (show (1 : Int32).toInt = 1 from rfl); have := lv_neT c_12_2 (show (2 : Int32).toInt = 2 from rfl); have := lv_neT c_12_3 (show (3 : Int32).toInt = 3 from rfl); have := lv_neT c_12_4 (show (4 : Int32).toInt = 4 from rfl); have := lv_neT c_12_5 (show (5 : Int32).toInt = 5 from rfl); have := lv_neT c_12_6 (show (6 : Int32).toInt = 6 from rfl); omega) (by decide) ?_
    refine lv_bipush (v := (-102)) hx hb dX5_object_121 (by decide) ?_
    have e9 : f5_object s0 s1 a2 a5 s12 a13 a14 a16 a17 a18 a19 a20 (nI x) p2 = (-102) := by unfold f5_object; simp only [nI_clamp (show x < 2 ^ 31 by omega)]; rw [if_pos c_5, if_neg c_12_0, if_neg c_12_1, if_neg c_12_2, if_neg c_12_3, if_neg c_12_4, if_neg c_12_5, if_neg c_12_6]
    exact r_iret hx hb hr hlocks hw ⟨by rw [e9] <;> rfl, rfl⟩ dX5_object_123
  · refine lv_bipush (v := (-101)) hx hb dX5_object_8 (by decide) ?_
    have e9 : f5_object s0 s1 a2 a5 s12 a13 a14 a16 a17 a18 a19 a20 p1 p2 = (-101) := by unfold f5_object; rw [if_neg c_5]
    exact r_iret hx hb hr hlocks hw ⟨by rw [e9] <;> rfl, rfl⟩ dX5_object_10
def f5_layer (s12 : Int32) (a18 : Nat → Int32) (a19 : Nat → Int32) (a20 : Nat → Int32) (a21 : Nat → Int32) (p1 : Int32) (p2 : Int32) (p3 : Int32) : Int32 :=
  if (f5_noObject s12 p1) = 0 then (if (f5_in p3.toInt64 0 2) = 0 then (-102)
    else if (f5_in p2.toInt64 0 (((nI (tn (a18 (tn p1)))) - 1).toInt64)) = 0 then (-109)
    else if p3 = 0 then a19 ((16 * (tn p1)) + (tn p2))
    else if p3 = 1 then a20 ((16 * (tn p1)) + (tn p2))
    else a21 ((16 * (tn p1)) + (tn p2)))
  else (-101)
set_option maxHeartbeats 4000000 in
set_option maxRecDepth 100000 in
theorem k5_layer (l : Launch) (D : va_G) (ty : List (ClassId × FieldType)) (a : Nat → Nat) (cI : ClassId) (ht0 : ty[0]? = some (cI, .int)) (s0 : Int32) (s1 : Int32) (a2 : Nat → Int32) (a3 : Nat → Int32) (a4 : Nat → Int32) (a5 : Nat → Int32) (a6 : Nat → Int32) (a7 : Nat → Int32) (a8 : Nat → Int32) (a9 : Nat → Int32) (s10 : Int32) (s11 : Int32) (s12 : Int32) (a13 : Nat → Int32) (a14 : Nat → Int32) (a15 : Nat → Int32) (a16 : Nat → Int32) (a17 : Nat → Int32) (a18 : Nat → Int32) (a19 : Nat → Int32) (a20 : Nat → Int32) (a21 : Nat → Int32) (s22 : Int32) (p1 : Int32) (p2 : Int32) (p3 : Int32) (hob : s12 = nI (tn s12)) (hob2 : tn s12 ≤ 60) (hlk : ∀ x, x < tn s12 → a18 x = nI (tn (a18 x)) ∧ tn (a18 x) ≤ 16) : MetG l yX5_layer wsX5_layer { frames := 2, cells := 0, slots := 0, locals := 46 } D ty [.ref (a 0), .int (p1), .int (p2), .int (p3)] (MW a cI s0 s1 a2 a3 a4 a5 a6 a7 a8 a9 s10 s11 s12 a13 a14 a15 a16 a17 a18 a19 a20 a21 s22) (va_Qi (fun r w => r = f5_layer s12 a18 a19 a20 a21 p1 p2 p3 ∧ w = MW a cI s0 s1 a2 a3 a4 a5 a6 a7 a8 a9 s10 s11 s12 a13 a14 a15 a16 a17 a18 a19 a20 a21 s22)) 0 0 := by
  refine Met_start cX5_layer 5 (some .int) (by decide) rfl (Nat.le_of_ble_eq_true rfl) ?_
  intro p e s m below meth c A ls hx hb hr hlocks hml hnm hts hown hw hl
  have hl : lv_has ls 5 [(0, .ref (a 0)), (1, .int (p1)), (2, .int (p2)), (3, .int (p3))] := hl
  have ci166 := hts (.constantLong RX5 166 (2)) (by decide +kernel)
  have i5 : ∀ w ∈ wsX50, w ∈ wsX5_layer := fun _ h => List.mem_cons_of_mem _ (List.mem_append_right _ h)
  have lk49 := hts (.fieldLink RX5 49 "RentSizesModel" "layers" "[I") (by decide +kernel)
  have lk58 := hts (.fieldLink RX5 58 "RentSizesModel" "layerFrom" "[I") (by decide +kernel)
  have lk55 := hts (.fieldLink RX5 55 "RentSizesModel" "layerPrice" "[I") (by decide +kernel)
  have lk52 := hts (.fieldLink RX5 52 "RentSizesModel" "layerBytes" "[I") (by decide +kernel)
  refine lv_aload_n hx hb dX5_layer_0 rfl (lv_at hl 0 rfl) ?_
  refine lv_iload_n hx hb dX5_layer_1 rfl (lv_at hl 1 rfl) ?_
  refine r_callVi 0 rfl rfl (rest := []) ⟨hx, hb, hml, hown, hts⟩ hw [.int (p1)] (k5_noObject l D ty a cI ht0 s0 s1 a2 a3 a4 a5 a6 a7 a8 a9 s10 s11 s12 a13 a14 a15 a16 a17 a18 a19 a20 a21 s22 p1) (cwV 1 hts gX5_layer_X5_noObject rfl rfl rfl (by decide +kernel) ⟨Nat.le_of_ble_eq_true rfl, Nat.le_of_ble_eq_true rfl⟩) rfl hl.1 rfl (Nat.le_of_ble_eq_true rfl) dX5_layer_2 ⟨Nat.le_of_ble_eq_true rfl, Nat.le_of_ble_eq_true rfl⟩ (fun r w H locs hp hw => ?_)
  obtain ⟨rfl, rfl⟩ := hp
  refine lv_if_eq (tgt := 11) hx hb dX5_layer_5 (by decide) (fun c_5 => ?_) (fun c_5 => ?_)
  · obtain ⟨x, hxx, rfl⟩ := (no_in c_5 hob hob2)
    have hl0 := (hlk x hxx).1
    have hl1 := (hlk x hxx).2
    have hx60 : x < 60 := by omega
    refine lv_iload_n hx hb dX5_layer_11 rfl (lv_at hl 3 rfl) ?_
    refine lv_i2l (v := p3.toInt64) hx hb dX5_layer_12 rfl ?_
    refine lv_lconst (v := 0) hx hb dX5_layer_13 (by decide) ?_
    refine lv_ldc2 (v := 2) hx hb hown ci166 dX5_layer_14 ?_
    refine r_callSi (rest := []) ⟨hx, hb, hml, hown, hts⟩ hw [.long (p3.toInt64), .long (0), .long (2)] (k5_in l D ty a cI ht0 s0 s1 a2 a3 a4 a5 a6 a7 a8 a9 s10 s11 s12 a13 a14 a15 a16 a17 a18 a19 a20 a21 s22 p3.toInt64 0 2) (va_cwS 3 hts gX5_layer_X5_in rfl rfl rfl (by decide +kernel) ⟨Nat.le_of_ble_eq_true rfl, Nat.le_of_ble_eq_true rfl⟩) rfl hl.1 rfl (Nat.le_of_ble_eq_true rfl) dX5_layer_17 ⟨Nat.le_of_ble_eq_true rfl, Nat.le_of_ble_eq_true rfl⟩ (fun r w H locs hp hw => ?_)
    obtain ⟨rfl, rfl⟩ := hp
    refine lv_if_ne (tgt := 26) hx hb dX5_layer_20 (by decide) (fun c_20 => ?_) (fun c_20 => ?_)
    · refine lv_iload_n hx hb dX5_layer_26 rfl (lv_at hl 2 rfl) ?_
      refine lv_i2l (v := p2.toInt64) hx hb dX5_layer_27 rfl ?_
      refine lv_lconst (v := 0) hx hb dX5_layer_28 (by decide) ?_
      refine lv_aload_n hx hb dX5_layer_29 rfl (lv_at hl 0 rfl) ?_
      refine r_get (C := RX5) (T := TX5) (v := .ref (a 18)) hx hb hts i5 hown hw 0 rfl rfl 18 (by decide) lk49 rfl dX5_layer_30 ?_
      refine lv_iload_n hx hb dX5_layer_33 rfl (lv_at hl 1 rfl) ?_
      refine r_ialdN (v := a18 x) hx hb hw 14 rfl ht0 x (by omega) (by decide) dX5_layer_34 rfl ?_
      refine r_top (nI (tn (a18 x))) hl0 ?_
      refine lv_iconst (v := 1) hx hb dX5_layer_35 (by decide) ?_
      refine lv_isub hx hb dX5_layer_36 ?_
      refine lv_i2l (v := ((nI (tn (a18 x))) - 1).toInt64) hx hb dX5_layer_37 rfl ?_
      refine r_callSi (rest := []) ⟨hx, hb, hml, hown, hts⟩ hw [.long (p2.toInt64), .long (0), .long (((nI (tn (a18 x))) - 1).toInt64)] (k5_in l D ty a cI ht0 s0 s1 a2 a3 a4 a5 a6 a7 a8 a9 s10 s11 s12 a13 a14 a15 a16 a17 a18 a19 a20 a21 s22 p2.toInt64 0 (((nI (tn (a18 x))) - 1).toInt64)) (va_cwS 3 hts gX5_layer_X5_in rfl rfl rfl (by decide +kernel) ⟨Nat.le_of_ble_eq_true rfl, Nat.le_of_ble_eq_true rfl⟩) rfl hl.1 rfl (Nat.le_of_ble_eq_true rfl) dX5_layer_38 ⟨Nat.le_of_ble_eq_true rfl, Nat.le_of_ble_eq_true rfl⟩ (fun r w H locs hp hw => ?_)
      obtain ⟨rfl, rfl⟩ := hp
      refine lv_if_ne (tgt := 47) hx hb dX5_layer_41 (by decide) (fun c_41 => ?_) (fun c_41 => ?_)
      · obtain ⟨y, hyy, rfl⟩ := (in_lay c_41 hl1)
        refine lv_bipush (v := 16) hx hb dX5_layer_47 (by decide) ?_
        refine lv_iload_n hx hb dX5_layer_49 rfl (lv_at hl 1 rfl) ?_
        refine lv_imul hx hb dX5_layer_50 ?_
        refine r_top (nI (16 * x)) (show nI (16) * nI (x) = nI (16 * x) from pk_mul _ _) ?_
        refine lv_iload_n hx hb dX5_layer_51 rfl (lv_at hl 2 rfl) ?_
        refine lv_iadd hx hb dX5_layer_52 ?_
        refine r_top (nI ((16 * x) + y)) (show nI (16 * x) + nI (y) = nI ((16 * x) + y) from nI_add _ _) ?_
        refine lv_istore (lv' := [(4, .int (nI ((16 * x) + y))), (0, .ref (a 0)), (1, .int (nI (x))), (2, .int (nI (y))), (3, .int (p3))]) hx hb dX5_layer_53 hl (by decide) rfl (fun ls hl => ?_)
        refine lv_iload_n hx hb dX5_layer_55 rfl (lv_at hl 4 rfl) ?_
        refine lv_if_ne (tgt := 69) hx hb dX5_layer_56 (by decide) (fun c_56 => ?_) (fun c_56 => ?_)
        · refine lv_iload_n hx hb dX5_layer_69 rfl (lv_at hl 4 rfl) ?_
          refine lv_iconst (v := 1) hx hb dX5_layer_70 (by decide) ?_
          refine lv_icmp_ne (tgt := 84) hx hb dX5_layer_71 (by decide) (fun c_71 => ?_) (fun c_71 => ?_)
          · refine lv_aload_n hx hb dX5_layer_84 rfl (lv_at hl 1 rfl) ?_
            refine r_get (C := RX5) (T := TX5) (v := .ref (a 21)) hx hb hts i5 hown hw 0 rfl rfl 21 (by decide) lk58 rfl dX5_layer_85 ?_
            refine lv_iload hx hb dX5_layer_88 (lv_at hl 0 rfl) ?_
            refine r_ialdN (v := a21 ((16 * x) + y)) hx hb hw 17 rfl ht0 ((16 * x) + y) (by omega) (by decide) dX5_layer_90 rfl ?_
            have e9 : f5_layer s12 a18 a19 a20 a21 (nI x) (nI y) p3 = a21 ((16 * x) + y) := by unfold f5_layer; simp only [nI_clamp (show x < 2 ^ 31 by omega), nI_clamp (show y < 2 ^ 31 by omega)]; rw [if_pos c_5, if_neg c_20, if_neg c_41, if_neg c_56, if_neg c_71]
            exact r_iret hx hb hr hlocks hw ⟨by rw [e9] <;> rfl, rfl⟩ dX5_layer_91
          · refine lv_aload_n hx hb dX5_layer_74 rfl (lv_at hl 1 rfl) ?_
            refine r_get (C := RX5) (T := TX5) (v := .ref (a 20)) hx hb hts i5 hown hw 0 rfl rfl 20 (by decide) lk55 rfl dX5_layer_75 ?_
            refine lv_iload hx hb dX5_layer_78 (lv_at hl 0 rfl) ?_
            refine r_ialdN (v := a20 ((16 * x) + y)) hx hb hw 16 rfl ht0 ((16 * x) + y) (by omega) (by decide) dX5_layer_80 rfl ?_
            refine lv_goto (tgt := 91) hx hb dX5_layer_81 (by decide) ?_
            have e9 : f5_layer s12 a18 a19 a20 a21 (nI x) (nI y) p3 = a20 ((16 * x) + y) := by unfold f5_layer; simp only [nI_clamp (show x < 2 ^ 31 by omega), nI_clamp (show y < 2 ^ 31 by omega)]; rw [if_pos c_5, if_neg c_20, if_neg c_41, if_neg c_56, if_pos c_71]
            exact r_iret hx hb hr hlocks hw ⟨by rw [e9] <;> rfl, rfl⟩ dX5_layer_91
        · refine lv_aload_n hx hb dX5_layer_59 rfl (lv_at hl 1 rfl) ?_
          refine r_get (C := RX5) (T := TX5) (v := .ref (a 19)) hx hb hts i5 hown hw 0 rfl rfl 19 (by decide) lk52 rfl dX5_layer_60 ?_
          refine lv_iload hx hb dX5_layer_63 (lv_at hl 0 rfl) ?_
          refine r_ialdN (v := a19 ((16 * x) + y)) hx hb hw 15 rfl ht0 ((16 * x) + y) (by omega) (by decide) dX5_layer_65 rfl ?_
          refine lv_goto (tgt := 91) hx hb dX5_layer_66 (by decide) ?_
          have e9 : f5_layer s12 a18 a19 a20 a21 (nI x) (nI y) p3 = a19 ((16 * x) + y) := by unfold f5_layer; simp only [nI_clamp (show x < 2 ^ 31 by omega), nI_clamp (show y < 2 ^ 31 by omega)]; rw [if_pos c_5, if_neg c_20, if_neg c_41, if_pos c_56]
          exact r_iret hx hb hr hlocks hw ⟨by rw [e9] <;> rfl, rfl⟩ dX5_layer_91
      · refine lv_bipush (v := (-109)) hx hb dX5_layer_44 (by decide) ?_
        have e9 : f5_layer s12 a18 a19 a20 a21 (nI x) p2 p3 = (-109) := by unfold f5_layer; simp only [nI_clamp (show x < 2 ^ 31 by omega)]; rw [if_pos c_5, if_neg c_20, if_pos c_41]
        exact r_iret hx hb hr hlocks hw ⟨by rw [e9] <;> rfl, rfl⟩ dX5_layer_46
    · refine lv_bipush (v := (-102)) hx hb dX5_layer_23 (by decide) ?_
      have e9 : f5_layer s12 a18 a19 a20 a21 (nI x) p2 p3 = (-102) := by unfold f5_layer; simp only [nI_clamp (show x < 2 ^ 31 by omega)]; rw [if_pos c_5, if_pos c_20]
      exact r_iret hx hb hr hlocks hw ⟨by rw [e9] <;> rfl, rfl⟩ dX5_layer_25
  · refine lv_bipush (v := (-101)) hx hb dX5_layer_8 (by decide) ?_
    have e9 : f5_layer s12 a18 a19 a20 a21 p1 p2 p3 = (-101) := by unfold f5_layer; rw [if_neg c_5]
    exact r_iret hx hb hr hlocks hw ⟨by rw [e9] <;> rfl, rfl⟩ dX5_layer_10
def f5_word (s12 : Int32) (a15 : Nat → Int32) (a17 : Nat → Int32) (p1 : Int32) (p2 : Int32) : Int32 :=
  if (f5_noObject s12 p1) = 0 then (if (f5_in p2.toInt64 0 3) = 0 then (-102)
    else if (a17 (tn p1)) = 0 then a15 ((4 * (tn p1)) + (tn p2))
    else (-103))
  else (-101)
set_option maxHeartbeats 4000000 in
set_option maxRecDepth 100000 in
theorem k5_word (l : Launch) (D : va_G) (ty : List (ClassId × FieldType)) (a : Nat → Nat) (cI : ClassId) (ht0 : ty[0]? = some (cI, .int)) (s0 : Int32) (s1 : Int32) (a2 : Nat → Int32) (a3 : Nat → Int32) (a4 : Nat → Int32) (a5 : Nat → Int32) (a6 : Nat → Int32) (a7 : Nat → Int32) (a8 : Nat → Int32) (a9 : Nat → Int32) (s10 : Int32) (s11 : Int32) (s12 : Int32) (a13 : Nat → Int32) (a14 : Nat → Int32) (a15 : Nat → Int32) (a16 : Nat → Int32) (a17 : Nat → Int32) (a18 : Nat → Int32) (a19 : Nat → Int32) (a20 : Nat → Int32) (a21 : Nat → Int32) (s22 : Int32) (p1 : Int32) (p2 : Int32) (hob : s12 = nI (tn s12)) (hob2 : tn s12 ≤ 60) : MetG l yX5_word wsX5_word { frames := 2, cells := 0, slots := 0, locals := 46 } D ty [.ref (a 0), .int (p1), .int (p2)] (MW a cI s0 s1 a2 a3 a4 a5 a6 a7 a8 a9 s10 s11 s12 a13 a14 a15 a16 a17 a18 a19 a20 a21 s22) (va_Qi (fun r w => r = f5_word s12 a15 a17 p1 p2 ∧ w = MW a cI s0 s1 a2 a3 a4 a5 a6 a7 a8 a9 s10 s11 s12 a13 a14 a15 a16 a17 a18 a19 a20 a21 s22)) 0 0 := by
  refine Met_start cX5_word 3 (some .int) (by decide) rfl (Nat.le_of_ble_eq_true rfl) ?_
  intro p e s m below meth c A ls hx hb hr hlocks hml hnm hts hown hw hl
  have hl : lv_has ls 3 [(0, .ref (a 0)), (1, .int (p1)), (2, .int (p2))] := hl
  have ci95 := hts (.constantLong RX5 95 (3)) (by decide +kernel)
  have i5 : ∀ w ∈ wsX50, w ∈ wsX5_word := fun _ h => List.mem_cons_of_mem _ (List.mem_append_right _ h)
  have lk46 := hts (.fieldLink RX5 46 "RentSizesModel" "state" "[I") (by decide +kernel)
  have lk40 := hts (.fieldLink RX5 40 "RentSizesModel" "words" "[I") (by decide +kernel)
  refine lv_aload_n hx hb dX5_word_0 rfl (lv_at hl 0 rfl) ?_
  refine lv_iload_n hx hb dX5_word_1 rfl (lv_at hl 1 rfl) ?_
  refine r_callVi 0 rfl rfl (rest := []) ⟨hx, hb, hml, hown, hts⟩ hw [.int (p1)] (k5_noObject l D ty a cI ht0 s0 s1 a2 a3 a4 a5 a6 a7 a8 a9 s10 s11 s12 a13 a14 a15 a16 a17 a18 a19 a20 a21 s22 p1) (cwV 1 hts gX5_word_X5_noObject rfl rfl rfl (by decide +kernel) ⟨Nat.le_of_ble_eq_true rfl, Nat.le_of_ble_eq_true rfl⟩) rfl hl.1 rfl (Nat.le_of_ble_eq_true rfl) dX5_word_2 ⟨Nat.le_of_ble_eq_true rfl, Nat.le_of_ble_eq_true rfl⟩ (fun r w H locs hp hw => ?_)
  obtain ⟨rfl, rfl⟩ := hp
  refine lv_if_eq (tgt := 11) hx hb dX5_word_5 (by decide) (fun c_5 => ?_) (fun c_5 => ?_)
  · obtain ⟨x, hxx, rfl⟩ := (no_in c_5 hob hob2)
    have hx60 : x < 60 := by omega
    refine lv_iload_n hx hb dX5_word_11 rfl (lv_at hl 2 rfl) ?_
    refine lv_i2l (v := p2.toInt64) hx hb dX5_word_12 rfl ?_
    refine lv_lconst (v := 0) hx hb dX5_word_13 (by decide) ?_
    refine lv_ldc2 (v := 3) hx hb hown ci95 dX5_word_14 ?_
    refine r_callSi (rest := []) ⟨hx, hb, hml, hown, hts⟩ hw [.long (p2.toInt64), .long (0), .long (3)] (k5_in l D ty a cI ht0 s0 s1 a2 a3 a4 a5 a6 a7 a8 a9 s10 s11 s12 a13 a14 a15 a16 a17 a18 a19 a20 a21 s22 p2.toInt64 0 3) (va_cwS 3 hts gX5_word_X5_in rfl rfl rfl (by decide +kernel) ⟨Nat.le_of_ble_eq_true rfl, Nat.le_of_ble_eq_true rfl⟩) rfl hl.1 rfl (Nat.le_of_ble_eq_true rfl) dX5_word_17 ⟨Nat.le_of_ble_eq_true rfl, Nat.le_of_ble_eq_true rfl⟩ (fun r w H locs hp hw => ?_)
    obtain ⟨rfl, rfl⟩ := hp
    refine lv_if_ne (tgt := 26) hx hb dX5_word_20 (by decide) (fun c_20 => ?_) (fun c_20 => ?_)
    · obtain ⟨y, hyy, rfl⟩ := (in_nat 0 3 c_20 rfl rfl)
      refine lv_aload_n hx hb dX5_word_26 rfl (lv_at hl 0 rfl) ?_
      refine r_get (C := RX5) (T := TX5) (v := .ref (a 17)) hx hb hts i5 hown hw 0 rfl rfl 17 (by decide) lk46 rfl dX5_word_27 ?_
      refine lv_iload_n hx hb dX5_word_30 rfl (lv_at hl 1 rfl) ?_
      refine r_ialdN (v := a17 x) hx hb hw 13 rfl ht0 x (by omega) (by decide) dX5_word_31 rfl ?_
      refine lv_if_ne (tgt := 48) hx hb dX5_word_32 (by decide) (fun c_32 => ?_) (fun c_32 => ?_)
      · refine lv_bipush (v := (-103)) hx hb dX5_word_48 (by decide) ?_
        have e9 : f5_word s12 a15 a17 (nI x) (nI y) = (-103) := by unfold f5_word; simp only [nI_clamp (show x < 2 ^ 31 by omega), nI_clamp (show y < 2 ^ 31 by omega)]; rw [if_pos c_5, if_neg c_20, if_neg c_32]
        exact r_iret hx hb hr hlocks hw ⟨by rw [e9] <;> rfl, rfl⟩ dX5_word_50
      · refine lv_aload_n hx hb dX5_word_35 rfl (lv_at hl 0 rfl) ?_
        refine r_get (C := RX5) (T := TX5) (v := .ref (a 15)) hx hb hts i5 hown hw 0 rfl rfl 15 (by decide) lk40 rfl dX5_word_36 ?_
        refine lv_iconst (v := 4) hx hb dX5_word_39 (by decide) ?_
        refine lv_iload_n hx hb dX5_word_40 rfl (lv_at hl 1 rfl) ?_
        refine lv_imul hx hb dX5_word_41 ?_
        refine r_top (nI (4 * x)) (show nI (4) * nI (x) = nI (4 * x) from pk_mul _ _) ?_
        refine lv_iload_n hx hb dX5_word_42 rfl (lv_at hl 2 rfl) ?_
        refine lv_iadd hx hb dX5_word_43 ?_
        refine r_top (nI ((4 * x) + y)) (show nI (4 * x) + nI (y) = nI ((4 * x) + y) from nI_add _ _) ?_
        refine r_ialdN (v := a15 ((4 * x) + y)) hx hb hw 11 rfl ht0 ((4 * x) + y) (by omega) (by decide) dX5_word_44 rfl ?_
        refine lv_goto (tgt := 50) hx hb dX5_word_45 (by decide) ?_
        have e9 : f5_word s12 a15 a17 (nI x) (nI y) = a15 ((4 * x) + y) := by unfold f5_word; simp only [nI_clamp (show x < 2 ^ 31 by omega), nI_clamp (show y < 2 ^ 31 by omega)]; rw [if_pos c_5, if_neg c_20, if_pos c_32]
        exact r_iret hx hb hr hlocks hw ⟨by rw [e9] <;> rfl, rfl⟩ dX5_word_50
    · refine lv_bipush (v := (-102)) hx hb dX5_word_23 (by decide) ?_
      have e9 : f5_word s12 a15 a17 (nI x) p2 = (-102) := by unfold f5_word; simp only [nI_clamp (show x < 2 ^ 31 by omega)]; rw [if_pos c_5, if_pos c_20]
      exact r_iret hx hb hr hlocks hw ⟨by rw [e9] <;> rfl, rfl⟩ dX5_word_25
  · refine lv_bipush (v := (-101)) hx hb dX5_word_8 (by decide) ?_
    have e9 : f5_word s12 a15 a17 p1 p2 = (-101) := by unfold f5_word; rw [if_neg c_5]
    exact r_iret hx hb hr hlocks hw ⟨by rw [e9] <;> rfl, rfl⟩ dX5_word_10
def f5_wouldGive (s12 : Int32) (a14 : Nat → Int32) (a17 : Nat → Int32) (a18 : Nat → Int32) (a19 : Nat → Int32) (a20 : Nat → Int32) (a21 : Nat → Int32) (p1 : Int32) (p2 : Int32) (p3 : Int32) : Int32 :=
  if (f5_noObject s12 p1) = 0 then (if (f5_noAccount p3) = 0 then (if (a17 (tn p1)) = 0 then (if (f5_in p2.toInt64 1 (((a14 (tn p1)) - 1).toInt64)) = 0 then (-102)
        else f5_gives a18 a19 a20 a21 (tn p1) p2 p3)
      else (-103))
    else (-101))
  else (-101)
set_option maxHeartbeats 4000000 in
set_option maxRecDepth 100000 in
theorem k5_wouldGive (l : Launch) (D : va_G) (ty : List (ClassId × FieldType)) (a : Nat → Nat) (cI : ClassId) (ht0 : ty[0]? = some (cI, .int)) (s0 : Int32) (s1 : Int32) (a2 : Nat → Int32) (a3 : Nat → Int32) (a4 : Nat → Int32) (a5 : Nat → Int32) (a6 : Nat → Int32) (a7 : Nat → Int32) (a8 : Nat → Int32) (a9 : Nat → Int32) (s10 : Int32) (s11 : Int32) (s12 : Int32) (a13 : Nat → Int32) (a14 : Nat → Int32) (a15 : Nat → Int32) (a16 : Nat → Int32) (a17 : Nat → Int32) (a18 : Nat → Int32) (a19 : Nat → Int32) (a20 : Nat → Int32) (a21 : Nat → Int32) (s22 : Int32) (p1 : Int32) (p2 : Int32) (p3 : Int32) (hob : s12 = nI (tn s12)) (hob2 : tn s12 ≤ 60) (hlk : ∀ x, x < tn s12 → a18 x = nI (tn (a18 x)) ∧ tn (a18 x) ≤ 16) : MetG l yX5_wouldGive wsX5_wouldGive { frames := 2, cells := 0, slots := 0, locals := 46 } D ty [.ref (a 0), .int (p1), .int (p2), .int (p3)] (MW a cI s0 s1 a2 a3 a4 a5 a6 a7 a8 a9 s10 s11 s12 a13 a14 a15 a16 a17 a18 a19 a20 a21 s22) (va_Qi (fun r w => r = f5_wouldGive s12 a14 a17 a18 a19 a20 a21 p1 p2 p3 ∧ w = MW a cI s0 s1 a2 a3 a4 a5 a6 a7 a8 a9 s10 s11 s12 a13 a14 a15 a16 a17 a18 a19 a20 a21 s22)) 0 0 := by
  refine Met_start cX5_wouldGive 4 (some .int) (by decide) rfl (Nat.le_of_ble_eq_true rfl) ?_
  intro p e s m below meth c A ls hx hb hr hlocks hml hnm hts hown hw hl
  have hl : lv_has ls 4 [(0, .ref (a 0)), (1, .int (p1)), (2, .int (p2)), (3, .int (p3))] := hl
  have i5 : ∀ w ∈ wsX50, w ∈ wsX5_wouldGive := fun _ h => List.mem_cons_of_mem _ (List.mem_append_right _ h)
  have lk46 := hts (.fieldLink RX5 46 "RentSizesModel" "state" "[I") (by decide +kernel)
  have lk37 := hts (.fieldLink RX5 37 "RentSizesModel" "size" "[I") (by decide +kernel)
  refine lv_aload_n hx hb dX5_wouldGive_0 rfl (lv_at hl 0 rfl) ?_
  refine lv_iload_n hx hb dX5_wouldGive_1 rfl (lv_at hl 1 rfl) ?_
  refine r_callVi 0 rfl rfl (rest := []) ⟨hx, hb, hml, hown, hts⟩ hw [.int (p1)] (k5_noObject l D ty a cI ht0 s0 s1 a2 a3 a4 a5 a6 a7 a8 a9 s10 s11 s12 a13 a14 a15 a16 a17 a18 a19 a20 a21 s22 p1) (cwV 1 hts gX5_wouldGive_X5_noObject rfl rfl rfl (by decide +kernel) ⟨Nat.le_of_ble_eq_true rfl, Nat.le_of_ble_eq_true rfl⟩) rfl hl.1 rfl (Nat.le_of_ble_eq_true rfl) dX5_wouldGive_2 ⟨Nat.le_of_ble_eq_true rfl, Nat.le_of_ble_eq_true rfl⟩ (fun r w H locs hp hw => ?_)
  obtain ⟨rfl, rfl⟩ := hp
  refine lv_if_ne (tgt := 16) hx hb dX5_wouldGive_5 (by decide) (fun c_5 => ?_) (fun c_5 => ?_)
  · refine lv_bipush (v := (-101)) hx hb dX5_wouldGive_16 (by decide) ?_
    have e9 : f5_wouldGive s12 a14 a17 a18 a19 a20 a21 p1 p2 p3 = (-101) := by unfold f5_wouldGive; rw [if_neg c_5]
    exact r_iret hx hb hr hlocks hw ⟨by rw [e9] <;> rfl, rfl⟩ dX5_wouldGive_18
  · refine lv_aload_n hx hb dX5_wouldGive_8 rfl (lv_at hl 0 rfl) ?_
    refine lv_iload_n hx hb dX5_wouldGive_9 rfl (lv_at hl 3 rfl) ?_
    refine r_callVi 0 rfl rfl (rest := []) ⟨hx, hb, hml, hown, hts⟩ hw [.int (p3)] (k5_noAccount l D ty a cI ht0 s0 s1 a2 a3 a4 a5 a6 a7 a8 a9 s10 s11 s12 a13 a14 a15 a16 a17 a18 a19 a20 a21 s22 p3) (cwV 1 hts gX5_wouldGive_X5_noAccount rfl rfl rfl (by decide +kernel) ⟨Nat.le_of_ble_eq_true rfl, Nat.le_of_ble_eq_true rfl⟩) rfl hl.1 rfl (Nat.le_of_ble_eq_true rfl) dX5_wouldGive_10 ⟨Nat.le_of_ble_eq_true rfl, Nat.le_of_ble_eq_true rfl⟩ (fun r w H locs hp hw => ?_)
    obtain ⟨rfl, rfl⟩ := hp
    refine lv_if_eq (tgt := 19) hx hb dX5_wouldGive_13 (by decide) (fun c_13 => ?_) (fun c_13 => ?_)
    · obtain ⟨x, hxx, rfl⟩ := (no_in c_5 hob hob2)
      have hl0 := (hlk x hxx).1
      have hl1 := (hlk x hxx).2
      have hx60 : x < 60 := by omega
      refine lv_aload_n hx hb dX5_wouldGive_19 rfl (lv_at hl 0 rfl) ?_
      refine r_get (C := RX5) (T := TX5) (v := .ref (a 17)) hx hb hts i5 hown hw 0 rfl rfl 17 (by decide) lk46 rfl dX5_wouldGive_20 ?_
      refine lv_iload_n hx hb dX5_wouldGive_23 rfl (lv_at hl 1 rfl) ?_
      refine r_ialdN (v := a17 x) hx hb hw 13 rfl ht0 x (by omega) (by decide) dX5_wouldGive_24 rfl ?_
      refine lv_if_eq (tgt := 31) hx hb dX5_wouldGive_25 (by decide) (fun c_25 => ?_) (fun c_25 => ?_)
      · refine lv_iload_n hx hb dX5_wouldGive_31 rfl (lv_at hl 2 rfl) ?_
        refine lv_i2l (v := p2.toInt64) hx hb dX5_wouldGive_32 rfl ?_
        refine lv_lconst (v := 1) hx hb dX5_wouldGive_33 (by decide) ?_
        refine lv_aload_n hx hb dX5_wouldGive_34 rfl (lv_at hl 0 rfl) ?_
        refine r_get (C := RX5) (T := TX5) (v := .ref (a 14)) hx hb hts i5 hown hw 0 rfl rfl 14 (by decide) lk37 rfl dX5_wouldGive_35 ?_
        refine lv_iload_n hx hb dX5_wouldGive_38 rfl (lv_at hl 1 rfl) ?_
        refine r_ialdN (v := a14 x) hx hb hw 10 rfl ht0 x (by omega) (by decide) dX5_wouldGive_39 rfl ?_
        refine lv_iconst (v := 1) hx hb dX5_wouldGive_40 (by decide) ?_
        refine lv_isub hx hb dX5_wouldGive_41 ?_
        refine lv_i2l (v := ((a14 x) - 1).toInt64) hx hb dX5_wouldGive_42 rfl ?_
        refine r_callSi (rest := []) ⟨hx, hb, hml, hown, hts⟩ hw [.long (p2.toInt64), .long (1), .long (((a14 x) - 1).toInt64)] (k5_in l D ty a cI ht0 s0 s1 a2 a3 a4 a5 a6 a7 a8 a9 s10 s11 s12 a13 a14 a15 a16 a17 a18 a19 a20 a21 s22 p2.toInt64 1 (((a14 x) - 1).toInt64)) (va_cwS 3 hts gX5_wouldGive_X5_in rfl rfl rfl (by decide +kernel) ⟨Nat.le_of_ble_eq_true rfl, Nat.le_of_ble_eq_true rfl⟩) rfl hl.1 rfl (Nat.le_of_ble_eq_true rfl) dX5_wouldGive_43 ⟨Nat.le_of_ble_eq_true rfl, Nat.le_of_ble_eq_true rfl⟩ (fun r w H locs hp hw => ?_)
        obtain ⟨rfl, rfl⟩ := hp
        refine lv_if_eq (tgt := 59) hx hb dX5_wouldGive_46 (by decide) (fun c_46 => ?_) (fun c_46 => ?_)
        · refine lv_bipush (v := (-102)) hx hb dX5_wouldGive_59 (by decide) ?_
          have e9 : f5_wouldGive s12 a14 a17 a18 a19 a20 a21 (nI x) p2 p3 = (-102) := by unfold f5_wouldGive; simp only [nI_clamp (show x < 2 ^ 31 by omega)]; rw [if_pos c_5, if_pos c_13, if_pos c_25, if_pos c_46]
          exact r_iret hx hb hr hlocks hw ⟨by rw [e9] <;> rfl, rfl⟩ dX5_wouldGive_61
        · refine lv_aload_n hx hb dX5_wouldGive_49 rfl (lv_at hl 0 rfl) ?_
          refine lv_iload_n hx hb dX5_wouldGive_50 rfl (lv_at hl 1 rfl) ?_
          refine lv_iload_n hx hb dX5_wouldGive_51 rfl (lv_at hl 2 rfl) ?_
          refine lv_iload_n hx hb dX5_wouldGive_52 rfl (lv_at hl 3 rfl) ?_
          refine r_callVi 0 rfl rfl (rest := []) ⟨hx, hb, hml, hown, hts⟩ hw [.int (nI (x)), .int (p2), .int (p3)] (k5_gives l D ty a cI ht0 s0 s1 a2 a3 a4 a5 a6 a7 a8 a9 s10 s11 s12 a13 a14 a15 a16 a17 a18 a19 a20 a21 s22 x p2 p3 (by first | assumption | omega) (by first | assumption | omega) (by first | assumption | omega)) (cwV 3 hts gX5_wouldGive_X5_gives rfl rfl rfl (by decide +kernel) ⟨Nat.le_of_ble_eq_true rfl, Nat.le_of_ble_eq_true rfl⟩) rfl hl.1 rfl (Nat.le_of_ble_eq_true rfl) dX5_wouldGive_53 ⟨Nat.le_of_ble_eq_true rfl, Nat.le_of_ble_eq_true rfl⟩ (fun r w H locs hp hw => ?_)
          obtain ⟨rfl, rfl⟩ := hp
          refine lv_goto (tgt := 61) hx hb dX5_wouldGive_56 (by decide) ?_
          have e9 : f5_wouldGive s12 a14 a17 a18 a19 a20 a21 (nI x) p2 p3 = f5_gives a18 a19 a20 a21 x p2 p3 := by unfold f5_wouldGive; simp only [nI_clamp (show x < 2 ^ 31 by omega)]; rw [if_pos c_5, if_pos c_13, if_pos c_25, if_neg c_46]
          exact r_iret hx hb hr hlocks hw ⟨by rw [e9] <;> rfl, rfl⟩ dX5_wouldGive_61
      · refine lv_bipush (v := (-103)) hx hb dX5_wouldGive_28 (by decide) ?_
        have e9 : f5_wouldGive s12 a14 a17 a18 a19 a20 a21 (nI x) p2 p3 = (-103) := by unfold f5_wouldGive; simp only [nI_clamp (show x < 2 ^ 31 by omega)]; rw [if_pos c_5, if_pos c_13, if_neg c_25]
        exact r_iret hx hb hr hlocks hw ⟨by rw [e9] <;> rfl, rfl⟩ dX5_wouldGive_30
    · refine lv_bipush (v := (-101)) hx hb dX5_wouldGive_16 (by decide) ?_
      have e9 : f5_wouldGive s12 a14 a17 a18 a19 a20 a21 p1 p2 p3 = (-101) := by unfold f5_wouldGive; rw [if_pos c_5, if_neg c_13]
      exact r_iret hx hb hr hlocks hw ⟨by rw [e9] <;> rfl, rfl⟩ dX5_wouldGive_18
def lf5_begin_42  : Nat → Nat → (Nat → Int32) → (Nat → Int32) → (Nat → Int32) × (Nat → Int32)
  | 0, _, f6, f7 => (f6, f7)
  | k + 1, j, f6, f7 => lf5_begin_42  k (j + 1) (upd f6 j 100000) (upd f7 j 1000)
set_option maxHeartbeats 4000000 in
set_option maxRecDepth 100000 in
theorem lt5_begin_42 (l : Launch) (D : va_G) (ty : List (ClassId × FieldType)) (a : Nat → Nat) (cI : ClassId) (ht0 : ty[0]? = some (cI, .int)) (s0 : Int32) (s1 : Int32) (a2 : Nat → Int32) (a3 : Nat → Int32) (a4 : Nat → Int32) (a5 : Nat → Int32) (a6 : Nat → Int32) (a7 : Nat → Int32) (a8 : Nat → Int32) (a9 : Nat → Int32) (s10 : Int32) (s11 : Int32) (s12 : Int32) (a13 : Nat → Int32) (a14 : Nat → Int32) (a15 : Nat → Int32) (a16 : Nat → Int32) (a17 : Nat → Int32) (a18 : Nat → Int32) (a19 : Nat → Int32) (a20 : Nat → Int32) (a21 : Nat → Int32) (s22 : Int32)  {p : Program} {e : Env} {s : State} {m : MethodId} {args : Array Value} {below : List Frame} {meth : Method} {c : Code} {A : Nat → Prop} {H0 : Heap} {Q : State → Prop} (hx : p.tables.exec = Jvm.exec) (hb : c.code = cX5_begin) (hml : c.maxLocals = 2) (hts : ∀ w ∈ wsX5_begin, w.before args s = true) (hown : s.vm.findClass RX5 = some m.cls) : ∀ (k j : Nat) (f6 : (Nat → Int32)) (f7 : (Nat → Int32)) (hj : j + k = 6) (H : Heap) (locs : List Loc) (ls : Array Slot) (hw : Wd D ty A H0 s (MW a cI 0 1 (upd a2 0 0) (upd a3 0 10) (upd a4 0 1) (upd a5 0 8) f6 f7 a8 a9 s10 s11 s12 a13 a14 a15 a16 a17 a18 a19 a20 a21 s22) H locs) (hl : lv_has ls 2 [(1, .int (nI (j))), (0, .ref (a 0))]) (kk : ∀ (H1 : Heap) (locs1 : List Loc) (ls1 : Array Slot), Wd D ty A H0 s (MW a cI 0 1 (upd a2 0 0) (upd a3 0 10) (upd a4 0 1) (upd a5 0 8) ((lf5_begin_42  k j f6 f7).1) ((lf5_begin_42  k j f6 f7).2) a8 a9 s10 s11 s12 a13 a14 a15 a16 a17 a18 a19 a20 a21 s22) H1 locs1 → lv_has ls1 2 [(1, .int (nI (6))), (0, .ref (a 0))] → W p l e ({ frames := 0, cells := 0, slots := 0, locals := 0 } : Room) s m args below meth c H1 locs1 0 0 Q (F0 m 71 ls1 [])), W p l e ({ frames := 0, cells := 0, slots := 0, locals := 0 } : Room) s m args below meth c H locs 0 0 Q (F0 m 42 ls []) := by
  have i5 : ∀ w ∈ wsX50, w ∈ wsX5_begin := fun _ h => List.mem_cons_of_mem _ (List.mem_append_right _ h)
  have lk22 := hts (.fieldLink RX5 22 "RentSizesModel" "accountCoins" "[I") (by decide +kernel)
  have ci71 := hts (.constant RX5 71 (100000)) (by decide +kernel)
  have lk25 := hts (.fieldLink RX5 25 "RentSizesModel" "caps" "[I") (by decide +kernel)
  intro k
  induction k with
  | zero =>
    intro j f6 f7 hj H locs ls hw hl kk
    have hj0 : j = 6 := by omega
    refine lv_iload_n hx hb dX5_begin_42 rfl (lv_at hl 0 rfl) ?_
    refine lv_bipush (v := 6) hx hb dX5_begin_43 (by decide) ?_
    refine r_top (nI 6) rfl ?_
    refine lv_icmp_ge (tgt := 71) hx hb dX5_begin_45 (by decide) (fun c_45 => ?_) (fun c_45 => ?_)
    · subst hj0
      exact kk _ _ _ hw (lv_sub hl [0, 1] rfl)
    · exact absurd (nI_le (by omega) (by omega)) c_45
  | succ k ih =>
    intro j f6 f7 hj H locs ls hw hl kk
    have hjb : j < 6 := by omega
    refine lv_iload_n hx hb dX5_begin_42 rfl (lv_at hl 0 rfl) ?_
    refine lv_bipush (v := 6) hx hb dX5_begin_43 (by decide) ?_
    refine r_top (nI 6) rfl ?_
    refine lv_icmp_ge (tgt := 71) hx hb dX5_begin_45 (by decide) (fun c_45 => ?_) (fun c_45 => ?_)
    · exact absurd c_45 (nI_ge (by omega) (by omega))
    · refine lv_aload_n hx hb dX5_begin_48 rfl (lv_at hl 1 rfl) ?_
      refine r_get (C := RX5) (T := TX5) (v := .ref (a 6)) hx hb hts i5 hown hw 0 rfl rfl 6 (by decide) lk22 rfl dX5_begin_49 ?_
      refine lv_iload_n hx hb dX5_begin_52 rfl (lv_at hl 0 rfl) ?_
      refine lv_ldc (v := 100000) hx hb hown ci71 dX5_begin_53 ?_
      refine r_iastN (ws' := MW a cI 0 1 (upd a2 0 0) (upd a3 0 10) (upd a4 0 1) (upd a5 0 8) (upd f6 j 100000) f7 a8 a9 s10 s11 s12 a13 a14 a15 a16 a17 a18 a19 a20 a21 s22) hx hb hw 5 rfl ht0 j (by omega) (by decide) (MW_u6 _) dX5_begin_55 (fun H locs hw => ?_)
      refine lv_aload_n hx hb dX5_begin_56 rfl (lv_at hl 1 rfl) ?_
      refine r_get (C := RX5) (T := TX5) (v := .ref (a 7)) hx hb hts i5 hown hw 0 rfl rfl 7 (by decide) lk25 rfl dX5_begin_57 ?_
      refine lv_iload_n hx hb dX5_begin_60 rfl (lv_at hl 0 rfl) ?_
      refine lv_sipush (v := 1000) hx hb dX5_begin_61 (by decide) ?_
      refine r_iastN (ws' := MW a cI 0 1 (upd a2 0 0) (upd a3 0 10) (upd a4 0 1) (upd a5 0 8) (upd f6 j 100000) (upd f7 j 1000) a8 a9 s10 s11 s12 a13 a14 a15 a16 a17 a18 a19 a20 a21 s22) hx hb hw 6 rfl ht0 j (by omega) (by decide) (MW_u7 _) dX5_begin_64 (fun H locs hw => ?_)
      refine lv_iinc (v := nI (j + 1)) (lv' := [(1, .int (nI (j + 1))), (0, .ref (a 0))]) hx hb dX5_begin_65 hl (k := 0) rfl (by show nI (j) + 1 = _; exact nI_1 _) (by decide) rfl (fun ls hl => ?_)
      refine lv_goto (tgt := 42) hx hb dX5_begin_68 (by decide) ?_
      have e9 : lf5_begin_42  (k + 1) j f6 f7 = lf5_begin_42  k (j + 1) (upd f6 j 100000) (upd f7 j 1000) := rfl
      rw [e9] at kk
      exact ih (j + 1) (upd f6 j 100000) (upd f7 j 1000) (by omega)  _ _ _ hw (lv_sub hl [0, 1] rfl) kk
def lf5_begin_73 (f6 : Nat → Int32) (f7 : Nat → Int32) : Nat → Nat → (Nat → Int32) → (Nat → Int32) → (Nat → Int32) × (Nat → Int32)
  | 0, _, f8, f9 => (f8, f9)
  | k + 1, j, f8, f9 => lf5_begin_73 f6 f7 k (j + 1) (upd f8 j 0) (upd f9 j 0)
set_option maxHeartbeats 4000000 in
set_option maxRecDepth 100000 in
theorem lt5_begin_73 (l : Launch) (D : va_G) (ty : List (ClassId × FieldType)) (a : Nat → Nat) (cI : ClassId) (ht0 : ty[0]? = some (cI, .int)) (s0 : Int32) (s1 : Int32) (a2 : Nat → Int32) (a3 : Nat → Int32) (a4 : Nat → Int32) (a5 : Nat → Int32) (a6 : Nat → Int32) (a7 : Nat → Int32) (a8 : Nat → Int32) (a9 : Nat → Int32) (s10 : Int32) (s11 : Int32) (s12 : Int32) (a13 : Nat → Int32) (a14 : Nat → Int32) (a15 : Nat → Int32) (a16 : Nat → Int32) (a17 : Nat → Int32) (a18 : Nat → Int32) (a19 : Nat → Int32) (a20 : Nat → Int32) (a21 : Nat → Int32) (s22 : Int32) (f6 : Nat → Int32) (f7 : Nat → Int32) {p : Program} {e : Env} {s : State} {m : MethodId} {args : Array Value} {below : List Frame} {meth : Method} {c : Code} {A : Nat → Prop} {H0 : Heap} {Q : State → Prop} (hx : p.tables.exec = Jvm.exec) (hb : c.code = cX5_begin) (hml : c.maxLocals = 2) (hts : ∀ w ∈ wsX5_begin, w.before args s = true) (hown : s.vm.findClass RX5 = some m.cls) : ∀ (k j : Nat) (f8 : (Nat → Int32)) (f9 : (Nat → Int32)) (hj : j + k = 5) (H : Heap) (locs : List Loc) (ls : Array Slot) (hw : Wd D ty A H0 s (MW a cI 0 1 (upd a2 0 0) (upd a3 0 10) (upd a4 0 1) (upd a5 0 8) f6 f7 f8 f9 s10 s11 s12 a13 a14 a15 a16 a17 a18 a19 a20 a21 s22) H locs) (hl : lv_has ls 2 [(1, .int (nI (j))), (0, .ref (a 0))]) (kk : ∀ (H1 : Heap) (locs1 : List Loc) (ls1 : Array Slot), Wd D ty A H0 s (MW a cI 0 1 (upd a2 0 0) (upd a3 0 10) (upd a4 0 1) (upd a5 0 8) f6 f7 ((lf5_begin_73 f6 f7 k j f8 f9).1) ((lf5_begin_73 f6 f7 k j f8 f9).2) s10 s11 s12 a13 a14 a15 a16 a17 a18 a19 a20 a21 s22) H1 locs1 → lv_has ls1 2 [(1, .int (nI (5))), (0, .ref (a 0))] → W p l e ({ frames := 0, cells := 0, slots := 0, locals := 0 } : Room) s m args below meth c H1 locs1 0 0 Q (F0 m 98 ls1 [])), W p l e ({ frames := 0, cells := 0, slots := 0, locals := 0 } : Room) s m args below meth c H locs 0 0 Q (F0 m 73 ls []) := by
  have i5 : ∀ w ∈ wsX50, w ∈ wsX5_begin := fun _ h => List.mem_cons_of_mem _ (List.mem_append_right _ h)
  have lk28 := hts (.fieldLink RX5 28 "RentSizesModel" "nodeCoins" "[I") (by decide +kernel)
  have lk31 := hts (.fieldLink RX5 31 "RentSizesModel" "weights" "[I") (by decide +kernel)
  intro k
  induction k with
  | zero =>
    intro j f8 f9 hj H locs ls hw hl kk
    have hj0 : j = 5 := by omega
    refine lv_iload_n hx hb dX5_begin_73 rfl (lv_at hl 0 rfl) ?_
    refine lv_iconst (v := 5) hx hb dX5_begin_74 (by decide) ?_
    refine r_top (nI 5) rfl ?_
    refine lv_icmp_ge (tgt := 98) hx hb dX5_begin_75 (by decide) (fun c_75 => ?_) (fun c_75 => ?_)
    · subst hj0
      exact kk _ _ _ hw (lv_sub hl [0, 1] rfl)
    · exact absurd (nI_le (by omega) (by omega)) c_75
  | succ k ih =>
    intro j f8 f9 hj H locs ls hw hl kk
    have hjb : j < 5 := by omega
    refine lv_iload_n hx hb dX5_begin_73 rfl (lv_at hl 0 rfl) ?_
    refine lv_iconst (v := 5) hx hb dX5_begin_74 (by decide) ?_
    refine r_top (nI 5) rfl ?_
    refine lv_icmp_ge (tgt := 98) hx hb dX5_begin_75 (by decide) (fun c_75 => ?_) (fun c_75 => ?_)
    · exact absurd c_75 (nI_ge (by omega) (by omega))
    · refine lv_aload_n hx hb dX5_begin_78 rfl (lv_at hl 1 rfl) ?_
      refine r_get (C := RX5) (T := TX5) (v := .ref (a 8)) hx hb hts i5 hown hw 0 rfl rfl 8 (by decide) lk28 rfl dX5_begin_79 ?_
      refine lv_iload_n hx hb dX5_begin_82 rfl (lv_at hl 0 rfl) ?_
      refine lv_iconst (v := 0) hx hb dX5_begin_83 (by decide) ?_
      refine r_iastN (ws' := MW a cI 0 1 (upd a2 0 0) (upd a3 0 10) (upd a4 0 1) (upd a5 0 8) f6 f7 (upd f8 j 0) f9 s10 s11 s12 a13 a14 a15 a16 a17 a18 a19 a20 a21 s22) hx hb hw 7 rfl ht0 j (by omega) (by decide) (MW_u8 _) dX5_begin_84 (fun H locs hw => ?_)
      refine lv_aload_n hx hb dX5_begin_85 rfl (lv_at hl 1 rfl) ?_
      refine r_get (C := RX5) (T := TX5) (v := .ref (a 9)) hx hb hts i5 hown hw 0 rfl rfl 9 (by decide) lk31 rfl dX5_begin_86 ?_
      refine lv_iload_n hx hb dX5_begin_89 rfl (lv_at hl 0 rfl) ?_
      refine lv_iconst (v := 0) hx hb dX5_begin_90 (by decide) ?_
      refine r_iastN (ws' := MW a cI 0 1 (upd a2 0 0) (upd a3 0 10) (upd a4 0 1) (upd a5 0 8) f6 f7 (upd f8 j 0) (upd f9 j 0) s10 s11 s12 a13 a14 a15 a16 a17 a18 a19 a20 a21 s22) hx hb hw 8 rfl ht0 j (by omega) (by decide) (MW_u9 _) dX5_begin_91 (fun H locs hw => ?_)
      refine lv_iinc (v := nI (j + 1)) (lv' := [(1, .int (nI (j + 1))), (0, .ref (a 0))]) hx hb dX5_begin_92 hl (k := 0) rfl (by show nI (j) + 1 = _; exact nI_1 _) (by decide) rfl (fun ls hl => ?_)
      refine lv_goto (tgt := 73) hx hb dX5_begin_95 (by decide) ?_
      have e9 : lf5_begin_73 f6 f7 (k + 1) j f8 f9 = lf5_begin_73 f6 f7 k (j + 1) (upd f8 j 0) (upd f9 j 0) := rfl
      rw [e9] at kk
      exact ih (j + 1) (upd f8 j 0) (upd f9 j 0) (by omega)  _ _ _ hw (lv_sub hl [0, 1] rfl) kk
def f5_begin (a2 : Nat → Int32) (a3 : Nat → Int32) (a4 : Nat → Int32) (a5 : Nat → Int32) (a6 : Nat → Int32) (a7 : Nat → Int32) (a8 : Nat → Int32) (a9 : Nat → Int32) : Int32 × Int32 × (Nat → Int32) × (Nat → Int32) × (Nat → Int32) × (Nat → Int32) × (Nat → Int32) × (Nat → Int32) × (Nat → Int32) × (Nat → Int32) × Int32 × Int32 × Int32 :=
  (0, 1, upd a2 0 0, upd a3 0 10, upd a4 0 1, upd a5 0 8, (lf5_begin_42  6 0 a6 a7).1, (lf5_begin_42  6 0 a6 a7).2, (lf5_begin_73  ((lf5_begin_42  6 0 a6 a7).1) ((lf5_begin_42  6 0 a6 a7).2) 5 0 a8 a9).1, (lf5_begin_73  ((lf5_begin_42  6 0 a6 a7).1) ((lf5_begin_42  6 0 a6 a7).2) 5 0 a8 a9).2, 0, 0, 0)
set_option maxHeartbeats 4000000 in
set_option maxRecDepth 100000 in
theorem k5_begin (l : Launch) (D : va_G) (ty : List (ClassId × FieldType)) (a : Nat → Nat) (cI : ClassId) (ht0 : ty[0]? = some (cI, .int)) (s0 : Int32) (s1 : Int32) (a2 : Nat → Int32) (a3 : Nat → Int32) (a4 : Nat → Int32) (a5 : Nat → Int32) (a6 : Nat → Int32) (a7 : Nat → Int32) (a8 : Nat → Int32) (a9 : Nat → Int32) (s10 : Int32) (s11 : Int32) (s12 : Int32) (a13 : Nat → Int32) (a14 : Nat → Int32) (a15 : Nat → Int32) (a16 : Nat → Int32) (a17 : Nat → Int32) (a18 : Nat → Int32) (a19 : Nat → Int32) (a20 : Nat → Int32) (a21 : Nat → Int32) (s22 : Int32) : MetG l yX5_begin wsX5_begin { frames := 0, cells := 0, slots := 0, locals := 0 } D ty [.ref (a 0)] (MW a cI s0 s1 a2 a3 a4 a5 a6 a7 a8 a9 s10 s11 s12 a13 a14 a15 a16 a17 a18 a19 a20 a21 s22) (va_Qv (fun w => w = MW a cI (f5_begin a2 a3 a4 a5 a6 a7 a8 a9).1 (f5_begin a2 a3 a4 a5 a6 a7 a8 a9).2.1 (f5_begin a2 a3 a4 a5 a6 a7 a8 a9).2.2.1 (f5_begin a2 a3 a4 a5 a6 a7 a8 a9).2.2.2.1 (f5_begin a2 a3 a4 a5 a6 a7 a8 a9).2.2.2.2.1 (f5_begin a2 a3 a4 a5 a6 a7 a8 a9).2.2.2.2.2.1 (f5_begin a2 a3 a4 a5 a6 a7 a8 a9).2.2.2.2.2.2.1 (f5_begin a2 a3 a4 a5 a6 a7 a8 a9).2.2.2.2.2.2.2.1 (f5_begin a2 a3 a4 a5 a6 a7 a8 a9).2.2.2.2.2.2.2.2.1 (f5_begin a2 a3 a4 a5 a6 a7 a8 a9).2.2.2.2.2.2.2.2.2.1 (f5_begin a2 a3 a4 a5 a6 a7 a8 a9).2.2.2.2.2.2.2.2.2.2.1 (f5_begin a2 a3 a4 a5 a6 a7 a8 a9).2.2.2.2.2.2.2.2.2.2.2.1 (f5_begin a2 a3 a4 a5 a6 a7 a8 a9).2.2.2.2.2.2.2.2.2.2.2.2 a13 a14 a15 a16 a17 a18 a19 a20 a21 s22)) 0 0 := by
  refine Met_start cX5_begin 2 none (by decide) rfl (Nat.le_of_ble_eq_true rfl) ?_
  intro p e s m below meth c A ls hx hb hr hlocks hml hnm hts hown hw hl
  have hl : lv_has ls 2 [(0, .ref (a 0))] := hl
  have i5 : ∀ w ∈ wsX50, w ∈ wsX5_begin := fun _ h => List.mem_cons_of_mem _ (List.mem_append_right _ h)
  have lk64 := hts (.fieldLink RX5 64 "RentSizesModel" "height" "I") (by decide +kernel)
  have lk68 := hts (.fieldLink RX5 68 "RentSizesModel" "editions" "I") (by decide +kernel)
  have lk7 := hts (.fieldLink RX5 7 "RentSizesModel" "eFrom" "[I") (by decide +kernel)
  have lk13 := hts (.fieldLink RX5 13 "RentSizesModel" "ePrice" "[I") (by decide +kernel)
  have lk16 := hts (.fieldLink RX5 16 "RentSizesModel" "eRent" "[I") (by decide +kernel)
  have lk19 := hts (.fieldLink RX5 19 "RentSizesModel" "eLeast" "[I") (by decide +kernel)
  have lk72 := hts (.fieldLink RX5 72 "RentSizesModel" "pool" "I") (by decide +kernel)
  have lk75 := hts (.fieldLink RX5 75 "RentSizesModel" "paidOut" "I") (by decide +kernel)
  have lk78 := hts (.fieldLink RX5 78 "RentSizesModel" "objects" "I") (by decide +kernel)
  refine lv_aload_n hx hb dX5_begin_0 rfl (lv_at hl 0 rfl) ?_
  refine lv_iconst (v := 0) hx hb dX5_begin_1 (by decide) ?_
  refine r_put (C := RX5) (T := TX5) (ws' := MW a cI 0 s1 a2 a3 a4 a5 a6 a7 a8 a9 s10 s11 s12 a13 a14 a15 a16 a17 a18 a19 a20 a21 s22) hx hb hts i5 tyX5 tyX5_ok nmX5 hown hw 0 rfl rfl 0 (by decide) lk64 rfl (by decide +kernel) (Nat.le_of_ble_eq_true rfl) (MW_s0 _) dX5_begin_2 (fun H locs hw => ?_)
  refine lv_aload_n hx hb dX5_begin_5 rfl (lv_at hl 0 rfl) ?_
  refine lv_iconst (v := 1) hx hb dX5_begin_6 (by decide) ?_
  refine r_put (C := RX5) (T := TX5) (ws' := MW a cI 0 1 a2 a3 a4 a5 a6 a7 a8 a9 s10 s11 s12 a13 a14 a15 a16 a17 a18 a19 a20 a21 s22) hx hb hts i5 tyX5 tyX5_ok nmX5 hown hw 0 rfl rfl 1 (by decide) lk68 rfl (by decide +kernel) (Nat.le_of_ble_eq_true rfl) (MW_s1 _) dX5_begin_7 (fun H locs hw => ?_)
  refine lv_aload_n hx hb dX5_begin_10 rfl (lv_at hl 0 rfl) ?_
  refine r_get (C := RX5) (T := TX5) (v := .ref (a 2)) hx hb hts i5 hown hw 0 rfl rfl 2 (by decide) lk7 rfl dX5_begin_11 ?_
  refine lv_iconst (v := 0) hx hb dX5_begin_14 (by decide) ?_
  refine lv_iconst (v := 0) hx hb dX5_begin_15 (by decide) ?_
  refine r_iast (ws' := MW a cI 0 1 (upd a2 0 0) a3 a4 a5 a6 a7 a8 a9 s10 s11 s12 a13 a14 a15 a16 a17 a18 a19 a20 a21 s22) hx hb hw 1 rfl ht0 (vp_in_nI (n := 0) (by decide) (by decide)) (MW_u2 _) dX5_begin_16 (fun H locs hw => ?_)
  refine lv_aload_n hx hb dX5_begin_17 rfl (lv_at hl 0 rfl) ?_
  refine r_get (C := RX5) (T := TX5) (v := .ref (a 3)) hx hb hts i5 hown hw 0 rfl rfl 3 (by decide) lk13 rfl dX5_begin_18 ?_
  refine lv_iconst (v := 0) hx hb dX5_begin_21 (by decide) ?_
  refine lv_bipush (v := 10) hx hb dX5_begin_22 (by decide) ?_
  refine r_iast (ws' := MW a cI 0 1 (upd a2 0 0) (upd a3 0 10) a4 a5 a6 a7 a8 a9 s10 s11 s12 a13 a14 a15 a16 a17 a18 a19 a20 a21 s22) hx hb hw 2 rfl ht0 (vp_in_nI (n := 0) (by decide) (by decide)) (MW_u3 _) dX5_begin_24 (fun H locs hw => ?_)
  refine lv_aload_n hx hb dX5_begin_25 rfl (lv_at hl 0 rfl) ?_
  refine r_get (C := RX5) (T := TX5) (v := .ref (a 4)) hx hb hts i5 hown hw 0 rfl rfl 4 (by decide) lk16 rfl dX5_begin_26 ?_
  refine lv_iconst (v := 0) hx hb dX5_begin_29 (by decide) ?_
  refine lv_iconst (v := 1) hx hb dX5_begin_30 (by decide) ?_
  refine r_iast (ws' := MW a cI 0 1 (upd a2 0 0) (upd a3 0 10) (upd a4 0 1) a5 a6 a7 a8 a9 s10 s11 s12 a13 a14 a15 a16 a17 a18 a19 a20 a21 s22) hx hb hw 3 rfl ht0 (vp_in_nI (n := 0) (by decide) (by decide)) (MW_u4 _) dX5_begin_31 (fun H locs hw => ?_)
  refine lv_aload_n hx hb dX5_begin_32 rfl (lv_at hl 0 rfl) ?_
  refine r_get (C := RX5) (T := TX5) (v := .ref (a 5)) hx hb hts i5 hown hw 0 rfl rfl 5 (by decide) lk19 rfl dX5_begin_33 ?_
  refine lv_iconst (v := 0) hx hb dX5_begin_36 (by decide) ?_
  refine lv_bipush (v := 8) hx hb dX5_begin_37 (by decide) ?_
  refine r_iast (ws' := MW a cI 0 1 (upd a2 0 0) (upd a3 0 10) (upd a4 0 1) (upd a5 0 8) a6 a7 a8 a9 s10 s11 s12 a13 a14 a15 a16 a17 a18 a19 a20 a21 s22) hx hb hw 4 rfl ht0 (vp_in_nI (n := 0) (by decide) (by decide)) (MW_u5 _) dX5_begin_39 (fun H locs hw => ?_)
  refine lv_iconst (v := 0) hx hb dX5_begin_40 (by decide) ?_
  refine lv_istore_n (lv' := [(1, .int (0)), (0, .ref (a 0))]) hx hb dX5_begin_41 rfl hl (by decide) rfl (fun ls hl => ?_)
  refine lt5_begin_42 l D ty a cI ht0 s0 s1 a2 a3 a4 a5 a6 a7 a8 a9 s10 s11 s12 a13 a14 a15 a16 a17 a18 a19 a20 a21 s22  hx hb hml hts hown 6 0 a6 a7 (by omega)  _ _ _ hw hl (fun H locs ls hw hl => ?_)
  refine lv_iconst (v := 0) hx hb dX5_begin_71 (by decide) ?_
  refine lv_istore_n (lv' := [(1, .int (0)), (0, .ref (a 0))]) hx hb dX5_begin_72 rfl hl (by decide) rfl (fun ls hl => ?_)
  refine lt5_begin_73 l D ty a cI ht0 s0 s1 a2 a3 a4 a5 a6 a7 a8 a9 s10 s11 s12 a13 a14 a15 a16 a17 a18 a19 a20 a21 s22 ((lf5_begin_42  6 0 a6 a7).1) ((lf5_begin_42  6 0 a6 a7).2) hx hb hml hts hown 5 0 a8 a9 (by omega)  _ _ _ hw hl (fun H locs ls hw hl => ?_)
  refine lv_aload_n hx hb dX5_begin_98 rfl (lv_at hl 1 rfl) ?_
  refine lv_iconst (v := 0) hx hb dX5_begin_99 (by decide) ?_
  refine r_put (C := RX5) (T := TX5) (ws' := MW a cI 0 1 (upd a2 0 0) (upd a3 0 10) (upd a4 0 1) (upd a5 0 8) ((lf5_begin_42  6 0 a6 a7).1) ((lf5_begin_42  6 0 a6 a7).2) ((lf5_begin_73  ((lf5_begin_42  6 0 a6 a7).1) ((lf5_begin_42  6 0 a6 a7).2) 5 0 a8 a9).1) ((lf5_begin_73  ((lf5_begin_42  6 0 a6 a7).1) ((lf5_begin_42  6 0 a6 a7).2) 5 0 a8 a9).2) 0 s11 s12 a13 a14 a15 a16 a17 a18 a19 a20 a21 s22) hx hb hts i5 tyX5 tyX5_ok nmX5 hown hw 0 rfl rfl 10 (by decide) lk72 rfl (by decide +kernel) (Nat.le_of_ble_eq_true rfl) (MW_s10 _) dX5_begin_100 (fun H locs hw => ?_)
  refine lv_aload_n hx hb dX5_begin_103 rfl (lv_at hl 1 rfl) ?_
  refine lv_iconst (v := 0) hx hb dX5_begin_104 (by decide) ?_
  refine r_put (C := RX5) (T := TX5) (ws' := MW a cI 0 1 (upd a2 0 0) (upd a3 0 10) (upd a4 0 1) (upd a5 0 8) ((lf5_begin_42  6 0 a6 a7).1) ((lf5_begin_42  6 0 a6 a7).2) ((lf5_begin_73  ((lf5_begin_42  6 0 a6 a7).1) ((lf5_begin_42  6 0 a6 a7).2) 5 0 a8 a9).1) ((lf5_begin_73  ((lf5_begin_42  6 0 a6 a7).1) ((lf5_begin_42  6 0 a6 a7).2) 5 0 a8 a9).2) 0 0 s12 a13 a14 a15 a16 a17 a18 a19 a20 a21 s22) hx hb hts i5 tyX5 tyX5_ok nmX5 hown hw 0 rfl rfl 11 (by decide) lk75 rfl (by decide +kernel) (Nat.le_of_ble_eq_true rfl) (MW_s11 _) dX5_begin_105 (fun H locs hw => ?_)
  refine lv_aload_n hx hb dX5_begin_108 rfl (lv_at hl 1 rfl) ?_
  refine lv_iconst (v := 0) hx hb dX5_begin_109 (by decide) ?_
  refine r_put (C := RX5) (T := TX5) (ws' := MW a cI 0 1 (upd a2 0 0) (upd a3 0 10) (upd a4 0 1) (upd a5 0 8) ((lf5_begin_42  6 0 a6 a7).1) ((lf5_begin_42  6 0 a6 a7).2) ((lf5_begin_73  ((lf5_begin_42  6 0 a6 a7).1) ((lf5_begin_42  6 0 a6 a7).2) 5 0 a8 a9).1) ((lf5_begin_73  ((lf5_begin_42  6 0 a6 a7).1) ((lf5_begin_42  6 0 a6 a7).2) 5 0 a8 a9).2) 0 0 0 a13 a14 a15 a16 a17 a18 a19 a20 a21 s22) hx hb hts i5 tyX5 tyX5_ok nmX5 hown hw 0 rfl rfl 12 (by decide) lk78 rfl (by decide +kernel) (Nat.le_of_ble_eq_true rfl) (MW_s12 _) dX5_begin_110 (fun H locs hw => ?_)
  have e9 : f5_begin a2 a3 a4 a5 a6 a7 a8 a9 = (0, 1, upd a2 0 0, upd a3 0 10, upd a4 0 1, upd a5 0 8, (lf5_begin_42  6 0 a6 a7).1, (lf5_begin_42  6 0 a6 a7).2, (lf5_begin_73  ((lf5_begin_42  6 0 a6 a7).1) ((lf5_begin_42  6 0 a6 a7).2) 5 0 a8 a9).1, (lf5_begin_73  ((lf5_begin_42  6 0 a6 a7).1) ((lf5_begin_42  6 0 a6 a7).2) 5 0 a8 a9).2, 0, 0, 0) := by unfold f5_begin; rfl
  exact r_vret hx hb hr hlocks hw (by rw [e9] <;> rfl) dX5_begin_113
def f5_clear (a2 : Nat → Int32) (a3 : Nat → Int32) (a4 : Nat → Int32) (a5 : Nat → Int32) (a6 : Nat → Int32) (a7 : Nat → Int32) (a8 : Nat → Int32) (a9 : Nat → Int32) (s12 : Int32) : Int32 × Int32 × Int32 × (Nat → Int32) × (Nat → Int32) × (Nat → Int32) × (Nat → Int32) × (Nat → Int32) × (Nat → Int32) × (Nat → Int32) × (Nat → Int32) × Int32 × Int32 × Int32 :=
  (s12, (f5_begin a2 a3 a4 a5 a6 a7 a8 a9).1, (f5_begin a2 a3 a4 a5 a6 a7 a8 a9).2.1, (f5_begin a2 a3 a4 a5 a6 a7 a8 a9).2.2.1, (f5_begin a2 a3 a4 a5 a6 a7 a8 a9).2.2.2.1, (f5_begin a2 a3 a4 a5 a6 a7 a8 a9).2.2.2.2.1, (f5_begin a2 a3 a4 a5 a6 a7 a8 a9).2.2.2.2.2.1, (f5_begin a2 a3 a4 a5 a6 a7 a8 a9).2.2.2.2.2.2.1, (f5_begin a2 a3 a4 a5 a6 a7 a8 a9).2.2.2.2.2.2.2.1, (f5_begin a2 a3 a4 a5 a6 a7 a8 a9).2.2.2.2.2.2.2.2.1, (f5_begin a2 a3 a4 a5 a6 a7 a8 a9).2.2.2.2.2.2.2.2.2.1, (f5_begin a2 a3 a4 a5 a6 a7 a8 a9).2.2.2.2.2.2.2.2.2.2.1, (f5_begin a2 a3 a4 a5 a6 a7 a8 a9).2.2.2.2.2.2.2.2.2.2.2.1, (f5_begin a2 a3 a4 a5 a6 a7 a8 a9).2.2.2.2.2.2.2.2.2.2.2.2)
set_option maxHeartbeats 4000000 in
set_option maxRecDepth 100000 in
theorem k5_clear (l : Launch) (D : va_G) (ty : List (ClassId × FieldType)) (a : Nat → Nat) (cI : ClassId) (ht0 : ty[0]? = some (cI, .int)) (s0 : Int32) (s1 : Int32) (a2 : Nat → Int32) (a3 : Nat → Int32) (a4 : Nat → Int32) (a5 : Nat → Int32) (a6 : Nat → Int32) (a7 : Nat → Int32) (a8 : Nat → Int32) (a9 : Nat → Int32) (s10 : Int32) (s11 : Int32) (s12 : Int32) (a13 : Nat → Int32) (a14 : Nat → Int32) (a15 : Nat → Int32) (a16 : Nat → Int32) (a17 : Nat → Int32) (a18 : Nat → Int32) (a19 : Nat → Int32) (a20 : Nat → Int32) (a21 : Nat → Int32) (s22 : Int32) : MetG l yX5_clear wsX5_clear { frames := 1, cells := 0, slots := 0, locals := 21 } D ty [.ref (a 0)] (MW a cI s0 s1 a2 a3 a4 a5 a6 a7 a8 a9 s10 s11 s12 a13 a14 a15 a16 a17 a18 a19 a20 a21 s22) (va_Qi (fun r w => r = (f5_clear a2 a3 a4 a5 a6 a7 a8 a9 s12).1 ∧ w = MW a cI (f5_clear a2 a3 a4 a5 a6 a7 a8 a9 s12).2.1 (f5_clear a2 a3 a4 a5 a6 a7 a8 a9 s12).2.2.1 (f5_clear a2 a3 a4 a5 a6 a7 a8 a9 s12).2.2.2.1 (f5_clear a2 a3 a4 a5 a6 a7 a8 a9 s12).2.2.2.2.1 (f5_clear a2 a3 a4 a5 a6 a7 a8 a9 s12).2.2.2.2.2.1 (f5_clear a2 a3 a4 a5 a6 a7 a8 a9 s12).2.2.2.2.2.2.1 (f5_clear a2 a3 a4 a5 a6 a7 a8 a9 s12).2.2.2.2.2.2.2.1 (f5_clear a2 a3 a4 a5 a6 a7 a8 a9 s12).2.2.2.2.2.2.2.2.1 (f5_clear a2 a3 a4 a5 a6 a7 a8 a9 s12).2.2.2.2.2.2.2.2.2.1 (f5_clear a2 a3 a4 a5 a6 a7 a8 a9 s12).2.2.2.2.2.2.2.2.2.2.1 (f5_clear a2 a3 a4 a5 a6 a7 a8 a9 s12).2.2.2.2.2.2.2.2.2.2.2.1 (f5_clear a2 a3 a4 a5 a6 a7 a8 a9 s12).2.2.2.2.2.2.2.2.2.2.2.2.1 (f5_clear a2 a3 a4 a5 a6 a7 a8 a9 s12).2.2.2.2.2.2.2.2.2.2.2.2.2 a13 a14 a15 a16 a17 a18 a19 a20 a21 s22)) 0 0 := by
  refine Met_start cX5_clear 2 (some .int) (by decide) rfl (Nat.le_of_ble_eq_true rfl) ?_
  intro p e s m below meth c A ls hx hb hr hlocks hml hnm hts hown hw hl
  have hl : lv_has ls 2 [(0, .ref (a 0))] := hl
  have i5 : ∀ w ∈ wsX50, w ∈ wsX5_clear := fun _ h => List.mem_cons_of_mem _ (List.mem_append_right _ h)
  have lk78 := hts (.fieldLink RX5 78 "RentSizesModel" "objects" "I") (by decide +kernel)
  refine lv_aload_n hx hb dX5_clear_0 rfl (lv_at hl 0 rfl) ?_
  refine r_get (C := RX5) (T := TX5) (v := .int (s12)) hx hb hts i5 hown hw 0 rfl rfl 12 (by decide) lk78 rfl dX5_clear_1 ?_
  refine lv_istore_n (lv' := [(1, .int (s12)), (0, .ref (a 0))]) hx hb dX5_clear_4 rfl hl (by decide) rfl (fun ls hl => ?_)
  refine lv_aload_n hx hb dX5_clear_5 rfl (lv_at hl 1 rfl) ?_
  refine r_callVv 0 rfl rfl (rest := []) ⟨hx, hb, hml, hown, hts⟩ hw [] (k5_begin l D ty a cI ht0 s0 s1 a2 a3 a4 a5 a6 a7 a8 a9 s10 s11 s12 a13 a14 a15 a16 a17 a18 a19 a20 a21 s22) (cwV 0 hts gX5_clear_X5_begin rfl rfl rfl (by decide +kernel) ⟨Nat.le_of_ble_eq_true rfl, Nat.le_of_ble_eq_true rfl⟩) rfl hl.1 rfl (Nat.le_of_ble_eq_true rfl) dX5_clear_6 ⟨Nat.le_of_ble_eq_true rfl, Nat.le_of_ble_eq_true rfl⟩ (fun w H locs hp hw => ?_)
  subst hp
  refine lv_iload_n hx hb dX5_clear_9 rfl (lv_at hl 0 rfl) ?_
  have e9 : f5_clear a2 a3 a4 a5 a6 a7 a8 a9 s12 = (s12, (f5_begin a2 a3 a4 a5 a6 a7 a8 a9).1, (f5_begin a2 a3 a4 a5 a6 a7 a8 a9).2.1, (f5_begin a2 a3 a4 a5 a6 a7 a8 a9).2.2.1, (f5_begin a2 a3 a4 a5 a6 a7 a8 a9).2.2.2.1, (f5_begin a2 a3 a4 a5 a6 a7 a8 a9).2.2.2.2.1, (f5_begin a2 a3 a4 a5 a6 a7 a8 a9).2.2.2.2.2.1, (f5_begin a2 a3 a4 a5 a6 a7 a8 a9).2.2.2.2.2.2.1, (f5_begin a2 a3 a4 a5 a6 a7 a8 a9).2.2.2.2.2.2.2.1, (f5_begin a2 a3 a4 a5 a6 a7 a8 a9).2.2.2.2.2.2.2.2.1, (f5_begin a2 a3 a4 a5 a6 a7 a8 a9).2.2.2.2.2.2.2.2.2.1, (f5_begin a2 a3 a4 a5 a6 a7 a8 a9).2.2.2.2.2.2.2.2.2.2.1, (f5_begin a2 a3 a4 a5 a6 a7 a8 a9).2.2.2.2.2.2.2.2.2.2.2.1, (f5_begin a2 a3 a4 a5 a6 a7 a8 a9).2.2.2.2.2.2.2.2.2.2.2.2) := by unfold f5_clear; rfl
  exact r_iret hx hb hr hlocks hw ⟨by rw [e9] <;> rfl, by rw [e9] <;> rfl⟩ dX5_clear_10
