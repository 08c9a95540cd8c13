def f5_needsLayer (s0 : Int32) (s1 : Int32) (a2 : Nat → Int32) (a3 : Nat → Int32) (a18 : Nat → Int32) (a20 : Nat → Int32) (a21 : Nat → Int32) (x : Nat) (p2 : Int32) : Int32 :=
  if (nI (tn (a18 x))) = 0 then 1
  else if (a20 (16 * x + (tn (a18 x) - 1))) = (f5_price s0 s1 a2 a3) then (if (a21 (16 * x + (tn (a18 x) - 1))) = p2 then 0
    else 1)
  else 1
set_option maxHeartbeats 4000000 in
set_option maxRecDepth 100000 in
theorem k5_needsLayer (l : Launch) (D : va_G) (ty : List (ClassId × FieldType)) (a : Nat → Nat) (cI : ClassId) (ht0 : ty[0]? = some (cI, .int)) (s0 : Int32) (s1 : Int32) (a2 : Nat → Int32) (a3 : Nat → Int32) (a4 : Nat → Int32) (a5 : Nat → Int32) (a6 : Nat → Int32) (a7 : Nat → Int32) (a8 : Nat → Int32) (a9 : Nat → Int32) (s10 : Int32) (s11 : Int32) (s12 : Int32) (a13 : Nat → Int32) (a14 : Nat → Int32) (a15 : Nat → Int32) (a16 : Nat → Int32) (a17 : Nat → Int32) (a18 : Nat → Int32) (a19 : Nat → Int32) (a20 : Nat → Int32) (a21 : Nat → Int32) (s22 : Int32) (x : Nat) (p2 : Int32) (hx60 : x < 60) (hl0 : a18 x = nI (tn (a18 x))) (hl1 : tn (a18 x) ≤ 16) (he0 : s1 = nI (tn s1)) (he1 : tn s1 ≤ 10) : MetG l yX5_needsLayer wsX5_needsLayer { frames := 2, cells := 0, slots := 0, locals := 43 } D ty [.ref (a 0), .int (nI (x)), .int (p2)] (MW a cI s0 s1 a2 a3 a4 a5 a6 a7 a8 a9 s10 s11 s12 a13 a14 a15 a16 a17 a18 a19 a20 a21 s22) (va_Qi (fun r w => r = f5_needsLayer s0 s1 a2 a3 a18 a20 a21 x p2 ∧ w = MW a cI s0 s1 a2 a3 a4 a5 a6 a7 a8 a9 s10 s11 s12 a13 a14 a15 a16 a17 a18 a19 a20 a21 s22)) 0 0 := by
  refine Met_start cX5_needsLayer 4 (some .boolean) (by decide) rfl (Nat.le_of_ble_eq_true rfl) ?_
  intro p e s m below meth c A ls hx hb hr hlocks hml hnm hts hown hw hl
  have hl : lv_has ls 4 [(0, .ref (a 0)), (1, .int (nI (x))), (2, .int (p2))] := hl
  have i5 : ∀ w ∈ wsX50, w ∈ wsX5_needsLayer := fun _ h => List.mem_cons_of_mem _ (List.mem_append_right _ h)
  have lk49 := hts (.fieldLink RX5 49 "RentSizesModel" "layers" "[I") (by decide +kernel)
  have lk55 := hts (.fieldLink RX5 55 "RentSizesModel" "layerPrice" "[I") (by decide +kernel)
  have lk58 := hts (.fieldLink RX5 58 "RentSizesModel" "layerFrom" "[I") (by decide +kernel)
  refine lv_bipush (v := 16) hx hb dX5_needsLayer_0 (by decide) ?_
  refine lv_iload_n hx hb dX5_needsLayer_2 rfl (lv_at hl 1 rfl) ?_
  refine lv_imul hx hb dX5_needsLayer_3 ?_
  refine r_top (nI (16 * x)) (show nI (16) * nI (x) = nI (16 * x) from pk_mul _ _) ?_
  refine lv_aload_n hx hb dX5_needsLayer_4 rfl (lv_at hl 0 rfl) ?_
  refine r_get (C := RX5) (T := TX5) (v := .ref (a 18)) hx hb hts i5 hown hw 0 rfl rfl 18 (by decide) lk49 rfl dX5_needsLayer_5 ?_
  refine lv_iload_n hx hb dX5_needsLayer_8 rfl (lv_at hl 1 rfl) ?_
  refine r_ialdN (v := a18 x) hx hb hw 14 rfl ht0 x (by omega) (by decide) dX5_needsLayer_9 rfl ?_
  refine r_top (nI (tn (a18 x))) hl0 ?_
  refine lv_iadd hx hb dX5_needsLayer_10 ?_
  refine r_top (nI ((16 * x) + (tn (a18 x)))) (show nI (16 * x) + nI (tn (a18 x)) = nI ((16 * x) + (tn (a18 x))) from nI_add _ _) ?_
  refine lv_iconst (v := 1) hx hb dX5_needsLayer_11 (by decide) ?_
  refine lv_isub hx hb dX5_needsLayer_12 ?_
  refine lv_istore_n (lv' := [(3, .int ((nI ((16 * x) + (tn (a18 x)))) - 1)), (0, .ref (a 0)), (1, .int (nI (x))), (2, .int (p2))]) hx hb dX5_needsLayer_13 rfl hl (by decide) rfl (fun ls hl => ?_)
  refine lv_aload_n hx hb dX5_needsLayer_14 rfl (lv_at hl 1 rfl) ?_
  refine r_get (C := RX5) (T := TX5) (v := .ref (a 18)) hx hb hts i5 hown hw 0 rfl rfl 18 (by decide) lk49 rfl dX5_needsLayer_15 ?_
  refine lv_iload_n hx hb dX5_needsLayer_18 rfl (lv_at hl 2 rfl) ?_
  refine r_ialdN (v := a18 x) hx hb hw 14 rfl ht0 x (by omega) (by decide) dX5_needsLayer_19 rfl ?_
  refine r_top (nI (tn (a18 x))) hl0 ?_
  refine lv_if_eq (tgt := 46) hx hb dX5_needsLayer_20 (by decide) (fun c_20 => ?_) (fun c_20 => ?_)
  · refine lv_iconst (v := 1) hx hb dX5_needsLayer_46 (by decide) ?_
    refine lv_goto (tgt := 51) hx hb dX5_needsLayer_47 (by decide) ?_
    have e9 : f5_needsLayer s0 s1 a2 a3 a18 a20 a21 x p2 = 1 := by unfold f5_needsLayer; rw [if_pos c_20]
    exact r_zret hx hb hr hlocks (Or.inr rfl) hw ⟨by rw [e9] <;> rfl, rfl⟩ dX5_needsLayer_51
  · have hL : 1 ≤ tn (a18 x) := nI_pos1 c_20
    have hl : lv_has ls 4 [(3, .int (nI (16 * x + (tn (a18 x) - 1)))), (0, .ref (a 0)), (1, .int (nI (x))), (2, .int (p2))] := by have q := (show nI (16 * x + tn (a18 x)) - 1 = nI (16 * x + (tn (a18 x) - 1)) by rw [nI_sub1 (by omega), show 16 * x + tn (a18 x) - 1 = 16 * x + (tn (a18 x) - 1) by omega]); rw [q] at hl; exact hl
    refine lv_aload_n hx hb dX5_needsLayer_23 rfl (lv_at hl 1 rfl) ?_
    refine r_get (C := RX5) (T := TX5) (v := .ref (a 20)) hx hb hts i5 hown hw 0 rfl rfl 20 (by decide) lk55 rfl dX5_needsLayer_24 ?_
    refine lv_iload_n hx hb dX5_needsLayer_27 rfl (lv_at hl 0 rfl) ?_
    refine r_ialdN (v := a20 (16 * x + (tn (a18 x) - 1))) hx hb hw 16 rfl ht0 (16 * x + (tn (a18 x) - 1)) (by omega) (by decide) dX5_needsLayer_28 rfl ?_
    refine lv_aload_n hx hb dX5_needsLayer_29 rfl (lv_at hl 1 rfl) ?_
    refine r_callVi 0 rfl rfl (rest := [.int (a20 (16 * x + (tn (a18 x) - 1)))]) ⟨hx, hb, hml, hown, hts⟩ hw [] (k5_price l D ty a cI ht0 s0 s1 a2 a3 a4 a5 a6 a7 a8 a9 s10 s11 s12 a13 a14 a15 a16 a17 a18 a19 a20 a21 s22 (by first | assumption | omega) (by first | assumption | omega)) (cwV 0 hts gX5_needsLayer_X5_price rfl rfl rfl (by decide +kernel) ⟨Nat.le_of_ble_eq_true rfl, Nat.le_of_ble_eq_true rfl⟩) rfl hl.1 rfl (Nat.le_of_ble_eq_true rfl) dX5_needsLayer_30 ⟨Nat.le_of_ble_eq_true rfl, Nat.le_of_ble_eq_true rfl⟩ (fun r w H locs hp hw => ?_)
    obtain ⟨rfl, rfl⟩ := hp
    refine lv_icmp_ne (tgt := 46) hx hb dX5_needsLayer_33 (by decide) (fun c_33 => ?_) (fun c_33 => ?_)
    · refine lv_iconst (v := 1) hx hb dX5_needsLayer_46 (by decide) ?_
      refine lv_goto (tgt := 51) hx hb dX5_needsLayer_47 (by decide) ?_
      have e9 : f5_needsLayer s0 s1 a2 a3 a18 a20 a21 x p2 = 1 := by unfold f5_needsLayer; rw [if_neg c_20, if_neg c_33]
      exact r_zret hx hb hr hlocks (Or.inr rfl) hw ⟨by rw [e9] <;> rfl, rfl⟩ dX5_needsLayer_51
    · refine lv_aload_n hx hb dX5_needsLayer_36 rfl (lv_at hl 1 rfl) ?_
      refine r_get (C := RX5) (T := TX5) (v := .ref (a 21)) hx hb hts i5 hown hw 0 rfl rfl 21 (by decide) lk58 rfl dX5_needsLayer_37 ?_
      refine lv_iload_n hx hb dX5_needsLayer_40 rfl (lv_at hl 0 rfl) ?_
      refine r_ialdN (v := a21 (16 * x + (tn (a18 x) - 1))) hx hb hw 17 rfl ht0 (16 * x + (tn (a18 x) - 1)) (by omega) (by decide) dX5_needsLayer_41 rfl ?_
      refine lv_iload_n hx hb dX5_needsLayer_42 rfl (lv_at hl 3 rfl) ?_
      refine lv_icmp_eq (tgt := 50) hx hb dX5_needsLayer_43 (by decide) (fun c_43 => ?_) (fun c_43 => ?_)
      · refine lv_iconst (v := 0) hx hb dX5_needsLayer_50 (by decide) ?_
        have e9 : f5_needsLayer s0 s1 a2 a3 a18 a20 a21 x p2 = 0 := by unfold f5_needsLayer; rw [if_neg c_20, if_pos c_33, if_pos c_43]
        exact r_zret hx hb hr hlocks (Or.inl rfl) hw ⟨by rw [e9] <;> rfl, rfl⟩ dX5_needsLayer_51
      · refine lv_iconst (v := 1) hx hb dX5_needsLayer_46 (by decide) ?_
        refine lv_goto (tgt := 51) hx hb dX5_needsLayer_47 (by decide) ?_
        have e9 : f5_needsLayer s0 s1 a2 a3 a18 a20 a21 x p2 = 1 := by unfold f5_needsLayer; rw [if_neg c_20, if_pos c_33, if_neg c_43]
        exact r_zret hx hb hr hlocks (Or.inr rfl) hw ⟨by rw [e9] <;> rfl, rfl⟩ dX5_needsLayer_51
theorem nl_pos {s0 s1 : Int32} {a2 a3 a18 a20 a21 : Nat → Int32} {x : Nat} {p2 : Int32} (h : f5_needsLayer s0 s1 a2 a3 a18 a20 a21 x p2 = 0) : 1 ≤ tn (a18 x) := by
  unfold f5_needsLayer at h
  by_cases c : nI (tn (a18 x)) = 0
  · rw [if_pos c] at h; exact absurd h (by decide)
  · exact nI_pos1 c
def f5_comes (s0 : Int32) (s1 : Int32) (a2 : Nat → Int32) (a3 : Nat → Int32) (a18 : Nat → Int32) (a19 : Nat → Int32) (a20 : Nat → Int32) (a21 : Nat → Int32) (x : Nat) (p2 : Int32) (p3 : Int32) : (Nat → Int32) × (Nat → Int32) × (Nat → Int32) × (Nat → Int32) :=
  if (f5_needsLayer s0 s1 a2 a3 a18 a20 a21 x p2) = 0 then (a18, upd a19 (16 * x + (tn (a18 x) - 1)) ((a19 (16 * x + (tn (a18 x) - 1))) + p3), a20, a21)
  else (upd a18 x (nI ((tn (a18 x)) + 1)), upd (upd a19 ((16 * x) + (tn (a18 x))) 0) (16 * x + tn (a18 x)) (((upd a19 ((16 * x) + (tn (a18 x))) 0) (16 * x + tn (a18 x))) + p3), upd a20 ((16 * x) + (tn (a18 x))) (f5_price s0 s1 a2 a3), upd a21 ((16 * x) + (tn (a18 x))) p2)
set_option maxHeartbeats 4000000 in
set_option maxRecDepth 100000 in
theorem k5_comes (l : Launch) (D : va_G) (ty : List (ClassId × FieldType)) (a : Nat → Nat) (cI : ClassId) (ht0 : ty[0]? = some (cI, .int)) (s0 : Int32) (s1 : Int32) (a2 : Nat → Int32) (a3 : Nat → Int32) (a4 : Nat → Int32) (a5 : Nat → Int32) (a6 : Nat → Int32) (a7 : Nat → Int32) (a8 : Nat → Int32) (a9 : Nat → Int32) (s10 : Int32) (s11 : Int32) (s12 : Int32) (a13 : Nat → Int32) (a14 : Nat → Int32) (a15 : Nat → Int32) (a16 : Nat → Int32) (a17 : Nat → Int32) (a18 : Nat → Int32) (a19 : Nat → Int32) (a20 : Nat → Int32) (a21 : Nat → Int32) (s22 : Int32) (x : Nat) (p2 : Int32) (p3 : Int32) (hx60 : x < 60) (hl0 : a18 x = nI (tn (a18 x))) (hl1 : tn (a18 x) ≤ 16) (he0 : s1 = nI (tn s1)) (he1 : tn s1 ≤ 10) (hrm : ¬ f5_needsLayer s0 s1 a2 a3 a18 a20 a21 x p2 = 0 → tn (a18 x) < 16) : MetG l yX5_comes wsX5_comes { frames := 3, cells := 0, slots := 0, locals := 66 } D ty [.ref (a 0), .int (nI (x)), .int (p2), .int (p3)] (MW a cI s0 s1 a2 a3 a4 a5 a6 a7 a8 a9 s10 s11 s12 a13 a14 a15 a16 a17 a18 a19 a20 a21 s22) (va_Qv (fun w => w = MW a cI s0 s1 a2 a3 a4 a5 a6 a7 a8 a9 s10 s11 s12 a13 a14 a15 a16 a17 ((f5_comes s0 s1 a2 a3 a18 a19 a20 a21 x p2 p3).1) ((f5_comes s0 s1 a2 a3 a18 a19 a20 a21 x p2 p3).2.1) ((f5_comes s0 s1 a2 a3 a18 a19 a20 a21 x p2 p3).2.2.1) ((f5_comes s0 s1 a2 a3 a18 a19 a20 a21 x p2 p3).2.2.2) s22)) 0 0 := by
  refine Met_start cX5_comes 5 none (by decide) rfl (Nat.le_of_ble_eq_true rfl) ?_
  intro p e s m below meth c A ls hx hb hr hlocks hml hnm hts hown hw hl
  have hl : lv_has ls 5 [(0, .ref (a 0)), (1, .int (nI (x))), (2, .int (p2)), (3, .int (p3))] := hl
  have i5 : ∀ w ∈ wsX50, w ∈ wsX5_comes := fun _ h => List.mem_cons_of_mem _ (List.mem_append_right _ h)
  have lk52 := hts (.fieldLink RX5 52 "RentSizesModel" "layerBytes" "[I") (by decide +kernel)
  have lk49 := hts (.fieldLink RX5 49 "RentSizesModel" "layers" "[I") (by decide +kernel)
  have lk55 := hts (.fieldLink RX5 55 "RentSizesModel" "layerPrice" "[I") (by decide +kernel)
  have lk58 := hts (.fieldLink RX5 58 "RentSizesModel" "layerFrom" "[I") (by decide +kernel)
  refine lv_aload_n hx hb dX5_comes_0 rfl (lv_at hl 0 rfl) ?_
  refine lv_iload_n hx hb dX5_comes_1 rfl (lv_at hl 1 rfl) ?_
  refine lv_iload_n hx hb dX5_comes_2 rfl (lv_at hl 2 rfl) ?_
  refine r_callVi 0 rfl rfl (rest := []) ⟨hx, hb, hml, hown, hts⟩ hw [.int (nI (x)), .int (p2)] (k5_needsLayer l D ty a cI ht0 s0 s1 a2 a3 a4 a5 a6 a7 a8 a9 s10 s11 s12 a13 a14 a15 a16 a17 a18 a19 a20 a21 s22 x p2 (by first | assumption | omega) (by first | assumption | omega) (by first | assumption | omega) (by first | assumption | omega) (by first | assumption | omega)) (cwV 2 hts gX5_comes_X5_needsLayer rfl rfl rfl (by decide +kernel) ⟨Nat.le_of_ble_eq_true rfl, Nat.le_of_ble_eq_true rfl⟩) rfl hl.1 rfl (Nat.le_of_ble_eq_true rfl) dX5_comes_3 ⟨Nat.le_of_ble_eq_true rfl, Nat.le_of_ble_eq_true rfl⟩ (fun r w H locs hp hw => ?_)
  obtain ⟨rfl, rfl⟩ := hp
  refine lv_if_eq (tgt := 59) hx hb dX5_comes_6 (by decide) (fun c_6 => ?_) (fun c_6 => ?_)
  · refine lv_aload_n hx hb dX5_comes_59 rfl (lv_at hl 0 rfl) ?_
    refine r_get (C := RX5) (T := TX5) (v := .ref (a 19)) hx hb hts i5 hown hw 0 rfl rfl 19 (by decide) lk52 rfl dX5_comes_60 ?_
    refine lv_bipush (v := 16) hx hb dX5_comes_63 (by decide) ?_
    refine lv_iload_n hx hb dX5_comes_65 rfl (lv_at hl 1 rfl) ?_
    refine lv_imul hx hb dX5_comes_66 ?_
    refine r_top (nI (16 * x)) (show nI (16) * nI (x) = nI (16 * x) from pk_mul _ _) ?_
    refine lv_aload_n hx hb dX5_comes_67 rfl (lv_at hl 0 rfl) ?_
    refine r_get (C := RX5) (T := TX5) (v := .ref (a 18)) hx hb hts i5 hown hw 0 rfl rfl 18 (by decide) lk49 rfl dX5_comes_68 ?_
    refine lv_iload_n hx hb dX5_comes_71 rfl (lv_at hl 1 rfl) ?_
    refine r_ialdN (v := a18 x) hx hb hw 14 rfl ht0 x (by omega) (by decide) dX5_comes_72 rfl ?_
    refine r_top (nI (tn (a18 x))) hl0 ?_
    refine lv_iadd hx hb dX5_comes_73 ?_
    refine r_top (nI ((16 * x) + (tn (a18 x)))) (show nI (16 * x) + nI (tn (a18 x)) = nI ((16 * x) + (tn (a18 x))) from nI_add _ _) ?_
    refine lv_iconst (v := 1) hx hb dX5_comes_74 (by decide) ?_
    refine lv_isub hx hb dX5_comes_75 ?_
    have hL := nl_pos c_6
    refine r_top (nI (16 * x + (tn (a18 x) - 1))) (show nI (16 * x + tn (a18 x)) - 1 = nI (16 * x + (tn (a18 x) - 1)) by rw [nI_sub1 (by omega), show 16 * x + tn (a18 x) - 1 = 16 * x + (tn (a18 x) - 1) by omega]) ?_
    refine lv_dup2_11 hx hb dX5_comes_76 rfl rfl ?_
    refine r_ialdN (v := a19 (16 * x + (tn (a18 x) - 1))) hx hb hw 15 rfl ht0 (16 * x + (tn (a18 x) - 1)) (by omega) (by decide) dX5_comes_77 rfl ?_
    refine lv_iload_n hx hb dX5_comes_78 rfl (lv_at hl 3 rfl) ?_
    refine lv_iadd hx hb dX5_comes_79 ?_
    refine r_iastN (ws' := MW a cI s0 s1 a2 a3 a4 a5 a6 a7 a8 a9 s10 s11 s12 a13 a14 a15 a16 a17 a18 (upd a19 (16 * x + (tn (a18 x) - 1)) ((a19 (16 * x + (tn (a18 x) - 1))) + p3)) a20 a21 s22) hx hb hw 15 rfl ht0 (16 * x + (tn (a18 x) - 1)) (by omega) (by decide) (MW_u19 _) dX5_comes_80 (fun H locs hw => ?_)
    have e9 : f5_comes s0 s1 a2 a3 a18 a19 a20 a21 x p2 p3 = (a18, upd a19 (16 * x + (tn (a18 x) - 1)) ((a19 (16 * x + (tn (a18 x) - 1))) + p3), a20, a21) := by unfold f5_comes; rw [if_pos c_6]
    exact r_vret hx hb hr hlocks hw (by rw [e9] <;> rfl) dX5_comes_81
  · have hL16 := hrm c_6
    refine lv_bipush (v := 16) hx hb dX5_comes_9 (by decide) ?_
    refine lv_iload_n hx hb dX5_comes_11 rfl (lv_at hl 1 rfl) ?_
    refine lv_imul hx hb dX5_comes_12 ?_
    refine r_top (nI (16 * x)) (show nI (16) * nI (x) = nI (16 * x) from pk_mul _ _) ?_
    refine lv_aload_n hx hb dX5_comes_13 rfl (lv_at hl 0 rfl) ?_
    refine r_get (C := RX5) (T := TX5) (v := .ref (a 18)) hx hb hts i5 hown hw 0 rfl rfl 18 (by decide) lk49 rfl dX5_comes_14 ?_
    refine lv_iload_n hx hb dX5_comes_17 rfl (lv_at hl 1 rfl) ?_
    refine r_ialdN (v := a18 x) hx hb hw 14 rfl ht0 x (by omega) (by decide) dX5_comes_18 rfl ?_
    refine r_top (nI (tn (a18 x))) hl0 ?_
    refine lv_iadd hx hb dX5_comes_19 ?_
    refine r_top (nI ((16 * x) + (tn (a18 x)))) (show nI (16 * x) + nI (tn (a18 x)) = nI ((16 * x) + (tn (a18 x))) from nI_add _ _) ?_
    refine lv_istore (lv' := [(4, .int (nI ((16 * x) + (tn (a18 x))))), (0, .ref (a 0)), (1, .int (nI (x))), (2, .int (p2)), (3, .int (p3))]) hx hb dX5_comes_20 hl (by decide) rfl (fun ls hl => ?_)
    refine lv_aload_n hx hb dX5_comes_22 rfl (lv_at hl 1 rfl) ?_
    refine r_get (C := RX5) (T := TX5) (v := .ref (a 19)) hx hb hts i5 hown hw 0 rfl rfl 19 (by decide) lk52 rfl dX5_comes_23 ?_
    refine lv_iload hx hb dX5_comes_26 (lv_at hl 0 rfl) ?_
    refine lv_iconst (v := 0) hx hb dX5_comes_28 (by decide) ?_
    refine r_iastN (ws' := MW a cI s0 s1 a2 a3 a4 a5 a6 a7 a8 a9 s10 s11 s12 a13 a14 a15 a16 a17 a18 (upd a19 ((16 * x) + (tn (a18 x))) 0) a20 a21 s22) hx hb hw 15 rfl ht0 ((16 * x) + (tn (a18 x))) (by omega) (by decide) (MW_u19 _) dX5_comes_29 (fun H locs hw => ?_)
    refine lv_aload_n hx hb dX5_comes_30 rfl (lv_at hl 1 rfl) ?_
    refine r_get (C := RX5) (T := TX5) (v := .ref (a 20)) hx hb hts i5 hown hw 0 rfl rfl 20 (by decide) lk55 rfl dX5_comes_31 ?_
    refine lv_iload hx hb dX5_comes_34 (lv_at hl 0 rfl) ?_
    refine lv_aload_n hx hb dX5_comes_36 rfl (lv_at hl 1 rfl) ?_
    refine r_callVi 0 rfl rfl (rest := [.int (nI ((16 * x) + (tn (a18 x)))), .ref (a 20)]) ⟨hx, hb, hml, hown, hts⟩ hw [] (k5_price l D ty a cI ht0 s0 s1 a2 a3 a4 a5 a6 a7 a8 a9 s10 s11 s12 a13 a14 a15 a16 a17 a18 (upd a19 ((16 * x) + (tn (a18 x))) 0) a20 a21 s22 (by first | assumption | omega) (by first | assumption | omega)) (cwV 0 hts gX5_comes_X5_price rfl rfl rfl (by decide +kernel) ⟨Nat.le_of_ble_eq_true rfl, Nat.le_of_ble_eq_true rfl⟩) rfl hl.1 rfl (Nat.le_of_ble_eq_true rfl) dX5_comes_37 ⟨Nat.le_of_ble_eq_true rfl, Nat.le_of_ble_eq_true rfl⟩ (fun r w H locs hp hw => ?_)
    obtain ⟨rfl, rfl⟩ := hp
    refine r_iastN (ws' := MW a cI s0 s1 a2 a3 a4 a5 a6 a7 a8 a9 s10 s11 s12 a13 a14 a15 a16 a17 a18 (upd a19 ((16 * x) + (tn (a18 x))) 0) (upd a20 ((16 * x) + (tn (a18 x))) (f5_price s0 s1 a2 a3)) a21 s22) hx hb hw 16 rfl ht0 ((16 * x) + (tn (a18 x))) (by omega) (by decide) (MW_u20 _) dX5_comes_40 (fun H locs hw => ?_)
    refine lv_aload_n hx hb dX5_comes_41 rfl (lv_at hl 1 rfl) ?_
    refine r_get (C := RX5) (T := TX5) (v := .ref (a 21)) hx hb hts i5 hown hw 0 rfl rfl 21 (by decide) lk58 rfl dX5_comes_42 ?_
    refine lv_iload hx hb dX5_comes_45 (lv_at hl 0 rfl) ?_
    refine lv_iload_n hx hb dX5_comes_47 rfl (lv_at hl 3 rfl) ?_
    refine r_iastN (ws' := MW a cI s0 s1 a2 a3 a4 a5 a6 a7 a8 a9 s10 s11 s12 a13 a14 a15 a16 a17 a18 (upd a19 ((16 * x) + (tn (a18 x))) 0) (upd a20 ((16 * x) + (tn (a18 x))) (f5_price s0 s1 a2 a3)) (upd a21 ((16 * x) + (tn (a18 x))) p2) s22) hx hb hw 17 rfl ht0 ((16 * x) + (tn (a18 x))) (by omega) (by decide) (MW_u21 _) dX5_comes_48 (fun H locs hw => ?_)
    refine lv_aload_n hx hb dX5_comes_49 rfl (lv_at hl 1 rfl) ?_
    refine r_get (C := RX5) (T := TX5) (v := .ref (a 18)) hx hb hts i5 hown hw 0 rfl rfl 18 (by decide) lk49 rfl dX5_comes_50 ?_
    refine lv_iload_n hx hb dX5_comes_53 rfl (lv_at hl 2 rfl) ?_
    refine lv_dup2_11 hx hb dX5_comes_54 rfl rfl ?_
    refine r_ialdN (v := a18 x) hx hb hw 14 rfl ht0 x (by omega) (by decide) dX5_comes_55 rfl ?_
    refine r_top (nI (tn (a18 x))) hl0 ?_
    refine lv_iconst (v := 1) hx hb dX5_comes_56 (by decide) ?_
    refine lv_iadd hx hb dX5_comes_57 ?_
    refine r_top (nI ((tn (a18 x)) + 1)) (show nI (tn (a18 x)) + nI (1) = nI ((tn (a18 x)) + 1) from nI_add _ _) ?_
    refine r_iastN (ws' := MW a cI s0 s1 a2 a3 a4 a5 a6 a7 a8 a9 s10 s11 s12 a13 a14 a15 a16 a17 (upd a18 x (nI ((tn (a18 x)) + 1))) (upd a19 ((16 * x) + (tn (a18 x))) 0) (upd a20 ((16 * x) + (tn (a18 x))) (f5_price s0 s1 a2 a3)) (upd a21 ((16 * x) + (tn (a18 x))) p2) s22) hx hb hw 14 rfl ht0 x (by omega) (by decide) (MW_u18 _) dX5_comes_58 (fun H locs hw => ?_)
    refine lv_aload_n hx hb dX5_comes_59 rfl (lv_at hl 1 rfl) ?_
    refine r_get (C := RX5) (T := TX5) (v := .ref (a 19)) hx hb hts i5 hown hw 0 rfl rfl 19 (by decide) lk52 rfl dX5_comes_60 ?_
    refine lv_bipush (v := 16) hx hb dX5_comes_63 (by decide) ?_
    refine lv_iload_n hx hb dX5_comes_65 rfl (lv_at hl 2 rfl) ?_
    refine lv_imul hx hb dX5_comes_66 ?_
    refine r_top (nI (16 * x)) (show nI (16) * nI (x) = nI (16 * x) from pk_mul _ _) ?_
    refine lv_aload_n hx hb dX5_comes_67 rfl (lv_at hl 1 rfl) ?_
    refine r_get (C := RX5) (T := TX5) (v := .ref (a 18)) hx hb hts i5 hown hw 0 rfl rfl 18 (by decide) lk49 rfl dX5_comes_68 ?_
    refine lv_iload_n hx hb dX5_comes_71 rfl (lv_at hl 2 rfl) ?_
    refine r_ialdN (v := (upd a18 x (nI ((tn (a18 x)) + 1))) x) hx hb hw 14 rfl ht0 x (by omega) (by decide) dX5_comes_72 rfl ?_
    refine r_top (nI (tn (a18 x) + 1)) pk_us ?_
    refine lv_iadd hx hb dX5_comes_73 ?_
    refine r_top (nI ((16 * x) + (tn (a18 x) + 1))) (show nI (16 * x) + nI (tn (a18 x) + 1) = nI ((16 * x) + (tn (a18 x) + 1)) from nI_add _ _) ?_
    refine lv_iconst (v := 1) hx hb dX5_comes_74 (by decide) ?_
    refine lv_isub hx hb dX5_comes_75 ?_
    refine r_top (nI (16 * x + tn (a18 x))) (nI_pred (16 * x + tn (a18 x))) ?_
    refine lv_dup2_11 hx hb dX5_comes_76 rfl rfl ?_
    refine r_ialdN (v := (upd a19 ((16 * x) + (tn (a18 x))) 0) (16 * x + tn (a18 x))) hx hb hw 15 rfl ht0 (16 * x + tn (a18 x)) (by omega) (by decide) dX5_comes_77 rfl ?_
    refine lv_iload_n hx hb dX5_comes_78 rfl (lv_at hl 4 rfl) ?_
    refine lv_iadd hx hb dX5_comes_79 ?_
    refine r_iastN (ws' := MW a cI s0 s1 a2 a3 a4 a5 a6 a7 a8 a9 s10 s11 s12 a13 a14 a15 a16 a17 (upd a18 x (nI ((tn (a18 x)) + 1))) (upd (upd a19 ((16 * x) + (tn (a18 x))) 0) (16 * x + tn (a18 x)) (((upd a19 ((16 * x) + (tn (a18 x))) 0) (16 * x + tn (a18 x))) + p3)) (upd a20 ((16 * x) + (tn (a18 x))) (f5_price s0 s1 a2 a3)) (upd a21 ((16 * x) + (tn (a18 x))) p2) s22) hx hb hw 15 rfl ht0 (16 * x + tn (a18 x)) (by omega) (by decide) (MW_u19 _) dX5_comes_80 (fun H locs hw => ?_)
    have e9 : f5_comes s0 s1 a2 a3 a18 a19 a20 a21 x p2 p3 = (upd a18 x (nI ((tn (a18 x)) + 1)), upd (upd a19 ((16 * x) + (tn (a18 x))) 0) (16 * x + tn (a18 x)) (((upd a19 ((16 * x) + (tn (a18 x))) 0) (16 * x + tn (a18 x))) + p3), upd a20 ((16 * x) + (tn (a18 x))) (f5_price s0 s1 a2 a3), upd a21 ((16 * x) + (tn (a18 x))) p2) := by unfold f5_comes; rw [if_neg c_6]
    exact r_vret hx hb hr hlocks hw (by rw [e9] <;> rfl) dX5_comes_81
def lf5_gives_16 (a19 : Nat → Int32) (a20 : Nat → Int32) (a21 : Nat → Int32) (x : Nat) (p2 : Int32) (p3 : Int32) : Nat → Int32 → Int32 → Int32 × Int32
  | 0, v4, v5 => (v4, v5)
  | j + 1, v4, v5 => if v4 ≤ (a19 ((16 * x) + j)) then (if p3 = (-109) then lf5_gives_16 a19 a20 a21 x p2 p3 j (v4 - v4) (v5 + (v4 * (a20 ((16 * x) + j))))
      else if (a21 ((16 * x) + j)) = p3 then lf5_gives_16 a19 a20 a21 x p2 p3 j (v4 - v4) (v5 + (v4 * (a20 ((16 * x) + j))))
      else lf5_gives_16 a19 a20 a21 x p2 p3 j (v4 - v4) (v5 + 0))
    else if p3 = (-109) then lf5_gives_16 a19 a20 a21 x p2 p3 j (v4 - (a19 ((16 * x) + j))) (v5 + ((a19 ((16 * x) + j)) * (a20 ((16 * x) + j))))
    else if (a21 ((16 * x) + j)) = p3 then lf5_gives_16 a19 a20 a21 x p2 p3 j (v4 - (a19 ((16 * x) + j))) (v5 + ((a19 ((16 * x) + j)) * (a20 ((16 * x) + j))))
    else lf5_gives_16 a19 a20 a21 x p2 p3 j (v4 - (a19 ((16 * x) + j))) (v5 + 0)
set_option maxHeartbeats 4000000 in
set_option maxRecDepth 100000 in
theorem lt5_gives_16 (l : Launch) (D : va_G) (ty : List (ClassId × FieldType)) (a : Nat → Nat) (cI : ClassId) (ht0 : ty[0]? = some (cI, .int)) (s0 : Int32) (s1 : Int32) (a2 : Nat → Int32) (a3 : Nat → Int32) (a4 : Nat → Int32) (a5 : Nat → Int32) (a6 : Nat → Int32) (a7 : Nat → Int32) (a8 : Nat → Int32) (a9 : Nat → Int32) (s10 : Int32) (s11 : Int32) (s12 : Int32) (a13 : Nat → Int32) (a14 : Nat → Int32) (a15 : Nat → Int32) (a16 : Nat → Int32) (a17 : Nat → Int32) (a18 : Nat → Int32) (a19 : Nat → Int32) (a20 : Nat → Int32) (a21 : Nat → Int32) (s22 : Int32) (x : Nat) (p2 : Int32) (p3 : Int32) (hx60 : x < 60) (hl0 : a18 x = nI (tn (a18 x))) (hl1 : tn (a18 x) ≤ 16)  {p : Program} {e : Env} {s : State} {m : MethodId} {args : Array Value} {below : List Frame} {meth : Method} {c : Code} {A : Nat → Prop} {H0 : Heap} {Q : State → Prop} (hx : p.tables.exec = Jvm.exec) (hb : c.code = cX5_gives) (hml : c.maxLocals = 9) (hts : ∀ w ∈ wsX5_gives, w.before args s = true) (hown : s.vm.findClass RX5 = some m.cls) : ∀ (j : Nat) (v4 : Int32) (v5 : Int32) (hj : j ≤ tn (a18 x)) (H : Heap) (locs : List Loc) (ls : Array Slot) (hw : Wd D ty A H0 s (MW a cI s0 s1 a2 a3 a4 a5 a6 a7 a8 a9 s10 s11 s12 a13 a14 a15 a16 a17 a18 a19 a20 a21 s22) H locs) (hl : lv_has ls 9 [(6, .int (nI j - 1)), (5, .int (v5)), (4, .int (v4)), (0, .ref (a 0)), (1, .int (nI (x))), (2, .int (p2)), (3, .int (p3))]) (kk : ∀ (H1 : Heap) (locs1 : List Loc) (ls1 : Array Slot), Wd D ty A H0 s (MW a cI s0 s1 a2 a3 a4 a5 a6 a7 a8 a9 s10 s11 s12 a13 a14 a15 a16 a17 a18 a19 a20 a21 s22) H1 locs1 → lv_has ls1 9 [(6, .int (nI 0 - 1)), (5, .int ((lf5_gives_16 a19 a20 a21 x p2 p3 j v4 v5).2)), (4, .int ((lf5_gives_16 a19 a20 a21 x p2 p3 j v4 v5).1)), (0, .ref (a 0)), (1, .int (nI (x))), (2, .int (p2)), (3, .int (p3))] → W p l e ({ frames := 0, cells := 0, slots := 0, locals := 0 } : Room) s m args below meth c H1 locs1 0 0 Q (F0 m 105 ls1 [])), W p l e ({ frames := 0, cells := 0, slots := 0, locals := 0 } : Room) s m args below meth c H locs 0 0 Q (F0 m 16 ls []) := by
  have i5 : ∀ w ∈ wsX50, w ∈ wsX5_gives := fun _ h => List.mem_cons_of_mem _ (List.mem_append_right _ h)
  have lk52 := hts (.fieldLink RX5 52 "RentSizesModel" "layerBytes" "[I") (by decide +kernel)
  have lk55 := hts (.fieldLink RX5 55 "RentSizesModel" "layerPrice" "[I") (by decide +kernel)
  have lk58 := hts (.fieldLink RX5 58 "RentSizesModel" "layerFrom" "[I") (by decide +kernel)
  intro j
  induction j with
  | zero =>
    intro v4 v5 hj H locs ls hw hl kk
    refine lv_iload hx hb dX5_gives_16 (lv_at hl 0 rfl) ?_
    refine lv_if_lt (tgt := 105) hx hb dX5_gives_18 (by decide) (fun c_18 => ?_) (fun c_18 => ?_)
    · exact kk _ _ _ hw (lv_sub hl [0, 1, 2, 3, 4, 5, 6] rfl)
    · exact absurd (by decide) c_18
  | succ j ih =>
    intro v4 v5 hj H locs ls hw hl kk
    have hl : lv_has ls 9 [(6, .int (nI (j))), (5, .int (v5)), (4, .int (v4)), (0, .ref (a 0)), (1, .int (nI (x))), (2, .int (p2)), (3, .int (p3))] := by rw [nI_pred] at hl; exact hl
    refine lv_iload hx hb dX5_gives_16 (lv_at hl 0 rfl) ?_
    refine lv_if_lt (tgt := 105) hx hb dX5_gives_18 (by decide) (fun c_18 => ?_) (fun c_18 => ?_)
    · exact absurd c_18 (nI_pos (by omega))
    · refine lv_bipush (v := 16) hx hb dX5_gives_21 (by decide) ?_
      refine lv_iload_n hx hb dX5_gives_23 rfl (lv_at hl 4 rfl) ?_
      refine lv_imul hx hb dX5_gives_24 ?_
      refine r_top (nI (16 * x)) (show nI (16) * nI (x) = nI (16 * x) from pk_mul _ _) ?_
      refine lv_iload hx hb dX5_gives_25 (lv_at hl 0 rfl) ?_
      refine lv_iadd hx hb dX5_gives_27 ?_
      refine r_top (nI ((16 * x) + j)) (show nI (16 * x) + nI (j) = nI ((16 * x) + j) from nI_add _ _) ?_
      refine lv_istore (lv' := [(7, .int (nI ((16 * x) + j))), (6, .int (nI (j))), (5, .int (v5)), (4, .int (v4)), (0, .ref (a 0)), (1, .int (nI (x))), (2, .int (p2)), (3, .int (p3))]) hx hb dX5_gives_28 hl (by decide) rfl (fun ls hl => ?_)
      refine lv_aload_n hx hb dX5_gives_30 rfl (lv_at hl 4 rfl) ?_
      refine r_get (C := RX5) (T := TX5) (v := .ref (a 19)) hx hb hts i5 hown hw 0 rfl rfl 19 (by decide) lk52 rfl dX5_gives_31 ?_
      refine lv_iload hx hb dX5_gives_34 (lv_at hl 0 rfl) ?_
      refine r_ialdN (v := a19 ((16 * x) + j)) hx hb hw 15 rfl ht0 ((16 * x) + j) (by omega) (by decide) dX5_gives_36 rfl ?_
      refine lv_iload hx hb dX5_gives_37 (lv_at hl 3 rfl) ?_
      refine lv_icmp_ge (tgt := 52) hx hb dX5_gives_39 (by decide) (fun c_39 => ?_) (fun c_39 => ?_)
      · refine lv_iload hx hb dX5_gives_52 (lv_at hl 3 rfl) ?_
        refine lv_istore (lv' := [(8, .int (v4)), (7, .int (nI ((16 * x) + j))), (6, .int (nI (j))), (5, .int (v5)), (4, .int (v4)), (0, .ref (a 0)), (1, .int (nI (x))), (2, .int (p2)), (3, .int (p3))]) hx hb dX5_gives_54 hl (by decide) rfl (fun ls hl => ?_)
        refine lv_iload hx hb dX5_gives_56 (lv_at hl 3 rfl) ?_
        refine lv_iload_n hx hb dX5_gives_58 rfl (lv_at hl 8 rfl) ?_
        refine lv_bipush (v := (-109)) hx hb dX5_gives_59 (by decide) ?_
        refine lv_icmp_eq (tgt := 75) hx hb dX5_gives_61 (by decide) (fun c_61 => ?_) (fun c_61 => ?_)
        · refine lv_iload hx hb dX5_gives_75 (lv_at hl 0 rfl) ?_
          refine lv_aload_n hx hb dX5_gives_77 rfl (lv_at hl 5 rfl) ?_
          refine r_get (C := RX5) (T := TX5) (v := .ref (a 20)) hx hb hts i5 hown hw 0 rfl rfl 20 (by decide) lk55 rfl dX5_gives_78 ?_
          refine lv_iload hx hb dX5_gives_81 (lv_at hl 1 rfl) ?_
          refine r_ialdN (v := a20 ((16 * x) + j)) hx hb hw 16 rfl ht0 ((16 * x) + j) (by omega) (by decide) dX5_gives_83 rfl ?_
          refine lv_imul hx hb dX5_gives_84 ?_
          refine lv_goto (tgt := 89) hx hb dX5_gives_85 (by decide) ?_
          refine lv_iadd hx hb dX5_gives_89 ?_
          refine lv_istore (lv' := [(5, .int (v5 + (v4 * (a20 ((16 * x) + j))))), (8, .int (v4)), (7, .int (nI ((16 * x) + j))), (6, .int (nI (j))), (4, .int (v4)), (0, .ref (a 0)), (1, .int (nI (x))), (2, .int (p2)), (3, .int (p3))]) hx hb dX5_gives_90 hl (by decide) rfl (fun ls hl => ?_)
          refine lv_iload hx hb dX5_gives_92 (lv_at hl 4 rfl) ?_
          refine lv_iload hx hb dX5_gives_94 (lv_at hl 1 rfl) ?_
          refine lv_isub hx hb dX5_gives_96 ?_
          refine lv_istore (lv' := [(4, .int (v4 - v4)), (5, .int (v5 + (v4 * (a20 ((16 * x) + j))))), (8, .int (v4)), (7, .int (nI ((16 * x) + j))), (6, .int (nI (j))), (0, .ref (a 0)), (1, .int (nI (x))), (2, .int (p2)), (3, .int (p3))]) hx hb dX5_gives_97 hl (by decide) rfl (fun ls hl => ?_)
          refine lv_iinc (v := (nI (j)) - 1) (lv' := [(6, .int ((nI (j)) - 1)), (4, .int (v4 - v4)), (5, .int (v5 + (v4 * (a20 ((16 * x) + j))))), (8, .int (v4)), (7, .int (nI ((16 * x) + j))), (0, .ref (a 0)), (1, .int (nI (x))), (2, .int (p2)), (3, .int (p3))]) hx hb dX5_gives_99 hl (k := 4) rfl (am1 _) (by decide) rfl (fun ls hl => ?_)
          refine lv_goto (tgt := 16) hx hb dX5_gives_102 (by decide) ?_
          have e9 : lf5_gives_16 a19 a20 a21 x p2 p3 (j + 1) v4 v5 = lf5_gives_16 a19 a20 a21 x p2 p3 j (v4 - v4) (v5 + (v4 * (a20 ((16 * x) + j)))) := by rw [lf5_gives_16]; rw [if_pos c_39, if_pos c_61]
          rw [e9] at kk
          exact ih (v4 - v4) (v5 + (v4 * (a20 ((16 * x) + j)))) (by omega)  _ _ _ hw (lv_sub hl [0, 2, 1, 5, 6, 7, 8] rfl) kk
        · refine lv_aload_n hx hb dX5_gives_64 rfl (lv_at hl 5 rfl) ?_
          refine r_get (C := RX5) (T := TX5) (v := .ref (a 21)) hx hb hts i5 hown hw 0 rfl rfl 21 (by decide) lk58 rfl dX5_gives_65 ?_
          refine lv_iload hx hb dX5_gives_68 (lv_at hl 1 rfl) ?_
          refine r_ialdN (v := a21 ((16 * x) + j)) hx hb hw 17 rfl ht0 ((16 * x) + j) (by omega) (by decide) dX5_gives_70 rfl ?_
          refine lv_iload_n hx hb dX5_gives_71 rfl (lv_at hl 8 rfl) ?_
          refine lv_icmp_ne (tgt := 88) hx hb dX5_gives_72 (by decide) (fun c_72 => ?_) (fun c_72 => ?_)
          · refine lv_iconst (v := 0) hx hb dX5_gives_88 (by decide) ?_
            refine lv_iadd hx hb dX5_gives_89 ?_
            refine lv_istore (lv' := [(5, .int (v5 + 0)), (8, .int (v4)), (7, .int (nI ((16 * x) + j))), (6, .int (nI (j))), (4, .int (v4)), (0, .ref (a 0)), (1, .int (nI (x))), (2, .int (p2)), (3, .int (p3))]) hx hb dX5_gives_90 hl (by decide) rfl (fun ls hl => ?_)
            refine lv_iload hx hb dX5_gives_92 (lv_at hl 4 rfl) ?_
            refine lv_iload hx hb dX5_gives_94 (lv_at hl 1 rfl) ?_
            refine lv_isub hx hb dX5_gives_96 ?_
            refine lv_istore (lv' := [(4, .int (v4 - v4)), (5, .int (v5 + 0)), (8, .int (v4)), (7, .int (nI ((16 * x) + j))), (6, .int (nI (j))), (0, .ref (a 0)), (1, .int (nI (x))), (2, .int (p2)), (3, .int (p3))]) hx hb dX5_gives_97 hl (by decide) rfl (fun ls hl => ?_)
            refine lv_iinc (v := (nI (j)) - 1) (lv' := [(6, .int ((nI (j)) - 1)), (4, .int (v4 - v4)), (5, .int (v5 + 0)), (8, .int (v4)), (7, .int (nI ((16 * x) + j))), (0, .ref (a 0)), (1, .int (nI (x))), (2, .int (p2)), (3, .int (p3))]) hx hb dX5_gives_99 hl (k := 4) rfl (am1 _) (by decide) rfl (fun ls hl => ?_)
            refine lv_goto (tgt := 16) hx hb dX5_gives_102 (by decide) ?_
            have e9 : lf5_gives_16 a19 a20 a21 x p2 p3 (j + 1) v4 v5 = lf5_gives_16 a19 a20 a21 x p2 p3 j (v4 - v4) (v5 + 0) := by rw [lf5_gives_16]; rw [if_pos c_39, if_neg c_61, if_neg c_72]
            rw [e9] at kk
            exact ih (v4 - v4) (v5 + 0) (by omega)  _ _ _ hw (lv_sub hl [0, 2, 1, 5, 6, 7, 8] rfl) kk
          · refine lv_iload hx hb dX5_gives_75 (lv_at hl 0 rfl) ?_
            refine lv_aload_n hx hb dX5_gives_77 rfl (lv_at hl 5 rfl) ?_
            refine r_get (C := RX5) (T := TX5) (v := .ref (a 20)) hx hb hts i5 hown hw 0 rfl rfl 20 (by decide) lk55 rfl dX5_gives_78 ?_
            refine lv_iload hx hb dX5_gives_81 (lv_at hl 1 rfl) ?_
            refine r_ialdN (v := a20 ((16 * x) + j)) hx hb hw 16 rfl ht0 ((16 * x) + j) (by omega) (by decide) dX5_gives_83 rfl ?_
            refine lv_imul hx hb dX5_gives_84 ?_
            refine lv_goto (tgt := 89) hx hb dX5_gives_85 (by decide) ?_
            refine lv_iadd hx hb dX5_gives_89 ?_
            refine lv_istore (lv' := [(5, .int (v5 + (v4 * (a20 ((16 * x) + j))))), (8, .int (v4)), (7, .int (nI ((16 * x) + j))), (6, .int (nI (j))), (4, .int (v4)), (0, .ref (a 0)), (1, .int (nI (x))), (2, .int (p2)), (3, .int (p3))]) hx hb dX5_gives_90 hl (by decide) rfl (fun ls hl => ?_)
            refine lv_iload hx hb dX5_gives_92 (lv_at hl 4 rfl) ?_
            refine lv_iload hx hb dX5_gives_94 (lv_at hl 1 rfl) ?_
            refine lv_isub hx hb dX5_gives_96 ?_
            refine lv_istore (lv' := [(4, .int (v4 - v4)), (5, .int (v5 + (v4 * (a20 ((16 * x) + j))))), (8, .int (v4)), (7, .int (nI ((16 * x) + j))), (6, .int (nI (j))), (0, .ref (a 0)), (1, .int (nI (x))), (2, .int (p2)), (3, .int (p3))]) hx hb dX5_gives_97 hl (by decide) rfl (fun ls hl => ?_)
            refine lv_iinc (v := (nI (j)) - 1) (lv' := [(6, .int ((nI (j)) - 1)), (4, .int (v4 - v4)), (5, .int (v5 + (v4 * (a20 ((16 * x) + j))))), (8, .int (v4)), (7, .int (nI ((16 * x) + j))), (0, .ref (a 0)), (1, .int (nI (x))), (2, .int (p2)), (3, .int (p3))]) hx hb dX5_gives_99 hl (k := 4) rfl (am1 _) (by decide) rfl (fun ls hl => ?_)
            refine lv_goto (tgt := 16) hx hb dX5_gives_102 (by decide) ?_
            have e9 : lf5_gives_16 a19 a20 a21 x p2 p3 (j + 1) v4 v5 = lf5_gives_16 a19 a20 a21 x p2 p3 j (v4 - v4) (v5 + (v4 * (a20 ((16 * x) + j)))) := by rw [lf5_gives_16]; rw [if_pos c_39, if_neg c_61, if_pos c_72]
            rw [e9] at kk
            exact ih (v4 - v4) (v5 + (v4 * (a20 ((16 * x) + j)))) (by omega)  _ _ _ hw (lv_sub hl [0, 2, 1, 5, 6, 7, 8] rfl) kk
      · refine lv_aload_n hx hb dX5_gives_42 rfl (lv_at hl 4 rfl) ?_
        refine r_get (C := RX5) (T := TX5) (v := .ref (a 19)) hx hb hts i5 hown hw 0 rfl rfl 19 (by decide) lk52 rfl dX5_gives_43 ?_
        refine lv_iload hx hb dX5_gives_46 (lv_at hl 0 rfl) ?_
        refine r_ialdN (v := a19 ((16 * x) + j)) hx hb hw 15 rfl ht0 ((16 * x) + j) (by omega) (by decide) dX5_gives_48 rfl ?_
        refine lv_goto (tgt := 54) hx hb dX5_gives_49 (by decide) ?_
        refine lv_istore (lv' := [(8, .int (a19 ((16 * x) + j))), (7, .int (nI ((16 * x) + j))), (6, .int (nI (j))), (5, .int (v5)), (4, .int (v4)), (0, .ref (a 0)), (1, .int (nI (x))), (2, .int (p2)), (3, .int (p3))]) hx hb dX5_gives_54 hl (by decide) rfl (fun ls hl => ?_)
        refine lv_iload hx hb dX5_gives_56 (lv_at hl 3 rfl) ?_
        refine lv_iload_n hx hb dX5_gives_58 rfl (lv_at hl 8 rfl) ?_
        refine lv_bipush (v := (-109)) hx hb dX5_gives_59 (by decide) ?_
        refine lv_icmp_eq (tgt := 75) hx hb dX5_gives_61 (by decide) (fun c_61 => ?_) (fun c_61 => ?_)
        · refine lv_iload hx hb dX5_gives_75 (lv_at hl 0 rfl) ?_
          refine lv_aload_n hx hb dX5_gives_77 rfl (lv_at hl 5 rfl) ?_
          refine r_get (C := RX5) (T := TX5) (v := .ref (a 20)) hx hb hts i5 hown hw 0 rfl rfl 20 (by decide) lk55 rfl dX5_gives_78 ?_
          refine lv_iload hx hb dX5_gives_81 (lv_at hl 1 rfl) ?_
          refine r_ialdN (v := a20 ((16 * x) + j)) hx hb hw 16 rfl ht0 ((16 * x) + j) (by omega) (by decide) dX5_gives_83 rfl ?_
          refine lv_imul hx hb dX5_gives_84 ?_
          refine lv_goto (tgt := 89) hx hb dX5_gives_85 (by decide) ?_
          refine lv_iadd hx hb dX5_gives_89 ?_
          refine lv_istore (lv' := [(5, .int (v5 + ((a19 ((16 * x) + j)) * (a20 ((16 * x) + j))))), (8, .int (a19 ((16 * x) + j))), (7, .int (nI ((16 * x) + j))), (6, .int (nI (j))), (4, .int (v4)), (0, .ref (a 0)), (1, .int (nI (x))), (2, .int (p2)), (3, .int (p3))]) hx hb dX5_gives_90 hl (by decide) rfl (fun ls hl => ?_)
          refine lv_iload hx hb dX5_gives_92 (lv_at hl 4 rfl) ?_
          refine lv_iload hx hb dX5_gives_94 (lv_at hl 1 rfl) ?_
          refine lv_isub hx hb dX5_gives_96 ?_
          refine lv_istore (lv' := [(4, .int (v4 - (a19 ((16 * x) + j)))), (5, .int (v5 + ((a19 ((16 * x) + j)) * (a20 ((16 * x) + j))))), (8, .int (a19 ((16 * x) + j))), (7, .int (nI ((16 * x) + j))), (6, .int (nI (j))), (0, .ref (a 0)), (1, .int (nI (x))), (2, .int (p2)), (3, .int (p3))]) hx hb dX5_gives_97 hl (by decide) rfl (fun ls hl => ?_)
          refine lv_iinc (v := (nI (j)) - 1) (lv' := [(6, .int ((nI (j)) - 1)), (4, .int (v4 - (a19 ((16 * x) + j)))), (5, .int (v5 + ((a19 ((16 * x) + j)) * (a20 ((16 * x) + j))))), (8, .int (a19 ((16 * x) + j))), (7, .int (nI ((16 * x) + j))), (0, .ref (a 0)), (1, .int (nI (x))), (2, .int (p2)), (3, .int (p3))]) hx hb dX5_gives_99 hl (k := 4) rfl (am1 _) (by decide) rfl (fun ls hl => ?_)
          refine lv_goto (tgt := 16) hx hb dX5_gives_102 (by decide) ?_
          have e9 : lf5_gives_16 a19 a20 a21 x p2 p3 (j + 1) v4 v5 = lf5_gives_16 a19 a20 a21 x p2 p3 j (v4 - (a19 ((16 * x) + j))) (v5 + ((a19 ((16 * x) + j)) * (a20 ((16 * x) + j)))) := by rw [lf5_gives_16]; rw [if_neg c_39, if_pos c_61]
          rw [e9] at kk
          exact ih (v4 - (a19 ((16 * x) + j))) (v5 + ((a19 ((16 * x) + j)) * (a20 ((16 * x) + j)))) (by omega)  _ _ _ hw (lv_sub hl [0, 2, 1, 5, 6, 7, 8] rfl) kk
        · refine lv_aload_n hx hb dX5_gives_64 rfl (lv_at hl 5 rfl) ?_
          refine r_get (C := RX5) (T := TX5) (v := .ref (a 21)) hx hb hts i5 hown hw 0 rfl rfl 21 (by decide) lk58 rfl dX5_gives_65 ?_
          refine lv_iload hx hb dX5_gives_68 (lv_at hl 1 rfl) ?_
          refine r_ialdN (v := a21 ((16 * x) + j)) hx hb hw 17 rfl ht0 ((16 * x) + j) (by omega) (by decide) dX5_gives_70 rfl ?_
          refine lv_iload_n hx hb dX5_gives_71 rfl (lv_at hl 8 rfl) ?_
          refine lv_icmp_ne (tgt := 88) hx hb dX5_gives_72 (by decide) (fun c_72 => ?_) (fun c_72 => ?_)
          · refine lv_iconst (v := 0) hx hb dX5_gives_88 (by decide) ?_
            refine lv_iadd hx hb dX5_gives_89 ?_
            refine lv_istore (lv' := [(5, .int (v5 + 0)), (8, .int (a19 ((16 * x) + j))), (7, .int (nI ((16 * x) + j))), (6, .int (nI (j))), (4, .int (v4)), (0, .ref (a 0)), (1, .int (nI (x))), (2, .int (p2)), (3, .int (p3))]) hx hb dX5_gives_90 hl (by decide) rfl (fun ls hl => ?_)
            refine lv_iload hx hb dX5_gives_92 (lv_at hl 4 rfl) ?_
            refine lv_iload hx hb dX5_gives_94 (lv_at hl 1 rfl) ?_
            refine lv_isub hx hb dX5_gives_96 ?_
            refine lv_istore (lv' := [(4, .int (v4 - (a19 ((16 * x) + j)))), (5, .int (v5 + 0)), (8, .int (a19 ((16 * x) + j))), (7, .int (nI ((16 * x) + j))), (6, .int (nI (j))), (0, .ref (a 0)), (1, .int (nI (x))), (2, .int (p2)), (3, .int (p3))]) hx hb dX5_gives_97 hl (by decide) rfl (fun ls hl => ?_)
            refine lv_iinc (v := (nI (j)) - 1) (lv' := [(6, .int ((nI (j)) - 1)), (4, .int (v4 - (a19 ((16 * x) + j)))), (5, .int (v5 + 0)), (8, .int (a19 ((16 * x) + j))), (7, .int (nI ((16 * x) + j))), (0, .ref (a 0)), (1, .int (nI (x))), (2, .int (p2)), (3, .int (p3))]) hx hb dX5_gives_99 hl (k := 4) rfl (am1 _) (by decide) rfl (fun ls hl => ?_)
            refine lv_goto (tgt := 16) hx hb dX5_gives_102 (by decide) ?_
            have e9 : lf5_gives_16 a19 a20 a21 x p2 p3 (j + 1) v4 v5 = lf5_gives_16 a19 a20 a21 x p2 p3 j (v4 - (a19 ((16 * x) + j))) (v5 + 0) := by rw [lf5_gives_16]; rw [if_neg c_39, if_neg c_61, if_neg c_72]
            rw [e9] at kk
            exact ih (v4 - (a19 ((16 * x) + j))) (v5 + 0) (by omega)  _ _ _ hw (lv_sub hl [0, 2, 1, 5, 6, 7, 8] rfl) kk
          · refine lv_iload hx hb dX5_gives_75 (lv_at hl 0 rfl) ?_
            refine lv_aload_n hx hb dX5_gives_77 rfl (lv_at hl 5 rfl) ?_
            refine r_get (C := RX5) (T := TX5) (v := .ref (a 20)) hx hb hts i5 hown hw 0 rfl rfl 20 (by decide) lk55 rfl dX5_gives_78 ?_
            refine lv_iload hx hb dX5_gives_81 (lv_at hl 1 rfl) ?_
            refine r_ialdN (v := a20 ((16 * x) + j)) hx hb hw 16 rfl ht0 ((16 * x) + j) (by omega) (by decide) dX5_gives_83 rfl ?_
            refine lv_imul hx hb dX5_gives_84 ?_
            refine lv_goto (tgt := 89) hx hb dX5_gives_85 (by decide) ?_
            refine lv_iadd hx hb dX5_gives_89 ?_
            refine lv_istore (lv' := [(5, .int (v5 + ((a19 ((16 * x) + j)) * (a20 ((16 * x) + j))))), (8, .int (a19 ((16 * x) + j))), (7, .int (nI ((16 * x) + j))), (6, .int (nI (j))), (4, .int (v4)), (0, .ref (a 0)), (1, .int (nI (x))), (2, .int (p2)), (3, .int (p3))]) hx hb dX5_gives_90 hl (by decide) rfl (fun ls hl => ?_)
            refine lv_iload hx hb dX5_gives_92 (lv_at hl 4 rfl) ?_
            refine lv_iload hx hb dX5_gives_94 (lv_at hl 1 rfl) ?_
            refine lv_isub hx hb dX5_gives_96 ?_
            refine lv_istore (lv' := [(4, .int (v4 - (a19 ((16 * x) + j)))), (5, .int (v5 + ((a19 ((16 * x) + j)) * (a20 ((16 * x) + j))))), (8, .int (a19 ((16 * x) + j))), (7, .int (nI ((16 * x) + j))), (6, .int (nI (j))), (0, .ref (a 0)), (1, .int (nI (x))), (2, .int (p2)), (3, .int (p3))]) hx hb dX5_gives_97 hl (by decide) rfl (fun ls hl => ?_)
            refine lv_iinc (v := (nI (j)) - 1) (lv' := [(6, .int ((nI (j)) - 1)), (4, .int (v4 - (a19 ((16 * x) + j)))), (5, .int (v5 + ((a19 ((16 * x) + j)) * (a20 ((16 * x) + j))))), (8, .int (a19 ((16 * x) + j))), (7, .int (nI ((16 * x) + j))), (0, .ref (a 0)), (1, .int (nI (x))), (2, .int (p2)), (3, .int (p3))]) hx hb dX5_gives_99 hl (k := 4) rfl (am1 _) (by decide) rfl (fun ls hl => ?_)
            refine lv_goto (tgt := 16) hx hb dX5_gives_102 (by decide) ?_
            have e9 : lf5_gives_16 a19 a20 a21 x p2 p3 (j + 1) v4 v5 = lf5_gives_16 a19 a20 a21 x p2 p3 j (v4 - (a19 ((16 * x) + j))) (v5 + ((a19 ((16 * x) + j)) * (a20 ((16 * x) + j)))) := by rw [lf5_gives_16]; rw [if_neg c_39, if_neg c_61, if_pos c_72]
            rw [e9] at kk
            exact ih (v4 - (a19 ((16 * x) + j))) (v5 + ((a19 ((16 * x) + j)) * (a20 ((16 * x) + j)))) (by omega)  _ _ _ hw (lv_sub hl [0, 2, 1, 5, 6, 7, 8] rfl) kk
def f5_gives (a18 : Nat → Int32) (a19 : Nat → Int32) (a20 : Nat → Int32) (a21 : Nat → Int32) (x : Nat) (p2 : Int32) (p3 : Int32) : Int32 :=
  (lf5_gives_16 a19 a20 a21 x p2 p3 (tn (a18 x)) p2 0).2
set_option maxHeartbeats 4000000 in
set_option maxRecDepth 100000 in
theorem k5_gives (l : Launch) (D : va_G) (ty : List (ClassId × FieldType)) (a : Nat → Nat) (cI : ClassId) (ht0 : ty[0]? = some (cI, .int)) (s0 : Int32) (s1 : Int32) (a2 : Nat → Int32) (a3 : Nat → Int32) (a4 : Nat → Int32) (a5 : Nat → Int32) (a6 : Nat → Int32) (a7 : Nat → Int32) (a8 : Nat → Int32) (a9 : Nat → Int32) (s10 : Int32) (s11 : Int32) (s12 : Int32) (a13 : Nat → Int32) (a14 : Nat → Int32) (a15 : Nat → Int32) (a16 : Nat → Int32) (a17 : Nat → Int32) (a18 : Nat → Int32) (a19 : Nat → Int32) (a20 : Nat → Int32) (a21 : Nat → Int32) (s22 : Int32) (x : Nat) (p2 : Int32) (p3 : Int32) (hx60 : x < 60) (hl0 : a18 x = nI (tn (a18 x))) (hl1 : tn (a18 x) ≤ 16) : MetG l yX5_gives wsX5_gives { frames := 0, cells := 0, slots := 0, locals := 0 } D ty [.ref (a 0), .int (nI (x)), .int (p2), .int (p3)] (MW a cI s0 s1 a2 a3 a4 a5 a6 a7 a8 a9 s10 s11 s12 a13 a14 a15 a16 a17 a18 a19 a20 a21 s22) (va_Qi (fun r w => r = f5_gives a18 a19 a20 a21 x p2 p3 ∧ w = MW a cI s0 s1 a2 a3 a4 a5 a6 a7 a8 a9 s10 s11 s12 a13 a14 a15 a16 a17 a18 a19 a20 a21 s22)) 0 0 := by
  refine Met_start cX5_gives 9 (some .int) (by decide) rfl (Nat.le_of_ble_eq_true rfl) ?_
  intro p e s m below meth c A ls hx hb hr hlocks hml hnm hts hown hw hl
  have hl : lv_has ls 9 [(0, .ref (a 0)), (1, .int (nI (x))), (2, .int (p2)), (3, .int (p3))] := hl
  have i5 : ∀ w ∈ wsX50, w ∈ wsX5_gives := fun _ h => List.mem_cons_of_mem _ (List.mem_append_right _ h)
  have lk49 := hts (.fieldLink RX5 49 "RentSizesModel" "layers" "[I") (by decide +kernel)
  refine lv_iload_n hx hb dX5_gives_0 rfl (lv_at hl 2 rfl) ?_
  refine lv_istore (lv' := [(4, .int (p2)), (0, .ref (a 0)), (1, .int (nI (x))), (2, .int (p2)), (3, .int (p3))]) hx hb dX5_gives_1 hl (by decide) rfl (fun ls hl => ?_)
  refine lv_iconst (v := 0) hx hb dX5_gives_3 (by decide) ?_
  refine lv_istore (lv' := [(5, .int (0)), (4, .int (p2)), (0, .ref (a 0)), (1, .int (nI (x))), (2, .int (p2)), (3, .int (p3))]) hx hb dX5_gives_4 hl (by decide) rfl (fun ls hl => ?_)
  refine lv_aload_n hx hb dX5_gives_6 rfl (lv_at hl 2 rfl) ?_
  refine r_get (C := RX5) (T := TX5) (v := .ref (a 18)) hx hb hts i5 hown hw 0 rfl rfl 18 (by decide) lk49 rfl dX5_gives_7 ?_
  refine lv_iload_n hx hb dX5_gives_10 rfl (lv_at hl 3 rfl) ?_
  refine r_ialdN (v := a18 x) hx hb hw 14 rfl ht0 x (by omega) (by decide) dX5_gives_11 rfl ?_
  refine r_top (nI (tn (a18 x))) hl0 ?_
  refine lv_iconst (v := 1) hx hb dX5_gives_12 (by decide) ?_
  refine lv_isub hx hb dX5_gives_13 ?_
  refine lv_istore (lv' := [(6, .int ((nI (tn (a18 x))) - 1)), (5, .int (0)), (4, .int (p2)), (0, .ref (a 0)), (1, .int (nI (x))), (2, .int (p2)), (3, .int (p3))]) hx hb dX5_gives_14 hl (by decide) rfl (fun ls hl => ?_)
  refine lt5_gives_16 l D ty a cI ht0 s0 s1 a2 a3 a4 a5 a6 a7 a8 a9 s10 s11 s12 a13 a14 a15 a16 a17 a18 a19 a20 a21 s22 x p2 p3 hx60 hl0 hl1  hx hb hml hts hown (tn (a18 x)) p2 0 (by omega)  _ _ _ hw hl (fun H locs ls hw hl => ?_)
  refine lv_iload hx hb dX5_gives_105 (lv_at hl 1 rfl) ?_
  have e9 : f5_gives a18 a19 a20 a21 x p2 p3 = (lf5_gives_16 a19 a20 a21 x p2 p3 (tn (a18 x)) p2 0).2 := by unfold f5_gives; rfl
  exact r_iret hx hb hr hlocks hw ⟨by rw [e9] <;> rfl, rfl⟩ dX5_gives_107
def gINV (x k : Nat) (v4 : Int32) (f18 f19 : Nat → Int32) : Prop := f18 x = nI (tn (f18 x)) ∧ tn (f18 x) ≤ 16 ∧ (∀ i, i < tn (f18 x) → 0 < (f19 (16 * x + i)).toInt) ∧ v4.toInt ≤ sB f19 (16 * x) (tn (f18 x)) ∧ (0 < v4.toInt → tn (f18 x) + 1 ≤ k) ∧ 0 ≤ v4.toInt
theorem g_v {v : Int32} : ¬ v ≤ 0 ↔ 0 < v.toInt := by
  rw [Int32.le_iff_toInt_le]; show ¬ v.toInt ≤ 0 ↔ _; omega
theorem g_pos {x k : Nat} {v4 : Int32} {f18 f19 : Nat → Int32} (h : gINV x k v4 f18 f19) (h0 : ¬ v4 ≤ 0) : 1 ≤ tn (f18 x) := by
  obtain ⟨h1, h2, h3, h4, h5, h6⟩ := h
  have := g_v.mp h0
  by_cases c : tn (f18 x) = 0
  · rw [c] at h4; simp only [sB] at h4; omega
  · omega
theorem g_step {x k : Nat} {v4 go d : Int32} {f18 f19 : Nat → Int32} (h : gINV x (k + 1) v4 f18 f19) (h0 : ¬ v4 ≤ 0)
    (hgo : (go = v4 ∧ v4 ≤ f19 (16 * x + (tn (f18 x) - 1))) ∨ (go = f19 (16 * x + (tn (f18 x) - 1)) ∧ ¬ v4 ≤ f19 (16 * x + (tn (f18 x) - 1))))
    (hd : (d = 0 ∧ ¬ (upd f19 (16 * x + (tn (f18 x) - 1)) (f19 (16 * x + (tn (f18 x) - 1)) - go)) (16 * x + (tn (f18 x) - 1)) = 0) ∨ (d = 1 ∧ (upd f19 (16 * x + (tn (f18 x) - 1)) (f19 (16 * x + (tn (f18 x) - 1)) - go)) (16 * x + (tn (f18 x) - 1)) = 0)) :
    gINV x k (v4 - go) (upd f18 x (nI (tn (f18 x)) - d)) (upd f19 (16 * x + (tn (f18 x) - 1)) (f19 (16 * x + (tn (f18 x) - 1)) - go)) := by
  have hp := g_pos h h0
  obtain ⟨h1, h2, h3, h4, h5, h6⟩ := h
  have hv := g_v.mp h0
  obtain ⟨L, hL⟩ : ∃ L, tn (f18 x) = L + 1 := ⟨tn (f18 x) - 1, by omega⟩
  rw [hL] at h2 h3 h4 h5 hgo hd ⊢
  simp only [Nat.add_sub_cancel] at hgo hd ⊢
  have hb := h3 L (by omega)
  have hbl := i32_hi (f19 (16 * x + L))
  have hvl := i32_hi v4
  rw [pk_us] at hd
  simp only [sB] at h4
  have hsame : sB (upd f19 (16 * x + L) (f19 (16 * x + L) - go)) (16 * x) L = sB f19 (16 * x) L := sB_same L (fun i hi => pk_un (by omega))
  have hnn := sB_nn (f := f19) (o := 16 * x) L (fun i hi => h3 i (by omega))
  have hz : (0 : Int32).toInt = 0 := rfl
  have hle : (go.toInt = v4.toInt ∧ v4.toInt ≤ (f19 (16 * x + L)).toInt) ∨ (go.toInt = (f19 (16 * x + L)).toInt ∧ (f19 (16 * x + L)).toInt < v4.toInt) := by
    rcases hgo with ⟨rfl, q⟩ | ⟨rfl, q⟩
    · exact Or.inl ⟨rfl, Int32.le_iff_toInt_le.mp q⟩
    · rw [Int32.le_iff_toInt_le] at q; exact Or.inr ⟨rfl, by omega⟩
  have e1 : (v4 - go).toInt = v4.toInt - go.toInt := sub_toInt (by omega) (by omega)
  have e2 : (f19 (16 * x + L) - go).toInt = (f19 (16 * x + L)).toInt - go.toInt := sub_toInt (by omega) (by omega)
  rcases hd with ⟨rfl, q⟩ | ⟨rfl, q⟩
  · have q2 : ¬ (f19 (16 * x + L) - go).toInt = 0 := fun e => q (Int32.toInt_inj.mp (e.trans hz.symm))
    have ev : v4.toInt - go.toInt = 0 := by omega
    have ed : nI (L + 1) - (0 : Int32) = nI (L + 1) := Int32.sub_zero _
    have et : tn (upd f18 x (nI (L + 1) - 0) x) = L + 1 := by rw [pk_us, ed]; exact tn_nI (by omega)
    refine ⟨by rw [et, pk_us, ed], by rw [et]; omega, ?_, ?_, ?_, by omega⟩
    · rw [et]; intro i hi
      by_cases c : i = L
      · subst c; rw [pk_us]; omega
      · rw [pk_un (by omega)]; exact h3 i (by omega)
    · rw [et]; simp only [sB]; rw [hsame, pk_us]; omega
    · intro q3; omega
  · have q2 : (f19 (16 * x + L) - go).toInt = 0 := by rw [q]; rfl
    have ed : nI (L + 1) - (1 : Int32) = nI L := nI_pred L
    have et : tn (upd f18 x (nI (L + 1) - 1) x) = L := by rw [pk_us, ed]; exact tn_nI (by omega)
    refine ⟨by rw [et, pk_us, ed], by rw [et]; omega, ?_, ?_, ?_, by omega⟩
    · rw [et]; intro i hi
      rw [pk_un (by omega)]; exact h3 i (by omega)
    · rw [et, hsame]; omega
    · intro q3; rw [et]; have := h5 hv; omega
def lf5_goes_12 (a18 : Nat → Int32) (a19 : Nat → Int32) (a20 : Nat → Int32) (a21 : Nat → Int32) (x : Nat) (p2 : Int32) (v3 : Int32) : Nat → Nat → (Nat → Int32) → (Nat → Int32)
  | 0, _, f6 => f6
  | k + 1, j, f6 => lf5_goes_12 a18 a19 a20 a21 x p2 v3 k (j + 1) (upd f6 j ((f6 j) + (f5_gives a18 a19 a20 a21 x p2 (nI (j)))))
set_option maxHeartbeats 4000000 in
set_option maxRecDepth 100000 in
theorem lt5_goes_12 (l : Launch) (D : va_G) (ty : List (ClassId × FieldType)) (a : Nat → Nat) (cI : ClassId) (ht0 : ty[0]? = some (cI, .int)) (s0 : Int32) (s1 : Int32) (a2 : Nat → Int32) (a3 : Nat → Int32) (a4 : Nat → Int32) (a5 : Nat → Int32) (a6 : Nat → Int32) (a7 : Nat → Int32) (a8 : Nat → Int32) (a9 : Nat → Int32) (s10 : Int32) (s11 : Int32) (s12 : Int32) (a13 : Nat → Int32) (a14 : Nat → Int32) (a15 : Nat → Int32) (a16 : Nat → Int32) (a17 : Nat → Int32) (a18 : Nat → Int32) (a19 : Nat → Int32) (a20 : Nat → Int32) (a21 : Nat → Int32) (s22 : Int32) (x : Nat) (p2 : Int32) (hx60 : x < 60) (hl0 : a18 x = nI (tn (a18 x))) (hl1 : tn (a18 x) ≤ 16) (hpos : ∀ i, i < tn (a18 x) → 0 < (a19 (16 * x + i)).toInt) (hsum : p2.toInt ≤ sB a19 (16 * x) (tn (a18 x))) (h0p : 0 ≤ p2.toInt) (v3 : Int32) {p : Program} {e : Env} {s : State} {m : MethodId} {args : Array Value} {below : List Frame} {meth : Method} {c : Code} {A : Nat → Prop} {H0 : Heap} {Q : State → Prop} (hx : p.tables.exec = Jvm.exec) (hb : c.code = cX5_goes) (hml : c.maxLocals = 7) (hts : ∀ w ∈ wsX5_goes, w.before args s = true) (hown : s.vm.findClass RX5 = some m.cls) : ∀ (k j : Nat) (f6 : (Nat → Int32)) (hj : j + k = 6) (H : Heap) (locs : List Loc) (ls : Array Slot) (hw : Wd D ty A H0 s (MW a cI s0 s1 a2 a3 a4 a5 f6 a7 a8 a9 s10 s11 s12 a13 a14 a15 a16 a17 a18 a19 a20 a21 s22) H locs) (hl : lv_has ls 7 [(4, .int (nI (j))), (3, .int (v3)), (0, .ref (a 0)), (1, .int (nI (x))), (2, .int (p2))]) (kk : ∀ (H1 : Heap) (locs1 : List Loc) (ls1 : Array Slot), Wd D ty A H0 s (MW a cI s0 s1 a2 a3 a4 a5 (lf5_goes_12 a18 a19 a20 a21 x p2 v3 k j f6) a7 a8 a9 s10 s11 s12 a13 a14 a15 a16 a17 a18 a19 a20 a21 s22) H1 locs1 → lv_has ls1 7 [(4, .int (nI (6))), (3, .int (v3)), (0, .ref (a 0)), (1, .int (nI (x))), (2, .int (p2))] → W p l e ({ frames := 1, cells := 0, slots := 0, locals := 28 } : Room) s m args below meth c H1 locs1 0 0 Q (F0 m 43 ls1 [])), W p l e ({ frames := 1, cells := 0, slots := 0, locals := 28 } : Room) s m args below meth c H locs 0 0 Q (F0 m 12 ls []) := by
  have i5 : ∀ w ∈ wsX50, w ∈ wsX5_goes := fun _ h => List.mem_cons_of_mem _ (List.mem_append_right _ h)
  have lk22 := hts (.fieldLink RX5 22 "RentSizesModel" "accountCoins" "[I") (by decide +kernel)
  intro k
  induction k with
  | zero =>
    intro j f6 hj H locs ls hw hl kk
    have hj0 : j = 6 := by omega
    refine lv_iload hx hb dX5_goes_12 (lv_at hl 0 rfl) ?_
    refine lv_bipush (v := 6) hx hb dX5_goes_14 (by decide) ?_
    refine r_top (nI 6) rfl ?_
    refine lv_icmp_ge (tgt := 43) hx hb dX5_goes_16 (by decide) (fun c_16 => ?_) (fun c_16 => ?_)
    · subst hj0
      exact kk _ _ _ hw (lv_sub hl [0, 1, 2, 3, 4] rfl)
    · exact absurd (nI_le (by omega) (by omega)) c_16
  | succ k ih =>
    intro j f6 hj H locs ls hw hl kk
    have hjb : j < 6 := by omega
    refine lv_iload hx hb dX5_goes_12 (lv_at hl 0 rfl) ?_
    refine lv_bipush (v := 6) hx hb dX5_goes_14 (by decide) ?_
    refine r_top (nI 6) rfl ?_
    refine lv_icmp_ge (tgt := 43) hx hb dX5_goes_16 (by decide) (fun c_16 => ?_) (fun c_16 => ?_)
    · exact absurd c_16 (nI_ge (by omega) (by omega))
    · refine lv_aload_n hx hb dX5_goes_19 rfl (lv_at hl 2 rfl) ?_
      refine r_get (C := RX5) (T := TX5) (v := .ref (a 6)) hx hb hts i5 hown hw 0 rfl rfl 6 (by decide) lk22 rfl dX5_goes_20 ?_
      refine lv_iload hx hb dX5_goes_23 (lv_at hl 0 rfl) ?_
      refine lv_dup2_11 hx hb dX5_goes_25 rfl rfl ?_
      refine r_ialdN (v := f6 j) hx hb hw 5 rfl ht0 j (by omega) (by decide) dX5_goes_26 rfl ?_
      refine lv_aload_n hx hb dX5_goes_27 rfl (lv_at hl 2 rfl) ?_
      refine lv_iload_n hx hb dX5_goes_28 rfl (lv_at hl 3 rfl) ?_
      refine lv_iload_n hx hb dX5_goes_29 rfl (lv_at hl 4 rfl) ?_
      refine lv_iload hx hb dX5_goes_30 (lv_at hl 0 rfl) ?_
      refine r_callVi 0 rfl rfl (rest := [.int (f6 j), .int (nI (j)), .ref (a 6)]) ⟨hx, hb, hml, hown, hts⟩ hw [.int (nI (x)), .int (p2), .int (nI (j))] (k5_gives l D ty a cI ht0 s0 s1 a2 a3 a4 a5 f6 a7 a8 a9 s10 s11 s12 a13 a14 a15 a16 a17 a18 a19 a20 a21 s22 x p2 (nI (j)) (by first | assumption | omega) (by first | assumption | omega) (by first | assumption | omega)) (cwV 3 hts gX5_goes_X5_gives rfl rfl rfl (by decide +kernel) ⟨Nat.le_of_ble_eq_true rfl, Nat.le_of_ble_eq_true rfl⟩) rfl hl.1 rfl (Nat.le_of_ble_eq_true rfl) dX5_goes_32 ⟨Nat.le_of_ble_eq_true rfl, Nat.le_of_ble_eq_true rfl⟩ (fun r w H locs hp hw => ?_)
      obtain ⟨rfl, rfl⟩ := hp
      refine lv_iadd hx hb dX5_goes_35 ?_
      refine r_iastN (ws' := MW a cI s0 s1 a2 a3 a4 a5 (upd f6 j ((f6 j) + (f5_gives a18 a19 a20 a21 x p2 (nI (j))))) a7 a8 a9 s10 s11 s12 a13 a14 a15 a16 a17 a18 a19 a20 a21 s22) hx hb hw 5 rfl ht0 j (by omega) (by decide) (MW_u6 _) dX5_goes_36 (fun H locs hw => ?_)
      refine lv_iinc (v := nI (j + 1)) (lv' := [(4, .int (nI (j + 1))), (3, .int (v3)), (0, .ref (a 0)), (1, .int (nI (x))), (2, .int (p2))]) hx hb dX5_goes_37 hl (k := 0) rfl (by show nI (j) + 1 = _; exact nI_1 _) (by decide) rfl (fun ls hl => ?_)
      refine lv_goto (tgt := 12) hx hb dX5_goes_40 (by decide) ?_
      have e9 : lf5_goes_12 a18 a19 a20 a21 x p2 v3 (k + 1) j f6 = lf5_goes_12 a18 a19 a20 a21 x p2 v3 k (j + 1) (upd f6 j ((f6 j) + (f5_gives a18 a19 a20 a21 x p2 (nI (j))))) := rfl
      rw [e9] at kk
      exact ih (j + 1) (upd f6 j ((f6 j) + (f5_gives a18 a19 a20 a21 x p2 (nI (j))))) (by omega)  _ _ _ hw (lv_sub hl [0, 1, 2, 3, 4] rfl) kk
def lf5_goes_46 (x : Nat) (p2 : Int32) (v3 : Int32) (f6 : Nat → Int32) : Nat → Int32 → (Nat → Int32) → (Nat → Int32) → Int32 × (Nat → Int32) × (Nat → Int32)
  | 0, v4, f18, f19 => (v4, f18, f19)
  | j + 1, v4, f18, f19 => if v4 ≤ 0 then (v4, f18, f19)
    else if v4 ≤ (f19 (16 * x + (tn (f18 x) - 1))) then (if ((upd f19 (16 * x + (tn (f18 x) - 1)) ((f19 (16 * x + (tn (f18 x) - 1))) - v4)) (16 * x + (tn (f18 x) - 1))) = 0 then lf5_goes_46 x p2 v3 f6 j (v4 - v4) (upd f18 x ((nI (tn (f18 x))) - 1)) (upd f19 (16 * x + (tn (f18 x) - 1)) ((f19 (16 * x + (tn (f18 x) - 1))) - v4))
      else lf5_goes_46 x p2 v3 f6 j (v4 - v4) (upd f18 x ((nI (tn (f18 x))) - 0)) (upd f19 (16 * x + (tn (f18 x) - 1)) ((f19 (16 * x + (tn (f18 x) - 1))) - v4)))
    else if ((upd f19 (16 * x + (tn (f18 x) - 1)) ((f19 (16 * x + (tn (f18 x) - 1))) - (f19 (16 * x + (tn (f18 x) - 1))))) (16 * x + (tn (f18 x) - 1))) = 0 then lf5_goes_46 x p2 v3 f6 j (v4 - (f19 (16 * x + (tn (f18 x) - 1)))) (upd f18 x ((nI (tn (f18 x))) - 1)) (upd f19 (16 * x + (tn (f18 x) - 1)) ((f19 (16 * x + (tn (f18 x) - 1))) - (f19 (16 * x + (tn (f18 x) - 1)))))
    else lf5_goes_46 x p2 v3 f6 j (v4 - (f19 (16 * x + (tn (f18 x) - 1)))) (upd f18 x ((nI (tn (f18 x))) - 0)) (upd f19 (16 * x + (tn (f18 x) - 1)) ((f19 (16 * x + (tn (f18 x) - 1))) - (f19 (16 * x + (tn (f18 x) - 1)))))
set_option maxHeartbeats 4000000 in
set_option maxRecDepth 100000 in
theorem lt5_goes_46 (l : Launch) (D : va_G) (ty : List (ClassId × FieldType)) (a : Nat → Nat) (cI : ClassId) (ht0 : ty[0]? = some (cI, .int)) (s0 : Int32) (s1 : Int32) (a2 : Nat → Int32) (a3 : Nat → Int32) (a4 : Nat → Int32) (a5 : Nat → Int32) (a6 : Nat → Int32) (a7 : Nat → Int32) (a8 : Nat → Int32) (a9 : Nat → Int32) (s10 : Int32) (s11 : Int32) (s12 : Int32) (a13 : Nat → Int32) (a14 : Nat → Int32) (a15 : Nat → Int32) (a16 : Nat → Int32) (a17 : Nat → Int32) (a18 : Nat → Int32) (a19 : Nat → Int32) (a20 : Nat → Int32) (a21 : Nat → Int32) (s22 : Int32) (x : Nat) (p2 : Int32) (hx60 : x < 60) (hl0 : a18 x = nI (tn (a18 x))) (hl1 : tn (a18 x) ≤ 16) (hpos : ∀ i, i < tn (a18 x) → 0 < (a19 (16 * x + i)).toInt) (hsum : p2.toInt ≤ sB a19 (16 * x) (tn (a18 x))) (h0p : 0 ≤ p2.toInt) (v3 : Int32) (f6 : Nat → Int32) {p : Program} {e : Env} {s : State} {m : MethodId} {args : Array Value} {below : List Frame} {meth : Method} {c : Code} {A : Nat → Prop} {H0 : Heap} {Q : State → Prop} (hx : p.tables.exec = Jvm.exec) (hb : c.code = cX5_goes) (hml : c.maxLocals = 7) (hts : ∀ w ∈ wsX5_goes, w.before args s = true) (hown : s.vm.findClass RX5 = some m.cls) : ∀ (j : Nat) (v4 : Int32) (f18 : (Nat → Int32)) (f19 : (Nat → Int32)) (hinv : gINV x j v4 f18 f19) (H : Heap) (locs : List Loc) (ls : Array Slot) (hw : Wd D ty A H0 s (MW a cI s0 s1 a2 a3 a4 a5 f6 a7 a8 a9 s10 s11 s12 a13 a14 a15 a16 a17 f18 f19 a20 a21 s22) H locs) (hl : lv_has ls 7 [(4, .int (v4)), (3, .int (v3)), (0, .ref (a 0)), (1, .int (nI (x))), (2, .int (p2))]) (kk : ∀ (H1 : Heap) (locs1 : List Loc) (ls1 : Array Slot), Wd D ty A H0 s (MW a cI s0 s1 a2 a3 a4 a5 f6 a7 a8 a9 s10 s11 s12 a13 a14 a15 a16 a17 ((lf5_goes_46 x p2 v3 f6 j v4 f18 f19).2.1) ((lf5_goes_46 x p2 v3 f6 j v4 f18 f19).2.2) a20 a21 s22) H1 locs1 → lv_has ls1 7 [(4, .int ((lf5_goes_46 x p2 v3 f6 j v4 f18 f19).1)), (3, .int (v3)), (0, .ref (a 0)), (1, .int (nI (x))), (2, .int (p2))] → W p l e ({ frames := 1, cells := 0, slots := 0, locals := 28 } : Room) s m args below meth c H1 locs1 0 0 Q (F0 m 138 ls1 [])), W p l e ({ frames := 1, cells := 0, slots := 0, locals := 28 } : Room) s m args below meth c H locs 0 0 Q (F0 m 46 ls []) := by
  have i5 : ∀ w ∈ wsX50, w ∈ wsX5_goes := fun _ h => List.mem_cons_of_mem _ (List.mem_append_right _ h)
  have lk49 := hts (.fieldLink RX5 49 "RentSizesModel" "layers" "[I") (by decide +kernel)
  have lk52 := hts (.fieldLink RX5 52 "RentSizesModel" "layerBytes" "[I") (by decide +kernel)
  intro j
  induction j with
  | zero =>
    intro v4 f18 f19 hinv H locs ls hw hl kk
    refine lv_iload hx hb dX5_goes_46 (lv_at hl 0 rfl) ?_
    refine lv_if_le (tgt := 138) hx hb dX5_goes_48 (by decide) (fun c_48 => ?_) (fun c_48 => ?_)
    · exact kk _ _ _ hw (lv_sub hl [0, 1, 2, 3, 4] rfl)
    · exact absurd (hinv.2.2.2.2.1 (g_v.mp c_48)) (by omega)
  | succ j ih =>
    intro v4 f18 f19 hinv H locs ls hw hl kk
    refine lv_iload hx hb dX5_goes_46 (lv_at hl 0 rfl) ?_
    refine lv_if_le (tgt := 138) hx hb dX5_goes_48 (by decide) (fun c_48 => ?_) (fun c_48 => ?_)
    · have e9 : lf5_goes_46 x p2 v3 f6 (j + 1) v4 f18 f19 = (v4, f18, f19) := by rw [lf5_goes_46]; rw [if_pos c_48]
      rw [e9] at kk
      exact kk _ _ _ hw (lv_sub hl [0, 1, 2, 3, 4] rfl)
    · refine lv_bipush (v := 16) hx hb dX5_goes_51 (by decide) ?_
      refine lv_iload_n hx hb dX5_goes_53 rfl (lv_at hl 3 rfl) ?_
      refine lv_imul hx hb dX5_goes_54 ?_
      refine r_top (nI (16 * x)) (show nI (16) * nI (x) = nI (16 * x) from pk_mul _ _) ?_
      refine lv_aload_n hx hb dX5_goes_55 rfl (lv_at hl 2 rfl) ?_
      refine r_get (C := RX5) (T := TX5) (v := .ref (a 18)) hx hb hts i5 hown hw 0 rfl rfl 18 (by decide) lk49 rfl dX5_goes_56 ?_
      refine lv_iload_n hx hb dX5_goes_59 rfl (lv_at hl 3 rfl) ?_
      refine r_ialdN (v := f18 x) hx hb hw 14 rfl ht0 x (by omega) (by decide) dX5_goes_60 rfl ?_
      refine r_top (nI (tn (f18 x))) hinv.1 ?_
      refine lv_iadd hx hb dX5_goes_61 ?_
      refine r_top (nI ((16 * x) + (tn (f18 x)))) (show nI (16 * x) + nI (tn (f18 x)) = nI ((16 * x) + (tn (f18 x))) from nI_add _ _) ?_
      refine lv_iconst (v := 1) hx hb dX5_goes_62 (by decide) ?_
      refine lv_isub hx hb dX5_goes_63 ?_
      refine lv_istore (lv' := [(5, .int ((nI ((16 * x) + (tn (f18 x)))) - 1)), (4, .int (v4)), (3, .int (v3)), (0, .ref (a 0)), (1, .int (nI (x))), (2, .int (p2))]) hx hb dX5_goes_64 hl (by decide) rfl (fun ls hl => ?_)
      have hL := g_pos hinv c_48
      have h16 := hinv.2.1
      have hl : lv_has ls 7 [(5, .int (nI (16 * x + (tn (f18 x) - 1)))), (4, .int (v4)), (3, .int (v3)), (0, .ref (a 0)), (1, .int (nI (x))), (2, .int (p2))] := by have q := (show nI (16 * x + tn (f18 x)) - 1 = nI (16 * x + (tn (f18 x) - 1)) by rw [nI_sub1 (by omega), show 16 * x + tn (f18 x) - 1 = 16 * x + (tn (f18 x) - 1) by omega]); rw [q] at hl; exact hl
      refine lv_aload_n hx hb dX5_goes_66 rfl (lv_at hl 3 rfl) ?_
      refine r_get (C := RX5) (T := TX5) (v := .ref (a 19)) hx hb hts i5 hown hw 0 rfl rfl 19 (by decide) lk52 rfl dX5_goes_67 ?_
      refine lv_iload hx hb dX5_goes_70 (lv_at hl 0 rfl) ?_
      refine r_ialdN (v := f19 (16 * x + (tn (f18 x) - 1))) hx hb hw 15 rfl ht0 (16 * x + (tn (f18 x) - 1)) (by omega) (by decide) dX5_goes_72 rfl ?_
      refine lv_iload hx hb dX5_goes_73 (lv_at hl 1 rfl) ?_
      refine lv_icmp_ge (tgt := 88) hx hb dX5_goes_75 (by decide) (fun c_75 => ?_) (fun c_75 => ?_)
      · refine lv_iload hx hb dX5_goes_88 (lv_at hl 1 rfl) ?_
        refine lv_istore (lv' := [(6, .int (v4)), (5, .int (nI (16 * x + (tn (f18 x) - 1)))), (4, .int (v4)), (3, .int (v3)), (0, .ref (a 0)), (1, .int (nI (x))), (2, .int (p2))]) hx hb dX5_goes_90 hl (by decide) rfl (fun ls hl => ?_)
        refine lv_aload_n hx hb dX5_goes_92 rfl (lv_at hl 4 rfl) ?_
        refine r_get (C := RX5) (T := TX5) (v := .ref (a 19)) hx hb hts i5 hown hw 0 rfl rfl 19 (by decide) lk52 rfl dX5_goes_93 ?_
        refine lv_iload hx hb dX5_goes_96 (lv_at hl 1 rfl) ?_
        refine lv_dup2_11 hx hb dX5_goes_98 rfl rfl ?_
        refine r_ialdN (v := f19 (16 * x + (tn (f18 x) - 1))) hx hb hw 15 rfl ht0 (16 * x + (tn (f18 x) - 1)) (by omega) (by decide) dX5_goes_99 rfl ?_
        refine lv_iload hx hb dX5_goes_100 (lv_at hl 0 rfl) ?_
        refine lv_isub hx hb dX5_goes_102 ?_
        refine r_iastN (ws' := MW a cI s0 s1 a2 a3 a4 a5 f6 a7 a8 a9 s10 s11 s12 a13 a14 a15 a16 a17 f18 (upd f19 (16 * x + (tn (f18 x) - 1)) ((f19 (16 * x + (tn (f18 x) - 1))) - v4)) a20 a21 s22) hx hb hw 15 rfl ht0 (16 * x + (tn (f18 x) - 1)) (by omega) (by decide) (MW_u19 _) dX5_goes_103 (fun H locs hw => ?_)
        refine lv_iload hx hb dX5_goes_104 (lv_at hl 2 rfl) ?_
        refine lv_iload hx hb dX5_goes_106 (lv_at hl 0 rfl) ?_
        refine lv_isub hx hb dX5_goes_108 ?_
        refine lv_istore (lv' := [(4, .int (v4 - v4)), (6, .int (v4)), (5, .int (nI (16 * x + (tn (f18 x) - 1)))), (3, .int (v3)), (0, .ref (a 0)), (1, .int (nI (x))), (2, .int (p2))]) hx hb dX5_goes_109 hl (by decide) rfl (fun ls hl => ?_)
        refine lv_aload_n hx hb dX5_goes_111 rfl (lv_at hl 4 rfl) ?_
        refine r_get (C := RX5) (T := TX5) (v := .ref (a 18)) hx hb hts i5 hown hw 0 rfl rfl 18 (by decide) lk49 rfl dX5_goes_112 ?_
        refine lv_iload_n hx hb dX5_goes_115 rfl (lv_at hl 5 rfl) ?_
        refine lv_dup2_11 hx hb dX5_goes_116 rfl rfl ?_
        refine r_ialdN (v := f18 x) hx hb hw 14 rfl ht0 x (by omega) (by decide) dX5_goes_117 rfl ?_
        refine r_top (nI (tn (f18 x))) hinv.1 ?_
        refine lv_aload_n hx hb dX5_goes_118 rfl (lv_at hl 4 rfl) ?_
        refine r_get (C := RX5) (T := TX5) (v := .ref (a 19)) hx hb hts i5 hown hw 0 rfl rfl 19 (by decide) lk52 rfl dX5_goes_119 ?_
        refine lv_iload hx hb dX5_goes_122 (lv_at hl 2 rfl) ?_
        refine r_ialdN (v := (upd f19 (16 * x + (tn (f18 x) - 1)) ((f19 (16 * x + (tn (f18 x) - 1))) - v4)) (16 * x + (tn (f18 x) - 1))) hx hb hw 15 rfl ht0 (16 * x + (tn (f18 x) - 1)) (by omega) (by decide) dX5_goes_124 rfl ?_
        refine lv_if_ne (tgt := 132) hx hb dX5_goes_125 (by decide) (fun c_125 => ?_) (fun c_125 => ?_)
        · refine lv_iconst (v := 0) hx hb dX5_goes_132 (by decide) ?_
          refine lv_isub hx hb dX5_goes_133 ?_
          refine r_iastN (ws' := MW a cI s0 s1 a2 a3 a4 a5 f6 a7 a8 a9 s10 s11 s12 a13 a14 a15 a16 a17 (upd f18 x ((nI (tn (f18 x))) - 0)) (upd f19 (16 * x + (tn (f18 x) - 1)) ((f19 (16 * x + (tn (f18 x) - 1))) - v4)) a20 a21 s22) hx hb hw 14 rfl ht0 x (by omega) (by decide) (MW_u18 _) dX5_goes_134 (fun H locs hw => ?_)
          refine lv_goto (tgt := 46) hx hb dX5_goes_135 (by decide) ?_
          have e9 : lf5_goes_46 x p2 v3 f6 (j + 1) v4 f18 f19 = lf5_goes_46 x p2 v3 f6 j (v4 - v4) (upd f18 x ((nI (tn (f18 x))) - 0)) (upd f19 (16 * x + (tn (f18 x) - 1)) ((f19 (16 * x + (tn (f18 x) - 1))) - v4)) := by rw [lf5_goes_46]; rw [if_neg c_48, if_pos c_75, if_neg c_125]
          rw [e9] at kk
          exact ih (v4 - v4) (upd f18 x ((nI (tn (f18 x))) - 0)) (upd f19 (16 * x + (tn (f18 x) - 1)) ((f19 (16 * x + (tn (f18 x) - 1))) - v4))  (g_step hinv c_48 (by first | exact Or.inl ⟨rfl, c_75⟩ | exact Or.inr ⟨rfl, c_75⟩) (by first | exact Or.inl ⟨rfl, c_125⟩ | exact Or.inr ⟨rfl, c_125⟩)) _ _ _ hw (lv_sub hl [0, 3, 4, 5, 6] rfl) kk
        · refine lv_iconst (v := 1) hx hb dX5_goes_128 (by decide) ?_
          refine lv_goto (tgt := 133) hx hb dX5_goes_129 (by decide) ?_
          refine lv_isub hx hb dX5_goes_133 ?_
          refine r_iastN (ws' := MW a cI s0 s1 a2 a3 a4 a5 f6 a7 a8 a9 s10 s11 s12 a13 a14 a15 a16 a17 (upd f18 x ((nI (tn (f18 x))) - 1)) (upd f19 (16 * x + (tn (f18 x) - 1)) ((f19 (16 * x + (tn (f18 x) - 1))) - v4)) a20 a21 s22) hx hb hw 14 rfl ht0 x (by omega) (by decide) (MW_u18 _) dX5_goes_134 (fun H locs hw => ?_)
          refine lv_goto (tgt := 46) hx hb dX5_goes_135 (by decide) ?_
          have e9 : lf5_goes_46 x p2 v3 f6 (j + 1) v4 f18 f19 = lf5_goes_46 x p2 v3 f6 j (v4 - v4) (upd f18 x ((nI (tn (f18 x))) - 1)) (upd f19 (16 * x + (tn (f18 x) - 1)) ((f19 (16 * x + (tn (f18 x) - 1))) - v4)) := by rw [lf5_goes_46]; rw [if_neg c_48, if_pos c_75, if_pos c_125]
          rw [e9] at kk
          exact ih (v4 - v4) (upd f18 x ((nI (tn (f18 x))) - 1)) (upd f19 (16 * x + (tn (f18 x) - 1)) ((f19 (16 * x + (tn (f18 x) - 1))) - v4))  (g_step hinv c_48 (by first | exact Or.inl ⟨rfl, c_75⟩ | exact Or.inr ⟨rfl, c_75⟩) (by first | exact Or.inl ⟨rfl, c_125⟩ | exact Or.inr ⟨rfl, c_125⟩)) _ _ _ hw (lv_sub hl [0, 3, 4, 5, 6] rfl) kk
      · refine lv_aload_n hx hb dX5_goes_78 rfl (lv_at hl 3 rfl) ?_
        refine r_get (C := RX5) (T := TX5) (v := .ref (a 19)) hx hb hts i5 hown hw 0 rfl rfl 19 (by decide) lk52 rfl dX5_goes_79 ?_
        refine lv_iload hx hb dX5_goes_82 (lv_at hl 0 rfl) ?_
        refine r_ialdN (v := f19 (16 * x + (tn (f18 x) - 1))) hx hb hw 15 rfl ht0 (16 * x + (tn (f18 x) - 1)) (by omega) (by decide) dX5_goes_84 rfl ?_
        refine lv_goto (tgt := 90) hx hb dX5_goes_85 (by decide) ?_
        refine lv_istore (lv' := [(6, .int (f19 (16 * x + (tn (f18 x) - 1)))), (5, .int (nI (16 * x + (tn (f18 x) - 1)))), (4, .int (v4)), (3, .int (v3)), (0, .ref (a 0)), (1, .int (nI (x))), (2, .int (p2))]) hx hb dX5_goes_90 hl (by decide) rfl (fun ls hl => ?_)
        refine lv_aload_n hx hb dX5_goes_92 rfl (lv_at hl 4 rfl) ?_
        refine r_get (C := RX5) (T := TX5) (v := .ref (a 19)) hx hb hts i5 hown hw 0 rfl rfl 19 (by decide) lk52 rfl dX5_goes_93 ?_
        refine lv_iload hx hb dX5_goes_96 (lv_at hl 1 rfl) ?_
        refine lv_dup2_11 hx hb dX5_goes_98 rfl rfl ?_
        refine r_ialdN (v := f19 (16 * x + (tn (f18 x) - 1))) hx hb hw 15 rfl ht0 (16 * x + (tn (f18 x) - 1)) (by omega) (by decide) dX5_goes_99 rfl ?_
        refine lv_iload hx hb dX5_goes_100 (lv_at hl 0 rfl) ?_
        refine lv_isub hx hb dX5_goes_102 ?_
        refine r_iastN (ws' := MW a cI s0 s1 a2 a3 a4 a5 f6 a7 a8 a9 s10 s11 s12 a13 a14 a15 a16 a17 f18 (upd f19 (16 * x + (tn (f18 x) - 1)) ((f19 (16 * x + (tn (f18 x) - 1))) - (f19 (16 * x + (tn (f18 x) - 1))))) a20 a21 s22) hx hb hw 15 rfl ht0 (16 * x + (tn (f18 x) - 1)) (by omega) (by decide) (MW_u19 _) dX5_goes_103 (fun H locs hw => ?_)
        refine lv_iload hx hb dX5_goes_104 (lv_at hl 2 rfl) ?_
        refine lv_iload hx hb dX5_goes_106 (lv_at hl 0 rfl) ?_
        refine lv_isub hx hb dX5_goes_108 ?_
        refine lv_istore (lv' := [(4, .int (v4 - (f19 (16 * x + (tn (f18 x) - 1))))), (6, .int (f19 (16 * x + (tn (f18 x) - 1)))), (5, .int (nI (16 * x + (tn (f18 x) - 1)))), (3, .int (v3)), (0, .ref (a 0)), (1, .int (nI (x))), (2, .int (p2))]) hx hb dX5_goes_109 hl (by decide) rfl (fun ls hl => ?_)
        refine lv_aload_n hx hb dX5_goes_111 rfl (lv_at hl 4 rfl) ?_
        refine r_get (C := RX5) (T := TX5) (v := .ref (a 18)) hx hb hts i5 hown hw 0 rfl rfl 18 (by decide) lk49 rfl dX5_goes_112 ?_
        refine lv_iload_n hx hb dX5_goes_115 rfl (lv_at hl 5 rfl) ?_
        refine lv_dup2_11 hx hb dX5_goes_116 rfl rfl ?_
        refine r_ialdN (v := f18 x) hx hb hw 14 rfl ht0 x (by omega) (by decide) dX5_goes_117 rfl ?_
        refine r_top (nI (tn (f18 x))) hinv.1 ?_
        refine lv_aload_n hx hb dX5_goes_118 rfl (lv_at hl 4 rfl) ?_
        refine r_get (C := RX5) (T := TX5) (v := .ref (a 19)) hx hb hts i5 hown hw 0 rfl rfl 19 (by decide) lk52 rfl dX5_goes_119 ?_
        refine lv_iload hx hb dX5_goes_122 (lv_at hl 2 rfl) ?_
        refine r_ialdN (v := (upd f19 (16 * x + (tn (f18 x) - 1)) ((f19 (16 * x + (tn (f18 x) - 1))) - (f19 (16 * x + (tn (f18 x) - 1))))) (16 * x + (tn (f18 x) - 1))) hx hb hw 15 rfl ht0 (16 * x + (tn (f18 x) - 1)) (by omega) (by decide) dX5_goes_124 rfl ?_
        refine lv_if_ne (tgt := 132) hx hb dX5_goes_125 (by decide) (fun c_125 => ?_) (fun c_125 => ?_)
        · refine lv_iconst (v := 0) hx hb dX5_goes_132 (by decide) ?_
          refine lv_isub hx hb dX5_goes_133 ?_
          refine r_iastN (ws' := MW a cI s0 s1 a2 a3 a4 a5 f6 a7 a8 a9 s10 s11 s12 a13 a14 a15 a16 a17 (upd f18 x ((nI (tn (f18 x))) - 0)) (upd f19 (16 * x + (tn (f18 x) - 1)) ((f19 (16 * x + (tn (f18 x) - 1))) - (f19 (16 * x + (tn (f18 x) - 1))))) a20 a21 s22) hx hb hw 14 rfl ht0 x (by omega) (by decide) (MW_u18 _) dX5_goes_134 (fun H locs hw => ?_)
          refine lv_goto (tgt := 46) hx hb dX5_goes_135 (by decide) ?_
          have e9 : lf5_goes_46 x p2 v3 f6 (j + 1) v4 f18 f19 = lf5_goes_46 x p2 v3 f6 j (v4 - (f19 (16 * x + (tn (f18 x) - 1)))) (upd f18 x ((nI (tn (f18 x))) - 0)) (upd f19 (16 * x + (tn (f18 x) - 1)) ((f19 (16 * x + (tn (f18 x) - 1))) - (f19 (16 * x + (tn (f18 x) - 1))))) := by rw [lf5_goes_46]; rw [if_neg c_48, if_neg c_75, if_neg c_125]
          rw [e9] at kk
          exact ih (v4 - (f19 (16 * x + (tn (f18 x) - 1)))) (upd f18 x ((nI (tn (f18 x))) - 0)) (upd f19 (16 * x + (tn (f18 x) - 1)) ((f19 (16 * x + (tn (f18 x) - 1))) - (f19 (16 * x + (tn (f18 x) - 1)))))  (g_step hinv c_48 (by first | exact Or.inl ⟨rfl, c_75⟩ | exact Or.inr ⟨rfl, c_75⟩) (by first | exact Or.inl ⟨rfl, c_125⟩ | exact Or.inr ⟨rfl, c_125⟩)) _ _ _ hw (lv_sub hl [0, 3, 4, 5, 6] rfl) kk
        · refine lv_iconst (v := 1) hx hb dX5_goes_128 (by decide) ?_
          refine lv_goto (tgt := 133) hx hb dX5_goes_129 (by decide) ?_
          refine lv_isub hx hb dX5_goes_133 ?_
          refine r_iastN (ws' := MW a cI s0 s1 a2 a3 a4 a5 f6 a7 a8 a9 s10 s11 s12 a13 a14 a15 a16 a17 (upd f18 x ((nI (tn (f18 x))) - 1)) (upd f19 (16 * x + (tn (f18 x) - 1)) ((f19 (16 * x + (tn (f18 x) - 1))) - (f19 (16 * x + (tn (f18 x) - 1))))) a20 a21 s22) hx hb hw 14 rfl ht0 x (by omega) (by decide) (MW_u18 _) dX5_goes_134 (fun H locs hw => ?_)
          refine lv_goto (tgt := 46) hx hb dX5_goes_135 (by decide) ?_
          have e9 : lf5_goes_46 x p2 v3 f6 (j + 1) v4 f18 f19 = lf5_goes_46 x p2 v3 f6 j (v4 - (f19 (16 * x + (tn (f18 x) - 1)))) (upd f18 x ((nI (tn (f18 x))) - 1)) (upd f19 (16 * x + (tn (f18 x) - 1)) ((f19 (16 * x + (tn (f18 x) - 1))) - (f19 (16 * x + (tn (f18 x) - 1))))) := by rw [lf5_goes_46]; rw [if_neg c_48, if_neg c_75, if_pos c_125]
          rw [e9] at kk
          exact ih (v4 - (f19 (16 * x + (tn (f18 x) - 1)))) (upd f18 x ((nI (tn (f18 x))) - 1)) (upd f19 (16 * x + (tn (f18 x) - 1)) ((f19 (16 * x + (tn (f18 x) - 1))) - (f19 (16 * x + (tn (f18 x) - 1)))))  (g_step hinv c_48 (by first | exact Or.inl ⟨rfl, c_75⟩ | exact Or.inr ⟨rfl, c_75⟩) (by first | exact Or.inl ⟨rfl, c_125⟩ | exact Or.inr ⟨rfl, c_125⟩)) _ _ _ hw (lv_sub hl [0, 3, 4, 5, 6] rfl) kk
def f5_goes (a6 : Nat → Int32) (a18 : Nat → Int32) (a19 : Nat → Int32) (a20 : Nat → Int32) (a21 : Nat → Int32) (x : Nat) (p2 : Int32) : Int32 × (Nat → Int32) × (Nat → Int32) × (Nat → Int32) :=
  (f5_gives a18 a19 a20 a21 x p2 (-109), (lf5_goes_12 a18 a19 a20 a21 x p2 (f5_gives a18 a19 a20 a21 x p2 (-109)) 6 0 a6), (lf5_goes_46 x p2 (f5_gives a18 a19 a20 a21 x p2 (-109)) (lf5_goes_12 a18 a19 a20 a21 x p2 (f5_gives a18 a19 a20 a21 x p2 (-109)) 6 0 a6) (tn (a18 x) + 1) p2 a18 a19).2.1, (lf5_goes_46 x p2 (f5_gives a18 a19 a20 a21 x p2 (-109)) (lf5_goes_12 a18 a19 a20 a21 x p2 (f5_gives a18 a19 a20 a21 x p2 (-109)) 6 0 a6) (tn (a18 x) + 1) p2 a18 a19).2.2)
set_option maxHeartbeats 4000000 in
set_option maxRecDepth 100000 in
theorem k5_goes (l : Launch) (D : va_G) (ty : List (ClassId × FieldType)) (a : Nat → Nat) (cI : ClassId) (ht0 : ty[0]? = some (cI, .int)) (s0 : Int32) (s1 : Int32) (a2 : Nat → Int32) (a3 : Nat → Int32) (a4 : Nat → Int32) (a5 : Nat → Int32) (a6 : Nat → Int32) (a7 : Nat → Int32) (a8 : Nat → Int32) (a9 : Nat → Int32) (s10 : Int32) (s11 : Int32) (s12 : Int32) (a13 : Nat → Int32) (a14 : Nat → Int32) (a15 : Nat → Int32) (a16 : Nat → Int32) (a17 : Nat → Int32) (a18 : Nat → Int32) (a19 : Nat → Int32) (a20 : Nat → Int32) (a21 : Nat → Int32) (s22 : Int32) (x : Nat) (p2 : Int32) (hx60 : x < 60) (hl0 : a18 x = nI (tn (a18 x))) (hl1 : tn (a18 x) ≤ 16) (hpos : ∀ i, i < tn (a18 x) → 0 < (a19 (16 * x + i)).toInt) (hsum : p2.toInt ≤ sB a19 (16 * x) (tn (a18 x))) (h0p : 0 ≤ p2.toInt) : MetG l yX5_goes wsX5_goes { frames := 1, cells := 0, slots := 0, locals := 28 } D ty [.ref (a 0), .int (nI (x)), .int (p2)] (MW a cI s0 s1 a2 a3 a4 a5 a6 a7 a8 a9 s10 s11 s12 a13 a14 a15 a16 a17 a18 a19 a20 a21 s22) (va_Qi (fun r w => r = (f5_goes a6 a18 a19 a20 a21 x p2).1 ∧ w = MW a cI s0 s1 a2 a3 a4 a5 ((f5_goes a6 a18 a19 a20 a21 x p2).2.1) a7 a8 a9 s10 s11 s12 a13 a14 a15 a16 a17 ((f5_goes a6 a18 a19 a20 a21 x p2).2.2.1) ((f5_goes a6 a18 a19 a20 a21 x p2).2.2.2) a20 a21 s22)) 0 0 := by
  refine Met_start cX5_goes 7 (some .int) (by decide) rfl (Nat.le_of_ble_eq_true rfl) ?_
  intro p e s m below meth c A ls hx hb hr hlocks hml hnm hts hown hw hl
  have hl : lv_has ls 7 [(0, .ref (a 0)), (1, .int (nI (x))), (2, .int (p2))] := hl
  refine lv_aload_n hx hb dX5_goes_0 rfl (lv_at hl 0 rfl) ?_
  refine lv_iload_n hx hb dX5_goes_1 rfl (lv_at hl 1 rfl) ?_
  refine lv_iload_n hx hb dX5_goes_2 rfl (lv_at hl 2 rfl) ?_
  refine lv_bipush (v := (-109)) hx hb dX5_goes_3 (by decide) ?_
  refine r_callVi 0 rfl rfl (rest := []) ⟨hx, hb, hml, hown, hts⟩ hw [.int (nI (x)), .int (p2), .int ((-109))] (k5_gives l D ty a cI ht0 s0 s1 a2 a3 a4 a5 a6 a7 a8 a9 s10 s11 s12 a13 a14 a15 a16 a17 a18 a19 a20 a21 s22 x p2 (-109) (by first | assumption | omega) (by first | assumption | omega) (by first | assumption | omega)) (cwV 3 hts gX5_goes_X5_gives rfl rfl rfl (by decide +kernel) ⟨Nat.le_of_ble_eq_true rfl, Nat.le_of_ble_eq_true rfl⟩) rfl hl.1 rfl (Nat.le_of_ble_eq_true rfl) dX5_goes_5 ⟨Nat.le_of_ble_eq_true rfl, Nat.le_of_ble_eq_true rfl⟩ (fun r w H locs hp hw => ?_)
  obtain ⟨rfl, rfl⟩ := hp
  refine lv_istore_n (lv' := [(3, .int (f5_gives a18 a19 a20 a21 x p2 (-109))), (0, .ref (a 0)), (1, .int (nI (x))), (2, .int (p2))]) hx hb dX5_goes_8 rfl hl (by decide) rfl (fun ls hl => ?_)
  refine lv_iconst (v := 0) hx hb dX5_goes_9 (by decide) ?_
  refine lv_istore (lv' := [(4, .int (0)), (3, .int (f5_gives a18 a19 a20 a21 x p2 (-109))), (0, .ref (a 0)), (1, .int (nI (x))), (2, .int (p2))]) hx hb dX5_goes_10 hl (by decide) rfl (fun ls hl => ?_)
  refine lt5_goes_12 l D ty a cI ht0 s0 s1 a2 a3 a4 a5 a6 a7 a8 a9 s10 s11 s12 a13 a14 a15 a16 a17 a18 a19 a20 a21 s22 x p2 hx60 hl0 hl1 hpos hsum h0p (f5_gives a18 a19 a20 a21 x p2 (-109)) hx hb hml hts hown 6 0 a6 (by omega)  _ _ _ hw hl (fun H locs ls hw hl => ?_)
  refine lv_iload_n hx hb dX5_goes_43 rfl (lv_at hl 4 rfl) ?_
  refine lv_istore (lv' := [(4, .int (p2)), (3, .int (f5_gives a18 a19 a20 a21 x p2 (-109))), (0, .ref (a 0)), (1, .int (nI (x))), (2, .int (p2))]) hx hb dX5_goes_44 hl (by decide) rfl (fun ls hl => ?_)
  refine lt5_goes_46 l D ty a cI ht0 s0 s1 a2 a3 a4 a5 a6 a7 a8 a9 s10 s11 s12 a13 a14 a15 a16 a17 a18 a19 a20 a21 s22 x p2 hx60 hl0 hl1 hpos hsum h0p (f5_gives a18 a19 a20 a21 x p2 (-109)) (lf5_goes_12 a18 a19 a20 a21 x p2 (f5_gives a18 a19 a20 a21 x p2 (-109)) 6 0 a6) hx hb hml hts hown (tn (a18 x) + 1) p2 a18 a19  ⟨hl0, hl1, hpos, hsum, fun _ => Nat.le_refl _, h0p⟩ _ _ _ hw hl (fun H locs ls hw hl => ?_)
  refine lv_iload_n hx hb dX5_goes_138 rfl (lv_at hl 1 rfl) ?_
  have e9 : f5_goes a6 a18 a19 a20 a21 x p2 = (f5_gives a18 a19 a20 a21 x p2 (-109), (lf5_goes_12 a18 a19 a20 a21 x p2 (f5_gives a18 a19 a20 a21 x p2 (-109)) 6 0 a6), (lf5_goes_46 x p2 (f5_gives a18 a19 a20 a21 x p2 (-109)) (lf5_goes_12 a18 a19 a20 a21 x p2 (f5_gives a18 a19 a20 a21 x p2 (-109)) 6 0 a6) (tn (a18 x) + 1) p2 a18 a19).2.1, (lf5_goes_46 x p2 (f5_gives a18 a19 a20 a21 x p2 (-109)) (lf5_goes_12 a18 a19 a20 a21 x p2 (f5_gives a18 a19 a20 a21 x p2 (-109)) 6 0 a6) (tn (a18 x) + 1) p2 a18 a19).2.2) := by unfold f5_goes; rfl
  exact r_iret hx hb hr hlocks hw ⟨by rw [e9] <;> rfl, by rw [e9] <;> rfl⟩ dX5_goes_139
