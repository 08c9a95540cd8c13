set_option maxHeartbeats 4000000 in
set_option maxRecDepth 100000 in
/-- THE LAW'S LOOP -/
theorem law_loop {p : Program} {l : Launch} {e : Env} {s : State} {m : MethodId} {below : List Frame} {meth : Method} {c : Code} {b L : Nat} {xs : Nat → Int32} {D : va_G} {ty : List (ClassId × FieldType)} {cI cO cL : ClassId} {q1 q2 q3 : Nat} (C : LCx p s m c b L xs) (hr : meth.sig.returnType = ret) (hlocks : meth.locks = false) (hst : l.stackTraces = false) (hX : Ex (LA s) s) (ht0 : ty[0]? = some (cI, .int)) (ht1 : ty[1]? = some (cO, .object "RentSizes$Item")) (ht2 : ty[2]? = some (cL, .long)) :
    ∀ (k i cells slots : Nat) (ws : va_W) (H : Heap) (locs : List Loc) (ls : Array Slot), i ≤ L → L + 1 ≤ i + 5 * k → cells + 6 * k ≤ 601024 → slots + 62 * k ≤ 7293034 → LwI cI cO cL q1 q2 q3 ws → Wd D ty (LA s) s.heap s ws H locs → lv_has ls 8 (LV b q1 q2 q3 i) → W p l e room_1 s m #[Value.ref b] below meth c H locs cells slots (lw_Z below #[Value.ref b] s) (F0 m 23 ls []) := by
  have hx := C.1
  have hb := C.2.1
  have hbl := C.2.2.2.2.2.2.1
  have hX9 := C.2.2.2.2.2.1
  have hL := C.2.2.2.2.2.2.2
  intro k
  induction k with
  | zero =>
    intro i cells slots ws H locs ls h1 h2
    exact absurd h2 (by omega)
  | succ k ih =>
    intro i cells slots ws H locs ls hi hk hcl hsl hI hw hl
    have next : ∀ (ws : va_W) (H : Heap) (locs : List Loc) (ls : Array Slot), i + 4 < L → lv_has ls 8 (LV b q1 q2 q3 i) → LwI cI cO cL q1 q2 q3 ws → Wd D ty (LA s) s.heap s ws H locs → W p l e room_1 s m #[Value.ref b] below meth c H locs (cells + 6) (slots + 62) (lw_Z below #[Value.ref b] s) (F0 m 1067 ls []) := by
      intro ws H locs ls h4 hl hI hw
      refine lv_iinc (v := nI (i + 5)) (lv' := [(4, .int (nI (i + 5))), (0, .ref b), (1, .ref q1), (2, .ref q2), (3, .ref q3)]) hx hb dL_law_1067 hl (k := 4) rfl (by rw [← nI_add]; rfl) (by decide) rfl (fun ls hl => ?_)
      refine lv_goto (tgt := 23) hx hb dL_law_1070 (by decide) ?_
      exact ih (i + 5) (cells + 6) (slots + 62) ws H locs ls (by omega) (by omega) (by omega) (by omega) hI hw (lv_sub hl [1, 2, 3, 4, 0] rfl)
    refine lv_iload hx hb dL_law_23 (lv_at hl 4 rfl) ?_
    refine lv_aload_n hx hb dL_law_25 rfl (lv_at hl 0 rfl) ?_
    refine va_slen hx hb hX9 hbl (Nat.not_le.mpr hbl) hw.2.2.2.1 dL_law_26 ?_
    refine lv_iconst (v := 5) hx hb dL_law_27 (by decide) ?_
    refine lv_isub hx hb dL_law_28 ?_
    have tL : (Int32.ofNat L).toInt = (L : Nat) := Int32.toInt_ofNat_of_lt (by omega)
    have ti : (nI i).toInt = (i : Nat) := Int32.toInt_ofNat_of_lt (by omega)
    have o5 : (5 : Int32).toInt = 5 := rfl
    have e5 : (Int32.ofNat L - 5).toInt = (L : Int) - 5 := by rw [sub_toInt (by omega) (by omega), tL, o5]
    refine lv_icmp_gt (tgt := 1073) hx hb dL_law_29 (by decide) (fun _ => ?_) (fun hgt => ?_)
    · refine lv_iconst (v := 1) hx hb dL_law_1073 (by decide) ?_
      refine va_forget (fun q hq => hw.2.2.2.1.2.2 q hq) ?_
      refine W.widen (k := 601024) (n := 7293034) (by omega) (by omega) ?_
      exact lw_ret hx hb hr hlocks dL_law_1074
    · have hi4 : i + 4 < L := by
        have hle : (nI i).toInt ≤ (Int32.ofNat L - 5).toInt := by
          apply Classical.byContradiction
          intro hh
          exact hgt (i32_lt.mpr (by omega))
        omega
      have next := fun ws H locs ls => next ws H locs ls hi4
      refine lv_aload_n hx hb dL_law_32 rfl (lv_at hl 0 rfl) ?_
      refine lv_iload hx hb dL_law_33 (lv_at hl 4 rfl) ?_
      refine va_sld hx hb hX9 hbl (Nat.not_le.mpr hbl) hw.2.2.2.1 (vp_in_nI (by omega) (by omega)) dL_law_35 ?_
      refine lv_bipush (v := 31) hx hb dL_law_36 (by decide) ?_
      refine lv_iand hx hb dL_law_38 ?_
      generalize xs (nI i).toNatClampNeg &&& 31 = x
      by_cases hout : x.toInt < 0 ∨ 20 < x.toInt
      · refine lv_tableOut (tgt := 1067) hx hb dL_law_39 hout (by decide) ?_
        exact W.widen (k := cells + 6) (n := slots + 62) (by omega) (by omega) (next ws H locs ls hl hI hw)
      have hjs : x.toInt = 0 ∨ x.toInt = 1 ∨ x.toInt = 2 ∨ x.toInt = 3 ∨ x.toInt = 4 ∨ x.toInt = 5 ∨ x.toInt = 6 ∨ x.toInt = 7 ∨ x.toInt = 8 ∨ x.toInt = 9 ∨ x.toInt = 10 ∨ x.toInt = 11 ∨ x.toInt = 12 ∨ x.toInt = 13 ∨ x.toInt = 14 ∨ x.toInt = 15 ∨ x.toInt = 16 ∨ x.toInt = 17 ∨ x.toInt = 18 ∨ x.toInt = 19 ∨ x.toInt = 20 := by omega
      rcases hjs with hj | hj | hj | hj | hj | hj | hj | hj | hj | hj | hj | hj | hj | hj | hj | hj | hj | hj | hj | hj | hj
      · refine lv_tableIn (tgt := 136) hx hb dL_law_39 (by omega) (by omega) (show _ = some (97 : Int) by rw [hj]; rfl) (by decide) ?_
        exact lc_edition C ht0 ht1 hi4 (by omega) (by omega) hI hw hl (fun ws H locs h1 h2 => next ws H locs ls hl h1 h2)
      · refine lv_tableIn (tgt := 197) hx hb dL_law_39 (by omega) (by omega) (show _ = some (158 : Int) by rw [hj]; rfl) (by decide) ?_
        exact lc_priceAt C ht0 ht1 hi4 (by omega) (by omega) hI hw hl (fun ws H locs h1 h2 => next ws H locs ls hl h1 h2)
      · refine lv_tableIn (tgt := 234) hx hb dL_law_39 (by omega) (by omega) (show _ = some (195 : Int) by rw [hj]; rfl) (by decide) ?_
        exact lc_cap C ht0 ht1 hi4 (by omega) (by omega) hI hw hl (fun ws H locs h1 h2 => next ws H locs ls hl h1 h2)
      · refine lv_tableIn (tgt := 271) hx hb dL_law_39 (by omega) (by omega) (show _ = some (232 : Int) by rw [hj]; rfl) (by decide) ?_
        exact lc_make C ht0 ht1 hi4 (by omega) (by omega) hI hw hl (fun ws H locs h1 h2 => next ws H locs ls hl h1 h2)
      · refine lv_tableIn (tgt := 332) hx hb dL_law_39 (by omega) (by omega) (show _ = some (293 : Int) by rw [hj]; rfl) (by decide) ?_
        exact lc_grow C ht0 ht1 hi4 (by omega) (by omega) hI hw hl (fun ws H locs h1 h2 => next ws H locs ls hl h1 h2)
      · refine lv_tableIn (tgt := 381) hx hb dL_law_39 (by omega) (by omega) (show _ = some (342 : Int) by rw [hj]; rfl) (by decide) ?_
        exact lc_shrink C ht0 ht1 hi4 (by omega) (by omega) hI hw hl (fun ws H locs h1 h2 => next ws H locs ls hl h1 h2)
      · refine lv_tableIn (tgt := 418) hx hb dL_law_39 (by omega) (by omega) (show _ = some (379 : Int) by rw [hj]; rfl) (by decide) ?_
        exact lc_pay C ht0 ht1 hi4 (by omega) (by omega) hI hw hl (fun ws H locs h1 h2 => next ws H locs ls hl h1 h2)
      · refine lv_tableIn (tgt := 467) hx hb dL_law_39 (by omega) (by omega) (show _ = some (428 : Int) by rw [hj]; rfl) (by decide) ?_
        exact lc_write C ht0 ht1 hi4 (by omega) (by omega) hI hw hl (fun ws H locs h1 h2 => next ws H locs ls hl h1 h2)
      · refine lv_tableIn (tgt := 516) hx hb dL_law_39 (by omega) (by omega) (show _ = some (477 : Int) by rw [hj]; rfl) (by decide) ?_
        exact lc_drop C ht0 ht1 hi4 (by omega) (by omega) hI hw hl (fun ws H locs h1 h2 => next ws H locs ls hl h1 h2)
      · refine lv_tableIn (tgt := 541) hx hb dL_law_39 (by omega) (by omega) (show _ = some (502 : Int) by rw [hj]; rfl) (by decide) ?_
        exact lc_back C ht0 ht1 hi4 (by omega) (by omega) hI hw hl (fun ws H locs h1 h2 => next ws H locs ls hl h1 h2)
      · refine lv_tableIn (tgt := 602) hx hb dL_law_39 (by omega) (by omega) (show _ = some (563 : Int) by rw [hj]; rfl) (by decide) ?_
        exact lc_digest C ht0 ht1 hi4 (by omega) (by omega) hI hw hl (fun ws H locs h1 h2 => next ws H locs ls hl h1 h2)
      · refine lv_tableIn (tgt := 627) hx hb dL_law_39 (by omega) (by omega) (show _ = some (588 : Int) by rw [hj]; rfl) (by decide) ?_
        exact lc_tick C ht0 ht1 hi4 (by omega) (by omega) hI hw hl (fun ws H locs h1 h2 => next ws H locs ls hl h1 h2)
      · refine lv_tableIn (tgt := 652) hx hb dL_law_39 (by omega) (by omega) (show _ = some (613 : Int) by rw [hj]; rfl) (by decide) ?_
        exact lc_weight C ht0 ht1 hi4 (by omega) (by omega) hI hw hl (fun ws H locs h1 h2 => next ws H locs ls hl h1 h2)
      · refine lv_tableIn (tgt := 689) hx hb dL_law_39 (by omega) (by omega) (show _ = some (650 : Int) by rw [hj]; rfl) (by decide) ?_
        exact lc_coins C ht0 ht1 hi4 (by omega) (by omega) hI hw hl (fun ws H locs h1 h2 => next ws H locs ls hl h1 h2)
      · refine lv_tableIn (tgt := 726) hx hb dL_law_39 (by omega) (by omega) (show _ = some (687 : Int) by rw [hj]; rfl) (by decide) ?_
        exact lc_object C ht0 ht1 hi4 (by omega) (by omega) hI hw hl (fun ws H locs h1 h2 => next ws H locs ls hl h1 h2)
      · refine lv_tableIn (tgt := 763) hx hb dL_law_39 (by omega) (by omega) (show _ = some (724 : Int) by rw [hj]; rfl) (by decide) ?_
        exact lc_layer C ht0 ht1 hi4 (by omega) (by omega) hI hw hl (fun ws H locs h1 h2 => next ws H locs ls hl h1 h2)
      · refine lv_tableIn (tgt := 812) hx hb dL_law_39 (by omega) (by omega) (show _ = some (773 : Int) by rw [hj]; rfl) (by decide) ?_
        exact lc_word C ht0 ht1 hi4 (by omega) (by omega) hI hw hl (fun ws H locs h1 h2 => next ws H locs ls hl h1 h2)
      · refine lv_tableIn (tgt := 849) hx hb dL_law_39 (by omega) (by omega) (show _ = some (810 : Int) by rw [hj]; rfl) (by decide) ?_
        exact lc_wouldGive C ht0 ht1 hi4 (by omega) (by omega) hI hw hl (fun ws H locs h1 h2 => next ws H locs ls hl h1 h2)
      · refine lv_tableIn (tgt := 898) hx hb dL_law_39 (by omega) (by omega) (show _ = some (859 : Int) by rw [hj]; rfl) (by decide) ?_
        exact lc_exact C hst hX ht0 ht2 hi4 (by omega) (by omega) hI hw hl next
      · refine lv_tableIn (tgt := 1029) hx hb dL_law_39 (by omega) (by omega) (show _ = some (990 : Int) by rw [hj]; rfl) (by decide) ?_
        exact lc_told C ht0 ht1 hi4 (by omega) (by omega) hI hw hl (fun ws H locs h1 h2 => next ws H locs ls hl h1 h2)
      · refine lv_tableIn (tgt := 1054) hx hb dL_law_39 (by omega) (by omega) (show _ = some (1015 : Int) by rw [hj]; rfl) (by decide) ?_
        exact lc_clear C ht0 ht1 hi4 (by omega) (by omega) hI hw hl (fun ws H locs h1 h2 => next ws H locs ls hl h1 h2)
