abbrev tn (x : Int32) : Nat := x.toNatClampNeg
theorem am1 (x : Int32) : x + Int32.ofInt (-1) = x - 1 := by rw [Int32.sub_eq_add_neg]; rfl
theorem va_up_id {α : Type} (f : Nat → α) (k : Nat) : va_up f k (f k) = f := by
  funext j
  by_cases h : j = k
  · subst h; exact va_up_self _ _ _
  · exact va_up_ne _ _ h
theorem tn_nI {n : Nat} (h : n < 2 ^ 31) : tn (nI n) = n := nI_clamp h
theorem nI_sub1 {n : Nat} (h : 1 ≤ n) : nI n - 1 = nI (n - 1) := pk_sub (b := 1) h
theorem nI_sub1_toInt {n : Nat} (h : n < 2 ^ 30) : (nI n - 1).toInt = (n : Int) - 1 := pk_sub_toInt (b := 1) h (by decide)
theorem i64ne {x : Int32} (h : ¬ x = 0) : ¬ x.toInt64 = 0 := by
  intro e
  have := congrArg Int64.toInt e
  rw [Int32.toInt_toInt64] at this
  exact h (Int32.toInt_inj.mp this)
theorem nat_of_in {p : Int32} {a b : Int} (h1 : a ≤ p.toInt) (h2 : p.toInt ≤ b) (ha : 0 ≤ a) : ∃ t : Nat, (a ≤ (t : Int) ∧ (t : Int) ≤ b) ∧ p = nI t := by
  obtain ⟨j, hj, e⟩ := nI_of (x := p) (by rw [Int32.lt_iff_toInt_lt]; show ¬ p.toInt < 0; omega)
  have := nI_toInt hj
  rw [← e] at this
  exact ⟨j, ⟨by omega, by omega⟩, e⟩
def f5_in (p1 : Int64) (p2 : Int64) (p3 : Int64) : Int32 :=
  if (lg_cmp p1 p2) < 0 then 0
  else if 0 < (lg_cmp p1 p3) then 0
  else 1
set_option maxHeartbeats 4000000 in
set_option maxRecDepth 100000 in
theorem k5_in (l : Launch) (D : va_G) (ty : List (ClassId × FieldType)) (a : Nat → Nat) (cI : ClassId) (ht0 : ty[0]? = some (cI, .int)) (s0 : Int32) (s1 : Int32) (a2 : Nat → Int32) (a3 : Nat → Int32) (a4 : Nat → Int32) (a5 : Nat → Int32) (a6 : Nat → Int32) (a7 : Nat → Int32) (a8 : Nat → Int32) (a9 : Nat → Int32) (s10 : Int32) (s11 : Int32) (s12 : Int32) (a13 : Nat → Int32) (a14 : Nat → Int32) (a15 : Nat → Int32) (a16 : Nat → Int32) (a17 : Nat → Int32) (a18 : Nat → Int32) (a19 : Nat → Int32) (a20 : Nat → Int32) (a21 : Nat → Int32) (s22 : Int32) (p1 : Int64) (p2 : Int64) (p3 : Int64) : MetG l yX5_in wsX5_in { frames := 0, cells := 0, slots := 0, locals := 0 } D ty [.long (p1), .long (p2), .long (p3)] (MW a cI s0 s1 a2 a3 a4 a5 a6 a7 a8 a9 s10 s11 s12 a13 a14 a15 a16 a17 a18 a19 a20 a21 s22) (va_Qi (fun r w => r = f5_in p1 p2 p3 ∧ w = MW a cI s0 s1 a2 a3 a4 a5 a6 a7 a8 a9 s10 s11 s12 a13 a14 a15 a16 a17 a18 a19 a20 a21 s22)) 0 0 := by
  refine Met_start cX5_in 6 (some .boolean) (by decide) rfl (Nat.le_of_ble_eq_true rfl) ?_
  intro p e s m below meth c A ls hx hb hr hlocks hml hnm hts hown hw hl
  have hl : lv_has ls 6 [(0, .long (p1)), (2, .long (p2)), (4, .long (p3))] := hl
  refine lv_lload_n hx hb dX5_in_0 rfl (lv_at hl 0 rfl) ?_
  refine lv_lload_n hx hb dX5_in_1 rfl (lv_at hl 1 rfl) ?_
  refine W.lcmp hx hb dX5_in_2 ?_
  refine lv_if_lt (tgt := 17) hx hb dX5_in_3 (by decide) (fun c_3 => ?_) (fun c_3 => ?_)
  · refine lv_iconst (v := 0) hx hb dX5_in_17 (by decide) ?_
    have e9 : f5_in p1 p2 p3 = 0 := by unfold f5_in; rw [if_pos c_3]
    exact r_zret hx hb hr hlocks (Or.inl rfl) hw ⟨by rw [e9] <;> rfl, rfl⟩ dX5_in_18
  · refine lv_lload_n hx hb dX5_in_6 rfl (lv_at hl 0 rfl) ?_
    refine lv_lload hx hb dX5_in_7 (lv_at hl 2 rfl) ?_
    refine W.lcmp hx hb dX5_in_9 ?_
    refine lv_if_gt (tgt := 17) hx hb dX5_in_10 (by decide) (fun c_10 => ?_) (fun c_10 => ?_)
    · refine lv_iconst (v := 0) hx hb dX5_in_17 (by decide) ?_
      have e9 : f5_in p1 p2 p3 = 0 := by unfold f5_in; rw [if_neg c_3, if_pos c_10]
      exact r_zret hx hb hr hlocks (Or.inl rfl) hw ⟨by rw [e9] <;> rfl, rfl⟩ dX5_in_18
    · refine lv_iconst (v := 1) hx hb dX5_in_13 (by decide) ?_
      refine lv_goto (tgt := 18) hx hb dX5_in_14 (by decide) ?_
      have e9 : f5_in p1 p2 p3 = 1 := by unfold f5_in; rw [if_neg c_3, if_neg c_10]
      exact r_zret hx hb hr hlocks (Or.inr rfl) hw ⟨by rw [e9] <;> rfl, rfl⟩ dX5_in_18
theorem in_iff {x lo hi : Int64} : ¬ f5_in x lo hi = 0 ↔ lo.toInt ≤ x.toInt ∧ x.toInt ≤ hi.toInt := by
  unfold f5_in
  simp only [lg_cmp_lt, lg_cmp_gt, Int64.lt_iff_toInt_lt]
  by_cases h1 : x.toInt < lo.toInt
  · rw [if_pos h1]; constructor
    · intro h; exact absurd rfl h
    · intro h; omega
  · rw [if_neg h1]
    by_cases h2 : hi.toInt < x.toInt
    · rw [if_pos h2]; constructor
      · intro h; exact absurd rfl h
      · intro h; omega
    · rw [if_neg h2]; constructor
      · intro _; omega
      · intro _; decide
theorem in_b {x lo hi : Int64} : f5_in x lo hi = 0 ∨ f5_in x lo hi = 1 := by
  unfold f5_in
  split
  · exact Or.inl rfl
  · split
    · exact Or.inl rfl
    · exact Or.inr rfl
theorem in_i {p : Int32} {lo hi : Int64} (h : ¬ f5_in p.toInt64 lo hi = 0) : lo.toInt ≤ p.toInt ∧ p.toInt ≤ hi.toInt := by
  have := in_iff.mp h
  rw [Int32.toInt_toInt64] at this
  exact this
theorem in_nat {p : Int32} {lo hi : Int64} (a b : Nat) (h : ¬ f5_in p.toInt64 lo hi = 0) (hlo : lo.toInt = a) (hhi : hi.toInt = b) : ∃ t : Nat, (a ≤ t ∧ t ≤ b) ∧ p = nI t := by
  have := in_i h
  obtain ⟨t, ht, e⟩ := nat_of_in (p := p) (a := a) (b := b) (by omega) (by omega) (by omega)
  exact ⟨t, ⟨by omega, by omega⟩, e⟩
theorem in_vp {p : Int32} {hi : Int64} (n : Nat) (h : ¬ f5_in p.toInt64 0 hi = 0) (hhi : hi.toInt + 1 = n) : vp_in p n := by
  have := in_i h
  have e : (0 : Int64).toInt = 0 := rfl
  rw [vp_in_iff]; omega
def f5_noAccount (p1 : Int32) : Int32 :=
  if (f5_in p1.toInt64 0 5) = 0 then 1
  else 0
set_option maxHeartbeats 4000000 in
set_option maxRecDepth 100000 in
theorem k5_noAccount (l : Launch) (D : va_G) (ty : List (ClassId × FieldType)) (a : Nat → Nat) (cI : ClassId) (ht0 : ty[0]? = some (cI, .int)) (s0 : Int32) (s1 : Int32) (a2 : Nat → Int32) (a3 : Nat → Int32) (a4 : Nat → Int32) (a5 : Nat → Int32) (a6 : Nat → Int32) (a7 : Nat → Int32) (a8 : Nat → Int32) (a9 : Nat → Int32) (s10 : Int32) (s11 : Int32) (s12 : Int32) (a13 : Nat → Int32) (a14 : Nat → Int32) (a15 : Nat → Int32) (a16 : Nat → Int32) (a17 : Nat → Int32) (a18 : Nat → Int32) (a19 : Nat → Int32) (a20 : Nat → Int32) (a21 : Nat → Int32) (s22 : Int32) (p1 : Int32) : MetG l yX5_noAccount wsX5_noAccount { frames := 1, cells := 0, slots := 0, locals := 25 } D ty [.ref (a 0), .int (p1)] (MW a cI s0 s1 a2 a3 a4 a5 a6 a7 a8 a9 s10 s11 s12 a13 a14 a15 a16 a17 a18 a19 a20 a21 s22) (va_Qi (fun r w => r = f5_noAccount p1 ∧ w = MW a cI s0 s1 a2 a3 a4 a5 a6 a7 a8 a9 s10 s11 s12 a13 a14 a15 a16 a17 a18 a19 a20 a21 s22)) 0 0 := by
  refine Met_start cX5_noAccount 2 (some .boolean) (by decide) rfl (Nat.le_of_ble_eq_true rfl) ?_
  intro p e s m below meth c A ls hx hb hr hlocks hml hnm hts hown hw hl
  have hl : lv_has ls 2 [(0, .ref (a 0)), (1, .int (p1))] := hl
  have ci81 := hts (.constantLong RX5 81 (5)) (by decide +kernel)
  refine lv_iload_n hx hb dX5_noAccount_0 rfl (lv_at hl 1 rfl) ?_
  refine lv_i2l (v := p1.toInt64) hx hb dX5_noAccount_1 rfl ?_
  refine lv_lconst (v := 0) hx hb dX5_noAccount_2 (by decide) ?_
  refine lv_ldc2 (v := 5) hx hb hown ci81 dX5_noAccount_3 ?_
  refine r_callSi (rest := []) ⟨hx, hb, hml, hown, hts⟩ hw [.long (p1.toInt64), .long (0), .long (5)] (k5_in l D ty a cI ht0 s0 s1 a2 a3 a4 a5 a6 a7 a8 a9 s10 s11 s12 a13 a14 a15 a16 a17 a18 a19 a20 a21 s22 p1.toInt64 0 5) (va_cwS 3 hts gX5_noAccount_X5_in rfl rfl rfl (by decide +kernel) ⟨Nat.le_of_ble_eq_true rfl, Nat.le_of_ble_eq_true rfl⟩) rfl hl.1 rfl (Nat.le_of_ble_eq_true rfl) dX5_noAccount_6 ⟨Nat.le_of_ble_eq_true rfl, Nat.le_of_ble_eq_true rfl⟩ (fun r w H locs hp hw => ?_)
  obtain ⟨rfl, rfl⟩ := hp
  refine lv_if_ne (tgt := 16) hx hb dX5_noAccount_9 (by decide) (fun c_9 => ?_) (fun c_9 => ?_)
  · refine lv_iconst (v := 0) hx hb dX5_noAccount_16 (by decide) ?_
    have e9 : f5_noAccount p1 = 0 := by unfold f5_noAccount; rw [if_neg c_9]
    exact r_zret hx hb hr hlocks (Or.inl rfl) hw ⟨by rw [e9] <;> rfl, rfl⟩ dX5_noAccount_17
  · refine lv_iconst (v := 1) hx hb dX5_noAccount_12 (by decide) ?_
    refine lv_goto (tgt := 17) hx hb dX5_noAccount_13 (by decide) ?_
    have e9 : f5_noAccount p1 = 1 := by unfold f5_noAccount; rw [if_pos c_9]
    exact r_zret hx hb hr hlocks (Or.inr rfl) hw ⟨by rw [e9] <;> rfl, rfl⟩ dX5_noAccount_17
def f5_noObject (s12 : Int32) (p1 : Int32) : Int32 :=
  if (f5_in p1.toInt64 0 ((s12 - 1).toInt64)) = 0 then 1
  else 0
set_option maxHeartbeats 4000000 in
set_option maxRecDepth 100000 in
theorem k5_noObject (l : Launch) (D : va_G) (ty : List (ClassId × FieldType)) (a : Nat → Nat) (cI : ClassId) (ht0 : ty[0]? = some (cI, .int)) (s0 : Int32) (s1 : Int32) (a2 : Nat → Int32) (a3 : Nat → Int32) (a4 : Nat → Int32) (a5 : Nat → Int32) (a6 : Nat → Int32) (a7 : Nat → Int32) (a8 : Nat → Int32) (a9 : Nat → Int32) (s10 : Int32) (s11 : Int32) (s12 : Int32) (a13 : Nat → Int32) (a14 : Nat → Int32) (a15 : Nat → Int32) (a16 : Nat → Int32) (a17 : Nat → Int32) (a18 : Nat → Int32) (a19 : Nat → Int32) (a20 : Nat → Int32) (a21 : Nat → Int32) (s22 : Int32) (p1 : Int32) : MetG l yX5_noObject wsX5_noObject { frames := 1, cells := 0, slots := 0, locals := 25 } D ty [.ref (a 0), .int (p1)] (MW a cI s0 s1 a2 a3 a4 a5 a6 a7 a8 a9 s10 s11 s12 a13 a14 a15 a16 a17 a18 a19 a20 a21 s22) (va_Qi (fun r w => r = f5_noObject s12 p1 ∧ w = MW a cI s0 s1 a2 a3 a4 a5 a6 a7 a8 a9 s10 s11 s12 a13 a14 a15 a16 a17 a18 a19 a20 a21 s22)) 0 0 := by
  refine Met_start cX5_noObject 2 (some .boolean) (by decide) rfl (Nat.le_of_ble_eq_true rfl) ?_
  intro p e s m below meth c A ls hx hb hr hlocks hml hnm hts hown hw hl
  have hl : lv_has ls 2 [(0, .ref (a 0)), (1, .int (p1))] := hl
  have i5 : ∀ w ∈ wsX50, w ∈ wsX5_noObject := fun _ h => List.mem_cons_of_mem _ (List.mem_append_right _ h)
  have lk78 := hts (.fieldLink RX5 78 "RentSizesModel" "objects" "I") (by decide +kernel)
  refine lv_iload_n hx hb dX5_noObject_0 rfl (lv_at hl 1 rfl) ?_
  refine lv_i2l (v := p1.toInt64) hx hb dX5_noObject_1 rfl ?_
  refine lv_lconst (v := 0) hx hb dX5_noObject_2 (by decide) ?_
  refine lv_aload_n hx hb dX5_noObject_3 rfl (lv_at hl 0 rfl) ?_
  refine r_get (C := RX5) (T := TX5) (v := .int (s12)) hx hb hts i5 hown hw 0 rfl rfl 12 (by decide) lk78 rfl dX5_noObject_4 ?_
  refine lv_iconst (v := 1) hx hb dX5_noObject_7 (by decide) ?_
  refine lv_isub hx hb dX5_noObject_8 ?_
  refine lv_i2l (v := (s12 - 1).toInt64) hx hb dX5_noObject_9 rfl ?_
  refine r_callSi (rest := []) ⟨hx, hb, hml, hown, hts⟩ hw [.long (p1.toInt64), .long (0), .long ((s12 - 1).toInt64)] (k5_in l D ty a cI ht0 s0 s1 a2 a3 a4 a5 a6 a7 a8 a9 s10 s11 s12 a13 a14 a15 a16 a17 a18 a19 a20 a21 s22 p1.toInt64 0 ((s12 - 1).toInt64)) (va_cwS 3 hts gX5_noObject_X5_in rfl rfl rfl (by decide +kernel) ⟨Nat.le_of_ble_eq_true rfl, Nat.le_of_ble_eq_true rfl⟩) rfl hl.1 rfl (Nat.le_of_ble_eq_true rfl) dX5_noObject_10 ⟨Nat.le_of_ble_eq_true rfl, Nat.le_of_ble_eq_true rfl⟩ (fun r w H locs hp hw => ?_)
  obtain ⟨rfl, rfl⟩ := hp
  refine lv_if_ne (tgt := 20) hx hb dX5_noObject_13 (by decide) (fun c_13 => ?_) (fun c_13 => ?_)
  · refine lv_iconst (v := 0) hx hb dX5_noObject_20 (by decide) ?_
    have e9 : f5_noObject s12 p1 = 0 := by unfold f5_noObject; rw [if_neg c_13]
    exact r_zret hx hb hr hlocks (Or.inl rfl) hw ⟨by rw [e9] <;> rfl, rfl⟩ dX5_noObject_21
  · refine lv_iconst (v := 1) hx hb dX5_noObject_16 (by decide) ?_
    refine lv_goto (tgt := 21) hx hb dX5_noObject_17 (by decide) ?_
    have e9 : f5_noObject s12 p1 = 1 := by unfold f5_noObject; rw [if_pos c_13]
    exact r_zret hx hb hr hlocks (Or.inr rfl) hw ⟨by rw [e9] <;> rfl, rfl⟩ dX5_noObject_21
theorem na_in {p1 : Int32} (h : f5_noAccount p1 = 0) : vp_in p1 6 := by
  unfold f5_noAccount at h
  by_cases c : f5_in p1.toInt64 0 5 = 0
  · rw [if_pos c] at h; exact absurd h (by decide)
  · exact in_vp 6 c rfl
theorem no_in {s12 p1 : Int32} (h : f5_noObject s12 p1 = 0) (hob : s12 = nI (tn s12)) (hob2 : tn s12 ≤ 60) : ∃ x : Nat, x < tn s12 ∧ p1 = nI x := by
  unfold f5_noObject at h
  by_cases c : f5_in p1.toInt64 0 ((s12 - 1).toInt64) = 0
  · rw [if_pos c] at h; exact absurd h (by decide)
  · have q := in_i c
    have e2 := nI_sub1_toInt (n := tn s12) (by omega)
    rw [← hob] at e2
    rw [Int32.toInt_toInt64, e2] at q
    have e : (0 : Int64).toInt = 0 := rfl
    obtain ⟨t, ht, e⟩ := nat_of_in (p := p1) (a := 0) (b := (tn s12 : Int) - 1) (by omega) (by omega) (by omega)
    exact ⟨t, by omega, e⟩
def f5_cap (a7 : Nat → Int32) (p1 : Int32) (p2 : Int32) : Int32 × (Nat → Int32) :=
  if (f5_noAccount p1) = 0 then (if (f5_in p2.toInt64 0 5000) = 0 then ((-102), a7)
    else (a7 (tn (p1)), upd a7 (tn (p1)) p2))
  else ((-101), a7)
set_option maxHeartbeats 4000000 in
set_option maxRecDepth 100000 in
theorem k5_cap (l : Launch) (D : va_G) (ty : List (ClassId × FieldType)) (a : Nat → Nat) (cI : ClassId) (ht0 : ty[0]? = some (cI, .int)) (s0 : Int32) (s1 : Int32) (a2 : Nat → Int32) (a3 : Nat → Int32) (a4 : Nat → Int32) (a5 : Nat → Int32) (a6 : Nat → Int32) (a7 : Nat → Int32) (a8 : Nat → Int32) (a9 : Nat → Int32) (s10 : Int32) (s11 : Int32) (s12 : Int32) (a13 : Nat → Int32) (a14 : Nat → Int32) (a15 : Nat → Int32) (a16 : Nat → Int32) (a17 : Nat → Int32) (a18 : Nat → Int32) (a19 : Nat → Int32) (a20 : Nat → Int32) (a21 : Nat → Int32) (s22 : Int32) (p1 : Int32) (p2 : Int32) : MetG l yX5_cap wsX5_cap { frames := 2, cells := 0, slots := 0, locals := 46 } D ty [.ref (a 0), .int (p1), .int (p2)] (MW a cI s0 s1 a2 a3 a4 a5 a6 a7 a8 a9 s10 s11 s12 a13 a14 a15 a16 a17 a18 a19 a20 a21 s22) (va_Qi (fun r w => r = (f5_cap a7 p1 p2).1 ∧ w = MW a cI s0 s1 a2 a3 a4 a5 a6 ((f5_cap a7 p1 p2).2) a8 a9 s10 s11 s12 a13 a14 a15 a16 a17 a18 a19 a20 a21 s22)) 0 0 := by
  refine Met_start cX5_cap 4 (some .int) (by decide) rfl (Nat.le_of_ble_eq_true rfl) ?_
  intro p e s m below meth c A ls hx hb hr hlocks hml hnm hts hown hw hl
  have hl : lv_has ls 4 [(0, .ref (a 0)), (1, .int (p1)), (2, .int (p2))] := hl
  have ci105 := hts (.constantLong RX5 105 (5000)) (by decide +kernel)
  have i5 : ∀ w ∈ wsX50, w ∈ wsX5_cap := fun _ h => List.mem_cons_of_mem _ (List.mem_append_right _ h)
  have lk25 := hts (.fieldLink RX5 25 "RentSizesModel" "caps" "[I") (by decide +kernel)
  refine lv_aload_n hx hb dX5_cap_0 rfl (lv_at hl 0 rfl) ?_
  refine lv_iload_n hx hb dX5_cap_1 rfl (lv_at hl 1 rfl) ?_
  refine r_callVi 0 rfl rfl (rest := []) ⟨hx, hb, hml, hown, hts⟩ hw [.int (p1)] (k5_noAccount l D ty a cI ht0 s0 s1 a2 a3 a4 a5 a6 a7 a8 a9 s10 s11 s12 a13 a14 a15 a16 a17 a18 a19 a20 a21 s22 p1) (cwV 1 hts gX5_cap_X5_noAccount rfl rfl rfl (by decide +kernel) ⟨Nat.le_of_ble_eq_true rfl, Nat.le_of_ble_eq_true rfl⟩) rfl hl.1 rfl (Nat.le_of_ble_eq_true rfl) dX5_cap_2 ⟨Nat.le_of_ble_eq_true rfl, Nat.le_of_ble_eq_true rfl⟩ (fun r w H locs hp hw => ?_)
  obtain ⟨rfl, rfl⟩ := hp
  refine lv_if_eq (tgt := 11) hx hb dX5_cap_5 (by decide) (fun c_5 => ?_) (fun c_5 => ?_)
  · refine lv_iload_n hx hb dX5_cap_11 rfl (lv_at hl 2 rfl) ?_
    refine lv_i2l (v := p2.toInt64) hx hb dX5_cap_12 rfl ?_
    refine lv_lconst (v := 0) hx hb dX5_cap_13 (by decide) ?_
    refine lv_ldc2 (v := 5000) hx hb hown ci105 dX5_cap_14 ?_
    refine r_callSi (rest := []) ⟨hx, hb, hml, hown, hts⟩ hw [.long (p2.toInt64), .long (0), .long (5000)] (k5_in l D ty a cI ht0 s0 s1 a2 a3 a4 a5 a6 a7 a8 a9 s10 s11 s12 a13 a14 a15 a16 a17 a18 a19 a20 a21 s22 p2.toInt64 0 5000) (va_cwS 3 hts gX5_cap_X5_in rfl rfl rfl (by decide +kernel) ⟨Nat.le_of_ble_eq_true rfl, Nat.le_of_ble_eq_true rfl⟩) rfl hl.1 rfl (Nat.le_of_ble_eq_true rfl) dX5_cap_17 ⟨Nat.le_of_ble_eq_true rfl, Nat.le_of_ble_eq_true rfl⟩ (fun r w H locs hp hw => ?_)
    obtain ⟨rfl, rfl⟩ := hp
    refine lv_if_ne (tgt := 26) hx hb dX5_cap_20 (by decide) (fun c_20 => ?_) (fun c_20 => ?_)
    · refine lv_aload_n hx hb dX5_cap_26 rfl (lv_at hl 0 rfl) ?_
      refine r_get (C := RX5) (T := TX5) (v := .ref (a 7)) hx hb hts i5 hown hw 0 rfl rfl 7 (by decide) lk25 rfl dX5_cap_27 ?_
      have hv := na_in c_5
      refine lv_iload_n hx hb dX5_cap_30 rfl (lv_at hl 1 rfl) ?_
      refine r_iald (v := a7 (tn (p1))) hx hb hw 6 rfl ht0 (by first | assumption | exact vp_in_nI (by omega) (by omega)) dX5_cap_31 rfl ?_
      refine lv_istore_n (lv' := [(3, .int (a7 (tn (p1)))), (0, .ref (a 0)), (1, .int (p1)), (2, .int (p2))]) hx hb dX5_cap_32 rfl hl (by decide) rfl (fun ls hl => ?_)
      refine lv_aload_n hx hb dX5_cap_33 rfl (lv_at hl 1 rfl) ?_
      refine r_get (C := RX5) (T := TX5) (v := .ref (a 7)) hx hb hts i5 hown hw 0 rfl rfl 7 (by decide) lk25 rfl dX5_cap_34 ?_
      refine lv_iload_n hx hb dX5_cap_37 rfl (lv_at hl 2 rfl) ?_
      refine lv_iload_n hx hb dX5_cap_38 rfl (lv_at hl 3 rfl) ?_
      refine r_iast (ws' := MW a cI s0 s1 a2 a3 a4 a5 a6 (upd a7 (tn (p1)) p2) a8 a9 s10 s11 s12 a13 a14 a15 a16 a17 a18 a19 a20 a21 s22) hx hb hw 6 rfl ht0 (by first | assumption | exact vp_in_nI (by omega) (by omega)) (MW_u7 _) dX5_cap_39 (fun H locs hw => ?_)
      refine lv_iload_n hx hb dX5_cap_40 rfl (lv_at hl 0 rfl) ?_
      have e9 : f5_cap a7 p1 p2 = (a7 (tn (p1)), upd a7 (tn (p1)) p2) := by unfold f5_cap; rw [if_pos c_5, if_neg c_20]
      exact r_iret hx hb hr hlocks hw ⟨by rw [e9] <;> rfl, by rw [e9] <;> rfl⟩ dX5_cap_41
    · refine lv_bipush (v := (-102)) hx hb dX5_cap_23 (by decide) ?_
      have e9 : f5_cap a7 p1 p2 = ((-102), a7) := by unfold f5_cap; rw [if_pos c_5, if_pos c_20]
      exact r_iret hx hb hr hlocks hw ⟨by rw [e9] <;> rfl, by rw [e9] <;> rfl⟩ dX5_cap_25
  · refine lv_bipush (v := (-101)) hx hb dX5_cap_8 (by decide) ?_
    have e9 : f5_cap a7 p1 p2 = ((-101), a7) := by unfold f5_cap; rw [if_neg c_5]
    exact r_iret hx hb hr hlocks hw ⟨by rw [e9] <;> rfl, by rw [e9] <;> rfl⟩ dX5_cap_10
def lf5_editionAt_4 (a2 : Nat → Int32) (p1 : Int32) : Nat → Nat → Int32 → Int32
  | 0, _, v2 => v2
  | k + 1, j, v2 => if p1 < (a2 j) then lf5_editionAt_4 a2 p1 k (j + 1) v2
    else lf5_editionAt_4 a2 p1 k (j + 1) (nI (j))
set_option maxHeartbeats 4000000 in
set_option maxRecDepth 100000 in
theorem lt5_editionAt_4 (l : Launch) (D : va_G) (ty : List (ClassId × FieldType)) (a : Nat → Nat) (cI : ClassId) (ht0 : ty[0]? = some (cI, .int)) (s0 : Int32) (s1 : Int32) (a2 : Nat → Int32) (a3 : Nat → Int32) (a4 : Nat → Int32) (a5 : Nat → Int32) (a6 : Nat → Int32) (a7 : Nat → Int32) (a8 : Nat → Int32) (a9 : Nat → Int32) (s10 : Int32) (s11 : Int32) (s12 : Int32) (a13 : Nat → Int32) (a14 : Nat → Int32) (a15 : Nat → Int32) (a16 : Nat → Int32) (a17 : Nat → Int32) (a18 : Nat → Int32) (a19 : Nat → Int32) (a20 : Nat → Int32) (a21 : Nat → Int32) (s22 : Int32) (p1 : Int32) (he0 : s1 = nI (tn s1)) (he1 : tn s1 ≤ 10)  {p : Program} {e : Env} {s : State} {m : MethodId} {args : Array Value} {below : List Frame} {meth : Method} {c : Code} {A : Nat → Prop} {H0 : Heap} {Q : State → Prop} (hx : p.tables.exec = Jvm.exec) (hb : c.code = cX5_editionAt) (hml : c.maxLocals = 4) (hts : ∀ w ∈ wsX5_editionAt, w.before args s = true) (hown : s.vm.findClass RX5 = some m.cls) : ∀ (k j : Nat) (v2 : Int32) (hj : j + k = tn s1) (H : Heap) (locs : List Loc) (ls : Array Slot) (hw : Wd D ty A H0 s (MW a cI s0 s1 a2 a3 a4 a5 a6 a7 a8 a9 s10 s11 s12 a13 a14 a15 a16 a17 a18 a19 a20 a21 s22) H locs) (hl : lv_has ls 4 [(3, .int (nI (j))), (2, .int (v2)), (0, .ref (a 0)), (1, .int (p1))]) (kk : ∀ (H1 : Heap) (locs1 : List Loc) (ls1 : Array Slot), Wd D ty A H0 s (MW a cI s0 s1 a2 a3 a4 a5 a6 a7 a8 a9 s10 s11 s12 a13 a14 a15 a16 a17 a18 a19 a20 a21 s22) H1 locs1 → lv_has ls1 4 [(3, .int (nI (tn s1))), (2, .int ((lf5_editionAt_4 a2 p1 k j v2))), (0, .ref (a 0)), (1, .int (p1))] → W p l e ({ frames := 0, cells := 0, slots := 0, locals := 0 } : Room) s m args below meth c H1 locs1 0 0 Q (F0 m 34 ls1 [])), W p l e ({ frames := 0, cells := 0, slots := 0, locals := 0 } : Room) s m args below meth c H locs 0 0 Q (F0 m 4 ls []) := by
  have i5 : ∀ w ∈ wsX50, w ∈ wsX5_editionAt := fun _ h => List.mem_cons_of_mem _ (List.mem_append_right _ h)
  have lk68 := hts (.fieldLink RX5 68 "RentSizesModel" "editions" "I") (by decide +kernel)
  have lk7 := hts (.fieldLink RX5 7 "RentSizesModel" "eFrom" "[I") (by decide +kernel)
  intro k
  induction k with
  | zero =>
    intro j v2 hj H locs ls hw hl kk
    have hj0 : j = tn s1 := by omega
    refine lv_iload_n hx hb dX5_editionAt_4 rfl (lv_at hl 0 rfl) ?_
    refine lv_aload_n hx hb dX5_editionAt_5 rfl (lv_at hl 2 rfl) ?_
    refine r_get (C := RX5) (T := TX5) (v := .int (s1)) hx hb hts i5 hown hw 0 rfl rfl 1 (by decide) lk68 rfl dX5_editionAt_6 ?_
    refine r_top (nI (tn s1)) he0 ?_
    refine lv_icmp_ge (tgt := 34) hx hb dX5_editionAt_9 (by decide) (fun c_9 => ?_) (fun c_9 => ?_)
    · rw [hj0] at hl
      exact kk _ _ _ hw (lv_sub hl [0, 1, 2, 3] rfl)
    · exact absurd (nI_le (by omega) (by omega)) c_9
  | succ k ih =>
    intro j v2 hj H locs ls hw hl kk
    have hjb : j < tn s1 := by omega
    refine lv_iload_n hx hb dX5_editionAt_4 rfl (lv_at hl 0 rfl) ?_
    refine lv_aload_n hx hb dX5_editionAt_5 rfl (lv_at hl 2 rfl) ?_
    refine r_get (C := RX5) (T := TX5) (v := .int (s1)) hx hb hts i5 hown hw 0 rfl rfl 1 (by decide) lk68 rfl dX5_editionAt_6 ?_
    refine r_top (nI (tn s1)) he0 ?_
    refine lv_icmp_ge (tgt := 34) hx hb dX5_editionAt_9 (by decide) (fun c_9 => ?_) (fun c_9 => ?_)
    · exact absurd c_9 (nI_ge (by omega) (by omega))
    · refine lv_aload_n hx hb dX5_editionAt_12 rfl (lv_at hl 2 rfl) ?_
      refine r_get (C := RX5) (T := TX5) (v := .ref (a 2)) hx hb hts i5 hown hw 0 rfl rfl 2 (by decide) lk7 rfl dX5_editionAt_13 ?_
      refine lv_iload_n hx hb dX5_editionAt_16 rfl (lv_at hl 0 rfl) ?_
      refine r_ialdN (v := a2 j) hx hb hw 1 rfl ht0 j (by omega) (by decide) dX5_editionAt_17 rfl ?_
      refine lv_iload_n hx hb dX5_editionAt_18 rfl (lv_at hl 3 rfl) ?_
      refine lv_icmp_gt (tgt := 26) hx hb dX5_editionAt_19 (by decide) (fun c_19 => ?_) (fun c_19 => ?_)
      · refine lv_iload_n hx hb dX5_editionAt_26 rfl (lv_at hl 1 rfl) ?_
        refine lv_istore_n (lv' := [(2, .int (v2)), (3, .int (nI (j))), (0, .ref (a 0)), (1, .int (p1))]) hx hb dX5_editionAt_27 rfl hl (by decide) rfl (fun ls hl => ?_)
        refine lv_iinc (v := nI (j + 1)) (lv' := [(3, .int (nI (j + 1))), (2, .int (v2)), (0, .ref (a 0)), (1, .int (p1))]) hx hb dX5_editionAt_28 hl (k := 1) rfl (by show nI (j) + 1 = _; exact nI_1 _) (by decide) rfl (fun ls hl => ?_)
        refine lv_goto (tgt := 4) hx hb dX5_editionAt_31 (by decide) ?_
        have e9 : lf5_editionAt_4 a2 p1 (k + 1) j v2 = lf5_editionAt_4 a2 p1 k (j + 1) v2 := by rw [lf5_editionAt_4]; rw [if_pos c_19]
        rw [e9] at kk
        exact ih (j + 1) v2 (by omega)  _ _ _ hw (lv_sub hl [0, 1, 2, 3] rfl) kk
      · refine lv_iload_n hx hb dX5_editionAt_22 rfl (lv_at hl 0 rfl) ?_
        refine lv_goto (tgt := 27) hx hb dX5_editionAt_23 (by decide) ?_
        refine lv_istore_n (lv' := [(2, .int (nI (j))), (3, .int (nI (j))), (0, .ref (a 0)), (1, .int (p1))]) hx hb dX5_editionAt_27 rfl hl (by decide) rfl (fun ls hl => ?_)
        refine lv_iinc (v := nI (j + 1)) (lv' := [(3, .int (nI (j + 1))), (2, .int (nI (j))), (0, .ref (a 0)), (1, .int (p1))]) hx hb dX5_editionAt_28 hl (k := 1) rfl (by show nI (j) + 1 = _; exact nI_1 _) (by decide) rfl (fun ls hl => ?_)
        refine lv_goto (tgt := 4) hx hb dX5_editionAt_31 (by decide) ?_
        have e9 : lf5_editionAt_4 a2 p1 (k + 1) j v2 = lf5_editionAt_4 a2 p1 k (j + 1) (nI (j)) := by rw [lf5_editionAt_4]; rw [if_neg c_19]
        rw [e9] at kk
        exact ih (j + 1) (nI (j)) (by omega)  _ _ _ hw (lv_sub hl [0, 1, 2, 3] rfl) kk
def f5_editionAt (s1 : Int32) (a2 : Nat → Int32) (p1 : Int32) : Int32 :=
  (lf5_editionAt_4 a2 p1 (tn s1) 0 0)
set_option maxHeartbeats 4000000 in
set_option maxRecDepth 100000 in
theorem k5_editionAt (l : Launch) (D : va_G) (ty : List (ClassId × FieldType)) (a : Nat → Nat) (cI : ClassId) (ht0 : ty[0]? = some (cI, .int)) (s0 : Int32) (s1 : Int32) (a2 : Nat → Int32) (a3 : Nat → Int32) (a4 : Nat → Int32) (a5 : Nat → Int32) (a6 : Nat → Int32) (a7 : Nat → Int32) (a8 : Nat → Int32) (a9 : Nat → Int32) (s10 : Int32) (s11 : Int32) (s12 : Int32) (a13 : Nat → Int32) (a14 : Nat → Int32) (a15 : Nat → Int32) (a16 : Nat → Int32) (a17 : Nat → Int32) (a18 : Nat → Int32) (a19 : Nat → Int32) (a20 : Nat → Int32) (a21 : Nat → Int32) (s22 : Int32) (p1 : Int32) (he0 : s1 = nI (tn s1)) (he1 : tn s1 ≤ 10) : MetG l yX5_editionAt wsX5_editionAt { frames := 0, cells := 0, slots := 0, locals := 0 } D ty [.ref (a 0), .int (p1)] (MW a cI s0 s1 a2 a3 a4 a5 a6 a7 a8 a9 s10 s11 s12 a13 a14 a15 a16 a17 a18 a19 a20 a21 s22) (va_Qi (fun r w => r = f5_editionAt s1 a2 p1 ∧ w = MW a cI s0 s1 a2 a3 a4 a5 a6 a7 a8 a9 s10 s11 s12 a13 a14 a15 a16 a17 a18 a19 a20 a21 s22)) 0 0 := by
  refine Met_start cX5_editionAt 4 (some .int) (by decide) rfl (Nat.le_of_ble_eq_true rfl) ?_
  intro p e s m below meth c A ls hx hb hr hlocks hml hnm hts hown hw hl
  have hl : lv_has ls 4 [(0, .ref (a 0)), (1, .int (p1))] := hl
  refine lv_iconst (v := 0) hx hb dX5_editionAt_0 (by decide) ?_
  refine lv_istore_n (lv' := [(2, .int (0)), (0, .ref (a 0)), (1, .int (p1))]) hx hb dX5_editionAt_1 rfl hl (by decide) rfl (fun ls hl => ?_)
  refine lv_iconst (v := 0) hx hb dX5_editionAt_2 (by decide) ?_
  refine lv_istore_n (lv' := [(3, .int (0)), (2, .int (0)), (0, .ref (a 0)), (1, .int (p1))]) hx hb dX5_editionAt_3 rfl hl (by decide) rfl (fun ls hl => ?_)
  refine lt5_editionAt_4 l D ty a cI ht0 s0 s1 a2 a3 a4 a5 a6 a7 a8 a9 s10 s11 s12 a13 a14 a15 a16 a17 a18 a19 a20 a21 s22 p1 he0 he1  hx hb hml hts hown (tn s1) 0 0 (by omega)  _ _ _ hw hl (fun H locs ls hw hl => ?_)
  refine lv_iload_n hx hb dX5_editionAt_34 rfl (lv_at hl 1 rfl) ?_
  have e9 : f5_editionAt s1 a2 p1 = (lf5_editionAt_4 a2 p1 (tn s1) 0 0) := by unfold f5_editionAt; rfl
  exact r_iret hx hb hr hlocks hw ⟨by rw [e9] <;> rfl, rfl⟩ dX5_editionAt_35
theorem ea_lf (a2 : Nat → Int32) (p1 : Int32) : ∀ (k j : Nat) (v2 : Int32), (∃ e, e < 10 ∧ v2 = nI e) → j + k ≤ 10 → ∃ e, e < 10 ∧ lf5_editionAt_4 a2 p1 k j v2 = nI e
  | 0, _, _, h, _ => h
  | k + 1, j, v2, h, hj => by
    rw [lf5_editionAt_4]
    split
    · exact ea_lf a2 p1 k (j + 1) _ h (by omega)
    · exact ea_lf a2 p1 k (j + 1) _ ⟨j, by omega, rfl⟩ (by omega)
theorem ea_nat {s1 : Int32} {a2 : Nat → Int32} (p1 : Int32) (h : tn s1 ≤ 10) : ∃ e, e < 10 ∧ f5_editionAt s1 a2 p1 = nI e := ea_lf a2 p1 _ 0 0 ⟨0, by omega, rfl⟩ (by omega)
theorem ea_in {s1 : Int32} {a2 : Nat → Int32} (p1 : Int32) (h : tn s1 ≤ 10) : vp_in (f5_editionAt s1 a2 p1) 10 := by
  obtain ⟨e, he, q⟩ := ea_nat (a2 := a2) p1 h
  rw [q]; exact vp_in_nI he (by decide)
def f5_price (s0 : Int32) (s1 : Int32) (a2 : Nat → Int32) (a3 : Nat → Int32) : Int32 :=
  a3 (tn (f5_editionAt s1 a2 s0))
set_option maxHeartbeats 4000000 in
set_option maxRecDepth 100000 in
theorem k5_price (l : Launch) (D : va_G) (ty : List (ClassId × FieldType)) (a : Nat → Nat) (cI : ClassId) (ht0 : ty[0]? = some (cI, .int)) (s0 : Int32) (s1 : Int32) (a2 : Nat → Int32) (a3 : Nat → Int32) (a4 : Nat → Int32) (a5 : Nat → Int32) (a6 : Nat → Int32) (a7 : Nat → Int32) (a8 : Nat → Int32) (a9 : Nat → Int32) (s10 : Int32) (s11 : Int32) (s12 : Int32) (a13 : Nat → Int32) (a14 : Nat → Int32) (a15 : Nat → Int32) (a16 : Nat → Int32) (a17 : Nat → Int32) (a18 : Nat → Int32) (a19 : Nat → Int32) (a20 : Nat → Int32) (a21 : Nat → Int32) (s22 : Int32) (he0 : s1 = nI (tn s1)) (he1 : tn s1 ≤ 10) : MetG l yX5_price wsX5_price { frames := 1, cells := 0, slots := 0, locals := 23 } D ty [.ref (a 0)] (MW a cI s0 s1 a2 a3 a4 a5 a6 a7 a8 a9 s10 s11 s12 a13 a14 a15 a16 a17 a18 a19 a20 a21 s22) (va_Qi (fun r w => r = f5_price s0 s1 a2 a3 ∧ w = MW a cI s0 s1 a2 a3 a4 a5 a6 a7 a8 a9 s10 s11 s12 a13 a14 a15 a16 a17 a18 a19 a20 a21 s22)) 0 0 := by
  refine Met_start cX5_price 1 (some .int) (by decide) rfl (Nat.le_of_ble_eq_true rfl) ?_
  intro p e s m below meth c A ls hx hb hr hlocks hml hnm hts hown hw hl
  have hl : lv_has ls 1 [(0, .ref (a 0))] := hl
  have i5 : ∀ w ∈ wsX50, w ∈ wsX5_price := fun _ h => List.mem_cons_of_mem _ (List.mem_append_right _ h)
  have lk13 := hts (.fieldLink RX5 13 "RentSizesModel" "ePrice" "[I") (by decide +kernel)
  have lk64 := hts (.fieldLink RX5 64 "RentSizesModel" "height" "I") (by decide +kernel)
  refine lv_aload_n hx hb dX5_price_0 rfl (lv_at hl 0 rfl) ?_
  refine r_get (C := RX5) (T := TX5) (v := .ref (a 3)) hx hb hts i5 hown hw 0 rfl rfl 3 (by decide) lk13 rfl dX5_price_1 ?_
  refine lv_aload_n hx hb dX5_price_4 rfl (lv_at hl 0 rfl) ?_
  refine lv_aload_n hx hb dX5_price_5 rfl (lv_at hl 0 rfl) ?_
  refine r_get (C := RX5) (T := TX5) (v := .int (s0)) hx hb hts i5 hown hw 0 rfl rfl 0 (by decide) lk64 rfl dX5_price_6 ?_
  refine r_callVi 0 rfl rfl (rest := [.ref (a 3)]) ⟨hx, hb, hml, hown, hts⟩ hw [.int (s0)] (k5_editionAt l D ty a cI ht0 s0 s1 a2 a3 a4 a5 a6 a7 a8 a9 s10 s11 s12 a13 a14 a15 a16 a17 a18 a19 a20 a21 s22 s0 (by first | assumption | omega) (by first | assumption | omega)) (cwV 1 hts gX5_price_X5_editionAt rfl rfl rfl (by decide +kernel) ⟨Nat.le_of_ble_eq_true rfl, Nat.le_of_ble_eq_true rfl⟩) rfl hl.1 rfl (Nat.le_of_ble_eq_true rfl) dX5_price_9 ⟨Nat.le_of_ble_eq_true rfl, Nat.le_of_ble_eq_true rfl⟩ (fun r w H locs hp hw => ?_)
  obtain ⟨rfl, rfl⟩ := hp
  refine r_iald (v := a3 (tn (f5_editionAt s1 a2 s0))) hx hb hw 2 rfl ht0 (ea_in _ he1) dX5_price_12 rfl ?_
  have e9 : f5_price s0 s1 a2 a3 = a3 (tn (f5_editionAt s1 a2 s0)) := by unfold f5_price; rfl
  exact r_iret hx hb hr hlocks hw ⟨by rw [e9] <;> rfl, rfl⟩ dX5_price_13
def f5_rent (s0 : Int32) (s1 : Int32) (a2 : Nat → Int32) (a4 : Nat → Int32) : Int32 :=
  a4 (tn (f5_editionAt s1 a2 s0))
set_option maxHeartbeats 4000000 in
set_option maxRecDepth 100000 in
theorem k5_rent (l : Launch) (D : va_G) (ty : List (ClassId × FieldType)) (a : Nat → Nat) (cI : ClassId) (ht0 : ty[0]? = some (cI, .int)) (s0 : Int32) (s1 : Int32) (a2 : Nat → Int32) (a3 : Nat → Int32) (a4 : Nat → Int32) (a5 : Nat → Int32) (a6 : Nat → Int32) (a7 : Nat → Int32) (a8 : Nat → Int32) (a9 : Nat → Int32) (s10 : Int32) (s11 : Int32) (s12 : Int32) (a13 : Nat → Int32) (a14 : Nat → Int32) (a15 : Nat → Int32) (a16 : Nat → Int32) (a17 : Nat → Int32) (a18 : Nat → Int32) (a19 : Nat → Int32) (a20 : Nat → Int32) (a21 : Nat → Int32) (s22 : Int32) (he0 : s1 = nI (tn s1)) (he1 : tn s1 ≤ 10) : MetG l yX5_rent wsX5_rent { frames := 1, cells := 0, slots := 0, locals := 23 } D ty [.ref (a 0)] (MW a cI s0 s1 a2 a3 a4 a5 a6 a7 a8 a9 s10 s11 s12 a13 a14 a15 a16 a17 a18 a19 a20 a21 s22) (va_Qi (fun r w => r = f5_rent s0 s1 a2 a4 ∧ w = MW a cI s0 s1 a2 a3 a4 a5 a6 a7 a8 a9 s10 s11 s12 a13 a14 a15 a16 a17 a18 a19 a20 a21 s22)) 0 0 := by
  refine Met_start cX5_rent 1 (some .int) (by decide) rfl (Nat.le_of_ble_eq_true rfl) ?_
  intro p e s m below meth c A ls hx hb hr hlocks hml hnm hts hown hw hl
  have hl : lv_has ls 1 [(0, .ref (a 0))] := hl
  have i5 : ∀ w ∈ wsX50, w ∈ wsX5_rent := fun _ h => List.mem_cons_of_mem _ (List.mem_append_right _ h)
  have lk16 := hts (.fieldLink RX5 16 "RentSizesModel" "eRent" "[I") (by decide +kernel)
  have lk64 := hts (.fieldLink RX5 64 "RentSizesModel" "height" "I") (by decide +kernel)
  refine lv_aload_n hx hb dX5_rent_0 rfl (lv_at hl 0 rfl) ?_
  refine r_get (C := RX5) (T := TX5) (v := .ref (a 4)) hx hb hts i5 hown hw 0 rfl rfl 4 (by decide) lk16 rfl dX5_rent_1 ?_
  refine lv_aload_n hx hb dX5_rent_4 rfl (lv_at hl 0 rfl) ?_
  refine lv_aload_n hx hb dX5_rent_5 rfl (lv_at hl 0 rfl) ?_
  refine r_get (C := RX5) (T := TX5) (v := .int (s0)) hx hb hts i5 hown hw 0 rfl rfl 0 (by decide) lk64 rfl dX5_rent_6 ?_
  refine r_callVi 0 rfl rfl (rest := [.ref (a 4)]) ⟨hx, hb, hml, hown, hts⟩ hw [.int (s0)] (k5_editionAt l D ty a cI ht0 s0 s1 a2 a3 a4 a5 a6 a7 a8 a9 s10 s11 s12 a13 a14 a15 a16 a17 a18 a19 a20 a21 s22 s0 (by first | assumption | omega) (by first | assumption | omega)) (cwV 1 hts gX5_rent_X5_editionAt rfl rfl rfl (by decide +kernel) ⟨Nat.le_of_ble_eq_true rfl, Nat.le_of_ble_eq_true rfl⟩) rfl hl.1 rfl (Nat.le_of_ble_eq_true rfl) dX5_rent_9 ⟨Nat.le_of_ble_eq_true rfl, Nat.le_of_ble_eq_true rfl⟩ (fun r w H locs hp hw => ?_)
  obtain ⟨rfl, rfl⟩ := hp
  refine r_iald (v := a4 (tn (f5_editionAt s1 a2 s0))) hx hb hw 3 rfl ht0 (ea_in _ he1) dX5_rent_12 rfl ?_
  have e9 : f5_rent s0 s1 a2 a4 = a4 (tn (f5_editionAt s1 a2 s0)) := by unfold f5_rent; rfl
  exact r_iret hx hb hr hlocks hw ⟨by rw [e9] <;> rfl, rfl⟩ dX5_rent_13
def f5_charged (s0 : Int32) (s1 : Int32) (a2 : Nat → Int32) (a5 : Nat → Int32) (p1 : Int32) : Int32 :=
  if p1 ≤ (a5 (tn (f5_editionAt s1 a2 s0))) then a5 (tn (f5_editionAt s1 a2 s0))
  else p1
set_option maxHeartbeats 4000000 in
set_option maxRecDepth 100000 in
theorem k5_charged (l : Launch) (D : va_G) (ty : List (ClassId × FieldType)) (a : Nat → Nat) (cI : ClassId) (ht0 : ty[0]? = some (cI, .int)) (s0 : Int32) (s1 : Int32) (a2 : Nat → Int32) (a3 : Nat → Int32) (a4 : Nat → Int32) (a5 : Nat → Int32) (a6 : Nat → Int32) (a7 : Nat → Int32) (a8 : Nat → Int32) (a9 : Nat → Int32) (s10 : Int32) (s11 : Int32) (s12 : Int32) (a13 : Nat → Int32) (a14 : Nat → Int32) (a15 : Nat → Int32) (a16 : Nat → Int32) (a17 : Nat → Int32) (a18 : Nat → Int32) (a19 : Nat → Int32) (a20 : Nat → Int32) (a21 : Nat → Int32) (s22 : Int32) (p1 : Int32) (he0 : s1 = nI (tn s1)) (he1 : tn s1 ≤ 10) : MetG l yX5_charged wsX5_charged { frames := 1, cells := 0, slots := 0, locals := 23 } D ty [.ref (a 0), .int (p1)] (MW a cI s0 s1 a2 a3 a4 a5 a6 a7 a8 a9 s10 s11 s12 a13 a14 a15 a16 a17 a18 a19 a20 a21 s22) (va_Qi (fun r w => r = f5_charged s0 s1 a2 a5 p1 ∧ w = MW a cI s0 s1 a2 a3 a4 a5 a6 a7 a8 a9 s10 s11 s12 a13 a14 a15 a16 a17 a18 a19 a20 a21 s22)) 0 0 := by
  refine Met_start cX5_charged 3 (some .int) (by decide) rfl (Nat.le_of_ble_eq_true rfl) ?_
  intro p e s m below meth c A ls hx hb hr hlocks hml hnm hts hown hw hl
  have hl : lv_has ls 3 [(0, .ref (a 0)), (1, .int (p1))] := hl
  have i5 : ∀ w ∈ wsX50, w ∈ wsX5_charged := fun _ h => List.mem_cons_of_mem _ (List.mem_append_right _ h)
  have lk19 := hts (.fieldLink RX5 19 "RentSizesModel" "eLeast" "[I") (by decide +kernel)
  have lk64 := hts (.fieldLink RX5 64 "RentSizesModel" "height" "I") (by decide +kernel)
  refine lv_aload_n hx hb dX5_charged_0 rfl (lv_at hl 0 rfl) ?_
  refine r_get (C := RX5) (T := TX5) (v := .ref (a 5)) hx hb hts i5 hown hw 0 rfl rfl 5 (by decide) lk19 rfl dX5_charged_1 ?_
  refine lv_aload_n hx hb dX5_charged_4 rfl (lv_at hl 0 rfl) ?_
  refine lv_aload_n hx hb dX5_charged_5 rfl (lv_at hl 0 rfl) ?_
  refine r_get (C := RX5) (T := TX5) (v := .int (s0)) hx hb hts i5 hown hw 0 rfl rfl 0 (by decide) lk64 rfl dX5_charged_6 ?_
  refine r_callVi 0 rfl rfl (rest := [.ref (a 5)]) ⟨hx, hb, hml, hown, hts⟩ hw [.int (s0)] (k5_editionAt l D ty a cI ht0 s0 s1 a2 a3 a4 a5 a6 a7 a8 a9 s10 s11 s12 a13 a14 a15 a16 a17 a18 a19 a20 a21 s22 s0 (by first | assumption | omega) (by first | assumption | omega)) (cwV 1 hts gX5_charged_X5_editionAt rfl rfl rfl (by decide +kernel) ⟨Nat.le_of_ble_eq_true rfl, Nat.le_of_ble_eq_true rfl⟩) rfl hl.1 rfl (Nat.le_of_ble_eq_true rfl) dX5_charged_9 ⟨Nat.le_of_ble_eq_true rfl, Nat.le_of_ble_eq_true rfl⟩ (fun r w H locs hp hw => ?_)
  obtain ⟨rfl, rfl⟩ := hp
  refine r_iald (v := a5 (tn (f5_editionAt s1 a2 s0))) hx hb hw 4 rfl ht0 (ea_in _ he1) dX5_charged_12 rfl ?_
  refine lv_istore_n (lv' := [(2, .int (a5 (tn (f5_editionAt s1 a2 s0)))), (0, .ref (a 0)), (1, .int (p1))]) hx hb dX5_charged_13 rfl hl (by decide) rfl (fun ls hl => ?_)
  refine lv_iload_n hx hb dX5_charged_14 rfl (lv_at hl 2 rfl) ?_
  refine lv_iload_n hx hb dX5_charged_15 rfl (lv_at hl 0 rfl) ?_
  refine lv_icmp_le (tgt := 23) hx hb dX5_charged_16 (by decide) (fun c_16 => ?_) (fun c_16 => ?_)
  · refine lv_iload_n hx hb dX5_charged_23 rfl (lv_at hl 0 rfl) ?_
    have e9 : f5_charged s0 s1 a2 a5 p1 = a5 (tn (f5_editionAt s1 a2 s0)) := by unfold f5_charged; rw [if_pos c_16]
    exact r_iret hx hb hr hlocks hw ⟨by rw [e9] <;> rfl, rfl⟩ dX5_charged_24
  · refine lv_iload_n hx hb dX5_charged_19 rfl (lv_at hl 2 rfl) ?_
    refine lv_goto (tgt := 24) hx hb dX5_charged_20 (by decide) ?_
    have e9 : f5_charged s0 s1 a2 a5 p1 = p1 := by unfold f5_charged; rw [if_neg c_16]
    exact r_iret hx hb hr hlocks hw ⟨by rw [e9] <;> rfl, rfl⟩ dX5_charged_24
def f5_priceAt (s1 : Int32) (a2 : Nat → Int32) (a3 : Nat → Int32) (a4 : Nat → Int32) (a5 : Nat → Int32) (p1 : Int32) (p2 : Int32) : Int32 :=
  if (f5_in p1.toInt64 0 100000) = 0 then (-102)
  else if (f5_in p2.toInt64 0 3) = 0 then (-102)
  else if p2 = 0 then a3 (tn (f5_editionAt s1 a2 p1))
  else if p2 = 1 then a4 (tn (f5_editionAt s1 a2 p1))
  else if p2 = 2 then a5 (tn (f5_editionAt s1 a2 p1))
  else a2 (tn (f5_editionAt s1 a2 p1))
set_option maxHeartbeats 4000000 in
set_option maxRecDepth 100000 in
theorem k5_priceAt (l : Launch) (D : va_G) (ty : List (ClassId × FieldType)) (a : Nat → Nat) (cI : ClassId) (ht0 : ty[0]? = some (cI, .int)) (s0 : Int32) (s1 : Int32) (a2 : Nat → Int32) (a3 : Nat → Int32) (a4 : Nat → Int32) (a5 : Nat → Int32) (a6 : Nat → Int32) (a7 : Nat → Int32) (a8 : Nat → Int32) (a9 : Nat → Int32) (s10 : Int32) (s11 : Int32) (s12 : Int32) (a13 : Nat → Int32) (a14 : Nat → Int32) (a15 : Nat → Int32) (a16 : Nat → Int32) (a17 : Nat → Int32) (a18 : Nat → Int32) (a19 : Nat → Int32) (a20 : Nat → Int32) (a21 : Nat → Int32) (s22 : Int32) (p1 : Int32) (p2 : Int32) (he0 : s1 = nI (tn s1)) (he1 : tn s1 ≤ 10) : MetG l yX5_priceAt wsX5_priceAt { frames := 1, cells := 0, slots := 0, locals := 25 } D ty [.ref (a 0), .int (p1), .int (p2)] (MW a cI s0 s1 a2 a3 a4 a5 a6 a7 a8 a9 s10 s11 s12 a13 a14 a15 a16 a17 a18 a19 a20 a21 s22) (va_Qi (fun r w => r = f5_priceAt s1 a2 a3 a4 a5 p1 p2 ∧ w = MW a cI s0 s1 a2 a3 a4 a5 a6 a7 a8 a9 s10 s11 s12 a13 a14 a15 a16 a17 a18 a19 a20 a21 s22)) 0 0 := by
  refine Met_start cX5_priceAt 4 (some .int) (by decide) rfl (Nat.le_of_ble_eq_true rfl) ?_
  intro p e s m below meth c A ls hx hb hr hlocks hml hnm hts hown hw hl
  have hl : lv_has ls 4 [(0, .ref (a 0)), (1, .int (p1)), (2, .int (p2))] := hl
  have ci87 := hts (.constantLong RX5 87 (100000)) (by decide +kernel)
  have ci95 := hts (.constantLong RX5 95 (3)) (by decide +kernel)
  have i5 : ∀ w ∈ wsX50, w ∈ wsX5_priceAt := fun _ h => List.mem_cons_of_mem _ (List.mem_append_right _ h)
  have lk7 := hts (.fieldLink RX5 7 "RentSizesModel" "eFrom" "[I") (by decide +kernel)
  have lk19 := hts (.fieldLink RX5 19 "RentSizesModel" "eLeast" "[I") (by decide +kernel)
  have lk16 := hts (.fieldLink RX5 16 "RentSizesModel" "eRent" "[I") (by decide +kernel)
  have lk13 := hts (.fieldLink RX5 13 "RentSizesModel" "ePrice" "[I") (by decide +kernel)
  refine lv_iload_n hx hb dX5_priceAt_0 rfl (lv_at hl 1 rfl) ?_
  refine lv_i2l (v := p1.toInt64) hx hb dX5_priceAt_1 rfl ?_
  refine lv_lconst (v := 0) hx hb dX5_priceAt_2 (by decide) ?_
  refine lv_ldc2 (v := 100000) hx hb hown ci87 dX5_priceAt_3 ?_
  refine r_callSi (rest := []) ⟨hx, hb, hml, hown, hts⟩ hw [.long (p1.toInt64), .long (0), .long (100000)] (k5_in l D ty a cI ht0 s0 s1 a2 a3 a4 a5 a6 a7 a8 a9 s10 s11 s12 a13 a14 a15 a16 a17 a18 a19 a20 a21 s22 p1.toInt64 0 100000) (va_cwS 3 hts gX5_priceAt_X5_in rfl rfl rfl (by decide +kernel) ⟨Nat.le_of_ble_eq_true rfl, Nat.le_of_ble_eq_true rfl⟩) rfl hl.1 rfl (Nat.le_of_ble_eq_true rfl) dX5_priceAt_6 ⟨Nat.le_of_ble_eq_true rfl, Nat.le_of_ble_eq_true rfl⟩ (fun r w H locs hp hw => ?_)
  obtain ⟨rfl, rfl⟩ := hp
  refine lv_if_eq (tgt := 24) hx hb dX5_priceAt_9 (by decide) (fun c_9 => ?_) (fun c_9 => ?_)
  · refine lv_bipush (v := (-102)) hx hb dX5_priceAt_24 (by decide) ?_
    have e9 : f5_priceAt s1 a2 a3 a4 a5 p1 p2 = (-102) := by unfold f5_priceAt; rw [if_pos c_9]
    exact r_iret hx hb hr hlocks hw ⟨by rw [e9] <;> rfl, rfl⟩ dX5_priceAt_26
  · refine lv_iload_n hx hb dX5_priceAt_12 rfl (lv_at hl 2 rfl) ?_
    refine lv_i2l (v := p2.toInt64) hx hb dX5_priceAt_13 rfl ?_
    refine lv_lconst (v := 0) hx hb dX5_priceAt_14 (by decide) ?_
    refine lv_ldc2 (v := 3) hx hb hown ci95 dX5_priceAt_15 ?_
    refine r_callSi (rest := []) ⟨hx, hb, hml, hown, hts⟩ hw [.long (p2.toInt64), .long (0), .long (3)] (k5_in l D ty a cI ht0 s0 s1 a2 a3 a4 a5 a6 a7 a8 a9 s10 s11 s12 a13 a14 a15 a16 a17 a18 a19 a20 a21 s22 p2.toInt64 0 3) (va_cwS 3 hts gX5_priceAt_X5_in rfl rfl rfl (by decide +kernel) ⟨Nat.le_of_ble_eq_true rfl, Nat.le_of_ble_eq_true rfl⟩) rfl hl.1 rfl (Nat.le_of_ble_eq_true rfl) dX5_priceAt_18 ⟨Nat.le_of_ble_eq_true rfl, Nat.le_of_ble_eq_true rfl⟩ (fun r w H locs hp hw => ?_)
    obtain ⟨rfl, rfl⟩ := hp
    refine lv_if_ne (tgt := 27) hx hb dX5_priceAt_21 (by decide) (fun c_21 => ?_) (fun c_21 => ?_)
    · refine lv_aload_n hx hb dX5_priceAt_27 rfl (lv_at hl 0 rfl) ?_
      refine lv_iload_n hx hb dX5_priceAt_28 rfl (lv_at hl 1 rfl) ?_
      refine r_callVi 0 rfl rfl (rest := []) ⟨hx, hb, hml, hown, hts⟩ hw [.int (p1)] (k5_editionAt l D ty a cI ht0 s0 s1 a2 a3 a4 a5 a6 a7 a8 a9 s10 s11 s12 a13 a14 a15 a16 a17 a18 a19 a20 a21 s22 p1 (by first | assumption | omega) (by first | assumption | omega)) (cwV 1 hts gX5_priceAt_X5_editionAt rfl rfl rfl (by decide +kernel) ⟨Nat.le_of_ble_eq_true rfl, Nat.le_of_ble_eq_true rfl⟩) rfl hl.1 rfl (Nat.le_of_ble_eq_true rfl) dX5_priceAt_29 ⟨Nat.le_of_ble_eq_true rfl, Nat.le_of_ble_eq_true rfl⟩ (fun r w H locs hp hw => ?_)
      obtain ⟨rfl, rfl⟩ := hp
      refine lv_istore_n (lv' := [(3, .int (f5_editionAt s1 a2 p1)), (0, .ref (a 0)), (1, .int (p1)), (2, .int (p2))]) hx hb dX5_priceAt_32 rfl hl (by decide) rfl (fun ls hl => ?_)
      refine lv_iload_n hx hb dX5_priceAt_33 rfl (lv_at hl 3 rfl) ?_
      refine lv_if_ne (tgt := 46) hx hb dX5_priceAt_34 (by decide) (fun c_34 => ?_) (fun c_34 => ?_)
      · refine lv_iload_n hx hb dX5_priceAt_46 rfl (lv_at hl 3 rfl) ?_
        refine lv_iconst (v := 1) hx hb dX5_priceAt_47 (by decide) ?_
        refine lv_icmp_ne (tgt := 60) hx hb dX5_priceAt_48 (by decide) (fun c_48 => ?_) (fun c_48 => ?_)
        · refine lv_iload_n hx hb dX5_priceAt_60 rfl (lv_at hl 3 rfl) ?_
          refine lv_iconst (v := 2) hx hb dX5_priceAt_61 (by decide) ?_
          refine lv_icmp_ne (tgt := 74) hx hb dX5_priceAt_62 (by decide) (fun c_62 => ?_) (fun c_62 => ?_)
          · refine lv_aload_n hx hb dX5_priceAt_74 rfl (lv_at hl 1 rfl) ?_
            refine r_get (C := RX5) (T := TX5) (v := .ref (a 2)) hx hb hts i5 hown hw 0 rfl rfl 2 (by decide) lk7 rfl dX5_priceAt_75 ?_
            refine lv_iload_n hx hb dX5_priceAt_78 rfl (lv_at hl 0 rfl) ?_
            refine r_iald (v := a2 (tn (f5_editionAt s1 a2 p1))) hx hb hw 1 rfl ht0 (ea_in _ he1) dX5_priceAt_79 rfl ?_
            have e9 : f5_priceAt s1 a2 a3 a4 a5 p1 p2 = a2 (tn (f5_editionAt s1 a2 p1)) := by unfold f5_priceAt; rw [if_neg c_9, if_neg c_21, if_neg c_34, if_neg c_48, if_neg c_62]
            exact r_iret hx hb hr hlocks hw ⟨by rw [e9] <;> rfl, rfl⟩ dX5_priceAt_80
          · refine lv_aload_n hx hb dX5_priceAt_65 rfl (lv_at hl 1 rfl) ?_
            refine r_get (C := RX5) (T := TX5) (v := .ref (a 5)) hx hb hts i5 hown hw 0 rfl rfl 5 (by decide) lk19 rfl dX5_priceAt_66 ?_
            refine lv_iload_n hx hb dX5_priceAt_69 rfl (lv_at hl 0 rfl) ?_
            refine r_iald (v := a5 (tn (f5_editionAt s1 a2 p1))) hx hb hw 4 rfl ht0 (ea_in _ he1) dX5_priceAt_70 rfl ?_
            refine lv_goto (tgt := 80) hx hb dX5_priceAt_71 (by decide) ?_
            have e9 : f5_priceAt s1 a2 a3 a4 a5 p1 p2 = a5 (tn (f5_editionAt s1 a2 p1)) := by unfold f5_priceAt; rw [if_neg c_9, if_neg c_21, if_neg c_34, if_neg c_48, if_pos c_62]
            exact r_iret hx hb hr hlocks hw ⟨by rw [e9] <;> rfl, rfl⟩ dX5_priceAt_80
        · refine lv_aload_n hx hb dX5_priceAt_51 rfl (lv_at hl 1 rfl) ?_
          refine r_get (C := RX5) (T := TX5) (v := .ref (a 4)) hx hb hts i5 hown hw 0 rfl rfl 4 (by decide) lk16 rfl dX5_priceAt_52 ?_
          refine lv_iload_n hx hb dX5_priceAt_55 rfl (lv_at hl 0 rfl) ?_
          refine r_iald (v := a4 (tn (f5_editionAt s1 a2 p1))) hx hb hw 3 rfl ht0 (ea_in _ he1) dX5_priceAt_56 rfl ?_
          refine lv_goto (tgt := 80) hx hb dX5_priceAt_57 (by decide) ?_
          have e9 : f5_priceAt s1 a2 a3 a4 a5 p1 p2 = a4 (tn (f5_editionAt s1 a2 p1)) := by unfold f5_priceAt; rw [if_neg c_9, if_neg c_21, if_neg c_34, if_pos c_48]
          exact r_iret hx hb hr hlocks hw ⟨by rw [e9] <;> rfl, rfl⟩ dX5_priceAt_80
      · refine lv_aload_n hx hb dX5_priceAt_37 rfl (lv_at hl 1 rfl) ?_
        refine r_get (C := RX5) (T := TX5) (v := .ref (a 3)) hx hb hts i5 hown hw 0 rfl rfl 3 (by decide) lk13 rfl dX5_priceAt_38 ?_
        refine lv_iload_n hx hb dX5_priceAt_41 rfl (lv_at hl 0 rfl) ?_
        refine r_iald (v := a3 (tn (f5_editionAt s1 a2 p1))) hx hb hw 2 rfl ht0 (ea_in _ he1) dX5_priceAt_42 rfl ?_
        refine lv_goto (tgt := 80) hx hb dX5_priceAt_43 (by decide) ?_
        have e9 : f5_priceAt s1 a2 a3 a4 a5 p1 p2 = a3 (tn (f5_editionAt s1 a2 p1)) := by unfold f5_priceAt; rw [if_neg c_9, if_neg c_21, if_pos c_34]
        exact r_iret hx hb hr hlocks hw ⟨by rw [e9] <;> rfl, rfl⟩ dX5_priceAt_80
    · refine lv_bipush (v := (-102)) hx hb dX5_priceAt_24 (by decide) ?_
      have e9 : f5_priceAt s1 a2 a3 a4 a5 p1 p2 = (-102) := by unfold f5_priceAt; rw [if_neg c_9, if_pos c_21]
      exact r_iret hx hb hr hlocks hw ⟨by rw [e9] <;> rfl, rfl⟩ dX5_priceAt_26
def lf5_liveSizes_4 (a13 : Nat → Int32) (a14 : Nat → Int32) (a17 : Nat → Int32) (p1 : Int32) : Nat → Nat → Int32 → Int32
  | 0, _, v2 => v2
  | k + 1, j, v2 => if (a17 j) = 0 then (if p1 = (-109) then lf5_liveSizes_4 a13 a14 a17 p1 k (j + 1) (v2 + (a14 j))
      else if (a13 j) = p1 then lf5_liveSizes_4 a13 a14 a17 p1 k (j + 1) (v2 + (a14 j))
      else lf5_liveSizes_4 a13 a14 a17 p1 k (j + 1) (v2 + 0))
    else lf5_liveSizes_4 a13 a14 a17 p1 k (j + 1) (v2 + 0)
set_option maxHeartbeats 4000000 in
set_option maxRecDepth 100000 in
theorem lt5_liveSizes_4 (l : Launch) (D : va_G) (ty : List (ClassId × FieldType)) (a : Nat → Nat) (cI : ClassId) (ht0 : ty[0]? = some (cI, .int)) (s0 : Int32) (s1 : Int32) (a2 : Nat → Int32) (a3 : Nat → Int32) (a4 : Nat → Int32) (a5 : Nat → Int32) (a6 : Nat → Int32) (a7 : Nat → Int32) (a8 : Nat → Int32) (a9 : Nat → Int32) (s10 : Int32) (s11 : Int32) (s12 : Int32) (a13 : Nat → Int32) (a14 : Nat → Int32) (a15 : Nat → Int32) (a16 : Nat → Int32) (a17 : Nat → Int32) (a18 : Nat → Int32) (a19 : Nat → Int32) (a20 : Nat → Int32) (a21 : Nat → Int32) (s22 : Int32) (p1 : Int32) (hob : s12 = nI (tn s12)) (hob2 : tn s12 ≤ 60)  {p : Program} {e : Env} {s : State} {m : MethodId} {args : Array Value} {below : List Frame} {meth : Method} {c : Code} {A : Nat → Prop} {H0 : Heap} {Q : State → Prop} (hx : p.tables.exec = Jvm.exec) (hb : c.code = cX5_liveSizes) (hml : c.maxLocals = 4) (hts : ∀ w ∈ wsX5_liveSizes, w.before args s = true) (hown : s.vm.findClass RX5 = some m.cls) : ∀ (k j : Nat) (v2 : Int32) (hj : j + k = tn s12) (H : Heap) (locs : List Loc) (ls : Array Slot) (hw : Wd D ty A H0 s (MW a cI s0 s1 a2 a3 a4 a5 a6 a7 a8 a9 s10 s11 s12 a13 a14 a15 a16 a17 a18 a19 a20 a21 s22) H locs) (hl : lv_has ls 4 [(3, .int (nI (j))), (2, .int (v2)), (0, .ref (a 0)), (1, .int (p1))]) (kk : ∀ (H1 : Heap) (locs1 : List Loc) (ls1 : Array Slot), Wd D ty A H0 s (MW a cI s0 s1 a2 a3 a4 a5 a6 a7 a8 a9 s10 s11 s12 a13 a14 a15 a16 a17 a18 a19 a20 a21 s22) H1 locs1 → lv_has ls1 4 [(3, .int (nI (tn s12))), (2, .int ((lf5_liveSizes_4 a13 a14 a17 p1 k j v2))), (0, .ref (a 0)), (1, .int (p1))] → W p l e ({ frames := 0, cells := 0, slots := 0, locals := 0 } : Room) s m args below meth c H1 locs1 0 0 Q (F0 m 56 ls1 [])), W p l e ({ frames := 0, cells := 0, slots := 0, locals := 0 } : Room) s m args below meth c H locs 0 0 Q (F0 m 4 ls []) := by
  have i5 : ∀ w ∈ wsX50, w ∈ wsX5_liveSizes := fun _ h => List.mem_cons_of_mem _ (List.mem_append_right _ h)
  have lk78 := hts (.fieldLink RX5 78 "RentSizesModel" "objects" "I") (by decide +kernel)
  have lk46 := hts (.fieldLink RX5 46 "RentSizesModel" "state" "[I") (by decide +kernel)
  have lk37 := hts (.fieldLink RX5 37 "RentSizesModel" "size" "[I") (by decide +kernel)
  have lk34 := hts (.fieldLink RX5 34 "RentSizesModel" "owner" "[I") (by decide +kernel)
  intro k
  induction k with
  | zero =>
    intro j v2 hj H locs ls hw hl kk
    have hj0 : j = tn s12 := by omega
    refine lv_iload_n hx hb dX5_liveSizes_4 rfl (lv_at hl 0 rfl) ?_
    refine lv_aload_n hx hb dX5_liveSizes_5 rfl (lv_at hl 2 rfl) ?_
    refine r_get (C := RX5) (T := TX5) (v := .int (s12)) hx hb hts i5 hown hw 0 rfl rfl 12 (by decide) lk78 rfl dX5_liveSizes_6 ?_
    refine r_top (nI (tn s12)) hob ?_
    refine lv_icmp_ge (tgt := 56) hx hb dX5_liveSizes_9 (by decide) (fun c_9 => ?_) (fun c_9 => ?_)
    · rw [hj0] at hl
      exact kk _ _ _ hw (lv_sub hl [0, 1, 2, 3] rfl)
    · exact absurd (nI_le (by omega) (by omega)) c_9
  | succ k ih =>
    intro j v2 hj H locs ls hw hl kk
    have hjb : j < tn s12 := by omega
    refine lv_iload_n hx hb dX5_liveSizes_4 rfl (lv_at hl 0 rfl) ?_
    refine lv_aload_n hx hb dX5_liveSizes_5 rfl (lv_at hl 2 rfl) ?_
    refine r_get (C := RX5) (T := TX5) (v := .int (s12)) hx hb hts i5 hown hw 0 rfl rfl 12 (by decide) lk78 rfl dX5_liveSizes_6 ?_
    refine r_top (nI (tn s12)) hob ?_
    refine lv_icmp_ge (tgt := 56) hx hb dX5_liveSizes_9 (by decide) (fun c_9 => ?_) (fun c_9 => ?_)
    · exact absurd c_9 (nI_ge (by omega) (by omega))
    · refine lv_iload_n hx hb dX5_liveSizes_12 rfl (lv_at hl 1 rfl) ?_
      refine lv_aload_n hx hb dX5_liveSizes_13 rfl (lv_at hl 2 rfl) ?_
      refine r_get (C := RX5) (T := TX5) (v := .ref (a 17)) hx hb hts i5 hown hw 0 rfl rfl 17 (by decide) lk46 rfl dX5_liveSizes_14 ?_
      refine lv_iload_n hx hb dX5_liveSizes_17 rfl (lv_at hl 0 rfl) ?_
      refine r_ialdN (v := a17 j) hx hb hw 13 rfl ht0 j (by omega) (by decide) dX5_liveSizes_18 rfl ?_
      refine lv_if_ne (tgt := 47) hx hb dX5_liveSizes_19 (by decide) (fun c_19 => ?_) (fun c_19 => ?_)
      · refine lv_iconst (v := 0) hx hb dX5_liveSizes_47 (by decide) ?_
        refine lv_iadd hx hb dX5_liveSizes_48 ?_
        refine lv_istore_n (lv' := [(2, .int (v2 + 0)), (3, .int (nI (j))), (0, .ref (a 0)), (1, .int (p1))]) hx hb dX5_liveSizes_49 rfl hl (by decide) rfl (fun ls hl => ?_)
        refine lv_iinc (v := nI (j + 1)) (lv' := [(3, .int (nI (j + 1))), (2, .int (v2 + 0)), (0, .ref (a 0)), (1, .int (p1))]) hx hb dX5_liveSizes_50 hl (k := 1) rfl (by show nI (j) + 1 = _; exact nI_1 _) (by decide) rfl (fun ls hl => ?_)
        refine lv_goto (tgt := 4) hx hb dX5_liveSizes_53 (by decide) ?_
        have e9 : lf5_liveSizes_4 a13 a14 a17 p1 (k + 1) j v2 = lf5_liveSizes_4 a13 a14 a17 p1 k (j + 1) (v2 + 0) := by rw [lf5_liveSizes_4]; rw [if_neg c_19]
        rw [e9] at kk
        exact ih (j + 1) (v2 + 0) (by omega)  _ _ _ hw (lv_sub hl [0, 1, 2, 3] rfl) kk
      · refine lv_iload_n hx hb dX5_liveSizes_22 rfl (lv_at hl 3 rfl) ?_
        refine lv_bipush (v := (-109)) hx hb dX5_liveSizes_23 (by decide) ?_
        refine lv_icmp_eq (tgt := 38) hx hb dX5_liveSizes_25 (by decide) (fun c_25 => ?_) (fun c_25 => ?_)
        · refine lv_aload_n hx hb dX5_liveSizes_38 rfl (lv_at hl 2 rfl) ?_
          refine r_get (C := RX5) (T := TX5) (v := .ref (a 14)) hx hb hts i5 hown hw 0 rfl rfl 14 (by decide) lk37 rfl dX5_liveSizes_39 ?_
          refine lv_iload_n hx hb dX5_liveSizes_42 rfl (lv_at hl 0 rfl) ?_
          refine r_ialdN (v := a14 j) hx hb hw 10 rfl ht0 j (by omega) (by decide) dX5_liveSizes_43 rfl ?_
          refine lv_goto (tgt := 48) hx hb dX5_liveSizes_44 (by decide) ?_
          refine lv_iadd hx hb dX5_liveSizes_48 ?_
          refine lv_istore_n (lv' := [(2, .int (v2 + (a14 j))), (3, .int (nI (j))), (0, .ref (a 0)), (1, .int (p1))]) hx hb dX5_liveSizes_49 rfl hl (by decide) rfl (fun ls hl => ?_)
          refine lv_iinc (v := nI (j + 1)) (lv' := [(3, .int (nI (j + 1))), (2, .int (v2 + (a14 j))), (0, .ref (a 0)), (1, .int (p1))]) hx hb dX5_liveSizes_50 hl (k := 1) rfl (by show nI (j) + 1 = _; exact nI_1 _) (by decide) rfl (fun ls hl => ?_)
          refine lv_goto (tgt := 4) hx hb dX5_liveSizes_53 (by decide) ?_
          have e9 : lf5_liveSizes_4 a13 a14 a17 p1 (k + 1) j v2 = lf5_liveSizes_4 a13 a14 a17 p1 k (j + 1) (v2 + (a14 j)) := by rw [lf5_liveSizes_4]; rw [if_pos c_19, if_pos c_25]
          rw [e9] at kk
          exact ih (j + 1) (v2 + (a14 j)) (by omega)  _ _ _ hw (lv_sub hl [0, 1, 2, 3] rfl) kk
        · refine lv_aload_n hx hb dX5_liveSizes_28 rfl (lv_at hl 2 rfl) ?_
          refine r_get (C := RX5) (T := TX5) (v := .ref (a 13)) hx hb hts i5 hown hw 0 rfl rfl 13 (by decide) lk34 rfl dX5_liveSizes_29 ?_
          refine lv_iload_n hx hb dX5_liveSizes_32 rfl (lv_at hl 0 rfl) ?_
          refine r_ialdN (v := a13 j) hx hb hw 9 rfl ht0 j (by omega) (by decide) dX5_liveSizes_33 rfl ?_
          refine lv_iload_n hx hb dX5_liveSizes_34 rfl (lv_at hl 3 rfl) ?_
          refine lv_icmp_ne (tgt := 47) hx hb dX5_liveSizes_35 (by decide) (fun c_35 => ?_) (fun c_35 => ?_)
          · refine lv_iconst (v := 0) hx hb dX5_liveSizes_47 (by decide) ?_
            refine lv_iadd hx hb dX5_liveSizes_48 ?_
            refine lv_istore_n (lv' := [(2, .int (v2 + 0)), (3, .int (nI (j))), (0, .ref (a 0)), (1, .int (p1))]) hx hb dX5_liveSizes_49 rfl hl (by decide) rfl (fun ls hl => ?_)
            refine lv_iinc (v := nI (j + 1)) (lv' := [(3, .int (nI (j + 1))), (2, .int (v2 + 0)), (0, .ref (a 0)), (1, .int (p1))]) hx hb dX5_liveSizes_50 hl (k := 1) rfl (by show nI (j) + 1 = _; exact nI_1 _) (by decide) rfl (fun ls hl => ?_)
            refine lv_goto (tgt := 4) hx hb dX5_liveSizes_53 (by decide) ?_
            have e9 : lf5_liveSizes_4 a13 a14 a17 p1 (k + 1) j v2 = lf5_liveSizes_4 a13 a14 a17 p1 k (j + 1) (v2 + 0) := by rw [lf5_liveSizes_4]; rw [if_pos c_19, if_neg c_25, if_neg c_35]
            rw [e9] at kk
            exact ih (j + 1) (v2 + 0) (by omega)  _ _ _ hw (lv_sub hl [0, 1, 2, 3] rfl) kk
          · refine lv_aload_n hx hb dX5_liveSizes_38 rfl (lv_at hl 2 rfl) ?_
            refine r_get (C := RX5) (T := TX5) (v := .ref (a 14)) hx hb hts i5 hown hw 0 rfl rfl 14 (by decide) lk37 rfl dX5_liveSizes_39 ?_
            refine lv_iload_n hx hb dX5_liveSizes_42 rfl (lv_at hl 0 rfl) ?_
            refine r_ialdN (v := a14 j) hx hb hw 10 rfl ht0 j (by omega) (by decide) dX5_liveSizes_43 rfl ?_
            refine lv_goto (tgt := 48) hx hb dX5_liveSizes_44 (by decide) ?_
            refine lv_iadd hx hb dX5_liveSizes_48 ?_
            refine lv_istore_n (lv' := [(2, .int (v2 + (a14 j))), (3, .int (nI (j))), (0, .ref (a 0)), (1, .int (p1))]) hx hb dX5_liveSizes_49 rfl hl (by decide) rfl (fun ls hl => ?_)
            refine lv_iinc (v := nI (j + 1)) (lv' := [(3, .int (nI (j + 1))), (2, .int (v2 + (a14 j))), (0, .ref (a 0)), (1, .int (p1))]) hx hb dX5_liveSizes_50 hl (k := 1) rfl (by show nI (j) + 1 = _; exact nI_1 _) (by decide) rfl (fun ls hl => ?_)
            refine lv_goto (tgt := 4) hx hb dX5_liveSizes_53 (by decide) ?_
            have e9 : lf5_liveSizes_4 a13 a14 a17 p1 (k + 1) j v2 = lf5_liveSizes_4 a13 a14 a17 p1 k (j + 1) (v2 + (a14 j)) := by rw [lf5_liveSizes_4]; rw [if_pos c_19, if_neg c_25, if_pos c_35]
            rw [e9] at kk
            exact ih (j + 1) (v2 + (a14 j)) (by omega)  _ _ _ hw (lv_sub hl [0, 1, 2, 3] rfl) kk
def f5_liveSizes (s12 : Int32) (a13 : Nat → Int32) (a14 : Nat → Int32) (a17 : Nat → Int32) (p1 : Int32) : Int32 :=
  (lf5_liveSizes_4 a13 a14 a17 p1 (tn s12) 0 0)
set_option maxHeartbeats 4000000 in
set_option maxRecDepth 100000 in
theorem k5_liveSizes (l : Launch) (D : va_G) (ty : List (ClassId × FieldType)) (a : Nat → Nat) (cI : ClassId) (ht0 : ty[0]? = some (cI, .int)) (s0 : Int32) (s1 : Int32) (a2 : Nat → Int32) (a3 : Nat → Int32) (a4 : Nat → Int32) (a5 : Nat → Int32) (a6 : Nat → Int32) (a7 : Nat → Int32) (a8 : Nat → Int32) (a9 : Nat → Int32) (s10 : Int32) (s11 : Int32) (s12 : Int32) (a13 : Nat → Int32) (a14 : Nat → Int32) (a15 : Nat → Int32) (a16 : Nat → Int32) (a17 : Nat → Int32) (a18 : Nat → Int32) (a19 : Nat → Int32) (a20 : Nat → Int32) (a21 : Nat → Int32) (s22 : Int32) (p1 : Int32) (hob : s12 = nI (tn s12)) (hob2 : tn s12 ≤ 60) : MetG l yX5_liveSizes wsX5_liveSizes { frames := 0, cells := 0, slots := 0, locals := 0 } D ty [.ref (a 0), .int (p1)] (MW a cI s0 s1 a2 a3 a4 a5 a6 a7 a8 a9 s10 s11 s12 a13 a14 a15 a16 a17 a18 a19 a20 a21 s22) (va_Qi (fun r w => r = f5_liveSizes s12 a13 a14 a17 p1 ∧ w = MW a cI s0 s1 a2 a3 a4 a5 a6 a7 a8 a9 s10 s11 s12 a13 a14 a15 a16 a17 a18 a19 a20 a21 s22)) 0 0 := by
  refine Met_start cX5_liveSizes 4 (some .int) (by decide) rfl (Nat.le_of_ble_eq_true rfl) ?_
  intro p e s m below meth c A ls hx hb hr hlocks hml hnm hts hown hw hl
  have hl : lv_has ls 4 [(0, .ref (a 0)), (1, .int (p1))] := hl
  refine lv_iconst (v := 0) hx hb dX5_liveSizes_0 (by decide) ?_
  refine lv_istore_n (lv' := [(2, .int (0)), (0, .ref (a 0)), (1, .int (p1))]) hx hb dX5_liveSizes_1 rfl hl (by decide) rfl (fun ls hl => ?_)
  refine lv_iconst (v := 0) hx hb dX5_liveSizes_2 (by decide) ?_
  refine lv_istore_n (lv' := [(3, .int (0)), (2, .int (0)), (0, .ref (a 0)), (1, .int (p1))]) hx hb dX5_liveSizes_3 rfl hl (by decide) rfl (fun ls hl => ?_)
  refine lt5_liveSizes_4 l D ty a cI ht0 s0 s1 a2 a3 a4 a5 a6 a7 a8 a9 s10 s11 s12 a13 a14 a15 a16 a17 a18 a19 a20 a21 s22 p1 hob hob2  hx hb hml hts hown (tn s12) 0 0 (by omega)  _ _ _ hw hl (fun H locs ls hw hl => ?_)
  refine lv_iload_n hx hb dX5_liveSizes_56 rfl (lv_at hl 1 rfl) ?_
  have e9 : f5_liveSizes s12 a13 a14 a17 p1 = (lf5_liveSizes_4 a13 a14 a17 p1 (tn s12) 0 0) := by unfold f5_liveSizes; rfl
  exact r_iret hx hb hr hlocks hw ⟨by rw [e9] <;> rfl, rfl⟩ dX5_liveSizes_57
def f5_isCapped (a7 : Nat → Int32) (s12 : Int32) (a13 : Nat → Int32) (a14 : Nat → Int32) (a17 : Nat → Int32) (p1 : Int32) (p2 : Int32) : Int32 :=
  if 5000 < ((f5_liveSizes s12 a13 a14 a17 (-109)) + p2) then 1
  else if ((f5_liveSizes s12 a13 a14 a17 p1) + p2) ≤ (a7 (tn (p1))) then 0
  else 1
set_option maxHeartbeats 4000000 in
set_option maxRecDepth 100000 in
theorem k5_isCapped (l : Launch) (D : va_G) (ty : List (ClassId × FieldType)) (a : Nat → Nat) (cI : ClassId) (ht0 : ty[0]? = some (cI, .int)) (s0 : Int32) (s1 : Int32) (a2 : Nat → Int32) (a3 : Nat → Int32) (a4 : Nat → Int32) (a5 : Nat → Int32) (a6 : Nat → Int32) (a7 : Nat → Int32) (a8 : Nat → Int32) (a9 : Nat → Int32) (s10 : Int32) (s11 : Int32) (s12 : Int32) (a13 : Nat → Int32) (a14 : Nat → Int32) (a15 : Nat → Int32) (a16 : Nat → Int32) (a17 : Nat → Int32) (a18 : Nat → Int32) (a19 : Nat → Int32) (a20 : Nat → Int32) (a21 : Nat → Int32) (s22 : Int32) (p1 : Int32) (p2 : Int32) (hob : s12 = nI (tn s12)) (hob2 : tn s12 ≤ 60) (hof : vp_in p1 6) : MetG l yX5_isCapped wsX5_isCapped { frames := 1, cells := 0, slots := 0, locals := 23 } D ty [.ref (a 0), .int (p1), .int (p2)] (MW a cI s0 s1 a2 a3 a4 a5 a6 a7 a8 a9 s10 s11 s12 a13 a14 a15 a16 a17 a18 a19 a20 a21 s22) (va_Qi (fun r w => r = f5_isCapped a7 s12 a13 a14 a17 p1 p2 ∧ w = MW a cI s0 s1 a2 a3 a4 a5 a6 a7 a8 a9 s10 s11 s12 a13 a14 a15 a16 a17 a18 a19 a20 a21 s22)) 0 0 := by
  refine Met_start cX5_isCapped 3 (some .boolean) (by decide) rfl (Nat.le_of_ble_eq_true rfl) ?_
  intro p e s m below meth c A ls hx hb hr hlocks hml hnm hts hown hw hl
  have hl : lv_has ls 3 [(0, .ref (a 0)), (1, .int (p1)), (2, .int (p2))] := hl
  have i5 : ∀ w ∈ wsX50, w ∈ wsX5_isCapped := fun _ h => List.mem_cons_of_mem _ (List.mem_append_right _ h)
  have lk25 := hts (.fieldLink RX5 25 "RentSizesModel" "caps" "[I") (by decide +kernel)
  refine lv_aload_n hx hb dX5_isCapped_0 rfl (lv_at hl 0 rfl) ?_
  refine lv_bipush (v := (-109)) hx hb dX5_isCapped_1 (by decide) ?_
  refine r_callVi 0 rfl rfl (rest := []) ⟨hx, hb, hml, hown, hts⟩ hw [.int ((-109))] (k5_liveSizes l D ty a cI ht0 s0 s1 a2 a3 a4 a5 a6 a7 a8 a9 s10 s11 s12 a13 a14 a15 a16 a17 a18 a19 a20 a21 s22 (-109) (by first | assumption | omega) (by first | assumption | omega)) (cwV 1 hts gX5_isCapped_X5_liveSizes rfl rfl rfl (by decide +kernel) ⟨Nat.le_of_ble_eq_true rfl, Nat.le_of_ble_eq_true rfl⟩) rfl hl.1 rfl (Nat.le_of_ble_eq_true rfl) dX5_isCapped_3 ⟨Nat.le_of_ble_eq_true rfl, Nat.le_of_ble_eq_true rfl⟩ (fun r w H locs hp hw => ?_)
  obtain ⟨rfl, rfl⟩ := hp
  refine lv_iload_n hx hb dX5_isCapped_6 rfl (lv_at hl 2 rfl) ?_
  refine lv_iadd hx hb dX5_isCapped_7 ?_
  refine lv_sipush (v := 5000) hx hb dX5_isCapped_8 (by decide) ?_
  refine lv_icmp_gt (tgt := 30) hx hb dX5_isCapped_11 (by decide) (fun c_11 => ?_) (fun c_11 => ?_)
  · refine lv_iconst (v := 1) hx hb dX5_isCapped_30 (by decide) ?_
    refine lv_goto (tgt := 35) hx hb dX5_isCapped_31 (by decide) ?_
    have e9 : f5_isCapped a7 s12 a13 a14 a17 p1 p2 = 1 := by unfold f5_isCapped; rw [if_pos c_11]
    exact r_zret hx hb hr hlocks (Or.inr rfl) hw ⟨by rw [e9] <;> rfl, rfl⟩ dX5_isCapped_35
  · refine lv_aload_n hx hb dX5_isCapped_14 rfl (lv_at hl 0 rfl) ?_
    refine lv_iload_n hx hb dX5_isCapped_15 rfl (lv_at hl 1 rfl) ?_
    refine r_callVi 0 rfl rfl (rest := []) ⟨hx, hb, hml, hown, hts⟩ hw [.int (p1)] (k5_liveSizes l D ty a cI ht0 s0 s1 a2 a3 a4 a5 a6 a7 a8 a9 s10 s11 s12 a13 a14 a15 a16 a17 a18 a19 a20 a21 s22 p1 (by first | assumption | omega) (by first | assumption | omega)) (cwV 1 hts gX5_isCapped_X5_liveSizes rfl rfl rfl (by decide +kernel) ⟨Nat.le_of_ble_eq_true rfl, Nat.le_of_ble_eq_true rfl⟩) rfl hl.1 rfl (Nat.le_of_ble_eq_true rfl) dX5_isCapped_16 ⟨Nat.le_of_ble_eq_true rfl, Nat.le_of_ble_eq_true rfl⟩ (fun r w H locs hp hw => ?_)
    obtain ⟨rfl, rfl⟩ := hp
    refine lv_iload_n hx hb dX5_isCapped_19 rfl (lv_at hl 2 rfl) ?_
    refine lv_iadd hx hb dX5_isCapped_20 ?_
    refine lv_aload_n hx hb dX5_isCapped_21 rfl (lv_at hl 0 rfl) ?_
    refine r_get (C := RX5) (T := TX5) (v := .ref (a 7)) hx hb hts i5 hown hw 0 rfl rfl 7 (by decide) lk25 rfl dX5_isCapped_22 ?_
    refine lv_iload_n hx hb dX5_isCapped_25 rfl (lv_at hl 1 rfl) ?_
    refine r_iald (v := a7 (tn (p1))) hx hb hw 6 rfl ht0 (by first | assumption | exact vp_in_nI (by omega) (by omega)) dX5_isCapped_26 rfl ?_
    refine lv_icmp_le (tgt := 34) hx hb dX5_isCapped_27 (by decide) (fun c_27 => ?_) (fun c_27 => ?_)
    · refine lv_iconst (v := 0) hx hb dX5_isCapped_34 (by decide) ?_
      have e9 : f5_isCapped a7 s12 a13 a14 a17 p1 p2 = 0 := by unfold f5_isCapped; rw [if_neg c_11, if_pos c_27]
      exact r_zret hx hb hr hlocks (Or.inl rfl) hw ⟨by rw [e9] <;> rfl, rfl⟩ dX5_isCapped_35
    · refine lv_iconst (v := 1) hx hb dX5_isCapped_30 (by decide) ?_
      refine lv_goto (tgt := 35) hx hb dX5_isCapped_31 (by decide) ?_
      have e9 : f5_isCapped a7 s12 a13 a14 a17 p1 p2 = 1 := by unfold f5_isCapped; rw [if_neg c_11, if_neg c_27]
      exact r_zret hx hb hr hlocks (Or.inr rfl) hw ⟨by rw [e9] <;> rfl, rfl⟩ dX5_isCapped_35
def lf5_allWeights_4 (a9 : Nat → Int32) : Nat → Nat → Int32 → Int32
  | 0, _, v1 => v1
  | k + 1, j, v1 => lf5_allWeights_4 a9 k (j + 1) (v1 + (a9 j))
set_option maxHeartbeats 4000000 in
set_option maxRecDepth 100000 in
theorem lt5_allWeights_4 (l : Launch) (D : va_G) (ty : List (ClassId × FieldType)) (a : Nat → Nat) (cI : ClassId) (ht0 : ty[0]? = some (cI, .int)) (s0 : Int32) (s1 : Int32) (a2 : Nat → Int32) (a3 : Nat → Int32) (a4 : Nat → Int32) (a5 : Nat → Int32) (a6 : Nat → Int32) (a7 : Nat → Int32) (a8 : Nat → Int32) (a9 : Nat → Int32) (s10 : Int32) (s11 : Int32) (s12 : Int32) (a13 : Nat → Int32) (a14 : Nat → Int32) (a15 : Nat → Int32) (a16 : Nat → Int32) (a17 : Nat → Int32) (a18 : Nat → Int32) (a19 : Nat → Int32) (a20 : Nat → Int32) (a21 : Nat → Int32) (s22 : Int32)  {p : Program} {e : Env} {s : State} {m : MethodId} {args : Array Value} {below : List Frame} {meth : Method} {c : Code} {A : Nat → Prop} {H0 : Heap} {Q : State → Prop} (hx : p.tables.exec = Jvm.exec) (hb : c.code = cX5_allWeights) (hml : c.maxLocals = 3) (hts : ∀ w ∈ wsX5_allWeights, w.before args s = true) (hown : s.vm.findClass RX5 = some m.cls) : ∀ (k j : Nat) (v1 : Int32) (hj : j + k = 5) (H : Heap) (locs : List Loc) (ls : Array Slot) (hw : Wd D ty A H0 s (MW a cI s0 s1 a2 a3 a4 a5 a6 a7 a8 a9 s10 s11 s12 a13 a14 a15 a16 a17 a18 a19 a20 a21 s22) H locs) (hl : lv_has ls 3 [(2, .int (nI (j))), (1, .int (v1)), (0, .ref (a 0))]) (kk : ∀ (H1 : Heap) (locs1 : List Loc) (ls1 : Array Slot), Wd D ty A H0 s (MW a cI s0 s1 a2 a3 a4 a5 a6 a7 a8 a9 s10 s11 s12 a13 a14 a15 a16 a17 a18 a19 a20 a21 s22) H1 locs1 → lv_has ls1 3 [(2, .int (nI (5))), (1, .int ((lf5_allWeights_4 a9 k j v1))), (0, .ref (a 0))] → W p l e ({ frames := 0, cells := 0, slots := 0, locals := 0 } : Room) s m args below meth c H1 locs1 0 0 Q (F0 m 24 ls1 [])), W p l e ({ frames := 0, cells := 0, slots := 0, locals := 0 } : Room) s m args below meth c H locs 0 0 Q (F0 m 4 ls []) := by
  have i5 : ∀ w ∈ wsX50, w ∈ wsX5_allWeights := fun _ h => List.mem_cons_of_mem _ (List.mem_append_right _ h)
  have lk31 := hts (.fieldLink RX5 31 "RentSizesModel" "weights" "[I") (by decide +kernel)
  intro k
  induction k with
  | zero =>
    intro j v1 hj H locs ls hw hl kk
    have hj0 : j = 5 := by omega
    refine lv_iload_n hx hb dX5_allWeights_4 rfl (lv_at hl 0 rfl) ?_
    refine lv_iconst (v := 5) hx hb dX5_allWeights_5 (by decide) ?_
    refine r_top (nI 5) rfl ?_
    refine lv_icmp_ge (tgt := 24) hx hb dX5_allWeights_6 (by decide) (fun c_6 => ?_) (fun c_6 => ?_)
    · subst hj0
      exact kk _ _ _ hw (lv_sub hl [0, 1, 2] rfl)
    · exact absurd (nI_le (by omega) (by omega)) c_6
  | succ k ih =>
    intro j v1 hj H locs ls hw hl kk
    have hjb : j < 5 := by omega
    refine lv_iload_n hx hb dX5_allWeights_4 rfl (lv_at hl 0 rfl) ?_
    refine lv_iconst (v := 5) hx hb dX5_allWeights_5 (by decide) ?_
    refine r_top (nI 5) rfl ?_
    refine lv_icmp_ge (tgt := 24) hx hb dX5_allWeights_6 (by decide) (fun c_6 => ?_) (fun c_6 => ?_)
    · exact absurd c_6 (nI_ge (by omega) (by omega))
    · refine lv_iload_n hx hb dX5_allWeights_9 rfl (lv_at hl 1 rfl) ?_
      refine lv_aload_n hx hb dX5_allWeights_10 rfl (lv_at hl 2 rfl) ?_
      refine r_get (C := RX5) (T := TX5) (v := .ref (a 9)) hx hb hts i5 hown hw 0 rfl rfl 9 (by decide) lk31 rfl dX5_allWeights_11 ?_
      refine lv_iload_n hx hb dX5_allWeights_14 rfl (lv_at hl 0 rfl) ?_
      refine r_ialdN (v := a9 j) hx hb hw 8 rfl ht0 j (by omega) (by decide) dX5_allWeights_15 rfl ?_
      refine lv_iadd hx hb dX5_allWeights_16 ?_
      refine lv_istore_n (lv' := [(1, .int (v1 + (a9 j))), (2, .int (nI (j))), (0, .ref (a 0))]) hx hb dX5_allWeights_17 rfl hl (by decide) rfl (fun ls hl => ?_)
      refine lv_iinc (v := nI (j + 1)) (lv' := [(2, .int (nI (j + 1))), (1, .int (v1 + (a9 j))), (0, .ref (a 0))]) hx hb dX5_allWeights_18 hl (k := 1) rfl (by show nI (j) + 1 = _; exact nI_1 _) (by decide) rfl (fun ls hl => ?_)
      refine lv_goto (tgt := 4) hx hb dX5_allWeights_21 (by decide) ?_
      have e9 : lf5_allWeights_4 a9 (k + 1) j v1 = lf5_allWeights_4 a9 k (j + 1) (v1 + (a9 j)) := rfl
      rw [e9] at kk
      exact ih (j + 1) (v1 + (a9 j)) (by omega)  _ _ _ hw (lv_sub hl [0, 1, 2] rfl) kk
def f5_allWeights (a9 : Nat → Int32) : Int32 :=
  (lf5_allWeights_4 a9 5 0 0)
set_option maxHeartbeats 4000000 in
set_option maxRecDepth 100000 in
theorem k5_allWeights (l : Launch) (D : va_G) (ty : List (ClassId × FieldType)) (a : Nat → Nat) (cI : ClassId) (ht0 : ty[0]? = some (cI, .int)) (s0 : Int32) (s1 : Int32) (a2 : Nat → Int32) (a3 : Nat → Int32) (a4 : Nat → Int32) (a5 : Nat → Int32) (a6 : Nat → Int32) (a7 : Nat → Int32) (a8 : Nat → Int32) (a9 : Nat → Int32) (s10 : Int32) (s11 : Int32) (s12 : Int32) (a13 : Nat → Int32) (a14 : Nat → Int32) (a15 : Nat → Int32) (a16 : Nat → Int32) (a17 : Nat → Int32) (a18 : Nat → Int32) (a19 : Nat → Int32) (a20 : Nat → Int32) (a21 : Nat → Int32) (s22 : Int32) : MetG l yX5_allWeights wsX5_allWeights { frames := 0, cells := 0, slots := 0, locals := 0 } D ty [.ref (a 0)] (MW a cI s0 s1 a2 a3 a4 a5 a6 a7 a8 a9 s10 s11 s12 a13 a14 a15 a16 a17 a18 a19 a20 a21 s22) (va_Qi (fun r w => r = f5_allWeights a9 ∧ w = MW a cI s0 s1 a2 a3 a4 a5 a6 a7 a8 a9 s10 s11 s12 a13 a14 a15 a16 a17 a18 a19 a20 a21 s22)) 0 0 := by
  refine Met_start cX5_allWeights 3 (some .int) (by decide) rfl (Nat.le_of_ble_eq_true rfl) ?_
  intro p e s m below meth c A ls hx hb hr hlocks hml hnm hts hown hw hl
  have hl : lv_has ls 3 [(0, .ref (a 0))] := hl
  refine lv_iconst (v := 0) hx hb dX5_allWeights_0 (by decide) ?_
  refine lv_istore_n (lv' := [(1, .int (0)), (0, .ref (a 0))]) hx hb dX5_allWeights_1 rfl hl (by decide) rfl (fun ls hl => ?_)
  refine lv_iconst (v := 0) hx hb dX5_allWeights_2 (by decide) ?_
  refine lv_istore_n (lv' := [(2, .int (0)), (1, .int (0)), (0, .ref (a 0))]) hx hb dX5_allWeights_3 rfl hl (by decide) rfl (fun ls hl => ?_)
  refine lt5_allWeights_4 l D ty a cI ht0 s0 s1 a2 a3 a4 a5 a6 a7 a8 a9 s10 s11 s12 a13 a14 a15 a16 a17 a18 a19 a20 a21 s22  hx hb hml hts hown 5 0 0 (by omega)  _ _ _ hw hl (fun H locs ls hw hl => ?_)
  refine lv_iload_n hx hb dX5_allWeights_24 rfl (lv_at hl 1 rfl) ?_
  have e9 : f5_allWeights a9 = (lf5_allWeights_4 a9 5 0 0) := by unfold f5_allWeights; rfl
  exact r_iret hx hb hr hlocks hw ⟨by rw [e9] <;> rfl, rfl⟩ dX5_allWeights_25
def lf5_rank_4 (a9 : Nat → Int32) (x : Nat) : Nat → Nat → Int32 → Int32
  | 0, _, v2 => v2
  | k + 1, j, v2 => if (a9 x) < (a9 j) then lf5_rank_4 a9 x k (j + 1) (v2 + 1)
    else if (a9 j) = (a9 x) then (if (nI (x)) ≤ (nI (j)) then lf5_rank_4 a9 x k (j + 1) (v2 + 0)
      else lf5_rank_4 a9 x k (j + 1) (v2 + 1))
    else lf5_rank_4 a9 x k (j + 1) (v2 + 0)
set_option maxHeartbeats 4000000 in
set_option maxRecDepth 100000 in
theorem lt5_rank_4 (l : Launch) (D : va_G) (ty : List (ClassId × FieldType)) (a : Nat → Nat) (cI : ClassId) (ht0 : ty[0]? = some (cI, .int)) (s0 : Int32) (s1 : Int32) (a2 : Nat → Int32) (a3 : Nat → Int32) (a4 : Nat → Int32) (a5 : Nat → Int32) (a6 : Nat → Int32) (a7 : Nat → Int32) (a8 : Nat → Int32) (a9 : Nat → Int32) (s10 : Int32) (s11 : Int32) (s12 : Int32) (a13 : Nat → Int32) (a14 : Nat → Int32) (a15 : Nat → Int32) (a16 : Nat → Int32) (a17 : Nat → Int32) (a18 : Nat → Int32) (a19 : Nat → Int32) (a20 : Nat → Int32) (a21 : Nat → Int32) (s22 : Int32) (x : Nat) (hx5 : x < 5)  {p : Program} {e : Env} {s : State} {m : MethodId} {args : Array Value} {below : List Frame} {meth : Method} {c : Code} {A : Nat → Prop} {H0 : Heap} {Q : State → Prop} (hx : p.tables.exec = Jvm.exec) (hb : c.code = cX5_rank) (hml : c.maxLocals = 4) (hts : ∀ w ∈ wsX5_rank, w.before args s = true) (hown : s.vm.findClass RX5 = some m.cls) : ∀ (k j : Nat) (v2 : Int32) (hj : j + k = 5) (H : Heap) (locs : List Loc) (ls : Array Slot) (hw : Wd D ty A H0 s (MW a cI s0 s1 a2 a3 a4 a5 a6 a7 a8 a9 s10 s11 s12 a13 a14 a15 a16 a17 a18 a19 a20 a21 s22) H locs) (hl : lv_has ls 4 [(3, .int (nI (j))), (2, .int (v2)), (0, .ref (a 0)), (1, .int (nI (x)))]) (kk : ∀ (H1 : Heap) (locs1 : List Loc) (ls1 : Array Slot), Wd D ty A H0 s (MW a cI s0 s1 a2 a3 a4 a5 a6 a7 a8 a9 s10 s11 s12 a13 a14 a15 a16 a17 a18 a19 a20 a21 s22) H1 locs1 → lv_has ls1 4 [(3, .int (nI (5))), (2, .int ((lf5_rank_4 a9 x k j v2))), (0, .ref (a 0)), (1, .int (nI (x)))] → W p l e ({ frames := 0, cells := 0, slots := 0, locals := 0 } : Room) s m args below meth c H1 locs1 0 0 Q (F0 m 58 ls1 [])), W p l e ({ frames := 0, cells := 0, slots := 0, locals := 0 } : Room) s m args below meth c H locs 0 0 Q (F0 m 4 ls []) := by
  have i5 : ∀ w ∈ wsX50, w ∈ wsX5_rank := fun _ h => List.mem_cons_of_mem _ (List.mem_append_right _ h)
  have lk31 := hts (.fieldLink RX5 31 "RentSizesModel" "weights" "[I") (by decide +kernel)
  intro k
  induction k with
  | zero =>
    intro j v2 hj H locs ls hw hl kk
    have hj0 : j = 5 := by omega
    refine lv_iload_n hx hb dX5_rank_4 rfl (lv_at hl 0 rfl) ?_
    refine lv_iconst (v := 5) hx hb dX5_rank_5 (by decide) ?_
    refine r_top (nI 5) rfl ?_
    refine lv_icmp_ge (tgt := 58) hx hb dX5_rank_6 (by decide) (fun c_6 => ?_) (fun c_6 => ?_)
    · subst hj0
      exact kk _ _ _ hw (lv_sub hl [0, 1, 2, 3] rfl)
    · exact absurd (nI_le (by omega) (by omega)) c_6
  | succ k ih =>
    intro j v2 hj H locs ls hw hl kk
    have hjb : j < 5 := by omega
    refine lv_iload_n hx hb dX5_rank_4 rfl (lv_at hl 0 rfl) ?_
    refine lv_iconst (v := 5) hx hb dX5_rank_5 (by decide) ?_
    refine r_top (nI 5) rfl ?_
    refine lv_icmp_ge (tgt := 58) hx hb dX5_rank_6 (by decide) (fun c_6 => ?_) (fun c_6 => ?_)
    · exact absurd c_6 (nI_ge (by omega) (by omega))
    · refine lv_iload_n hx hb dX5_rank_9 rfl (lv_at hl 1 rfl) ?_
      refine lv_aload_n hx hb dX5_rank_10 rfl (lv_at hl 2 rfl) ?_
      refine r_get (C := RX5) (T := TX5) (v := .ref (a 9)) hx hb hts i5 hown hw 0 rfl rfl 9 (by decide) lk31 rfl dX5_rank_11 ?_
      refine lv_iload_n hx hb dX5_rank_14 rfl (lv_at hl 0 rfl) ?_
      refine r_ialdN (v := a9 j) hx hb hw 8 rfl ht0 j (by omega) (by decide) dX5_rank_15 rfl ?_
      refine lv_aload_n hx hb dX5_rank_16 rfl (lv_at hl 2 rfl) ?_
      refine r_get (C := RX5) (T := TX5) (v := .ref (a 9)) hx hb hts i5 hown hw 0 rfl rfl 9 (by decide) lk31 rfl dX5_rank_17 ?_
      refine lv_iload_n hx hb dX5_rank_20 rfl (lv_at hl 3 rfl) ?_
      refine r_ialdN (v := a9 x) hx hb hw 8 rfl ht0 x (by omega) (by decide) dX5_rank_21 rfl ?_
      refine lv_icmp_gt (tgt := 45) hx hb dX5_rank_22 (by decide) (fun c_22 => ?_) (fun c_22 => ?_)
      · refine lv_iconst (v := 1) hx hb dX5_rank_45 (by decide) ?_
        refine lv_goto (tgt := 50) hx hb dX5_rank_46 (by decide) ?_
        refine lv_iadd hx hb dX5_rank_50 ?_
        refine lv_istore_n (lv' := [(2, .int (v2 + 1)), (3, .int (nI (j))), (0, .ref (a 0)), (1, .int (nI (x)))]) hx hb dX5_rank_51 rfl hl (by decide) rfl (fun ls hl => ?_)
        refine lv_iinc (v := nI (j + 1)) (lv' := [(3, .int (nI (j + 1))), (2, .int (v2 + 1)), (0, .ref (a 0)), (1, .int (nI (x)))]) hx hb dX5_rank_52 hl (k := 1) rfl (by show nI (j) + 1 = _; exact nI_1 _) (by decide) rfl (fun ls hl => ?_)
        refine lv_goto (tgt := 4) hx hb dX5_rank_55 (by decide) ?_
        have e9 : lf5_rank_4 a9 x (k + 1) j v2 = lf5_rank_4 a9 x k (j + 1) (v2 + 1) := by rw [lf5_rank_4]; rw [if_pos c_22]
        rw [e9] at kk
        exact ih (j + 1) (v2 + 1) (by omega)  _ _ _ hw (lv_sub hl [0, 1, 2, 3] rfl) kk
      · refine lv_aload_n hx hb dX5_rank_25 rfl (lv_at hl 2 rfl) ?_
        refine r_get (C := RX5) (T := TX5) (v := .ref (a 9)) hx hb hts i5 hown hw 0 rfl rfl 9 (by decide) lk31 rfl dX5_rank_26 ?_
        refine lv_iload_n hx hb dX5_rank_29 rfl (lv_at hl 0 rfl) ?_
        refine r_ialdN (v := a9 j) hx hb hw 8 rfl ht0 j (by omega) (by decide) dX5_rank_30 rfl ?_
        refine lv_aload_n hx hb dX5_rank_31 rfl (lv_at hl 2 rfl) ?_
        refine r_get (C := RX5) (T := TX5) (v := .ref (a 9)) hx hb hts i5 hown hw 0 rfl rfl 9 (by decide) lk31 rfl dX5_rank_32 ?_
        refine lv_iload_n hx hb dX5_rank_35 rfl (lv_at hl 3 rfl) ?_
        refine r_ialdN (v := a9 x) hx hb hw 8 rfl ht0 x (by omega) (by decide) dX5_rank_36 rfl ?_
        refine lv_icmp_ne (tgt := 49) hx hb dX5_rank_37 (by decide) (fun c_37 => ?_) (fun c_37 => ?_)
        · refine lv_iconst (v := 0) hx hb dX5_rank_49 (by decide) ?_
          refine lv_iadd hx hb dX5_rank_50 ?_
          refine lv_istore_n (lv' := [(2, .int (v2 + 0)), (3, .int (nI (j))), (0, .ref (a 0)), (1, .int (nI (x)))]) hx hb dX5_rank_51 rfl hl (by decide) rfl (fun ls hl => ?_)
          refine lv_iinc (v := nI (j + 1)) (lv' := [(3, .int (nI (j + 1))), (2, .int (v2 + 0)), (0, .ref (a 0)), (1, .int (nI (x)))]) hx hb dX5_rank_52 hl (k := 1) rfl (by show nI (j) + 1 = _; exact nI_1 _) (by decide) rfl (fun ls hl => ?_)
          refine lv_goto (tgt := 4) hx hb dX5_rank_55 (by decide) ?_
          have e9 : lf5_rank_4 a9 x (k + 1) j v2 = lf5_rank_4 a9 x k (j + 1) (v2 + 0) := by rw [lf5_rank_4]; rw [if_neg c_22, if_neg c_37]
          rw [e9] at kk
          exact ih (j + 1) (v2 + 0) (by omega)  _ _ _ hw (lv_sub hl [0, 1, 2, 3] rfl) kk
        · refine lv_iload_n hx hb dX5_rank_40 rfl (lv_at hl 0 rfl) ?_
          refine lv_iload_n hx hb dX5_rank_41 rfl (lv_at hl 3 rfl) ?_
          refine lv_icmp_ge (tgt := 49) hx hb dX5_rank_42 (by decide) (fun c_42 => ?_) (fun c_42 => ?_)
          · refine lv_iconst (v := 0) hx hb dX5_rank_49 (by decide) ?_
            refine lv_iadd hx hb dX5_rank_50 ?_
            refine lv_istore_n (lv' := [(2, .int (v2 + 0)), (3, .int (nI (j))), (0, .ref (a 0)), (1, .int (nI (x)))]) hx hb dX5_rank_51 rfl hl (by decide) rfl (fun ls hl => ?_)
            refine lv_iinc (v := nI (j + 1)) (lv' := [(3, .int (nI (j + 1))), (2, .int (v2 + 0)), (0, .ref (a 0)), (1, .int (nI (x)))]) hx hb dX5_rank_52 hl (k := 1) rfl (by show nI (j) + 1 = _; exact nI_1 _) (by decide) rfl (fun ls hl => ?_)
            refine lv_goto (tgt := 4) hx hb dX5_rank_55 (by decide) ?_
            have e9 : lf5_rank_4 a9 x (k + 1) j v2 = lf5_rank_4 a9 x k (j + 1) (v2 + 0) := by rw [lf5_rank_4]; rw [if_neg c_22, if_pos c_37, if_pos c_42]
            rw [e9] at kk
            exact ih (j + 1) (v2 + 0) (by omega)  _ _ _ hw (lv_sub hl [0, 1, 2, 3] rfl) kk
          · refine lv_iconst (v := 1) hx hb dX5_rank_45 (by decide) ?_
            refine lv_goto (tgt := 50) hx hb dX5_rank_46 (by decide) ?_
            refine lv_iadd hx hb dX5_rank_50 ?_
            refine lv_istore_n (lv' := [(2, .int (v2 + 1)), (3, .int (nI (j))), (0, .ref (a 0)), (1, .int (nI (x)))]) hx hb dX5_rank_51 rfl hl (by decide) rfl (fun ls hl => ?_)
            refine lv_iinc (v := nI (j + 1)) (lv' := [(3, .int (nI (j + 1))), (2, .int (v2 + 1)), (0, .ref (a 0)), (1, .int (nI (x)))]) hx hb dX5_rank_52 hl (k := 1) rfl (by show nI (j) + 1 = _; exact nI_1 _) (by decide) rfl (fun ls hl => ?_)
            refine lv_goto (tgt := 4) hx hb dX5_rank_55 (by decide) ?_
            have e9 : lf5_rank_4 a9 x (k + 1) j v2 = lf5_rank_4 a9 x k (j + 1) (v2 + 1) := by rw [lf5_rank_4]; rw [if_neg c_22, if_pos c_37, if_neg c_42]
            rw [e9] at kk
            exact ih (j + 1) (v2 + 1) (by omega)  _ _ _ hw (lv_sub hl [0, 1, 2, 3] rfl) kk
def f5_rank (a9 : Nat → Int32) (x : Nat) : Int32 :=
  (lf5_rank_4 a9 x 5 0 0)
set_option maxHeartbeats 4000000 in
set_option maxRecDepth 100000 in
theorem k5_rank (l : Launch) (D : va_G) (ty : List (ClassId × FieldType)) (a : Nat → Nat) (cI : ClassId) (ht0 : ty[0]? = some (cI, .int)) (s0 : Int32) (s1 : Int32) (a2 : Nat → Int32) (a3 : Nat → Int32) (a4 : Nat → Int32) (a5 : Nat → Int32) (a6 : Nat → Int32) (a7 : Nat → Int32) (a8 : Nat → Int32) (a9 : Nat → Int32) (s10 : Int32) (s11 : Int32) (s12 : Int32) (a13 : Nat → Int32) (a14 : Nat → Int32) (a15 : Nat → Int32) (a16 : Nat → Int32) (a17 : Nat → Int32) (a18 : Nat → Int32) (a19 : Nat → Int32) (a20 : Nat → Int32) (a21 : Nat → Int32) (s22 : Int32) (x : Nat) (hx5 : x < 5) : MetG l yX5_rank wsX5_rank { frames := 0, cells := 0, slots := 0, locals := 0 } D ty [.ref (a 0), .int (nI (x))] (MW a cI s0 s1 a2 a3 a4 a5 a6 a7 a8 a9 s10 s11 s12 a13 a14 a15 a16 a17 a18 a19 a20 a21 s22) (va_Qi (fun r w => r = f5_rank a9 x ∧ w = MW a cI s0 s1 a2 a3 a4 a5 a6 a7 a8 a9 s10 s11 s12 a13 a14 a15 a16 a17 a18 a19 a20 a21 s22)) 0 0 := by
  refine Met_start cX5_rank 4 (some .int) (by decide) rfl (Nat.le_of_ble_eq_true rfl) ?_
  intro p e s m below meth c A ls hx hb hr hlocks hml hnm hts hown hw hl
  have hl : lv_has ls 4 [(0, .ref (a 0)), (1, .int (nI (x)))] := hl
  refine lv_iconst (v := 0) hx hb dX5_rank_0 (by decide) ?_
  refine lv_istore_n (lv' := [(2, .int (0)), (0, .ref (a 0)), (1, .int (nI (x)))]) hx hb dX5_rank_1 rfl hl (by decide) rfl (fun ls hl => ?_)
  refine lv_iconst (v := 0) hx hb dX5_rank_2 (by decide) ?_
  refine lv_istore_n (lv' := [(3, .int (0)), (2, .int (0)), (0, .ref (a 0)), (1, .int (nI (x)))]) hx hb dX5_rank_3 rfl hl (by decide) rfl (fun ls hl => ?_)
  refine lt5_rank_4 l D ty a cI ht0 s0 s1 a2 a3 a4 a5 a6 a7 a8 a9 s10 s11 s12 a13 a14 a15 a16 a17 a18 a19 a20 a21 s22 x hx5  hx hb hml hts hown 5 0 0 (by omega)  _ _ _ hw hl (fun H locs ls hw hl => ?_)
  refine lv_iload_n hx hb dX5_rank_58 rfl (lv_at hl 1 rfl) ?_
  have e9 : f5_rank a9 x = (lf5_rank_4 a9 x 5 0 0) := by unfold f5_rank; rfl
  exact r_iret hx hb hr hlocks hw ⟨by rw [e9] <;> rfl, rfl⟩ dX5_rank_59
def f5_weight (a9 : Nat → Int32) (p1 : Int32) (p2 : Int32) : Int32 × (Nat → Int32) :=
  if (f5_in p1.toInt64 0 4) = 0 then ((-101), a9)
  else if (f5_in p2.toInt64 0 1000) = 0 then ((-102), a9)
  else (a9 (tn (p1)), upd a9 (tn (p1)) p2)
set_option maxHeartbeats 4000000 in
set_option maxRecDepth 100000 in
theorem k5_weight (l : Launch) (D : va_G) (ty : List (ClassId × FieldType)) (a : Nat → Nat) (cI : ClassId) (ht0 : ty[0]? = some (cI, .int)) (s0 : Int32) (s1 : Int32) (a2 : Nat → Int32) (a3 : Nat → Int32) (a4 : Nat → Int32) (a5 : Nat → Int32) (a6 : Nat → Int32) (a7 : Nat → Int32) (a8 : Nat → Int32) (a9 : Nat → Int32) (s10 : Int32) (s11 : Int32) (s12 : Int32) (a13 : Nat → Int32) (a14 : Nat → Int32) (a15 : Nat → Int32) (a16 : Nat → Int32) (a17 : Nat → Int32) (a18 : Nat → Int32) (a19 : Nat → Int32) (a20 : Nat → Int32) (a21 : Nat → Int32) (s22 : Int32) (p1 : Int32) (p2 : Int32) : MetG l yX5_weight wsX5_weight { frames := 1, cells := 0, slots := 0, locals := 25 } D ty [.ref (a 0), .int (p1), .int (p2)] (MW a cI s0 s1 a2 a3 a4 a5 a6 a7 a8 a9 s10 s11 s12 a13 a14 a15 a16 a17 a18 a19 a20 a21 s22) (va_Qi (fun r w => r = (f5_weight a9 p1 p2).1 ∧ w = MW a cI s0 s1 a2 a3 a4 a5 a6 a7 a8 ((f5_weight a9 p1 p2).2) s10 s11 s12 a13 a14 a15 a16 a17 a18 a19 a20 a21 s22)) 0 0 := by
  refine Met_start cX5_weight 4 (some .int) (by decide) rfl (Nat.le_of_ble_eq_true rfl) ?_
  intro p e s m below meth c A ls hx hb hr hlocks hml hnm hts hown hw hl
  have hl : lv_has ls 4 [(0, .ref (a 0)), (1, .int (p1)), (2, .int (p2))] := hl
  have ci161 := hts (.constantLong RX5 161 (4)) (by decide +kernel)
  have ci122 := hts (.constantLong RX5 122 (1000)) (by decide +kernel)
  have i5 : ∀ w ∈ wsX50, w ∈ wsX5_weight := fun _ h => List.mem_cons_of_mem _ (List.mem_append_right _ h)
  have lk31 := hts (.fieldLink RX5 31 "RentSizesModel" "weights" "[I") (by decide +kernel)
  refine lv_iload_n hx hb dX5_weight_0 rfl (lv_at hl 1 rfl) ?_
  refine lv_i2l (v := p1.toInt64) hx hb dX5_weight_1 rfl ?_
  refine lv_lconst (v := 0) hx hb dX5_weight_2 (by decide) ?_
  refine lv_ldc2 (v := 4) hx hb hown ci161 dX5_weight_3 ?_
  refine r_callSi (rest := []) ⟨hx, hb, hml, hown, hts⟩ hw [.long (p1.toInt64), .long (0), .long (4)] (k5_in l D ty a cI ht0 s0 s1 a2 a3 a4 a5 a6 a7 a8 a9 s10 s11 s12 a13 a14 a15 a16 a17 a18 a19 a20 a21 s22 p1.toInt64 0 4) (va_cwS 3 hts gX5_weight_X5_in rfl rfl rfl (by decide +kernel) ⟨Nat.le_of_ble_eq_true rfl, Nat.le_of_ble_eq_true rfl⟩) rfl hl.1 rfl (Nat.le_of_ble_eq_true rfl) dX5_weight_6 ⟨Nat.le_of_ble_eq_true rfl, Nat.le_of_ble_eq_true rfl⟩ (fun r w H locs hp hw => ?_)
  obtain ⟨rfl, rfl⟩ := hp
  refine lv_if_ne (tgt := 15) hx hb dX5_weight_9 (by decide) (fun c_9 => ?_) (fun c_9 => ?_)
  · refine lv_iload_n hx hb dX5_weight_15 rfl (lv_at hl 2 rfl) ?_
    refine lv_i2l (v := p2.toInt64) hx hb dX5_weight_16 rfl ?_
    refine lv_lconst (v := 0) hx hb dX5_weight_17 (by decide) ?_
    refine lv_ldc2 (v := 1000) hx hb hown ci122 dX5_weight_18 ?_
    refine r_callSi (rest := []) ⟨hx, hb, hml, hown, hts⟩ hw [.long (p2.toInt64), .long (0), .long (1000)] (k5_in l D ty a cI ht0 s0 s1 a2 a3 a4 a5 a6 a7 a8 a9 s10 s11 s12 a13 a14 a15 a16 a17 a18 a19 a20 a21 s22 p2.toInt64 0 1000) (va_cwS 3 hts gX5_weight_X5_in rfl rfl rfl (by decide +kernel) ⟨Nat.le_of_ble_eq_true rfl, Nat.le_of_ble_eq_true rfl⟩) rfl hl.1 rfl (Nat.le_of_ble_eq_true rfl) dX5_weight_21 ⟨Nat.le_of_ble_eq_true rfl, Nat.le_of_ble_eq_true rfl⟩ (fun r w H locs hp hw => ?_)
    obtain ⟨rfl, rfl⟩ := hp
    refine lv_if_ne (tgt := 30) hx hb dX5_weight_24 (by decide) (fun c_24 => ?_) (fun c_24 => ?_)
    · have hv := in_vp 5 c_9 rfl
      refine lv_aload_n hx hb dX5_weight_30 rfl (lv_at hl 0 rfl) ?_
      refine r_get (C := RX5) (T := TX5) (v := .ref (a 9)) hx hb hts i5 hown hw 0 rfl rfl 9 (by decide) lk31 rfl dX5_weight_31 ?_
      refine lv_iload_n hx hb dX5_weight_34 rfl (lv_at hl 1 rfl) ?_
      refine r_iald (v := a9 (tn (p1))) hx hb hw 8 rfl ht0 (by first | assumption | exact vp_in_nI (by omega) (by omega)) dX5_weight_35 rfl ?_
      refine lv_istore_n (lv' := [(3, .int (a9 (tn (p1)))), (0, .ref (a 0)), (1, .int (p1)), (2, .int (p2))]) hx hb dX5_weight_36 rfl hl (by decide) rfl (fun ls hl => ?_)
      refine lv_aload_n hx hb dX5_weight_37 rfl (lv_at hl 1 rfl) ?_
      refine r_get (C := RX5) (T := TX5) (v := .ref (a 9)) hx hb hts i5 hown hw 0 rfl rfl 9 (by decide) lk31 rfl dX5_weight_38 ?_
      refine lv_iload_n hx hb dX5_weight_41 rfl (lv_at hl 2 rfl) ?_
      refine lv_iload_n hx hb dX5_weight_42 rfl (lv_at hl 3 rfl) ?_
      refine r_iast (ws' := MW a cI s0 s1 a2 a3 a4 a5 a6 a7 a8 (upd a9 (tn (p1)) p2) s10 s11 s12 a13 a14 a15 a16 a17 a18 a19 a20 a21 s22) hx hb hw 8 rfl ht0 (by first | assumption | exact vp_in_nI (by omega) (by omega)) (MW_u9 _) dX5_weight_43 (fun H locs hw => ?_)
      refine lv_iload_n hx hb dX5_weight_44 rfl (lv_at hl 0 rfl) ?_
      have e9 : f5_weight a9 p1 p2 = (a9 (tn (p1)), upd a9 (tn (p1)) p2) := by unfold f5_weight; rw [if_neg c_9, if_neg c_24]
      exact r_iret hx hb hr hlocks hw ⟨by rw [e9] <;> rfl, by rw [e9] <;> rfl⟩ dX5_weight_45
    · refine lv_bipush (v := (-102)) hx hb dX5_weight_27 (by decide) ?_
      have e9 : f5_weight a9 p1 p2 = ((-102), a9) := by unfold f5_weight; rw [if_neg c_9, if_pos c_24]
      exact r_iret hx hb hr hlocks hw ⟨by rw [e9] <;> rfl, by rw [e9] <;> rfl⟩ dX5_weight_29
  · refine lv_bipush (v := (-101)) hx hb dX5_weight_12 (by decide) ?_
    have e9 : f5_weight a9 p1 p2 = ((-101), a9) := by unfold f5_weight; rw [if_pos c_9]
    exact r_iret hx hb hr hlocks hw ⟨by rw [e9] <;> rfl, by rw [e9] <;> rfl⟩ dX5_weight_14
def f5_coins (a6 : Nat → Int32) (a8 : Nat → Int32) (p1 : Int32) (p2 : Int32) : Int32 :=
  if (f5_in p1.toInt64 0 1) = 0 then (-102)
  else if p1 = 0 then (if (f5_noAccount p2) = 0 then a6 (tn (p2))
    else (-101))
  else if (f5_in p2.toInt64 0 4) = 0 then (-101)
  else a8 (tn (p2))
set_option maxHeartbeats 4000000 in
set_option maxRecDepth 100000 in
theorem k5_coins (l : Launch) (D : va_G) (ty : List (ClassId × FieldType)) (a : Nat → Nat) (cI : ClassId) (ht0 : ty[0]? = some (cI, .int)) (s0 : Int32) (s1 : Int32) (a2 : Nat → Int32) (a3 : Nat → Int32) (a4 : Nat → Int32) (a5 : Nat → Int32) (a6 : Nat → Int32) (a7 : Nat → Int32) (a8 : Nat → Int32) (a9 : Nat → Int32) (s10 : Int32) (s11 : Int32) (s12 : Int32) (a13 : Nat → Int32) (a14 : Nat → Int32) (a15 : Nat → Int32) (a16 : Nat → Int32) (a17 : Nat → Int32) (a18 : Nat → Int32) (a19 : Nat → Int32) (a20 : Nat → Int32) (a21 : Nat → Int32) (s22 : Int32) (p1 : Int32) (p2 : Int32) : MetG l yX5_coins wsX5_coins { frames := 2, cells := 0, slots := 0, locals := 46 } D ty [.ref (a 0), .int (p1), .int (p2)] (MW a cI s0 s1 a2 a3 a4 a5 a6 a7 a8 a9 s10 s11 s12 a13 a14 a15 a16 a17 a18 a19 a20 a21 s22) (va_Qi (fun r w => r = f5_coins a6 a8 p1 p2 ∧ w = MW a cI s0 s1 a2 a3 a4 a5 a6 a7 a8 a9 s10 s11 s12 a13 a14 a15 a16 a17 a18 a19 a20 a21 s22)) 0 0 := by
  refine Met_start cX5_coins 3 (some .int) (by decide) rfl (Nat.le_of_ble_eq_true rfl) ?_
  intro p e s m below meth c A ls hx hb hr hlocks hml hnm hts hown hw hl
  have hl : lv_has ls 3 [(0, .ref (a 0)), (1, .int (p1)), (2, .int (p2))] := hl
  have ci161 := hts (.constantLong RX5 161 (4)) (by decide +kernel)
  have i5 : ∀ w ∈ wsX50, w ∈ wsX5_coins := fun _ h => List.mem_cons_of_mem _ (List.mem_append_right _ h)
  have lk28 := hts (.fieldLink RX5 28 "RentSizesModel" "nodeCoins" "[I") (by decide +kernel)
  have lk22 := hts (.fieldLink RX5 22 "RentSizesModel" "accountCoins" "[I") (by decide +kernel)
  refine lv_iload_n hx hb dX5_coins_0 rfl (lv_at hl 1 rfl) ?_
  refine lv_i2l (v := p1.toInt64) hx hb dX5_coins_1 rfl ?_
  refine lv_lconst (v := 0) hx hb dX5_coins_2 (by decide) ?_
  refine lv_lconst (v := 1) hx hb dX5_coins_3 (by decide) ?_
  refine r_callSi (rest := []) ⟨hx, hb, hml, hown, hts⟩ hw [.long (p1.toInt64), .long (0), .long (1)] (k5_in l D ty a cI ht0 s0 s1 a2 a3 a4 a5 a6 a7 a8 a9 s10 s11 s12 a13 a14 a15 a16 a17 a18 a19 a20 a21 s22 p1.toInt64 0 1) (va_cwS 3 hts gX5_coins_X5_in rfl rfl rfl (by decide +kernel) ⟨Nat.le_of_ble_eq_true rfl, Nat.le_of_ble_eq_true rfl⟩) rfl hl.1 rfl (Nat.le_of_ble_eq_true rfl) dX5_coins_4 ⟨Nat.le_of_ble_eq_true rfl, Nat.le_of_ble_eq_true rfl⟩ (fun r w H locs hp hw => ?_)
  obtain ⟨rfl, rfl⟩ := hp
  refine lv_if_ne (tgt := 13) hx hb dX5_coins_7 (by decide) (fun c_7 => ?_) (fun c_7 => ?_)
  · refine lv_iload_n hx hb dX5_coins_13 rfl (lv_at hl 1 rfl) ?_
    refine lv_if_ne (tgt := 37) hx hb dX5_coins_14 (by decide) (fun c_14 => ?_) (fun c_14 => ?_)
    · refine lv_iload_n hx hb dX5_coins_37 rfl (lv_at hl 2 rfl) ?_
      refine lv_i2l (v := p2.toInt64) hx hb dX5_coins_38 rfl ?_
      refine lv_lconst (v := 0) hx hb dX5_coins_39 (by decide) ?_
      refine lv_ldc2 (v := 4) hx hb hown ci161 dX5_coins_40 ?_
      refine r_callSi (rest := []) ⟨hx, hb, hml, hown, hts⟩ hw [.long (p2.toInt64), .long (0), .long (4)] (k5_in l D ty a cI ht0 s0 s1 a2 a3 a4 a5 a6 a7 a8 a9 s10 s11 s12 a13 a14 a15 a16 a17 a18 a19 a20 a21 s22 p2.toInt64 0 4) (va_cwS 3 hts gX5_coins_X5_in rfl rfl rfl (by decide +kernel) ⟨Nat.le_of_ble_eq_true rfl, Nat.le_of_ble_eq_true rfl⟩) rfl hl.1 rfl (Nat.le_of_ble_eq_true rfl) dX5_coins_43 ⟨Nat.le_of_ble_eq_true rfl, Nat.le_of_ble_eq_true rfl⟩ (fun r w H locs hp hw => ?_)
      obtain ⟨rfl, rfl⟩ := hp
      refine lv_if_eq (tgt := 58) hx hb dX5_coins_46 (by decide) (fun c_46 => ?_) (fun c_46 => ?_)
      · refine lv_bipush (v := (-101)) hx hb dX5_coins_58 (by decide) ?_
        have e9 : f5_coins a6 a8 p1 p2 = (-101) := by unfold f5_coins; rw [if_neg c_7, if_neg c_14, if_pos c_46]
        exact r_iret hx hb hr hlocks hw ⟨by rw [e9] <;> rfl, rfl⟩ dX5_coins_60
      · have hv := in_vp 5 c_46 rfl
        refine lv_aload_n hx hb dX5_coins_49 rfl (lv_at hl 0 rfl) ?_
        refine r_get (C := RX5) (T := TX5) (v := .ref (a 8)) hx hb hts i5 hown hw 0 rfl rfl 8 (by decide) lk28 rfl dX5_coins_50 ?_
        refine lv_iload_n hx hb dX5_coins_53 rfl (lv_at hl 2 rfl) ?_
        refine r_iald (v := a8 (tn (p2))) hx hb hw 7 rfl ht0 (by first | assumption | exact vp_in_nI (by omega) (by omega)) dX5_coins_54 rfl ?_
        refine lv_goto (tgt := 60) hx hb dX5_coins_55 (by decide) ?_
        have e9 : f5_coins a6 a8 p1 p2 = a8 (tn (p2)) := by unfold f5_coins; rw [if_neg c_7, if_neg c_14, if_neg c_46]
        exact r_iret hx hb hr hlocks hw ⟨by rw [e9] <;> rfl, rfl⟩ dX5_coins_60
    · refine lv_aload_n hx hb dX5_coins_17 rfl (lv_at hl 0 rfl) ?_
      refine lv_iload_n hx hb dX5_coins_18 rfl (lv_at hl 2 rfl) ?_
      refine r_callVi 0 rfl rfl (rest := []) ⟨hx, hb, hml, hown, hts⟩ hw [.int (p2)] (k5_noAccount l D ty a cI ht0 s0 s1 a2 a3 a4 a5 a6 a7 a8 a9 s10 s11 s12 a13 a14 a15 a16 a17 a18 a19 a20 a21 s22 p2) (cwV 1 hts gX5_coins_X5_noAccount rfl rfl rfl (by decide +kernel) ⟨Nat.le_of_ble_eq_true rfl, Nat.le_of_ble_eq_true rfl⟩) rfl hl.1 rfl (Nat.le_of_ble_eq_true rfl) dX5_coins_19 ⟨Nat.le_of_ble_eq_true rfl, Nat.le_of_ble_eq_true rfl⟩ (fun r w H locs hp hw => ?_)
      obtain ⟨rfl, rfl⟩ := hp
      refine lv_if_eq (tgt := 30) hx hb dX5_coins_22 (by decide) (fun c_22 => ?_) (fun c_22 => ?_)
      · have hv := na_in c_22
        refine lv_aload_n hx hb dX5_coins_30 rfl (lv_at hl 0 rfl) ?_
        refine r_get (C := RX5) (T := TX5) (v := .ref (a 6)) hx hb hts i5 hown hw 0 rfl rfl 6 (by decide) lk22 rfl dX5_coins_31 ?_
        refine lv_iload_n hx hb dX5_coins_34 rfl (lv_at hl 2 rfl) ?_
        refine r_iald (v := a6 (tn (p2))) hx hb hw 5 rfl ht0 (by first | assumption | exact vp_in_nI (by omega) (by omega)) dX5_coins_35 rfl ?_
        have e9 : f5_coins a6 a8 p1 p2 = a6 (tn (p2)) := by unfold f5_coins; rw [if_neg c_7, if_pos c_14, if_pos c_22]
        exact r_iret hx hb hr hlocks hw ⟨by rw [e9] <;> rfl, rfl⟩ dX5_coins_36
      · refine lv_bipush (v := (-101)) hx hb dX5_coins_25 (by decide) ?_
        refine lv_goto (tgt := 36) hx hb dX5_coins_27 (by decide) ?_
        have e9 : f5_coins a6 a8 p1 p2 = (-101) := by unfold f5_coins; rw [if_neg c_7, if_pos c_14, if_neg c_22]
        exact r_iret hx hb hr hlocks hw ⟨by rw [e9] <;> rfl, rfl⟩ dX5_coins_36
  · refine lv_bipush (v := (-102)) hx hb dX5_coins_10 (by decide) ?_
    have e9 : f5_coins a6 a8 p1 p2 = (-102) := by unfold f5_coins; rw [if_pos c_7]
    exact r_iret hx hb hr hlocks hw ⟨by rw [e9] <;> rfl, rfl⟩ dX5_coins_12
def f5_sizeNow (a14 : Nat → Int32) (a17 : Nat → Int32) (x : Nat) : Int32 :=
  if (a17 x) = 2 then 0
  else a14 x
set_option maxHeartbeats 4000000 in
set_option maxRecDepth 100000 in
theorem k5_sizeNow (l : Launch) (D : va_G) (ty : List (ClassId × FieldType)) (a : Nat → Nat) (cI : ClassId) (ht0 : ty[0]? = some (cI, .int)) (s0 : Int32) (s1 : Int32) (a2 : Nat → Int32) (a3 : Nat → Int32) (a4 : Nat → Int32) (a5 : Nat → Int32) (a6 : Nat → Int32) (a7 : Nat → Int32) (a8 : Nat → Int32) (a9 : Nat → Int32) (s10 : Int32) (s11 : Int32) (s12 : Int32) (a13 : Nat → Int32) (a14 : Nat → Int32) (a15 : Nat → Int32) (a16 : Nat → Int32) (a17 : Nat → Int32) (a18 : Nat → Int32) (a19 : Nat → Int32) (a20 : Nat → Int32) (a21 : Nat → Int32) (s22 : Int32) (x : Nat) (hx60 : x < 60) : MetG l yX5_sizeNow wsX5_sizeNow { frames := 0, cells := 0, slots := 0, locals := 0 } D ty [.ref (a 0), .int (nI (x))] (MW a cI s0 s1 a2 a3 a4 a5 a6 a7 a8 a9 s10 s11 s12 a13 a14 a15 a16 a17 a18 a19 a20 a21 s22) (va_Qi (fun r w => r = f5_sizeNow a14 a17 x ∧ w = MW a cI s0 s1 a2 a3 a4 a5 a6 a7 a8 a9 s10 s11 s12 a13 a14 a15 a16 a17 a18 a19 a20 a21 s22)) 0 0 := by
  refine Met_start cX5_sizeNow 2 (some .int) (by decide) rfl (Nat.le_of_ble_eq_true rfl) ?_
  intro p e s m below meth c A ls hx hb hr hlocks hml hnm hts hown hw hl
  have hl : lv_has ls 2 [(0, .ref (a 0)), (1, .int (nI (x)))] := hl
  have i5 : ∀ w ∈ wsX50, w ∈ wsX5_sizeNow := fun _ h => List.mem_cons_of_mem _ (List.mem_append_right _ h)
  have lk46 := hts (.fieldLink RX5 46 "RentSizesModel" "state" "[I") (by decide +kernel)
  have lk37 := hts (.fieldLink RX5 37 "RentSizesModel" "size" "[I") (by decide +kernel)
  refine lv_aload_n hx hb dX5_sizeNow_0 rfl (lv_at hl 0 rfl) ?_
  refine r_get (C := RX5) (T := TX5) (v := .ref (a 17)) hx hb hts i5 hown hw 0 rfl rfl 17 (by decide) lk46 rfl dX5_sizeNow_1 ?_
  refine lv_iload_n hx hb dX5_sizeNow_4 rfl (lv_at hl 1 rfl) ?_
  refine r_ialdN (v := a17 x) hx hb hw 13 rfl ht0 x (by omega) (by decide) dX5_sizeNow_5 rfl ?_
  refine lv_iconst (v := 2) hx hb dX5_sizeNow_6 (by decide) ?_
  refine lv_icmp_ne (tgt := 14) hx hb dX5_sizeNow_7 (by decide) (fun c_7 => ?_) (fun c_7 => ?_)
  · refine lv_aload_n hx hb dX5_sizeNow_14 rfl (lv_at hl 0 rfl) ?_
    refine r_get (C := RX5) (T := TX5) (v := .ref (a 14)) hx hb hts i5 hown hw 0 rfl rfl 14 (by decide) lk37 rfl dX5_sizeNow_15 ?_
    refine lv_iload_n hx hb dX5_sizeNow_18 rfl (lv_at hl 1 rfl) ?_
    refine r_ialdN (v := a14 x) hx hb hw 10 rfl ht0 x (by omega) (by decide) dX5_sizeNow_19 rfl ?_
    have e9 : f5_sizeNow a14 a17 x = a14 x := by unfold f5_sizeNow; rw [if_neg c_7]
    exact r_iret hx hb hr hlocks hw ⟨by rw [e9] <;> rfl, rfl⟩ dX5_sizeNow_20
  · refine lv_iconst (v := 0) hx hb dX5_sizeNow_10 (by decide) ?_
    refine lv_goto (tgt := 20) hx hb dX5_sizeNow_11 (by decide) ?_
    have e9 : f5_sizeNow a14 a17 x = 0 := by unfold f5_sizeNow; rw [if_pos c_7]
    exact r_iret hx hb hr hlocks hw ⟨by rw [e9] <;> rfl, rfl⟩ dX5_sizeNow_20
def lf5_heldFor_4 (a19 : Nat → Int32) (a20 : Nat → Int32) (x : Nat) : Nat → Nat → Int32 → Int32
  | 0, _, v2 => v2
  | k + 1, j, v2 => lf5_heldFor_4 a19 a20 x k (j + 1) (v2 + ((a19 ((16 * x) + j)) * (a20 ((16 * x) + j))))
set_option maxHeartbeats 4000000 in
set_option maxRecDepth 100000 in
theorem lt5_heldFor_4 (l : Launch) (D : va_G) (ty : List (ClassId × FieldType)) (a : Nat → Nat) (cI : ClassId) (ht0 : ty[0]? = some (cI, .int)) (s0 : Int32) (s1 : Int32) (a2 : Nat → Int32) (a3 : Nat → Int32) (a4 : Nat → Int32) (a5 : Nat → Int32) (a6 : Nat → Int32) (a7 : Nat → Int32) (a8 : Nat → Int32) (a9 : Nat → Int32) (s10 : Int32) (s11 : Int32) (s12 : Int32) (a13 : Nat → Int32) (a14 : Nat → Int32) (a15 : Nat → Int32) (a16 : Nat → Int32) (a17 : Nat → Int32) (a18 : Nat → Int32) (a19 : Nat → Int32) (a20 : Nat → Int32) (a21 : Nat → Int32) (s22 : Int32) (x : Nat) (hx60 : x < 60) (hl0 : a18 x = nI (tn (a18 x))) (hl1 : tn (a18 x) ≤ 16)  {p : Program} {e : Env} {s : State} {m : MethodId} {args : Array Value} {below : List Frame} {meth : Method} {c : Code} {A : Nat → Prop} {H0 : Heap} {Q : State → Prop} (hx : p.tables.exec = Jvm.exec) (hb : c.code = cX5_heldFor) (hml : c.maxLocals = 4) (hts : ∀ w ∈ wsX5_heldFor, w.before args s = true) (hown : s.vm.findClass RX5 = some m.cls) : ∀ (k j : Nat) (v2 : Int32) (hj : j + k = tn (a18 x)) (H : Heap) (locs : List Loc) (ls : Array Slot) (hw : Wd D ty A H0 s (MW a cI s0 s1 a2 a3 a4 a5 a6 a7 a8 a9 s10 s11 s12 a13 a14 a15 a16 a17 a18 a19 a20 a21 s22) H locs) (hl : lv_has ls 4 [(3, .int (nI (j))), (2, .int (v2)), (0, .ref (a 0)), (1, .int (nI (x)))]) (kk : ∀ (H1 : Heap) (locs1 : List Loc) (ls1 : Array Slot), Wd D ty A H0 s (MW a cI s0 s1 a2 a3 a4 a5 a6 a7 a8 a9 s10 s11 s12 a13 a14 a15 a16 a17 a18 a19 a20 a21 s22) H1 locs1 → lv_has ls1 4 [(3, .int (nI (tn (a18 x)))), (2, .int ((lf5_heldFor_4 a19 a20 x k j v2))), (0, .ref (a 0)), (1, .int (nI (x)))] → W p l e ({ frames := 0, cells := 0, slots := 0, locals := 0 } : Room) s m args below meth c H1 locs1 0 0 Q (F0 m 46 ls1 [])), W p l e ({ frames := 0, cells := 0, slots := 0, locals := 0 } : Room) s m args below meth c H locs 0 0 Q (F0 m 4 ls []) := by
  have i5 : ∀ w ∈ wsX50, w ∈ wsX5_heldFor := fun _ h => List.mem_cons_of_mem _ (List.mem_append_right _ h)
  have lk49 := hts (.fieldLink RX5 49 "RentSizesModel" "layers" "[I") (by decide +kernel)
  have lk52 := hts (.fieldLink RX5 52 "RentSizesModel" "layerBytes" "[I") (by decide +kernel)
  have lk55 := hts (.fieldLink RX5 55 "RentSizesModel" "layerPrice" "[I") (by decide +kernel)
  intro k
  induction k with
  | zero =>
    intro j v2 hj H locs ls hw hl kk
    have hj0 : j = tn (a18 x) := by omega
    refine lv_iload_n hx hb dX5_heldFor_4 rfl (lv_at hl 0 rfl) ?_
    refine lv_aload_n hx hb dX5_heldFor_5 rfl (lv_at hl 2 rfl) ?_
    refine r_get (C := RX5) (T := TX5) (v := .ref (a 18)) hx hb hts i5 hown hw 0 rfl rfl 18 (by decide) lk49 rfl dX5_heldFor_6 ?_
    refine lv_iload_n hx hb dX5_heldFor_9 rfl (lv_at hl 3 rfl) ?_
    refine r_ialdN (v := a18 x) hx hb hw 14 rfl ht0 x (by omega) (by decide) dX5_heldFor_10 rfl ?_
    refine r_top (nI (tn (a18 x))) hl0 ?_
    refine lv_icmp_ge (tgt := 46) hx hb dX5_heldFor_11 (by decide) (fun c_11 => ?_) (fun c_11 => ?_)
    · rw [hj0] at hl
      exact kk _ _ _ hw (lv_sub hl [0, 1, 2, 3] rfl)
    · exact absurd (nI_le (by omega) (by omega)) c_11
  | succ k ih =>
    intro j v2 hj H locs ls hw hl kk
    have hjb : j < tn (a18 x) := by omega
    refine lv_iload_n hx hb dX5_heldFor_4 rfl (lv_at hl 0 rfl) ?_
    refine lv_aload_n hx hb dX5_heldFor_5 rfl (lv_at hl 2 rfl) ?_
    refine r_get (C := RX5) (T := TX5) (v := .ref (a 18)) hx hb hts i5 hown hw 0 rfl rfl 18 (by decide) lk49 rfl dX5_heldFor_6 ?_
    refine lv_iload_n hx hb dX5_heldFor_9 rfl (lv_at hl 3 rfl) ?_
    refine r_ialdN (v := a18 x) hx hb hw 14 rfl ht0 x (by omega) (by decide) dX5_heldFor_10 rfl ?_
    refine r_top (nI (tn (a18 x))) hl0 ?_
    refine lv_icmp_ge (tgt := 46) hx hb dX5_heldFor_11 (by decide) (fun c_11 => ?_) (fun c_11 => ?_)
    · exact absurd c_11 (nI_ge (by omega) (by omega))
    · refine lv_iload_n hx hb dX5_heldFor_14 rfl (lv_at hl 1 rfl) ?_
      refine lv_aload_n hx hb dX5_heldFor_15 rfl (lv_at hl 2 rfl) ?_
      refine r_get (C := RX5) (T := TX5) (v := .ref (a 19)) hx hb hts i5 hown hw 0 rfl rfl 19 (by decide) lk52 rfl dX5_heldFor_16 ?_
      refine lv_bipush (v := 16) hx hb dX5_heldFor_19 (by decide) ?_
      refine lv_iload_n hx hb dX5_heldFor_21 rfl (lv_at hl 3 rfl) ?_
      refine lv_imul hx hb dX5_heldFor_22 ?_
      refine r_top (nI (16 * x)) (show nI (16) * nI (x) = nI (16 * x) from pk_mul _ _) ?_
      refine lv_iload_n hx hb dX5_heldFor_23 rfl (lv_at hl 0 rfl) ?_
      refine lv_iadd hx hb dX5_heldFor_24 ?_
      refine r_top (nI ((16 * x) + j)) (show nI (16 * x) + nI (j) = nI ((16 * x) + j) from nI_add _ _) ?_
      refine r_ialdN (v := a19 ((16 * x) + j)) hx hb hw 15 rfl ht0 ((16 * x) + j) (by omega) (by decide) dX5_heldFor_25 rfl ?_
      refine lv_aload_n hx hb dX5_heldFor_26 rfl (lv_at hl 2 rfl) ?_
      refine r_get (C := RX5) (T := TX5) (v := .ref (a 20)) hx hb hts i5 hown hw 0 rfl rfl 20 (by decide) lk55 rfl dX5_heldFor_27 ?_
      refine lv_bipush (v := 16) hx hb dX5_heldFor_30 (by decide) ?_
      refine lv_iload_n hx hb dX5_heldFor_32 rfl (lv_at hl 3 rfl) ?_
      refine lv_imul hx hb dX5_heldFor_33 ?_
      refine r_top (nI (16 * x)) (show nI (16) * nI (x) = nI (16 * x) from pk_mul _ _) ?_
      refine lv_iload_n hx hb dX5_heldFor_34 rfl (lv_at hl 0 rfl) ?_
      refine lv_iadd hx hb dX5_heldFor_35 ?_
      refine r_top (nI ((16 * x) + j)) (show nI (16 * x) + nI (j) = nI ((16 * x) + j) from nI_add _ _) ?_
      refine r_ialdN (v := a20 ((16 * x) + j)) hx hb hw 16 rfl ht0 ((16 * x) + j) (by omega) (by decide) dX5_heldFor_36 rfl ?_
      refine lv_imul hx hb dX5_heldFor_37 ?_
      refine lv_iadd hx hb dX5_heldFor_38 ?_
      refine lv_istore_n (lv' := [(2, .int (v2 + ((a19 ((16 * x) + j)) * (a20 ((16 * x) + j))))), (3, .int (nI (j))), (0, .ref (a 0)), (1, .int (nI (x)))]) hx hb dX5_heldFor_39 rfl hl (by decide) rfl (fun ls hl => ?_)
      refine lv_iinc (v := nI (j + 1)) (lv' := [(3, .int (nI (j + 1))), (2, .int (v2 + ((a19 ((16 * x) + j)) * (a20 ((16 * x) + j))))), (0, .ref (a 0)), (1, .int (nI (x)))]) hx hb dX5_heldFor_40 hl (k := 1) rfl (by show nI (j) + 1 = _; exact nI_1 _) (by decide) rfl (fun ls hl => ?_)
      refine lv_goto (tgt := 4) hx hb dX5_heldFor_43 (by decide) ?_
      have e9 : lf5_heldFor_4 a19 a20 x (k + 1) j v2 = lf5_heldFor_4 a19 a20 x k (j + 1) (v2 + ((a19 ((16 * x) + j)) * (a20 ((16 * x) + j)))) := rfl
      rw [e9] at kk
      exact ih (j + 1) (v2 + ((a19 ((16 * x) + j)) * (a20 ((16 * x) + j)))) (by omega)  _ _ _ hw (lv_sub hl [0, 1, 2, 3] rfl) kk
def f5_heldFor (a18 : Nat → Int32) (a19 : Nat → Int32) (a20 : Nat → Int32) (x : Nat) : Int32 :=
  (lf5_heldFor_4 a19 a20 x (tn (a18 x)) 0 0)
set_option maxHeartbeats 4000000 in
set_option maxRecDepth 100000 in
theorem k5_heldFor (l : Launch) (D : va_G) (ty : List (ClassId × FieldType)) (a : Nat → Nat) (cI : ClassId) (ht0 : ty[0]? = some (cI, .int)) (s0 : Int32) (s1 : Int32) (a2 : Nat → Int32) (a3 : Nat → Int32) (a4 : Nat → Int32) (a5 : Nat → Int32) (a6 : Nat → Int32) (a7 : Nat → Int32) (a8 : Nat → Int32) (a9 : Nat → Int32) (s10 : Int32) (s11 : Int32) (s12 : Int32) (a13 : Nat → Int32) (a14 : Nat → Int32) (a15 : Nat → Int32) (a16 : Nat → Int32) (a17 : Nat → Int32) (a18 : Nat → Int32) (a19 : Nat → Int32) (a20 : Nat → Int32) (a21 : Nat → Int32) (s22 : Int32) (x : Nat) (hx60 : x < 60) (hl0 : a18 x = nI (tn (a18 x))) (hl1 : tn (a18 x) ≤ 16) : MetG l yX5_heldFor wsX5_heldFor { frames := 0, cells := 0, slots := 0, locals := 0 } D ty [.ref (a 0), .int (nI (x))] (MW a cI s0 s1 a2 a3 a4 a5 a6 a7 a8 a9 s10 s11 s12 a13 a14 a15 a16 a17 a18 a19 a20 a21 s22) (va_Qi (fun r w => r = f5_heldFor a18 a19 a20 x ∧ w = MW a cI s0 s1 a2 a3 a4 a5 a6 a7 a8 a9 s10 s11 s12 a13 a14 a15 a16 a17 a18 a19 a20 a21 s22)) 0 0 := by
  refine Met_start cX5_heldFor 4 (some .int) (by decide) rfl (Nat.le_of_ble_eq_true rfl) ?_
  intro p e s m below meth c A ls hx hb hr hlocks hml hnm hts hown hw hl
  have hl : lv_has ls 4 [(0, .ref (a 0)), (1, .int (nI (x)))] := hl
  refine lv_iconst (v := 0) hx hb dX5_heldFor_0 (by decide) ?_
  refine lv_istore_n (lv' := [(2, .int (0)), (0, .ref (a 0)), (1, .int (nI (x)))]) hx hb dX5_heldFor_1 rfl hl (by decide) rfl (fun ls hl => ?_)
  refine lv_iconst (v := 0) hx hb dX5_heldFor_2 (by decide) ?_
  refine lv_istore_n (lv' := [(3, .int (0)), (2, .int (0)), (0, .ref (a 0)), (1, .int (nI (x)))]) hx hb dX5_heldFor_3 rfl hl (by decide) rfl (fun ls hl => ?_)
  refine lt5_heldFor_4 l D ty a cI ht0 s0 s1 a2 a3 a4 a5 a6 a7 a8 a9 s10 s11 s12 a13 a14 a15 a16 a17 a18 a19 a20 a21 s22 x hx60 hl0 hl1  hx hb hml hts hown (tn (a18 x)) 0 0 (by omega)  _ _ _ hw hl (fun H locs ls hw hl => ?_)
  refine lv_iload_n hx hb dX5_heldFor_46 rfl (lv_at hl 1 rfl) ?_
  have e9 : f5_heldFor a18 a19 a20 x = (lf5_heldFor_4 a19 a20 x (tn (a18 x)) 0 0) := by unfold f5_heldFor; rfl
  exact r_iret hx hb hr hlocks hw ⟨by rw [e9] <;> rfl, rfl⟩ dX5_heldFor_47
def lf5_held_4 (a18 : Nat → Int32) (a19 : Nat → Int32) (a20 : Nat → Int32) : Nat → Nat → Int32 → Int32
  | 0, _, v1 => v1
  | k + 1, j, v1 => lf5_held_4 a18 a19 a20 k (j + 1) (v1 + (f5_heldFor a18 a19 a20 j))
set_option maxHeartbeats 4000000 in
set_option maxRecDepth 100000 in
theorem lt5_held_4 (l : Launch) (D : va_G) (ty : List (ClassId × FieldType)) (a : Nat → Nat) (cI : ClassId) (ht0 : ty[0]? = some (cI, .int)) (s0 : Int32) (s1 : Int32) (a2 : Nat → Int32) (a3 : Nat → Int32) (a4 : Nat → Int32) (a5 : Nat → Int32) (a6 : Nat → Int32) (a7 : Nat → Int32) (a8 : Nat → Int32) (a9 : Nat → Int32) (s10 : Int32) (s11 : Int32) (s12 : Int32) (a13 : Nat → Int32) (a14 : Nat → Int32) (a15 : Nat → Int32) (a16 : Nat → Int32) (a17 : Nat → Int32) (a18 : Nat → Int32) (a19 : Nat → Int32) (a20 : Nat → Int32) (a21 : Nat → Int32) (s22 : Int32) (hob : s12 = nI (tn s12)) (hob2 : tn s12 ≤ 60) (hlk : ∀ x, x < tn s12 → a18 x = nI (tn (a18 x)) ∧ tn (a18 x) ≤ 16)  {p : Program} {e : Env} {s : State} {m : MethodId} {args : Array Value} {below : List Frame} {meth : Method} {c : Code} {A : Nat → Prop} {H0 : Heap} {Q : State → Prop} (hx : p.tables.exec = Jvm.exec) (hb : c.code = cX5_held) (hml : c.maxLocals = 3) (hts : ∀ w ∈ wsX5_held, w.before args s = true) (hown : s.vm.findClass RX5 = some m.cls) : ∀ (k j : Nat) (v1 : Int32) (hj : j + k = tn s12) (H : Heap) (locs : List Loc) (ls : Array Slot) (hw : Wd D ty A H0 s (MW a cI s0 s1 a2 a3 a4 a5 a6 a7 a8 a9 s10 s11 s12 a13 a14 a15 a16 a17 a18 a19 a20 a21 s22) H locs) (hl : lv_has ls 3 [(2, .int (nI (j))), (1, .int (v1)), (0, .ref (a 0))]) (kk : ∀ (H1 : Heap) (locs1 : List Loc) (ls1 : Array Slot), Wd D ty A H0 s (MW a cI s0 s1 a2 a3 a4 a5 a6 a7 a8 a9 s10 s11 s12 a13 a14 a15 a16 a17 a18 a19 a20 a21 s22) H1 locs1 → lv_has ls1 3 [(2, .int (nI (tn s12))), (1, .int ((lf5_held_4 a18 a19 a20 k j v1))), (0, .ref (a 0))] → W p l e ({ frames := 1, cells := 0, slots := 0, locals := 23 } : Room) s m args below meth c H1 locs1 0 0 Q (F0 m 26 ls1 [])), W p l e ({ frames := 1, cells := 0, slots := 0, locals := 23 } : Room) s m args below meth c H locs 0 0 Q (F0 m 4 ls []) := by
  have i5 : ∀ w ∈ wsX50, w ∈ wsX5_held := fun _ h => List.mem_cons_of_mem _ (List.mem_append_right _ h)
  have lk78 := hts (.fieldLink RX5 78 "RentSizesModel" "objects" "I") (by decide +kernel)
  intro k
  induction k with
  | zero =>
    intro j v1 hj H locs ls hw hl kk
    have hj0 : j = tn s12 := by omega
    refine lv_iload_n hx hb dX5_held_4 rfl (lv_at hl 0 rfl) ?_
    refine lv_aload_n hx hb dX5_held_5 rfl (lv_at hl 2 rfl) ?_
    refine r_get (C := RX5) (T := TX5) (v := .int (s12)) hx hb hts i5 hown hw 0 rfl rfl 12 (by decide) lk78 rfl dX5_held_6 ?_
    refine r_top (nI (tn s12)) hob ?_
    refine lv_icmp_ge (tgt := 26) hx hb dX5_held_9 (by decide) (fun c_9 => ?_) (fun c_9 => ?_)
    · rw [hj0] at hl
      exact kk _ _ _ hw (lv_sub hl [0, 1, 2] rfl)
    · exact absurd (nI_le (by omega) (by omega)) c_9
  | succ k ih =>
    intro j v1 hj H locs ls hw hl kk
    have hjb : j < tn s12 := by omega
    refine lv_iload_n hx hb dX5_held_4 rfl (lv_at hl 0 rfl) ?_
    refine lv_aload_n hx hb dX5_held_5 rfl (lv_at hl 2 rfl) ?_
    refine r_get (C := RX5) (T := TX5) (v := .int (s12)) hx hb hts i5 hown hw 0 rfl rfl 12 (by decide) lk78 rfl dX5_held_6 ?_
    refine r_top (nI (tn s12)) hob ?_
    refine lv_icmp_ge (tgt := 26) hx hb dX5_held_9 (by decide) (fun c_9 => ?_) (fun c_9 => ?_)
    · exact absurd c_9 (nI_ge (by omega) (by omega))
    · refine lv_iload_n hx hb dX5_held_12 rfl (lv_at hl 1 rfl) ?_
      refine lv_aload_n hx hb dX5_held_13 rfl (lv_at hl 2 rfl) ?_
      refine lv_iload_n hx hb dX5_held_14 rfl (lv_at hl 0 rfl) ?_
      refine r_callVi 0 rfl rfl (rest := [.int (v1)]) ⟨hx, hb, hml, hown, hts⟩ hw [.int (nI (j))] (k5_heldFor l D ty a cI ht0 s0 s1 a2 a3 a4 a5 a6 a7 a8 a9 s10 s11 s12 a13 a14 a15 a16 a17 a18 a19 a20 a21 s22 j (by omega) (hlk j (by omega)).1 (hlk j (by omega)).2) (cwV 1 hts gX5_held_X5_heldFor rfl rfl rfl (by decide +kernel) ⟨Nat.le_of_ble_eq_true rfl, Nat.le_of_ble_eq_true rfl⟩) rfl hl.1 rfl (Nat.le_of_ble_eq_true rfl) dX5_held_15 ⟨Nat.le_of_ble_eq_true rfl, Nat.le_of_ble_eq_true rfl⟩ (fun r w H locs hp hw => ?_)
      obtain ⟨rfl, rfl⟩ := hp
      refine lv_iadd hx hb dX5_held_18 ?_
      refine lv_istore_n (lv' := [(1, .int (v1 + (f5_heldFor a18 a19 a20 j))), (2, .int (nI (j))), (0, .ref (a 0))]) hx hb dX5_held_19 rfl hl (by decide) rfl (fun ls hl => ?_)
      refine lv_iinc (v := nI (j + 1)) (lv' := [(2, .int (nI (j + 1))), (1, .int (v1 + (f5_heldFor a18 a19 a20 j))), (0, .ref (a 0))]) hx hb dX5_held_20 hl (k := 1) rfl (by show nI (j) + 1 = _; exact nI_1 _) (by decide) rfl (fun ls hl => ?_)
      refine lv_goto (tgt := 4) hx hb dX5_held_23 (by decide) ?_
      have e9 : lf5_held_4 a18 a19 a20 (k + 1) j v1 = lf5_held_4 a18 a19 a20 k (j + 1) (v1 + (f5_heldFor a18 a19 a20 j)) := rfl
      rw [e9] at kk
      exact ih (j + 1) (v1 + (f5_heldFor a18 a19 a20 j)) (by omega)  _ _ _ hw (lv_sub hl [0, 1, 2] rfl) kk
def f5_held (s12 : Int32) (a18 : Nat → Int32) (a19 : Nat → Int32) (a20 : Nat → Int32) : Int32 :=
  (lf5_held_4 a18 a19 a20 (tn s12) 0 0)
set_option maxHeartbeats 4000000 in
set_option maxRecDepth 100000 in
theorem k5_held (l : Launch) (D : va_G) (ty : List (ClassId × FieldType)) (a : Nat → Nat) (cI : ClassId) (ht0 : ty[0]? = some (cI, .int)) (s0 : Int32) (s1 : Int32) (a2 : Nat → Int32) (a3 : Nat → Int32) (a4 : Nat → Int32) (a5 : Nat → Int32) (a6 : Nat → Int32) (a7 : Nat → Int32) (a8 : Nat → Int32) (a9 : Nat → Int32) (s10 : Int32) (s11 : Int32) (s12 : Int32) (a13 : Nat → Int32) (a14 : Nat → Int32) (a15 : Nat → Int32) (a16 : Nat → Int32) (a17 : Nat → Int32) (a18 : Nat → Int32) (a19 : Nat → Int32) (a20 : Nat → Int32) (a21 : Nat → Int32) (s22 : Int32) (hob : s12 = nI (tn s12)) (hob2 : tn s12 ≤ 60) (hlk : ∀ x, x < tn s12 → a18 x = nI (tn (a18 x)) ∧ tn (a18 x) ≤ 16) : MetG l yX5_held wsX5_held { frames := 1, cells := 0, slots := 0, locals := 23 } D ty [.ref (a 0)] (MW a cI s0 s1 a2 a3 a4 a5 a6 a7 a8 a9 s10 s11 s12 a13 a14 a15 a16 a17 a18 a19 a20 a21 s22) (va_Qi (fun r w => r = f5_held s12 a18 a19 a20 ∧ w = MW a cI s0 s1 a2 a3 a4 a5 a6 a7 a8 a9 s10 s11 s12 a13 a14 a15 a16 a17 a18 a19 a20 a21 s22)) 0 0 := by
  refine Met_start cX5_held 3 (some .int) (by decide) rfl (Nat.le_of_ble_eq_true rfl) ?_
  intro p e s m below meth c A ls hx hb hr hlocks hml hnm hts hown hw hl
  have hl : lv_has ls 3 [(0, .ref (a 0))] := hl
  refine lv_iconst (v := 0) hx hb dX5_held_0 (by decide) ?_
  refine lv_istore_n (lv' := [(1, .int (0)), (0, .ref (a 0))]) hx hb dX5_held_1 rfl hl (by decide) rfl (fun ls hl => ?_)
  refine lv_iconst (v := 0) hx hb dX5_held_2 (by decide) ?_
  refine lv_istore_n (lv' := [(2, .int (0)), (1, .int (0)), (0, .ref (a 0))]) hx hb dX5_held_3 rfl hl (by decide) rfl (fun ls hl => ?_)
  refine lt5_held_4 l D ty a cI ht0 s0 s1 a2 a3 a4 a5 a6 a7 a8 a9 s10 s11 s12 a13 a14 a15 a16 a17 a18 a19 a20 a21 s22 hob hob2 hlk  hx hb hml hts hown (tn s12) 0 0 (by omega)  _ _ _ hw hl (fun H locs ls hw hl => ?_)
  refine lv_iload_n hx hb dX5_held_26 rfl (lv_at hl 1 rfl) ?_
  have e9 : f5_held s12 a18 a19 a20 = (lf5_held_4 a18 a19 a20 (tn s12) 0 0) := by unfold f5_held; rfl
  exact r_iret hx hb hr hlocks hw ⟨by rw [e9] <;> rfl, rfl⟩ dX5_held_27
def lf5_manyOf_4 (a17 : Nat → Int32) (p1 : Int32) : Nat → Nat → Int32 → Int32
  | 0, _, v2 => v2
  | k + 1, j, v2 => if (a17 j) = p1 then lf5_manyOf_4 a17 p1 k (j + 1) (v2 + 1)
    else lf5_manyOf_4 a17 p1 k (j + 1) (v2 + 0)
set_option maxHeartbeats 4000000 in
set_option maxRecDepth 100000 in
theorem lt5_manyOf_4 (l : Launch) (D : va_G) (ty : List (ClassId × FieldType)) (a : Nat → Nat) (cI : ClassId) (ht0 : ty[0]? = some (cI, .int)) (s0 : Int32) (s1 : Int32) (a2 : Nat → Int32) (a3 : Nat → Int32) (a4 : Nat → Int32) (a5 : Nat → Int32) (a6 : Nat → Int32) (a7 : Nat → Int32) (a8 : Nat → Int32) (a9 : Nat → Int32) (s10 : Int32) (s11 : Int32) (s12 : Int32) (a13 : Nat → Int32) (a14 : Nat → Int32) (a15 : Nat → Int32) (a16 : Nat → Int32) (a17 : Nat → Int32) (a18 : Nat → Int32) (a19 : Nat → Int32) (a20 : Nat → Int32) (a21 : Nat → Int32) (s22 : Int32) (p1 : Int32) (hob : s12 = nI (tn s12)) (hob2 : tn s12 ≤ 60)  {p : Program} {e : Env} {s : State} {m : MethodId} {args : Array Value} {below : List Frame} {meth : Method} {c : Code} {A : Nat → Prop} {H0 : Heap} {Q : State → Prop} (hx : p.tables.exec = Jvm.exec) (hb : c.code = cX5_manyOf) (hml : c.maxLocals = 4) (hts : ∀ w ∈ wsX5_manyOf, w.before args s = true) (hown : s.vm.findClass RX5 = some m.cls) : ∀ (k j : Nat) (v2 : Int32) (hj : j + k = tn s12) (H : Heap) (locs : List Loc) (ls : Array Slot) (hw : Wd D ty A H0 s (MW a cI s0 s1 a2 a3 a4 a5 a6 a7 a8 a9 s10 s11 s12 a13 a14 a15 a16 a17 a18 a19 a20 a21 s22) H locs) (hl : lv_has ls 4 [(3, .int (nI (j))), (2, .int (v2)), (0, .ref (a 0)), (1, .int (p1))]) (kk : ∀ (H1 : Heap) (locs1 : List Loc) (ls1 : Array Slot), Wd D ty A H0 s (MW a cI s0 s1 a2 a3 a4 a5 a6 a7 a8 a9 s10 s11 s12 a13 a14 a15 a16 a17 a18 a19 a20 a21 s22) H1 locs1 → lv_has ls1 4 [(3, .int (nI (tn s12))), (2, .int ((lf5_manyOf_4 a17 p1 k j v2))), (0, .ref (a 0)), (1, .int (p1))] → W p l e ({ frames := 0, cells := 0, slots := 0, locals := 0 } : Room) s m args below meth c H1 locs1 0 0 Q (F0 m 36 ls1 [])), W p l e ({ frames := 0, cells := 0, slots := 0, locals := 0 } : Room) s m args below meth c H locs 0 0 Q (F0 m 4 ls []) := by
  have i5 : ∀ w ∈ wsX50, w ∈ wsX5_manyOf := fun _ h => List.mem_cons_of_mem _ (List.mem_append_right _ h)
  have lk78 := hts (.fieldLink RX5 78 "RentSizesModel" "objects" "I") (by decide +kernel)
  have lk46 := hts (.fieldLink RX5 46 "RentSizesModel" "state" "[I") (by decide +kernel)
  intro k
  induction k with
  | zero =>
    intro j v2 hj H locs ls hw hl kk
    have hj0 : j = tn s12 := by omega
    refine lv_iload_n hx hb dX5_manyOf_4 rfl (lv_at hl 0 rfl) ?_
    refine lv_aload_n hx hb dX5_manyOf_5 rfl (lv_at hl 2 rfl) ?_
    refine r_get (C := RX5) (T := TX5) (v := .int (s12)) hx hb hts i5 hown hw 0 rfl rfl 12 (by decide) lk78 rfl dX5_manyOf_6 ?_
    refine r_top (nI (tn s12)) hob ?_
    refine lv_icmp_ge (tgt := 36) hx hb dX5_manyOf_9 (by decide) (fun c_9 => ?_) (fun c_9 => ?_)
    · rw [hj0] at hl
      exact kk _ _ _ hw (lv_sub hl [0, 1, 2, 3] rfl)
    · exact absurd (nI_le (by omega) (by omega)) c_9
  | succ k ih =>
    intro j v2 hj H locs ls hw hl kk
    have hjb : j < tn s12 := by omega
    refine lv_iload_n hx hb dX5_manyOf_4 rfl (lv_at hl 0 rfl) ?_
    refine lv_aload_n hx hb dX5_manyOf_5 rfl (lv_at hl 2 rfl) ?_
    refine r_get (C := RX5) (T := TX5) (v := .int (s12)) hx hb hts i5 hown hw 0 rfl rfl 12 (by decide) lk78 rfl dX5_manyOf_6 ?_
    refine r_top (nI (tn s12)) hob ?_
    refine lv_icmp_ge (tgt := 36) hx hb dX5_manyOf_9 (by decide) (fun c_9 => ?_) (fun c_9 => ?_)
    · exact absurd c_9 (nI_ge (by omega) (by omega))
    · refine lv_iload_n hx hb dX5_manyOf_12 rfl (lv_at hl 1 rfl) ?_
      refine lv_aload_n hx hb dX5_manyOf_13 rfl (lv_at hl 2 rfl) ?_
      refine r_get (C := RX5) (T := TX5) (v := .ref (a 17)) hx hb hts i5 hown hw 0 rfl rfl 17 (by decide) lk46 rfl dX5_manyOf_14 ?_
      refine lv_iload_n hx hb dX5_manyOf_17 rfl (lv_at hl 0 rfl) ?_
      refine r_ialdN (v := a17 j) hx hb hw 13 rfl ht0 j (by omega) (by decide) dX5_manyOf_18 rfl ?_
      refine lv_iload_n hx hb dX5_manyOf_19 rfl (lv_at hl 3 rfl) ?_
      refine lv_icmp_ne (tgt := 27) hx hb dX5_manyOf_20 (by decide) (fun c_20 => ?_) (fun c_20 => ?_)
      · refine lv_iconst (v := 0) hx hb dX5_manyOf_27 (by decide) ?_
        refine lv_iadd hx hb dX5_manyOf_28 ?_
        refine lv_istore_n (lv' := [(2, .int (v2 + 0)), (3, .int (nI (j))), (0, .ref (a 0)), (1, .int (p1))]) hx hb dX5_manyOf_29 rfl hl (by decide) rfl (fun ls hl => ?_)
        refine lv_iinc (v := nI (j + 1)) (lv' := [(3, .int (nI (j + 1))), (2, .int (v2 + 0)), (0, .ref (a 0)), (1, .int (p1))]) hx hb dX5_manyOf_30 hl (k := 1) rfl (by show nI (j) + 1 = _; exact nI_1 _) (by decide) rfl (fun ls hl => ?_)
        refine lv_goto (tgt := 4) hx hb dX5_manyOf_33 (by decide) ?_
        have e9 : lf5_manyOf_4 a17 p1 (k + 1) j v2 = lf5_manyOf_4 a17 p1 k (j + 1) (v2 + 0) := by rw [lf5_manyOf_4]; rw [if_neg c_20]
        rw [e9] at kk
        exact ih (j + 1) (v2 + 0) (by omega)  _ _ _ hw (lv_sub hl [0, 1, 2, 3] rfl) kk
      · refine lv_iconst (v := 1) hx hb dX5_manyOf_23 (by decide) ?_
        refine lv_goto (tgt := 28) hx hb dX5_manyOf_24 (by decide) ?_
        refine lv_iadd hx hb dX5_manyOf_28 ?_
        refine lv_istore_n (lv' := [(2, .int (v2 + 1)), (3, .int (nI (j))), (0, .ref (a 0)), (1, .int (p1))]) hx hb dX5_manyOf_29 rfl hl (by decide) rfl (fun ls hl => ?_)
        refine lv_iinc (v := nI (j + 1)) (lv' := [(3, .int (nI (j + 1))), (2, .int (v2 + 1)), (0, .ref (a 0)), (1, .int (p1))]) hx hb dX5_manyOf_30 hl (k := 1) rfl (by show nI (j) + 1 = _; exact nI_1 _) (by decide) rfl (fun ls hl => ?_)
        refine lv_goto (tgt := 4) hx hb dX5_manyOf_33 (by decide) ?_
        have e9 : lf5_manyOf_4 a17 p1 (k + 1) j v2 = lf5_manyOf_4 a17 p1 k (j + 1) (v2 + 1) := by rw [lf5_manyOf_4]; rw [if_pos c_20]
        rw [e9] at kk
        exact ih (j + 1) (v2 + 1) (by omega)  _ _ _ hw (lv_sub hl [0, 1, 2, 3] rfl) kk
def f5_manyOf (s12 : Int32) (a17 : Nat → Int32) (p1 : Int32) : Int32 :=
  (lf5_manyOf_4 a17 p1 (tn s12) 0 0)
set_option maxHeartbeats 4000000 in
set_option maxRecDepth 100000 in
theorem k5_manyOf (l : Launch) (D : va_G) (ty : List (ClassId × FieldType)) (a : Nat → Nat) (cI : ClassId) (ht0 : ty[0]? = some (cI, .int)) (s0 : Int32) (s1 : Int32) (a2 : Nat → Int32) (a3 : Nat → Int32) (a4 : Nat → Int32) (a5 : Nat → Int32) (a6 : Nat → Int32) (a7 : Nat → Int32) (a8 : Nat → Int32) (a9 : Nat → Int32) (s10 : Int32) (s11 : Int32) (s12 : Int32) (a13 : Nat → Int32) (a14 : Nat → Int32) (a15 : Nat → Int32) (a16 : Nat → Int32) (a17 : Nat → Int32) (a18 : Nat → Int32) (a19 : Nat → Int32) (a20 : Nat → Int32) (a21 : Nat → Int32) (s22 : Int32) (p1 : Int32) (hob : s12 = nI (tn s12)) (hob2 : tn s12 ≤ 60) : MetG l yX5_manyOf wsX5_manyOf { frames := 0, cells := 0, slots := 0, locals := 0 } D ty [.ref (a 0), .int (p1)] (MW a cI s0 s1 a2 a3 a4 a5 a6 a7 a8 a9 s10 s11 s12 a13 a14 a15 a16 a17 a18 a19 a20 a21 s22) (va_Qi (fun r w => r = f5_manyOf s12 a17 p1 ∧ w = MW a cI s0 s1 a2 a3 a4 a5 a6 a7 a8 a9 s10 s11 s12 a13 a14 a15 a16 a17 a18 a19 a20 a21 s22)) 0 0 := by
  refine Met_start cX5_manyOf 4 (some .int) (by decide) rfl (Nat.le_of_ble_eq_true rfl) ?_
  intro p e s m below meth c A ls hx hb hr hlocks hml hnm hts hown hw hl
  have hl : lv_has ls 4 [(0, .ref (a 0)), (1, .int (p1))] := hl
  refine lv_iconst (v := 0) hx hb dX5_manyOf_0 (by decide) ?_
  refine lv_istore_n (lv' := [(2, .int (0)), (0, .ref (a 0)), (1, .int (p1))]) hx hb dX5_manyOf_1 rfl hl (by decide) rfl (fun ls hl => ?_)
  refine lv_iconst (v := 0) hx hb dX5_manyOf_2 (by decide) ?_
  refine lv_istore_n (lv' := [(3, .int (0)), (2, .int (0)), (0, .ref (a 0)), (1, .int (p1))]) hx hb dX5_manyOf_3 rfl hl (by decide) rfl (fun ls hl => ?_)
  refine lt5_manyOf_4 l D ty a cI ht0 s0 s1 a2 a3 a4 a5 a6 a7 a8 a9 s10 s11 s12 a13 a14 a15 a16 a17 a18 a19 a20 a21 s22 p1 hob hob2  hx hb hml hts hown (tn s12) 0 0 (by omega)  _ _ _ hw hl (fun H locs ls hw hl => ?_)
  refine lv_iload_n hx hb dX5_manyOf_36 rfl (lv_at hl 1 rfl) ?_
  have e9 : f5_manyOf s12 a17 p1 = (lf5_manyOf_4 a17 p1 (tn s12) 0 0) := by unfold f5_manyOf; rfl
  exact r_iret hx hb hr hlocks hw ⟨by rw [e9] <;> rfl, rfl⟩ dX5_manyOf_37
def lf5_allCoins_12 (a6 : Nat → Int32) : Nat → Nat → Int32 → Int32
  | 0, _, v1 => v1
  | k + 1, j, v1 => lf5_allCoins_12 a6 k (j + 1) (v1 + (a6 j))
set_option maxHeartbeats 4000000 in
set_option maxRecDepth 100000 in
theorem lt5_allCoins_12 (l : Launch) (D : va_G) (ty : List (ClassId × FieldType)) (a : Nat → Nat) (cI : ClassId) (ht0 : ty[0]? = some (cI, .int)) (s0 : Int32) (s1 : Int32) (a2 : Nat → Int32) (a3 : Nat → Int32) (a4 : Nat → Int32) (a5 : Nat → Int32) (a6 : Nat → Int32) (a7 : Nat → Int32) (a8 : Nat → Int32) (a9 : Nat → Int32) (s10 : Int32) (s11 : Int32) (s12 : Int32) (a13 : Nat → Int32) (a14 : Nat → Int32) (a15 : Nat → Int32) (a16 : Nat → Int32) (a17 : Nat → Int32) (a18 : Nat → Int32) (a19 : Nat → Int32) (a20 : Nat → Int32) (a21 : Nat → Int32) (s22 : Int32) (hob : s12 = nI (tn s12)) (hob2 : tn s12 ≤ 60) (hlk : ∀ x, x < tn s12 → a18 x = nI (tn (a18 x)) ∧ tn (a18 x) ≤ 16)  {p : Program} {e : Env} {s : State} {m : MethodId} {args : Array Value} {below : List Frame} {meth : Method} {c : Code} {A : Nat → Prop} {H0 : Heap} {Q : State → Prop} (hx : p.tables.exec = Jvm.exec) (hb : c.code = cX5_allCoins) (hml : c.maxLocals = 3) (hts : ∀ w ∈ wsX5_allCoins, w.before args s = true) (hown : s.vm.findClass RX5 = some m.cls) : ∀ (k j : Nat) (v1 : Int32) (hj : j + k = 6) (H : Heap) (locs : List Loc) (ls : Array Slot) (hw : Wd D ty A H0 s (MW a cI s0 s1 a2 a3 a4 a5 a6 a7 a8 a9 s10 s11 s12 a13 a14 a15 a16 a17 a18 a19 a20 a21 s22) H locs) (hl : lv_has ls 3 [(2, .int (nI (j))), (1, .int (v1)), (0, .ref (a 0))]) (kk : ∀ (H1 : Heap) (locs1 : List Loc) (ls1 : Array Slot), Wd D ty A H0 s (MW a cI s0 s1 a2 a3 a4 a5 a6 a7 a8 a9 s10 s11 s12 a13 a14 a15 a16 a17 a18 a19 a20 a21 s22) H1 locs1 → lv_has ls1 3 [(2, .int (nI (6))), (1, .int ((lf5_allCoins_12 a6 k j v1))), (0, .ref (a 0))] → W p l e ({ frames := 2, cells := 0, slots := 0, locals := 45 } : Room) s m args below meth c H1 locs1 0 0 Q (F0 m 33 ls1 [])), W p l e ({ frames := 2, cells := 0, slots := 0, locals := 45 } : Room) s m args below meth c H locs 0 0 Q (F0 m 12 ls []) := by
  have i5 : ∀ w ∈ wsX50, w ∈ wsX5_allCoins := fun _ h => List.mem_cons_of_mem _ (List.mem_append_right _ h)
  have lk22 := hts (.fieldLink RX5 22 "RentSizesModel" "accountCoins" "[I") (by decide +kernel)
  intro k
  induction k with
  | zero =>
    intro j v1 hj H locs ls hw hl kk
    have hj0 : j = 6 := by omega
    refine lv_iload_n hx hb dX5_allCoins_12 rfl (lv_at hl 0 rfl) ?_
    refine lv_bipush (v := 6) hx hb dX5_allCoins_13 (by decide) ?_
    refine r_top (nI 6) rfl ?_
    refine lv_icmp_ge (tgt := 33) hx hb dX5_allCoins_15 (by decide) (fun c_15 => ?_) (fun c_15 => ?_)
    · subst hj0
      exact kk _ _ _ hw (lv_sub hl [0, 1, 2] rfl)
    · exact absurd (nI_le (by omega) (by omega)) c_15
  | succ k ih =>
    intro j v1 hj H locs ls hw hl kk
    have hjb : j < 6 := by omega
    refine lv_iload_n hx hb dX5_allCoins_12 rfl (lv_at hl 0 rfl) ?_
    refine lv_bipush (v := 6) hx hb dX5_allCoins_13 (by decide) ?_
    refine r_top (nI 6) rfl ?_
    refine lv_icmp_ge (tgt := 33) hx hb dX5_allCoins_15 (by decide) (fun c_15 => ?_) (fun c_15 => ?_)
    · exact absurd c_15 (nI_ge (by omega) (by omega))
    · refine lv_iload_n hx hb dX5_allCoins_18 rfl (lv_at hl 1 rfl) ?_
      refine lv_aload_n hx hb dX5_allCoins_19 rfl (lv_at hl 2 rfl) ?_
      refine r_get (C := RX5) (T := TX5) (v := .ref (a 6)) hx hb hts i5 hown hw 0 rfl rfl 6 (by decide) lk22 rfl dX5_allCoins_20 ?_
      refine lv_iload_n hx hb dX5_allCoins_23 rfl (lv_at hl 0 rfl) ?_
      refine r_ialdN (v := a6 j) hx hb hw 5 rfl ht0 j (by omega) (by decide) dX5_allCoins_24 rfl ?_
      refine lv_iadd hx hb dX5_allCoins_25 ?_
      refine lv_istore_n (lv' := [(1, .int (v1 + (a6 j))), (2, .int (nI (j))), (0, .ref (a 0))]) hx hb dX5_allCoins_26 rfl hl (by decide) rfl (fun ls hl => ?_)
      refine lv_iinc (v := nI (j + 1)) (lv' := [(2, .int (nI (j + 1))), (1, .int (v1 + (a6 j))), (0, .ref (a 0))]) hx hb dX5_allCoins_27 hl (k := 1) rfl (by show nI (j) + 1 = _; exact nI_1 _) (by decide) rfl (fun ls hl => ?_)
      refine lv_goto (tgt := 12) hx hb dX5_allCoins_30 (by decide) ?_
      have e9 : lf5_allCoins_12 a6 (k + 1) j v1 = lf5_allCoins_12 a6 k (j + 1) (v1 + (a6 j)) := rfl
      rw [e9] at kk
      exact ih (j + 1) (v1 + (a6 j)) (by omega)  _ _ _ hw (lv_sub hl [0, 1, 2] rfl) kk
def lf5_allCoins_35 (a8 : Nat → Int32) : Nat → Nat → Int32 → Int32
  | 0, _, v1 => v1
  | k + 1, j, v1 => lf5_allCoins_35 a8 k (j + 1) (v1 + (a8 j))
set_option maxHeartbeats 4000000 in
set_option maxRecDepth 100000 in
theorem lt5_allCoins_35 (l : Launch) (D : va_G) (ty : List (ClassId × FieldType)) (a : Nat → Nat) (cI : ClassId) (ht0 : ty[0]? = some (cI, .int)) (s0 : Int32) (s1 : Int32) (a2 : Nat → Int32) (a3 : Nat → Int32) (a4 : Nat → Int32) (a5 : Nat → Int32) (a6 : Nat → Int32) (a7 : Nat → Int32) (a8 : Nat → Int32) (a9 : Nat → Int32) (s10 : Int32) (s11 : Int32) (s12 : Int32) (a13 : Nat → Int32) (a14 : Nat → Int32) (a15 : Nat → Int32) (a16 : Nat → Int32) (a17 : Nat → Int32) (a18 : Nat → Int32) (a19 : Nat → Int32) (a20 : Nat → Int32) (a21 : Nat → Int32) (s22 : Int32) (hob : s12 = nI (tn s12)) (hob2 : tn s12 ≤ 60) (hlk : ∀ x, x < tn s12 → a18 x = nI (tn (a18 x)) ∧ tn (a18 x) ≤ 16)  {p : Program} {e : Env} {s : State} {m : MethodId} {args : Array Value} {below : List Frame} {meth : Method} {c : Code} {A : Nat → Prop} {H0 : Heap} {Q : State → Prop} (hx : p.tables.exec = Jvm.exec) (hb : c.code = cX5_allCoins) (hml : c.maxLocals = 3) (hts : ∀ w ∈ wsX5_allCoins, w.before args s = true) (hown : s.vm.findClass RX5 = some m.cls) : ∀ (k j : Nat) (v1 : Int32) (hj : j + k = 5) (H : Heap) (locs : List Loc) (ls : Array Slot) (hw : Wd D ty A H0 s (MW a cI s0 s1 a2 a3 a4 a5 a6 a7 a8 a9 s10 s11 s12 a13 a14 a15 a16 a17 a18 a19 a20 a21 s22) H locs) (hl : lv_has ls 3 [(2, .int (nI (j))), (1, .int (v1)), (0, .ref (a 0))]) (kk : ∀ (H1 : Heap) (locs1 : List Loc) (ls1 : Array Slot), Wd D ty A H0 s (MW a cI s0 s1 a2 a3 a4 a5 a6 a7 a8 a9 s10 s11 s12 a13 a14 a15 a16 a17 a18 a19 a20 a21 s22) H1 locs1 → lv_has ls1 3 [(2, .int (nI (5))), (1, .int ((lf5_allCoins_35 a8 k j v1))), (0, .ref (a 0))] → W p l e ({ frames := 2, cells := 0, slots := 0, locals := 45 } : Room) s m args below meth c H1 locs1 0 0 Q (F0 m 55 ls1 [])), W p l e ({ frames := 2, cells := 0, slots := 0, locals := 45 } : Room) s m args below meth c H locs 0 0 Q (F0 m 35 ls []) := by
  have i5 : ∀ w ∈ wsX50, w ∈ wsX5_allCoins := fun _ h => List.mem_cons_of_mem _ (List.mem_append_right _ h)
  have lk28 := hts (.fieldLink RX5 28 "RentSizesModel" "nodeCoins" "[I") (by decide +kernel)
  intro k
  induction k with
  | zero =>
    intro j v1 hj H locs ls hw hl kk
    have hj0 : j = 5 := by omega
    refine lv_iload_n hx hb dX5_allCoins_35 rfl (lv_at hl 0 rfl) ?_
    refine lv_iconst (v := 5) hx hb dX5_allCoins_36 (by decide) ?_
    refine r_top (nI 5) rfl ?_
    refine lv_icmp_ge (tgt := 55) hx hb dX5_allCoins_37 (by decide) (fun c_37 => ?_) (fun c_37 => ?_)
    · subst hj0
      exact kk _ _ _ hw (lv_sub hl [0, 1, 2] rfl)
    · exact absurd (nI_le (by omega) (by omega)) c_37
  | succ k ih =>
    intro j v1 hj H locs ls hw hl kk
    have hjb : j < 5 := by omega
    refine lv_iload_n hx hb dX5_allCoins_35 rfl (lv_at hl 0 rfl) ?_
    refine lv_iconst (v := 5) hx hb dX5_allCoins_36 (by decide) ?_
    refine r_top (nI 5) rfl ?_
    refine lv_icmp_ge (tgt := 55) hx hb dX5_allCoins_37 (by decide) (fun c_37 => ?_) (fun c_37 => ?_)
    · exact absurd c_37 (nI_ge (by omega) (by omega))
    · refine lv_iload_n hx hb dX5_allCoins_40 rfl (lv_at hl 1 rfl) ?_
      refine lv_aload_n hx hb dX5_allCoins_41 rfl (lv_at hl 2 rfl) ?_
      refine r_get (C := RX5) (T := TX5) (v := .ref (a 8)) hx hb hts i5 hown hw 0 rfl rfl 8 (by decide) lk28 rfl dX5_allCoins_42 ?_
      refine lv_iload_n hx hb dX5_allCoins_45 rfl (lv_at hl 0 rfl) ?_
      refine r_ialdN (v := a8 j) hx hb hw 7 rfl ht0 j (by omega) (by decide) dX5_allCoins_46 rfl ?_
      refine lv_iadd hx hb dX5_allCoins_47 ?_
      refine lv_istore_n (lv' := [(1, .int (v1 + (a8 j))), (2, .int (nI (j))), (0, .ref (a 0))]) hx hb dX5_allCoins_48 rfl hl (by decide) rfl (fun ls hl => ?_)
      refine lv_iinc (v := nI (j + 1)) (lv' := [(2, .int (nI (j + 1))), (1, .int (v1 + (a8 j))), (0, .ref (a 0))]) hx hb dX5_allCoins_49 hl (k := 1) rfl (by show nI (j) + 1 = _; exact nI_1 _) (by decide) rfl (fun ls hl => ?_)
      refine lv_goto (tgt := 35) hx hb dX5_allCoins_52 (by decide) ?_
      have e9 : lf5_allCoins_35 a8 (k + 1) j v1 = lf5_allCoins_35 a8 k (j + 1) (v1 + (a8 j)) := rfl
      rw [e9] at kk
      exact ih (j + 1) (v1 + (a8 j)) (by omega)  _ _ _ hw (lv_sub hl [0, 1, 2] rfl) kk
def f5_allCoins (a6 : Nat → Int32) (a8 : Nat → Int32) (s10 : Int32) (s12 : Int32) (a18 : Nat → Int32) (a19 : Nat → Int32) (a20 : Nat → Int32) : Int32 :=
  (lf5_allCoins_35 a8 5 0 (lf5_allCoins_12 a6 6 0 ((f5_held s12 a18 a19 a20) + s10)))
set_option maxHeartbeats 4000000 in
set_option maxRecDepth 100000 in
theorem k5_allCoins (l : Launch) (D : va_G) (ty : List (ClassId × FieldType)) (a : Nat → Nat) (cI : ClassId) (ht0 : ty[0]? = some (cI, .int)) (s0 : Int32) (s1 : Int32) (a2 : Nat → Int32) (a3 : Nat → Int32) (a4 : Nat → Int32) (a5 : Nat → Int32) (a6 : Nat → Int32) (a7 : Nat → Int32) (a8 : Nat → Int32) (a9 : Nat → Int32) (s10 : Int32) (s11 : Int32) (s12 : Int32) (a13 : Nat → Int32) (a14 : Nat → Int32) (a15 : Nat → Int32) (a16 : Nat → Int32) (a17 : Nat → Int32) (a18 : Nat → Int32) (a19 : Nat → Int32) (a20 : Nat → Int32) (a21 : Nat → Int32) (s22 : Int32) (hob : s12 = nI (tn s12)) (hob2 : tn s12 ≤ 60) (hlk : ∀ x, x < tn s12 → a18 x = nI (tn (a18 x)) ∧ tn (a18 x) ≤ 16) : MetG l yX5_allCoins wsX5_allCoins { frames := 2, cells := 0, slots := 0, locals := 45 } D ty [.ref (a 0)] (MW a cI s0 s1 a2 a3 a4 a5 a6 a7 a8 a9 s10 s11 s12 a13 a14 a15 a16 a17 a18 a19 a20 a21 s22) (va_Qi (fun r w => r = f5_allCoins a6 a8 s10 s12 a18 a19 a20 ∧ w = MW a cI s0 s1 a2 a3 a4 a5 a6 a7 a8 a9 s10 s11 s12 a13 a14 a15 a16 a17 a18 a19 a20 a21 s22)) 0 0 := by
  refine Met_start cX5_allCoins 3 (some .int) (by decide) rfl (Nat.le_of_ble_eq_true rfl) ?_
  intro p e s m below meth c A ls hx hb hr hlocks hml hnm hts hown hw hl
  have hl : lv_has ls 3 [(0, .ref (a 0))] := hl
  have i5 : ∀ w ∈ wsX50, w ∈ wsX5_allCoins := fun _ h => List.mem_cons_of_mem _ (List.mem_append_right _ h)
  have lk72 := hts (.fieldLink RX5 72 "RentSizesModel" "pool" "I") (by decide +kernel)
  refine lv_aload_n hx hb dX5_allCoins_0 rfl (lv_at hl 0 rfl) ?_
  refine r_callVi 0 rfl rfl (rest := []) ⟨hx, hb, hml, hown, hts⟩ hw [] (k5_held l D ty a cI ht0 s0 s1 a2 a3 a4 a5 a6 a7 a8 a9 s10 s11 s12 a13 a14 a15 a16 a17 a18 a19 a20 a21 s22 (by first | assumption | omega) (by first | assumption | omega) (by first | assumption | omega)) (cwV 0 hts gX5_allCoins_X5_held rfl rfl rfl (by decide +kernel) ⟨Nat.le_of_ble_eq_true rfl, Nat.le_of_ble_eq_true rfl⟩) rfl hl.1 rfl (Nat.le_of_ble_eq_true rfl) dX5_allCoins_1 ⟨Nat.le_of_ble_eq_true rfl, Nat.le_of_ble_eq_true rfl⟩ (fun r w H locs hp hw => ?_)
  obtain ⟨rfl, rfl⟩ := hp
  refine lv_aload_n hx hb dX5_allCoins_4 rfl (lv_at hl 0 rfl) ?_
  refine r_get (C := RX5) (T := TX5) (v := .int (s10)) hx hb hts i5 hown hw 0 rfl rfl 10 (by decide) lk72 rfl dX5_allCoins_5 ?_
  refine lv_iadd hx hb dX5_allCoins_8 ?_
  refine lv_istore_n (lv' := [(1, .int ((f5_held s12 a18 a19 a20) + s10)), (0, .ref (a 0))]) hx hb dX5_allCoins_9 rfl hl (by decide) rfl (fun ls hl => ?_)
  refine lv_iconst (v := 0) hx hb dX5_allCoins_10 (by decide) ?_
  refine lv_istore_n (lv' := [(2, .int (0)), (1, .int ((f5_held s12 a18 a19 a20) + s10)), (0, .ref (a 0))]) hx hb dX5_allCoins_11 rfl hl (by decide) rfl (fun ls hl => ?_)
  refine lt5_allCoins_12 l D ty a cI ht0 s0 s1 a2 a3 a4 a5 a6 a7 a8 a9 s10 s11 s12 a13 a14 a15 a16 a17 a18 a19 a20 a21 s22 hob hob2 hlk  hx hb hml hts hown 6 0 ((f5_held s12 a18 a19 a20) + s10) (by omega)  _ _ _ hw hl (fun H locs ls hw hl => ?_)
  refine lv_iconst (v := 0) hx hb dX5_allCoins_33 (by decide) ?_
  refine lv_istore_n (lv' := [(2, .int (0)), (1, .int ((lf5_allCoins_12 a6 6 0 ((f5_held s12 a18 a19 a20) + s10)))), (0, .ref (a 0))]) hx hb dX5_allCoins_34 rfl hl (by decide) rfl (fun ls hl => ?_)
  refine lt5_allCoins_35 l D ty a cI ht0 s0 s1 a2 a3 a4 a5 a6 a7 a8 a9 s10 s11 s12 a13 a14 a15 a16 a17 a18 a19 a20 a21 s22 hob hob2 hlk  hx hb hml hts hown 5 0 (lf5_allCoins_12 a6 6 0 ((f5_held s12 a18 a19 a20) + s10)) (by omega)  _ _ _ hw hl (fun H locs ls hw hl => ?_)
  refine lv_iload_n hx hb dX5_allCoins_55 rfl (lv_at hl 1 rfl) ?_
  have e9 : f5_allCoins a6 a8 s10 s12 a18 a19 a20 = (lf5_allCoins_35 a8 5 0 (lf5_allCoins_12 a6 6 0 ((f5_held s12 a18 a19 a20) + s10))) := by unfold f5_allCoins; rfl
  exact r_iret hx hb hr hlocks hw ⟨by rw [e9] <;> rfl, rfl⟩ dX5_allCoins_56
def lf5_digestOf_9 (a15 : Nat → Int32) (x : Nat) : Nat → Nat → Int32 → Int32
  | 0, _, v2 => v2
  | k + 1, j, v2 => lf5_digestOf_9 a15 x k (j + 1) ((31 * v2) + (a15 ((4 * x) + j)))
set_option maxHeartbeats 4000000 in
set_option maxRecDepth 100000 in
theorem lt5_digestOf_9 (l : Launch) (D : va_G) (ty : List (ClassId × FieldType)) (a : Nat → Nat) (cI : ClassId) (ht0 : ty[0]? = some (cI, .int)) (s0 : Int32) (s1 : Int32) (a2 : Nat → Int32) (a3 : Nat → Int32) (a4 : Nat → Int32) (a5 : Nat → Int32) (a6 : Nat → Int32) (a7 : Nat → Int32) (a8 : Nat → Int32) (a9 : Nat → Int32) (s10 : Int32) (s11 : Int32) (s12 : Int32) (a13 : Nat → Int32) (a14 : Nat → Int32) (a15 : Nat → Int32) (a16 : Nat → Int32) (a17 : Nat → Int32) (a18 : Nat → Int32) (a19 : Nat → Int32) (a20 : Nat → Int32) (a21 : Nat → Int32) (s22 : Int32) (x : Nat) (hx60 : x < 60)  {p : Program} {e : Env} {s : State} {m : MethodId} {args : Array Value} {below : List Frame} {meth : Method} {c : Code} {A : Nat → Prop} {H0 : Heap} {Q : State → Prop} (hx : p.tables.exec = Jvm.exec) (hb : c.code = cX5_digestOf) (hml : c.maxLocals = 4) (hts : ∀ w ∈ wsX5_digestOf, w.before args s = true) (hown : s.vm.findClass RX5 = some m.cls) : ∀ (k j : Nat) (v2 : Int32) (hj : j + k = 4) (H : Heap) (locs : List Loc) (ls : Array Slot) (hw : Wd D ty A H0 s (MW a cI s0 s1 a2 a3 a4 a5 a6 a7 a8 a9 s10 s11 s12 a13 a14 a15 a16 a17 a18 a19 a20 a21 s22) H locs) (hl : lv_has ls 4 [(3, .int (nI (j))), (2, .int (v2)), (0, .ref (a 0)), (1, .int (nI (x)))]) (kk : ∀ (H1 : Heap) (locs1 : List Loc) (ls1 : Array Slot), Wd D ty A H0 s (MW a cI s0 s1 a2 a3 a4 a5 a6 a7 a8 a9 s10 s11 s12 a13 a14 a15 a16 a17 a18 a19 a20 a21 s22) H1 locs1 → lv_has ls1 4 [(3, .int (nI (4))), (2, .int ((lf5_digestOf_9 a15 x k j v2))), (0, .ref (a 0)), (1, .int (nI (x)))] → W p l e ({ frames := 0, cells := 0, slots := 0, locals := 0 } : Room) s m args below meth c H1 locs1 0 0 Q (F0 m 36 ls1 [])), W p l e ({ frames := 0, cells := 0, slots := 0, locals := 0 } : Room) s m args below meth c H locs 0 0 Q (F0 m 9 ls []) := by
  have i5 : ∀ w ∈ wsX50, w ∈ wsX5_digestOf := fun _ h => List.mem_cons_of_mem _ (List.mem_append_right _ h)
  have lk40 := hts (.fieldLink RX5 40 "RentSizesModel" "words" "[I") (by decide +kernel)
  intro k
  induction k with
  | zero =>
    intro j v2 hj H locs ls hw hl kk
    have hj0 : j = 4 := by omega
    refine lv_iload_n hx hb dX5_digestOf_9 rfl (lv_at hl 0 rfl) ?_
    refine lv_iconst (v := 4) hx hb dX5_digestOf_10 (by decide) ?_
    refine r_top (nI 4) rfl ?_
    refine lv_icmp_ge (tgt := 36) hx hb dX5_digestOf_11 (by decide) (fun c_11 => ?_) (fun c_11 => ?_)
    · subst hj0
      exact kk _ _ _ hw (lv_sub hl [0, 1, 2, 3] rfl)
    · exact absurd (nI_le (by omega) (by omega)) c_11
  | succ k ih =>
    intro j v2 hj H locs ls hw hl kk
    have hjb : j < 4 := by omega
    refine lv_iload_n hx hb dX5_digestOf_9 rfl (lv_at hl 0 rfl) ?_
    refine lv_iconst (v := 4) hx hb dX5_digestOf_10 (by decide) ?_
    refine r_top (nI 4) rfl ?_
    refine lv_icmp_ge (tgt := 36) hx hb dX5_digestOf_11 (by decide) (fun c_11 => ?_) (fun c_11 => ?_)
    · exact absurd c_11 (nI_ge (by omega) (by omega))
    · refine lv_bipush (v := 31) hx hb dX5_digestOf_14 (by decide) ?_
      refine lv_iload_n hx hb dX5_digestOf_16 rfl (lv_at hl 1 rfl) ?_
      refine lv_imul hx hb dX5_digestOf_17 ?_
      refine lv_aload_n hx hb dX5_digestOf_18 rfl (lv_at hl 2 rfl) ?_
      refine r_get (C := RX5) (T := TX5) (v := .ref (a 15)) hx hb hts i5 hown hw 0 rfl rfl 15 (by decide) lk40 rfl dX5_digestOf_19 ?_
      refine lv_iconst (v := 4) hx hb dX5_digestOf_22 (by decide) ?_
      refine lv_iload_n hx hb dX5_digestOf_23 rfl (lv_at hl 3 rfl) ?_
      refine lv_imul hx hb dX5_digestOf_24 ?_
      refine r_top (nI (4 * x)) (show nI (4) * nI (x) = nI (4 * x) from pk_mul _ _) ?_
      refine lv_iload_n hx hb dX5_digestOf_25 rfl (lv_at hl 0 rfl) ?_
      refine lv_iadd hx hb dX5_digestOf_26 ?_
      refine r_top (nI ((4 * x) + j)) (show nI (4 * x) + nI (j) = nI ((4 * x) + j) from nI_add _ _) ?_
      refine r_ialdN (v := a15 ((4 * x) + j)) hx hb hw 11 rfl ht0 ((4 * x) + j) (by omega) (by decide) dX5_digestOf_27 rfl ?_
      refine lv_iadd hx hb dX5_digestOf_28 ?_
      refine lv_istore_n (lv' := [(2, .int ((31 * v2) + (a15 ((4 * x) + j)))), (3, .int (nI (j))), (0, .ref (a 0)), (1, .int (nI (x)))]) hx hb dX5_digestOf_29 rfl hl (by decide) rfl (fun ls hl => ?_)
      refine lv_iinc (v := nI (j + 1)) (lv' := [(3, .int (nI (j + 1))), (2, .int ((31 * v2) + (a15 ((4 * x) + j)))), (0, .ref (a 0)), (1, .int (nI (x)))]) hx hb dX5_digestOf_30 hl (k := 1) rfl (by show nI (j) + 1 = _; exact nI_1 _) (by decide) rfl (fun ls hl => ?_)
      refine lv_goto (tgt := 9) hx hb dX5_digestOf_33 (by decide) ?_
      have e9 : lf5_digestOf_9 a15 x (k + 1) j v2 = lf5_digestOf_9 a15 x k (j + 1) ((31 * v2) + (a15 ((4 * x) + j))) := rfl
      rw [e9] at kk
      exact ih (j + 1) ((31 * v2) + (a15 ((4 * x) + j))) (by omega)  _ _ _ hw (lv_sub hl [0, 1, 2, 3] rfl) kk
def f5_digestOf (a14 : Nat → Int32) (a15 : Nat → Int32) (x : Nat) : Int32 :=
  (lf5_digestOf_9 a15 x 4 0 (a14 x)) ^^^ (((lf5_digestOf_9 a15 x 4 0 (a14 x)).toUInt32 >>> ((13 : Int32).toUInt32 &&& Int32.toUInt32 31)).toInt32)
set_option maxHeartbeats 4000000 in
set_option maxRecDepth 100000 in
theorem k5_digestOf (l : Launch) (D : va_G) (ty : List (ClassId × FieldType)) (a : Nat → Nat) (cI : ClassId) (ht0 : ty[0]? = some (cI, .int)) (s0 : Int32) (s1 : Int32) (a2 : Nat → Int32) (a3 : Nat → Int32) (a4 : Nat → Int32) (a5 : Nat → Int32) (a6 : Nat → Int32) (a7 : Nat → Int32) (a8 : Nat → Int32) (a9 : Nat → Int32) (s10 : Int32) (s11 : Int32) (s12 : Int32) (a13 : Nat → Int32) (a14 : Nat → Int32) (a15 : Nat → Int32) (a16 : Nat → Int32) (a17 : Nat → Int32) (a18 : Nat → Int32) (a19 : Nat → Int32) (a20 : Nat → Int32) (a21 : Nat → Int32) (s22 : Int32) (x : Nat) (hx60 : x < 60) : MetG l yX5_digestOf wsX5_digestOf { frames := 0, cells := 0, slots := 0, locals := 0 } D ty [.ref (a 0), .int (nI (x))] (MW a cI s0 s1 a2 a3 a4 a5 a6 a7 a8 a9 s10 s11 s12 a13 a14 a15 a16 a17 a18 a19 a20 a21 s22) (va_Qi (fun r w => r = f5_digestOf a14 a15 x ∧ w = MW a cI s0 s1 a2 a3 a4 a5 a6 a7 a8 a9 s10 s11 s12 a13 a14 a15 a16 a17 a18 a19 a20 a21 s22)) 0 0 := by
  refine Met_start cX5_digestOf 4 (some .int) (by decide) rfl (Nat.le_of_ble_eq_true rfl) ?_
  intro p e s m below meth c A ls hx hb hr hlocks hml hnm hts hown hw hl
  have hl : lv_has ls 4 [(0, .ref (a 0)), (1, .int (nI (x)))] := hl
  have i5 : ∀ w ∈ wsX50, w ∈ wsX5_digestOf := fun _ h => List.mem_cons_of_mem _ (List.mem_append_right _ h)
  have lk37 := hts (.fieldLink RX5 37 "RentSizesModel" "size" "[I") (by decide +kernel)
  refine lv_aload_n hx hb dX5_digestOf_0 rfl (lv_at hl 0 rfl) ?_
  refine r_get (C := RX5) (T := TX5) (v := .ref (a 14)) hx hb hts i5 hown hw 0 rfl rfl 14 (by decide) lk37 rfl dX5_digestOf_1 ?_
  refine lv_iload_n hx hb dX5_digestOf_4 rfl (lv_at hl 1 rfl) ?_
  refine r_ialdN (v := a14 x) hx hb hw 10 rfl ht0 x (by omega) (by decide) dX5_digestOf_5 rfl ?_
  refine lv_istore_n (lv' := [(2, .int (a14 x)), (0, .ref (a 0)), (1, .int (nI (x)))]) hx hb dX5_digestOf_6 rfl hl (by decide) rfl (fun ls hl => ?_)
  refine lv_iconst (v := 0) hx hb dX5_digestOf_7 (by decide) ?_
  refine lv_istore_n (lv' := [(3, .int (0)), (2, .int (a14 x)), (0, .ref (a 0)), (1, .int (nI (x)))]) hx hb dX5_digestOf_8 rfl hl (by decide) rfl (fun ls hl => ?_)
  refine lt5_digestOf_9 l D ty a cI ht0 s0 s1 a2 a3 a4 a5 a6 a7 a8 a9 s10 s11 s12 a13 a14 a15 a16 a17 a18 a19 a20 a21 s22 x hx60  hx hb hml hts hown 4 0 (a14 x) (by omega)  _ _ _ hw hl (fun H locs ls hw hl => ?_)
  refine lv_iload_n hx hb dX5_digestOf_36 rfl (lv_at hl 1 rfl) ?_
  refine lv_iload_n hx hb dX5_digestOf_37 rfl (lv_at hl 1 rfl) ?_
  refine lv_bipush (v := 13) hx hb dX5_digestOf_38 (by decide) ?_
  refine lv_iushr (v := ((lf5_digestOf_9 a15 x 4 0 (a14 x)).toUInt32 >>> ((13 : Int32).toUInt32 &&& Int32.toUInt32 31)).toInt32) hx hb dX5_digestOf_40 rfl ?_
  refine lv_ixor hx hb dX5_digestOf_41 ?_
  have e9 : f5_digestOf a14 a15 x = (lf5_digestOf_9 a15 x 4 0 (a14 x)) ^^^ (((lf5_digestOf_9 a15 x 4 0 (a14 x)).toUInt32 >>> ((13 : Int32).toUInt32 &&& Int32.toUInt32 31)).toInt32) := by unfold f5_digestOf; rfl
  exact r_iret hx hb hr hlocks hw ⟨by rw [e9] <;> rfl, rfl⟩ dX5_digestOf_42
def f5_digest (s12 : Int32) (a14 : Nat → Int32) (a15 : Nat → Int32) (p1 : Int32) : Int32 :=
  if (f5_noObject s12 p1) = 0 then f5_digestOf a14 a15 (tn p1)
  else (-109)
set_option maxHeartbeats 4000000 in
set_option maxRecDepth 100000 in
theorem k5_digest (l : Launch) (D : va_G) (ty : List (ClassId × FieldType)) (a : Nat → Nat) (cI : ClassId) (ht0 : ty[0]? = some (cI, .int)) (s0 : Int32) (s1 : Int32) (a2 : Nat → Int32) (a3 : Nat → Int32) (a4 : Nat → Int32) (a5 : Nat → Int32) (a6 : Nat → Int32) (a7 : Nat → Int32) (a8 : Nat → Int32) (a9 : Nat → Int32) (s10 : Int32) (s11 : Int32) (s12 : Int32) (a13 : Nat → Int32) (a14 : Nat → Int32) (a15 : Nat → Int32) (a16 : Nat → Int32) (a17 : Nat → Int32) (a18 : Nat → Int32) (a19 : Nat → Int32) (a20 : Nat → Int32) (a21 : Nat → Int32) (s22 : Int32) (p1 : Int32) (hob : s12 = nI (tn s12)) (hob2 : tn s12 ≤ 60) : MetG l yX5_digest wsX5_digest { frames := 2, cells := 0, slots := 0, locals := 46 } D ty [.ref (a 0), .int (p1)] (MW a cI s0 s1 a2 a3 a4 a5 a6 a7 a8 a9 s10 s11 s12 a13 a14 a15 a16 a17 a18 a19 a20 a21 s22) (va_Qi (fun r w => r = f5_digest s12 a14 a15 p1 ∧ w = MW a cI s0 s1 a2 a3 a4 a5 a6 a7 a8 a9 s10 s11 s12 a13 a14 a15 a16 a17 a18 a19 a20 a21 s22)) 0 0 := by
  refine Met_start cX5_digest 2 (some .int) (by decide) rfl (Nat.le_of_ble_eq_true rfl) ?_
  intro p e s m below meth c A ls hx hb hr hlocks hml hnm hts hown hw hl
  have hl : lv_has ls 2 [(0, .ref (a 0)), (1, .int (p1))] := hl
  refine lv_aload_n hx hb dX5_digest_0 rfl (lv_at hl 0 rfl) ?_
  refine lv_iload_n hx hb dX5_digest_1 rfl (lv_at hl 1 rfl) ?_
  refine r_callVi 0 rfl rfl (rest := []) ⟨hx, hb, hml, hown, hts⟩ hw [.int (p1)] (k5_noObject l D ty a cI ht0 s0 s1 a2 a3 a4 a5 a6 a7 a8 a9 s10 s11 s12 a13 a14 a15 a16 a17 a18 a19 a20 a21 s22 p1) (cwV 1 hts gX5_digest_X5_noObject rfl rfl rfl (by decide +kernel) ⟨Nat.le_of_ble_eq_true rfl, Nat.le_of_ble_eq_true rfl⟩) rfl hl.1 rfl (Nat.le_of_ble_eq_true rfl) dX5_digest_2 ⟨Nat.le_of_ble_eq_true rfl, Nat.le_of_ble_eq_true rfl⟩ (fun r w H locs hp hw => ?_)
  obtain ⟨rfl, rfl⟩ := hp
  refine lv_if_eq (tgt := 13) hx hb dX5_digest_5 (by decide) (fun c_5 => ?_) (fun c_5 => ?_)
  · obtain ⟨x, hxx, rfl⟩ := (no_in c_5 hob hob2)
    refine lv_aload_n hx hb dX5_digest_13 rfl (lv_at hl 0 rfl) ?_
    refine lv_iload_n hx hb dX5_digest_14 rfl (lv_at hl 1 rfl) ?_
    refine r_callVi 0 rfl rfl (rest := []) ⟨hx, hb, hml, hown, hts⟩ hw [.int (nI (x))] (k5_digestOf l D ty a cI ht0 s0 s1 a2 a3 a4 a5 a6 a7 a8 a9 s10 s11 s12 a13 a14 a15 a16 a17 a18 a19 a20 a21 s22 x (by first | assumption | omega)) (cwV 1 hts gX5_digest_X5_digestOf rfl rfl rfl (by decide +kernel) ⟨Nat.le_of_ble_eq_true rfl, Nat.le_of_ble_eq_true rfl⟩) rfl hl.1 rfl (Nat.le_of_ble_eq_true rfl) dX5_digest_15 ⟨Nat.le_of_ble_eq_true rfl, Nat.le_of_ble_eq_true rfl⟩ (fun r w H locs hp hw => ?_)
    obtain ⟨rfl, rfl⟩ := hp
    have e9 : f5_digest s12 a14 a15 (nI x) = f5_digestOf a14 a15 x := by unfold f5_digest; simp only [nI_clamp (show x < 2 ^ 31 by omega)]; rw [if_pos c_5]
    exact r_iret hx hb hr hlocks hw ⟨by rw [e9] <;> rfl, rfl⟩ dX5_digest_18
  · refine lv_bipush (v := (-109)) hx hb dX5_digest_8 (by decide) ?_
    refine lv_goto (tgt := 18) hx hb dX5_digest_10 (by decide) ?_
    have e9 : f5_digest s12 a14 a15 p1 = (-109) := by unfold f5_digest; rw [if_neg c_5]
    exact r_iret hx hb hr hlocks hw ⟨by rw [e9] <;> rfl, rfl⟩ dX5_digest_18
def f5_thrown (s22 : Int32) : Int32 :=
  s22
set_option maxHeartbeats 4000000 in
set_option maxRecDepth 100000 in
theorem k5_thrown (l : Launch) (D : va_G) (ty : List (ClassId × FieldType)) (a : Nat → Nat) (cI : ClassId) (ht0 : ty[0]? = some (cI, .int)) (s0 : Int32) (s1 : Int32) (a2 : Nat → Int32) (a3 : Nat → Int32) (a4 : Nat → Int32) (a5 : Nat → Int32) (a6 : Nat → Int32) (a7 : Nat → Int32) (a8 : Nat → Int32) (a9 : Nat → Int32) (s10 : Int32) (s11 : Int32) (s12 : Int32) (a13 : Nat → Int32) (a14 : Nat → Int32) (a15 : Nat → Int32) (a16 : Nat → Int32) (a17 : Nat → Int32) (a18 : Nat → Int32) (a19 : Nat → Int32) (a20 : Nat → Int32) (a21 : Nat → Int32) (s22 : Int32) : MetG l yX5_thrown wsX5_thrown { frames := 0, cells := 0, slots := 0, locals := 0 } D ty [.ref (a 0)] (MW a cI s0 s1 a2 a3 a4 a5 a6 a7 a8 a9 s10 s11 s12 a13 a14 a15 a16 a17 a18 a19 a20 a21 s22) (va_Qi (fun r w => r = f5_thrown s22 ∧ w = MW a cI s0 s1 a2 a3 a4 a5 a6 a7 a8 a9 s10 s11 s12 a13 a14 a15 a16 a17 a18 a19 a20 a21 s22)) 0 0 := by
  refine Met_start cX5_thrown 1 (some .int) (by decide) rfl (Nat.le_of_ble_eq_true rfl) ?_
  intro p e s m below meth c A ls hx hb hr hlocks hml hnm hts hown hw hl
  have hl : lv_has ls 1 [(0, .ref (a 0))] := hl
  have i5 : ∀ w ∈ wsX50, w ∈ wsX5_thrown := fun _ h => List.mem_cons_of_mem _ (List.mem_append_right _ h)
  have lk168 := hts (.fieldLink RX5 168 "RentSizesModel" "thrownNow" "I") (by decide +kernel)
  refine lv_aload_n hx hb dX5_thrown_0 rfl (lv_at hl 0 rfl) ?_
  refine r_get (C := RX5) (T := TX5) (v := .int (s22)) hx hb hts i5 hown hw 0 rfl rfl 22 (by decide) lk168 rfl dX5_thrown_1 ?_
  have e9 : f5_thrown s22 = s22 := by unfold f5_thrown; rfl
  exact r_iret hx hb hr hlocks hw ⟨by rw [e9] <;> rfl, rfl⟩ dX5_thrown_4
def f5_exact (p1 : Int64) (p2 : Int64) : Int64 × Int32 :=
  if (lg_cmp p1 0) = 0 then (0, 0)
  else if (lg_cmp p2 0) = 0 then (0, 0)
  else if (lg_cmp ((p1 * p2) / p2) p1) = 0 then (if (lg_cmp p1 (-1)) = 0 then (if (lg_cmp p2 (-9223372036854775808)) = 0 then (0, 1)
      else if (lg_cmp p2 (-1)) = 0 then (if (lg_cmp p1 (-9223372036854775808)) = 0 then (0, 1)
        else (p1 * p2, 0))
      else (p1 * p2, 0))
    else if (lg_cmp p2 (-1)) = 0 then (if (lg_cmp p1 (-9223372036854775808)) = 0 then (0, 1)
      else (p1 * p2, 0))
    else (p1 * p2, 0))
  else (0, 1)
set_option maxHeartbeats 4000000 in
set_option maxRecDepth 100000 in
theorem k5_exact (l : Launch) (D : va_G) (ty : List (ClassId × FieldType)) (a : Nat → Nat) (cI : ClassId) (ht0 : ty[0]? = some (cI, .int)) (s0 : Int32) (s1 : Int32) (a2 : Nat → Int32) (a3 : Nat → Int32) (a4 : Nat → Int32) (a5 : Nat → Int32) (a6 : Nat → Int32) (a7 : Nat → Int32) (a8 : Nat → Int32) (a9 : Nat → Int32) (s10 : Int32) (s11 : Int32) (s12 : Int32) (a13 : Nat → Int32) (a14 : Nat → Int32) (a15 : Nat → Int32) (a16 : Nat → Int32) (a17 : Nat → Int32) (a18 : Nat → Int32) (a19 : Nat → Int32) (a20 : Nat → Int32) (a21 : Nat → Int32) (s22 : Int32) (p1 : Int64) (p2 : Int64) : MetG l yX5_exact wsX5_exact { frames := 0, cells := 0, slots := 0, locals := 0 } D ty [.ref (a 0), .long (p1), .long (p2)] (MW a cI s0 s1 a2 a3 a4 a5 a6 a7 a8 a9 s10 s11 s12 a13 a14 a15 a16 a17 a18 a19 a20 a21 s22) (va_Ql (fun r w => r = (f5_exact p1 p2).1 ∧ w = MW a cI s0 s1 a2 a3 a4 a5 a6 a7 a8 a9 s10 s11 s12 a13 a14 a15 a16 a17 a18 a19 a20 a21 ((f5_exact p1 p2).2))) 0 0 := by
  refine Met_start cX5_exact 8 (some .long) (by decide) rfl (Nat.le_of_ble_eq_true rfl) ?_
  intro p e s m below meth c A ls hx hb hr hlocks hml hnm hts hown hw hl
  have hl : lv_has ls 8 [(0, .ref (a 0)), (1, .long (p1)), (3, .long (p2))] := hl
  have i5 : ∀ w ∈ wsX50, w ∈ wsX5_exact := fun _ h => List.mem_cons_of_mem _ (List.mem_append_right _ h)
  have lk168 := hts (.fieldLink RX5 168 "RentSizesModel" "thrownNow" "I") (by decide +kernel)
  have ci171 := hts (.constantLong RX5 171 (-1)) (by decide +kernel)
  have ci173 := hts (.constantLong RX5 173 (-9223372036854775808)) (by decide +kernel)
  refine lv_aload_n hx hb dX5_exact_0 rfl (lv_at hl 0 rfl) ?_
  refine lv_iconst (v := 0) hx hb dX5_exact_1 (by decide) ?_
  refine r_put (C := RX5) (T := TX5) (ws' := MW a cI s0 s1 a2 a3 a4 a5 a6 a7 a8 a9 s10 s11 s12 a13 a14 a15 a16 a17 a18 a19 a20 a21 0) hx hb hts i5 tyX5 tyX5_ok nmX5 hown hw 0 rfl rfl 22 (by decide) lk168 rfl (by decide +kernel) (Nat.le_of_ble_eq_true rfl) (MW_s22 _) dX5_exact_2 (fun H locs hw => ?_)
  refine lv_lload_n hx hb dX5_exact_5 rfl (lv_at hl 1 rfl) ?_
  refine lv_lconst (v := 0) hx hb dX5_exact_6 (by decide) ?_
  refine W.lcmp hx hb dX5_exact_7 ?_
  refine lv_if_eq (tgt := 17) hx hb dX5_exact_8 (by decide) (fun c_8 => ?_) (fun c_8 => ?_)
  · refine lv_lconst (v := 0) hx hb dX5_exact_17 (by decide) ?_
    have e9 : f5_exact p1 p2 = (0, 0) := by unfold f5_exact; rw [if_pos c_8]
    exact r_lret hx hb hr hlocks hw ⟨by rw [e9] <;> rfl, by rw [e9] <;> rfl⟩ dX5_exact_18
  · refine lv_lload_n hx hb dX5_exact_11 rfl (lv_at hl 2 rfl) ?_
    refine lv_lconst (v := 0) hx hb dX5_exact_12 (by decide) ?_
    refine W.lcmp hx hb dX5_exact_13 ?_
    refine lv_if_ne (tgt := 19) hx hb dX5_exact_14 (by decide) (fun c_14 => ?_) (fun c_14 => ?_)
    · refine lv_lload_n hx hb dX5_exact_19 rfl (lv_at hl 1 rfl) ?_
      refine lv_lload_n hx hb dX5_exact_20 rfl (lv_at hl 2 rfl) ?_
      refine lv_lmul hx hb dX5_exact_21 ?_
      refine lv_lstore (lv' := [(5, .long (p1 * p2)), (0, .ref (a 0)), (1, .long (p1)), (3, .long (p2))]) hx hb dX5_exact_22 hl (by decide) rfl (fun ls hl => ?_)
      refine lv_lload hx hb dX5_exact_24 (lv_at hl 0 rfl) ?_
      refine lv_lload_n hx hb dX5_exact_26 rfl (lv_at hl 3 rfl) ?_
      refine lv_ldiv hx hb dX5_exact_27 (fun h => c_14 ((lg_cmp_eq _ _).mpr h)) ?_
      refine lv_lload_n hx hb dX5_exact_28 rfl (lv_at hl 2 rfl) ?_
      refine W.lcmp hx hb dX5_exact_29 ?_
      refine lv_if_ne (tgt := 65) hx hb dX5_exact_30 (by decide) (fun c_30 => ?_) (fun c_30 => ?_)
      · refine lv_iconst (v := 1) hx hb dX5_exact_65 (by decide) ?_
        refine lv_goto (tgt := 70) hx hb dX5_exact_66 (by decide) ?_
        refine lv_istore (lv' := [(7, .int (1)), (5, .long (p1 * p2)), (0, .ref (a 0)), (1, .long (p1)), (3, .long (p2))]) hx hb dX5_exact_70 hl (by decide) rfl (fun ls hl => ?_)
        refine lv_aload_n hx hb dX5_exact_72 rfl (lv_at hl 2 rfl) ?_
        refine lv_iload hx hb dX5_exact_73 (lv_at hl 0 rfl) ?_
        refine lv_if_eq (tgt := 82) hx hb dX5_exact_75 (by decide) (fun c_75 => ?_) (fun c_75 => ?_)
        · exact absurd c_75 (by decide)
        · refine lv_iconst (v := 1) hx hb dX5_exact_78 (by decide) ?_
          refine lv_goto (tgt := 83) hx hb dX5_exact_79 (by decide) ?_
          refine r_put (C := RX5) (T := TX5) (ws' := MW a cI s0 s1 a2 a3 a4 a5 a6 a7 a8 a9 s10 s11 s12 a13 a14 a15 a16 a17 a18 a19 a20 a21 1) hx hb hts i5 tyX5 tyX5_ok nmX5 hown hw 0 rfl rfl 22 (by decide) lk168 rfl (by decide +kernel) (Nat.le_of_ble_eq_true rfl) (MW_s22 _) dX5_exact_83 (fun H locs hw => ?_)
          refine lv_iload hx hb dX5_exact_86 (lv_at hl 0 rfl) ?_
          refine lv_if_eq (tgt := 95) hx hb dX5_exact_88 (by decide) (fun c_88 => ?_) (fun c_88 => ?_)
          · exact absurd c_88 (by decide)
          · refine lv_lconst (v := 0) hx hb dX5_exact_91 (by decide) ?_
            refine lv_goto (tgt := 97) hx hb dX5_exact_92 (by decide) ?_
            have e9 : f5_exact p1 p2 = (0, 1) := by unfold f5_exact; rw [if_neg c_8, if_neg c_14, if_neg c_30]
            exact r_lret hx hb hr hlocks hw ⟨by rw [e9] <;> rfl, by rw [e9] <;> rfl⟩ dX5_exact_97
      · refine lv_lload_n hx hb dX5_exact_33 rfl (lv_at hl 2 rfl) ?_
        refine lv_ldc2 (v := (-1)) hx hb hown ci171 dX5_exact_34 ?_
        refine W.lcmp hx hb dX5_exact_37 ?_
        refine lv_if_ne (tgt := 49) hx hb dX5_exact_38 (by decide) (fun c_38 => ?_) (fun c_38 => ?_)
        · refine lv_lload_n hx hb dX5_exact_49 rfl (lv_at hl 3 rfl) ?_
          refine lv_ldc2 (v := (-1)) hx hb hown ci171 dX5_exact_50 ?_
          refine W.lcmp hx hb dX5_exact_53 ?_
          refine lv_if_ne (tgt := 69) hx hb dX5_exact_54 (by decide) (fun c_54 => ?_) (fun c_54 => ?_)
          · refine lv_iconst (v := 0) hx hb dX5_exact_69 (by decide) ?_
            refine lv_istore (lv' := [(7, .int (0)), (5, .long (p1 * p2)), (0, .ref (a 0)), (1, .long (p1)), (3, .long (p2))]) hx hb dX5_exact_70 hl (by decide) rfl (fun ls hl => ?_)
            refine lv_aload_n hx hb dX5_exact_72 rfl (lv_at hl 2 rfl) ?_
            refine lv_iload hx hb dX5_exact_73 (lv_at hl 0 rfl) ?_
            refine lv_if_eq (tgt := 82) hx hb dX5_exact_75 (by decide) (fun c_75 => ?_) (fun c_75 => ?_)
            · refine lv_iconst (v := 0) hx hb dX5_exact_82 (by decide) ?_
              refine r_put (C := RX5) (T := TX5) (ws' := MW a cI s0 s1 a2 a3 a4 a5 a6 a7 a8 a9 s10 s11 s12 a13 a14 a15 a16 a17 a18 a19 a20 a21 0) hx hb hts i5 tyX5 tyX5_ok nmX5 hown hw 0 rfl rfl 22 (by decide) lk168 rfl (by decide +kernel) (Nat.le_of_ble_eq_true rfl) (MW_s22 _) dX5_exact_83 (fun H locs hw => ?_)
              refine lv_iload hx hb dX5_exact_86 (lv_at hl 0 rfl) ?_
              refine lv_if_eq (tgt := 95) hx hb dX5_exact_88 (by decide) (fun c_88 => ?_) (fun c_88 => ?_)
              · refine lv_lload hx hb dX5_exact_95 (lv_at hl 1 rfl) ?_
                have e9 : f5_exact p1 p2 = (p1 * p2, 0) := by unfold f5_exact; rw [if_neg c_8, if_neg c_14, if_pos c_30, if_neg c_38, if_neg c_54]
                exact r_lret hx hb hr hlocks hw ⟨by rw [e9] <;> rfl, by rw [e9] <;> rfl⟩ dX5_exact_97
              · exact absurd c_88 (by decide)
            · exact absurd c_75 (by decide)
          · refine lv_lload_n hx hb dX5_exact_57 rfl (lv_at hl 2 rfl) ?_
            refine lv_ldc2 (v := (-9223372036854775808)) hx hb hown ci173 dX5_exact_58 ?_
            refine W.lcmp hx hb dX5_exact_61 ?_
            refine lv_if_ne (tgt := 69) hx hb dX5_exact_62 (by decide) (fun c_62 => ?_) (fun c_62 => ?_)
            · refine lv_iconst (v := 0) hx hb dX5_exact_69 (by decide) ?_
              refine lv_istore (lv' := [(7, .int (0)), (5, .long (p1 * p2)), (0, .ref (a 0)), (1, .long (p1)), (3, .long (p2))]) hx hb dX5_exact_70 hl (by decide) rfl (fun ls hl => ?_)
              refine lv_aload_n hx hb dX5_exact_72 rfl (lv_at hl 2 rfl) ?_
              refine lv_iload hx hb dX5_exact_73 (lv_at hl 0 rfl) ?_
              refine lv_if_eq (tgt := 82) hx hb dX5_exact_75 (by decide) (fun c_75 => ?_) (fun c_75 => ?_)
              · refine lv_iconst (v := 0) hx hb dX5_exact_82 (by decide) ?_
                refine r_put (C := RX5) (T := TX5) (ws' := MW a cI s0 s1 a2 a3 a4 a5 a6 a7 a8 a9 s10 s11 s12 a13 a14 a15 a16 a17 a18 a19 a20 a21 0) hx hb hts i5 tyX5 tyX5_ok nmX5 hown hw 0 rfl rfl 22 (by decide) lk168 rfl (by decide +kernel) (Nat.le_of_ble_eq_true rfl) (MW_s22 _) dX5_exact_83 (fun H locs hw => ?_)
                refine lv_iload hx hb dX5_exact_86 (lv_at hl 0 rfl) ?_
                refine lv_if_eq (tgt := 95) hx hb dX5_exact_88 (by decide) (fun c_88 => ?_) (fun c_88 => ?_)
                · refine lv_lload hx hb dX5_exact_95 (lv_at hl 1 rfl) ?_
                  have e9 : f5_exact p1 p2 = (p1 * p2, 0) := by unfold f5_exact; rw [if_neg c_8, if_neg c_14, if_pos c_30, if_neg c_38, if_pos c_54, if_neg c_62]
                  exact r_lret hx hb hr hlocks hw ⟨by rw [e9] <;> rfl, by rw [e9] <;> rfl⟩ dX5_exact_97
                · exact absurd c_88 (by decide)
              · exact absurd c_75 (by decide)
            · refine lv_iconst (v := 1) hx hb dX5_exact_65 (by decide) ?_
              refine lv_goto (tgt := 70) hx hb dX5_exact_66 (by decide) ?_
              refine lv_istore (lv' := [(7, .int (1)), (5, .long (p1 * p2)), (0, .ref (a 0)), (1, .long (p1)), (3, .long (p2))]) hx hb dX5_exact_70 hl (by decide) rfl (fun ls hl => ?_)
              refine lv_aload_n hx hb dX5_exact_72 rfl (lv_at hl 2 rfl) ?_
              refine lv_iload hx hb dX5_exact_73 (lv_at hl 0 rfl) ?_
              refine lv_if_eq (tgt := 82) hx hb dX5_exact_75 (by decide) (fun c_75 => ?_) (fun c_75 => ?_)
              · exact absurd c_75 (by decide)
              · refine lv_iconst (v := 1) hx hb dX5_exact_78 (by decide) ?_
                refine lv_goto (tgt := 83) hx hb dX5_exact_79 (by decide) ?_
                refine r_put (C := RX5) (T := TX5) (ws' := MW a cI s0 s1 a2 a3 a4 a5 a6 a7 a8 a9 s10 s11 s12 a13 a14 a15 a16 a17 a18 a19 a20 a21 1) hx hb hts i5 tyX5 tyX5_ok nmX5 hown hw 0 rfl rfl 22 (by decide) lk168 rfl (by decide +kernel) (Nat.le_of_ble_eq_true rfl) (MW_s22 _) dX5_exact_83 (fun H locs hw => ?_)
                refine lv_iload hx hb dX5_exact_86 (lv_at hl 0 rfl) ?_
                refine lv_if_eq (tgt := 95) hx hb dX5_exact_88 (by decide) (fun c_88 => ?_) (fun c_88 => ?_)
                · exact absurd c_88 (by decide)
                · refine lv_lconst (v := 0) hx hb dX5_exact_91 (by decide) ?_
                  refine lv_goto (tgt := 97) hx hb dX5_exact_92 (by decide) ?_
                  have e9 : f5_exact p1 p2 = (0, 1) := by unfold f5_exact; rw [if_neg c_8, if_neg c_14, if_pos c_30, if_neg c_38, if_pos c_54, if_pos c_62]
                  exact r_lret hx hb hr hlocks hw ⟨by rw [e9] <;> rfl, by rw [e9] <;> rfl⟩ dX5_exact_97
        · refine lv_lload_n hx hb dX5_exact_41 rfl (lv_at hl 3 rfl) ?_
          refine lv_ldc2 (v := (-9223372036854775808)) hx hb hown ci173 dX5_exact_42 ?_
          refine W.lcmp hx hb dX5_exact_45 ?_
          refine lv_if_eq (tgt := 65) hx hb dX5_exact_46 (by decide) (fun c_46 => ?_) (fun c_46 => ?_)
          · refine lv_iconst (v := 1) hx hb dX5_exact_65 (by decide) ?_
            refine lv_goto (tgt := 70) hx hb dX5_exact_66 (by decide) ?_
            refine lv_istore (lv' := [(7, .int (1)), (5, .long (p1 * p2)), (0, .ref (a 0)), (1, .long (p1)), (3, .long (p2))]) hx hb dX5_exact_70 hl (by decide) rfl (fun ls hl => ?_)
            refine lv_aload_n hx hb dX5_exact_72 rfl (lv_at hl 2 rfl) ?_
            refine lv_iload hx hb dX5_exact_73 (lv_at hl 0 rfl) ?_
            refine lv_if_eq (tgt := 82) hx hb dX5_exact_75 (by decide) (fun c_75 => ?_) (fun c_75 => ?_)
            · exact absurd c_75 (by decide)
            · refine lv_iconst (v := 1) hx hb dX5_exact_78 (by decide) ?_
              refine lv_goto (tgt := 83) hx hb dX5_exact_79 (by decide) ?_
              refine r_put (C := RX5) (T := TX5) (ws' := MW a cI s0 s1 a2 a3 a4 a5 a6 a7 a8 a9 s10 s11 s12 a13 a14 a15 a16 a17 a18 a19 a20 a21 1) hx hb hts i5 tyX5 tyX5_ok nmX5 hown hw 0 rfl rfl 22 (by decide) lk168 rfl (by decide +kernel) (Nat.le_of_ble_eq_true rfl) (MW_s22 _) dX5_exact_83 (fun H locs hw => ?_)
              refine lv_iload hx hb dX5_exact_86 (lv_at hl 0 rfl) ?_
              refine lv_if_eq (tgt := 95) hx hb dX5_exact_88 (by decide) (fun c_88 => ?_) (fun c_88 => ?_)
              · exact absurd c_88 (by decide)
              · refine lv_lconst (v := 0) hx hb dX5_exact_91 (by decide) ?_
                refine lv_goto (tgt := 97) hx hb dX5_exact_92 (by decide) ?_
                have e9 : f5_exact p1 p2 = (0, 1) := by unfold f5_exact; rw [if_neg c_8, if_neg c_14, if_pos c_30, if_pos c_38, if_pos c_46]
                exact r_lret hx hb hr hlocks hw ⟨by rw [e9] <;> rfl, by rw [e9] <;> rfl⟩ dX5_exact_97
          · refine lv_lload_n hx hb dX5_exact_49 rfl (lv_at hl 3 rfl) ?_
            refine lv_ldc2 (v := (-1)) hx hb hown ci171 dX5_exact_50 ?_
            refine W.lcmp hx hb dX5_exact_53 ?_
            refine lv_if_ne (tgt := 69) hx hb dX5_exact_54 (by decide) (fun c_54 => ?_) (fun c_54 => ?_)
            · refine lv_iconst (v := 0) hx hb dX5_exact_69 (by decide) ?_
              refine lv_istore (lv' := [(7, .int (0)), (5, .long (p1 * p2)), (0, .ref (a 0)), (1, .long (p1)), (3, .long (p2))]) hx hb dX5_exact_70 hl (by decide) rfl (fun ls hl => ?_)
              refine lv_aload_n hx hb dX5_exact_72 rfl (lv_at hl 2 rfl) ?_
              refine lv_iload hx hb dX5_exact_73 (lv_at hl 0 rfl) ?_
              refine lv_if_eq (tgt := 82) hx hb dX5_exact_75 (by decide) (fun c_75 => ?_) (fun c_75 => ?_)
              · refine lv_iconst (v := 0) hx hb dX5_exact_82 (by decide) ?_
                refine r_put (C := RX5) (T := TX5) (ws' := MW a cI s0 s1 a2 a3 a4 a5 a6 a7 a8 a9 s10 s11 s12 a13 a14 a15 a16 a17 a18 a19 a20 a21 0) hx hb hts i5 tyX5 tyX5_ok nmX5 hown hw 0 rfl rfl 22 (by decide) lk168 rfl (by decide +kernel) (Nat.le_of_ble_eq_true rfl) (MW_s22 _) dX5_exact_83 (fun H locs hw => ?_)
                refine lv_iload hx hb dX5_exact_86 (lv_at hl 0 rfl) ?_
                refine lv_if_eq (tgt := 95) hx hb dX5_exact_88 (by decide) (fun c_88 => ?_) (fun c_88 => ?_)
                · refine lv_lload hx hb dX5_exact_95 (lv_at hl 1 rfl) ?_
                  have e9 : f5_exact p1 p2 = (p1 * p2, 0) := by unfold f5_exact; rw [if_neg c_8, if_neg c_14, if_pos c_30, if_pos c_38, if_neg c_46, if_neg c_54]
                  exact r_lret hx hb hr hlocks hw ⟨by rw [e9] <;> rfl, by rw [e9] <;> rfl⟩ dX5_exact_97
                · exact absurd c_88 (by decide)
              · exact absurd c_75 (by decide)
            · refine lv_lload_n hx hb dX5_exact_57 rfl (lv_at hl 2 rfl) ?_
              refine lv_ldc2 (v := (-9223372036854775808)) hx hb hown ci173 dX5_exact_58 ?_
              refine W.lcmp hx hb dX5_exact_61 ?_
              refine lv_if_ne (tgt := 69) hx hb dX5_exact_62 (by decide) (fun c_62 => ?_) (fun c_62 => ?_)
              · refine lv_iconst (v := 0) hx hb dX5_exact_69 (by decide) ?_
                refine lv_istore (lv' := [(7, .int (0)), (5, .long (p1 * p2)), (0, .ref (a 0)), (1, .long (p1)), (3, .long (p2))]) hx hb dX5_exact_70 hl (by decide) rfl (fun ls hl => ?_)
                refine lv_aload_n hx hb dX5_exact_72 rfl (lv_at hl 2 rfl) ?_
                refine lv_iload hx hb dX5_exact_73 (lv_at hl 0 rfl) ?_
                refine lv_if_eq (tgt := 82) hx hb dX5_exact_75 (by decide) (fun c_75 => ?_) (fun c_75 => ?_)
                · refine lv_iconst (v := 0) hx hb dX5_exact_82 (by decide) ?_
                  refine r_put (C := RX5) (T := TX5) (ws' := MW a cI s0 s1 a2 a3 a4 a5 a6 a7 a8 a9 s10 s11 s12 a13 a14 a15 a16 a17 a18 a19 a20 a21 0) hx hb hts i5 tyX5 tyX5_ok nmX5 hown hw 0 rfl rfl 22 (by decide) lk168 rfl (by decide +kernel) (Nat.le_of_ble_eq_true rfl) (MW_s22 _) dX5_exact_83 (fun H locs hw => ?_)
                  refine lv_iload hx hb dX5_exact_86 (lv_at hl 0 rfl) ?_
                  refine lv_if_eq (tgt := 95) hx hb dX5_exact_88 (by decide) (fun c_88 => ?_) (fun c_88 => ?_)
                  · refine lv_lload hx hb dX5_exact_95 (lv_at hl 1 rfl) ?_
                    have e9 : f5_exact p1 p2 = (p1 * p2, 0) := by unfold f5_exact; rw [if_neg c_8, if_neg c_14, if_pos c_30, if_pos c_38, if_neg c_46, if_pos c_54, if_neg c_62]
                    exact r_lret hx hb hr hlocks hw ⟨by rw [e9] <;> rfl, by rw [e9] <;> rfl⟩ dX5_exact_97
                  · exact absurd c_88 (by decide)
                · exact absurd c_75 (by decide)
              · refine lv_iconst (v := 1) hx hb dX5_exact_65 (by decide) ?_
                refine lv_goto (tgt := 70) hx hb dX5_exact_66 (by decide) ?_
                refine lv_istore (lv' := [(7, .int (1)), (5, .long (p1 * p2)), (0, .ref (a 0)), (1, .long (p1)), (3, .long (p2))]) hx hb dX5_exact_70 hl (by decide) rfl (fun ls hl => ?_)
                refine lv_aload_n hx hb dX5_exact_72 rfl (lv_at hl 2 rfl) ?_
                refine lv_iload hx hb dX5_exact_73 (lv_at hl 0 rfl) ?_
                refine lv_if_eq (tgt := 82) hx hb dX5_exact_75 (by decide) (fun c_75 => ?_) (fun c_75 => ?_)
                · exact absurd c_75 (by decide)
                · refine lv_iconst (v := 1) hx hb dX5_exact_78 (by decide) ?_
                  refine lv_goto (tgt := 83) hx hb dX5_exact_79 (by decide) ?_
                  refine r_put (C := RX5) (T := TX5) (ws' := MW a cI s0 s1 a2 a3 a4 a5 a6 a7 a8 a9 s10 s11 s12 a13 a14 a15 a16 a17 a18 a19 a20 a21 1) hx hb hts i5 tyX5 tyX5_ok nmX5 hown hw 0 rfl rfl 22 (by decide) lk168 rfl (by decide +kernel) (Nat.le_of_ble_eq_true rfl) (MW_s22 _) dX5_exact_83 (fun H locs hw => ?_)
                  refine lv_iload hx hb dX5_exact_86 (lv_at hl 0 rfl) ?_
                  refine lv_if_eq (tgt := 95) hx hb dX5_exact_88 (by decide) (fun c_88 => ?_) (fun c_88 => ?_)
                  · exact absurd c_88 (by decide)
                  · refine lv_lconst (v := 0) hx hb dX5_exact_91 (by decide) ?_
                    refine lv_goto (tgt := 97) hx hb dX5_exact_92 (by decide) ?_
                    have e9 : f5_exact p1 p2 = (0, 1) := by unfold f5_exact; rw [if_neg c_8, if_neg c_14, if_pos c_30, if_pos c_38, if_neg c_46, if_pos c_54, if_pos c_62]
                    exact r_lret hx hb hr hlocks hw ⟨by rw [e9] <;> rfl, by rw [e9] <;> rfl⟩ dX5_exact_97
    · refine lv_lconst (v := 0) hx hb dX5_exact_17 (by decide) ?_
      have e9 : f5_exact p1 p2 = (0, 0) := by unfold f5_exact; rw [if_neg c_8, if_pos c_14]
      exact r_lret hx hb hr hlocks hw ⟨by rw [e9] <;> rfl, by rw [e9] <;> rfl⟩ dX5_exact_18
def f5_told (s0 : Int32) (s1 : Int32) (a6 : Nat → Int32) (a8 : Nat → Int32) (s10 : Int32) (s11 : Int32) (s12 : Int32) (a13 : Nat → Int32) (a14 : Nat → Int32) (a17 : Nat → Int32) (a18 : Nat → Int32) (a19 : Nat → Int32) (a20 : Nat → Int32) (p1 : Int32) : Int32 :=
  if p1 = 0 then s0
  else if p1 = 1 then s12
  else if p1 = 2 then f5_manyOf s12 a17 0
  else if p1 = 3 then f5_manyOf s12 a17 1
  else if p1 = 4 then f5_liveSizes s12 a13 a14 a17 (-109)
  else if p1 = 5 then f5_held s12 a18 a19 a20
  else if p1 = 6 then s10
  else if p1 = 7 then f5_allCoins a6 a8 s10 s12 a18 a19 a20
  else if p1 = 8 then s1
  else if p1 = 9 then s11
  else (-102)
set_option maxHeartbeats 4000000 in
set_option maxRecDepth 100000 in
theorem k5_told (l : Launch) (D : va_G) (ty : List (ClassId × FieldType)) (a : Nat → Nat) (cI : ClassId) (ht0 : ty[0]? = some (cI, .int)) (s0 : Int32) (s1 : Int32) (a2 : Nat → Int32) (a3 : Nat → Int32) (a4 : Nat → Int32) (a5 : Nat → Int32) (a6 : Nat → Int32) (a7 : Nat → Int32) (a8 : Nat → Int32) (a9 : Nat → Int32) (s10 : Int32) (s11 : Int32) (s12 : Int32) (a13 : Nat → Int32) (a14 : Nat → Int32) (a15 : Nat → Int32) (a16 : Nat → Int32) (a17 : Nat → Int32) (a18 : Nat → Int32) (a19 : Nat → Int32) (a20 : Nat → Int32) (a21 : Nat → Int32) (s22 : Int32) (p1 : Int32) (hob : s12 = nI (tn s12)) (hob2 : tn s12 ≤ 60) (hlk : ∀ x, x < tn s12 → a18 x = nI (tn (a18 x)) ∧ tn (a18 x) ≤ 16) : MetG l yX5_told wsX5_told { frames := 3, cells := 0, slots := 0, locals := 67 } D ty [.ref (a 0), .int (p1)] (MW a cI s0 s1 a2 a3 a4 a5 a6 a7 a8 a9 s10 s11 s12 a13 a14 a15 a16 a17 a18 a19 a20 a21 s22) (va_Qi (fun r w => r = f5_told s0 s1 a6 a8 s10 s11 s12 a13 a14 a17 a18 a19 a20 p1 ∧ w = MW a cI s0 s1 a2 a3 a4 a5 a6 a7 a8 a9 s10 s11 s12 a13 a14 a15 a16 a17 a18 a19 a20 a21 s22)) 0 0 := by
  refine Met_start cX5_told 2 (some .int) (by decide) rfl (Nat.le_of_ble_eq_true rfl) ?_
  intro p e s m below meth c A ls hx hb hr hlocks hml hnm hts hown hw hl
  have hl : lv_has ls 2 [(0, .ref (a 0)), (1, .int (p1))] := hl
  have i5 : ∀ w ∈ wsX50, w ∈ wsX5_told := fun _ h => List.mem_cons_of_mem _ (List.mem_append_right _ h)
  have lk64 := hts (.fieldLink RX5 64 "RentSizesModel" "height" "I") (by decide +kernel)
  have lk78 := hts (.fieldLink RX5 78 "RentSizesModel" "objects" "I") (by decide +kernel)
  have lk72 := hts (.fieldLink RX5 72 "RentSizesModel" "pool" "I") (by decide +kernel)
  have lk68 := hts (.fieldLink RX5 68 "RentSizesModel" "editions" "I") (by decide +kernel)
  have lk75 := hts (.fieldLink RX5 75 "RentSizesModel" "paidOut" "I") (by decide +kernel)
  refine lv_iload_n hx hb dX5_told_0 rfl (lv_at hl 1 rfl) ?_
  by_cases c_1_0 : p1 = 0
  · refine lv_tableIn (off := 55) (tgt := 56) hx hb dX5_told_1 (by rw [c_1_0]; decide) (by rw [c_1_0]; decide) (by rw [c_1_0]; rfl) (by decide) ?_
    refine lv_aload_n hx hb dX5_told_56 rfl (lv_at hl 0 rfl) ?_
    refine r_get (C := RX5) (T := TX5) (v := .int (s0)) hx hb hts i5 hown hw 0 rfl rfl 0 (by decide) lk64 rfl dX5_told_57 ?_
    have e9 : f5_told s0 s1 a6 a8 s10 s11 s12 a13 a14 a17 a18 a19 a20 p1 = s0 := by unfold f5_told; rw [if_pos c_1_0]
    exact r_iret hx hb hr hlocks hw ⟨by rw [e9] <;> rfl, rfl⟩ dX5_told_60
  by_cases c_1_1 : p1 = 1
  · refine lv_tableIn (off := 60) (tgt := 61) hx hb dX5_told_1 (by rw [c_1_1]; decide) (by rw [c_1_1]; decide) (by rw [c_1_1]; rfl) (by decide) ?_
    refine lv_aload_n hx hb dX5_told_61 rfl (lv_at hl 0 rfl) ?_
    refine r_get (C := RX5) (T := TX5) (v := .int (s12)) hx hb hts i5 hown hw 0 rfl rfl 12 (by decide) lk78 rfl dX5_told_62 ?_
    have e9 : f5_told s0 s1 a6 a8 s10 s11 s12 a13 a14 a17 a18 a19 a20 p1 = s12 := by unfold f5_told; rw [if_neg c_1_0, if_pos c_1_1]
    exact r_iret hx hb hr hlocks hw ⟨by rw [e9] <;> rfl, rfl⟩ dX5_told_65
  by_cases c_1_2 : p1 = 2
  · refine lv_tableIn (off := 65) (tgt := 66) hx hb dX5_told_1 (by rw [c_1_2]; decide) (by rw [c_1_2]; decide) (by rw [c_1_2]; rfl) (by decide) ?_
    refine lv_aload_n hx hb dX5_told_66 rfl (lv_at hl 0 rfl) ?_
    refine lv_iconst (v := 0) hx hb dX5_told_67 (by decide) ?_
    refine r_callVi 0 rfl rfl (rest := []) ⟨hx, hb, hml, hown, hts⟩ hw [.int (0)] (k5_manyOf l D ty a cI ht0 s0 s1 a2 a3 a4 a5 a6 a7 a8 a9 s10 s11 s12 a13 a14 a15 a16 a17 a18 a19 a20 a21 s22 0 (by first | assumption | omega) (by first | assumption | omega)) (cwV 1 hts gX5_told_X5_manyOf rfl rfl rfl (by decide +kernel) ⟨Nat.le_of_ble_eq_true rfl, Nat.le_of_ble_eq_true rfl⟩) rfl hl.1 rfl (Nat.le_of_ble_eq_true rfl) dX5_told_68 ⟨Nat.le_of_ble_eq_true rfl, Nat.le_of_ble_eq_true rfl⟩ (fun r w H locs hp hw => ?_)
    obtain ⟨rfl, rfl⟩ := hp
    have e9 : f5_told s0 s1 a6 a8 s10 s11 s12 a13 a14 a17 a18 a19 a20 p1 = f5_manyOf s12 a17 0 := by unfold f5_told; rw [if_neg c_1_0, if_neg c_1_1, if_pos c_1_2]
    exact r_iret hx hb hr hlocks hw ⟨by rw [e9] <;> rfl, rfl⟩ dX5_told_71
  by_cases c_1_3 : p1 = 3
  · refine lv_tableIn (off := 71) (tgt := 72) hx hb dX5_told_1 (by rw [c_1_3]; decide) (by rw [c_1_3]; decide) (by rw [c_1_3]; rfl) (by decide) ?_
    refine lv_aload_n hx hb dX5_told_72 rfl (lv_at hl 0 rfl) ?_
    refine lv_iconst (v := 1) hx hb dX5_told_73 (by decide) ?_
    refine r_callVi 0 rfl rfl (rest := []) ⟨hx, hb, hml, hown, hts⟩ hw [.int (1)] (k5_manyOf l D ty a cI ht0 s0 s1 a2 a3 a4 a5 a6 a7 a8 a9 s10 s11 s12 a13 a14 a15 a16 a17 a18 a19 a20 a21 s22 1 (by first | assumption | omega) (by first | assumption | omega)) (cwV 1 hts gX5_told_X5_manyOf rfl rfl rfl (by decide +kernel) ⟨Nat.le_of_ble_eq_true rfl, Nat.le_of_ble_eq_true rfl⟩) rfl hl.1 rfl (Nat.le_of_ble_eq_true rfl) dX5_told_74 ⟨Nat.le_of_ble_eq_true rfl, Nat.le_of_ble_eq_true rfl⟩ (fun r w H locs hp hw => ?_)
    obtain ⟨rfl, rfl⟩ := hp
    have e9 : f5_told s0 s1 a6 a8 s10 s11 s12 a13 a14 a17 a18 a19 a20 p1 = f5_manyOf s12 a17 1 := by unfold f5_told; rw [if_neg c_1_0, if_neg c_1_1, if_neg c_1_2, if_pos c_1_3]
    exact r_iret hx hb hr hlocks hw ⟨by rw [e9] <;> rfl, rfl⟩ dX5_told_77
  by_cases c_1_4 : p1 = 4
  · refine lv_tableIn (off := 77) (tgt := 78) hx hb dX5_told_1 (by rw [c_1_4]; decide) (by rw [c_1_4]; decide) (by rw [c_1_4]; rfl) (by decide) ?_
    refine lv_aload_n hx hb dX5_told_78 rfl (lv_at hl 0 rfl) ?_
    refine lv_bipush (v := (-109)) hx hb dX5_told_79 (by decide) ?_
    refine r_callVi 0 rfl rfl (rest := []) ⟨hx, hb, hml, hown, hts⟩ hw [.int ((-109))] (k5_liveSizes l D ty a cI ht0 s0 s1 a2 a3 a4 a5 a6 a7 a8 a9 s10 s11 s12 a13 a14 a15 a16 a17 a18 a19 a20 a21 s22 (-109) (by first | assumption | omega) (by first | assumption | omega)) (cwV 1 hts gX5_told_X5_liveSizes rfl rfl rfl (by decide +kernel) ⟨Nat.le_of_ble_eq_true rfl, Nat.le_of_ble_eq_true rfl⟩) rfl hl.1 rfl (Nat.le_of_ble_eq_true rfl) dX5_told_81 ⟨Nat.le_of_ble_eq_true rfl, Nat.le_of_ble_eq_true rfl⟩ (fun r w H locs hp hw => ?_)
    obtain ⟨rfl, rfl⟩ := hp
    have e9 : f5_told s0 s1 a6 a8 s10 s11 s12 a13 a14 a17 a18 a19 a20 p1 = f5_liveSizes s12 a13 a14 a17 (-109) := by unfold f5_told; rw [if_neg c_1_0, if_neg c_1_1, if_neg c_1_2, if_neg c_1_3, if_pos c_1_4]
    exact r_iret hx hb hr hlocks hw ⟨by rw [e9] <;> rfl, rfl⟩ dX5_told_84
  by_cases c_1_5 : p1 = 5
  · refine lv_tableIn (off := 84) (tgt := 85) hx hb dX5_told_1 (by rw [c_1_5]; decide) (by rw [c_1_5]; decide) (by rw [c_1_5]; rfl) (by decide) ?_
    refine lv_aload_n hx hb dX5_told_85 rfl (lv_at hl 0 rfl) ?_
    refine r_callVi 0 rfl rfl (rest := []) ⟨hx, hb, hml, hown, hts⟩ hw [] (k5_held l D ty a cI ht0 s0 s1 a2 a3 a4 a5 a6 a7 a8 a9 s10 s11 s12 a13 a14 a15 a16 a17 a18 a19 a20 a21 s22 (by first | assumption | omega) (by first | assumption | omega) (by first | assumption | omega)) (cwV 0 hts gX5_told_X5_held rfl rfl rfl (by decide +kernel) ⟨Nat.le_of_ble_eq_true rfl, Nat.le_of_ble_eq_true rfl⟩) rfl hl.1 rfl (Nat.le_of_ble_eq_true rfl) dX5_told_86 ⟨Nat.le_of_ble_eq_true rfl, Nat.le_of_ble_eq_true rfl⟩ (fun r w H locs hp hw => ?_)
    obtain ⟨rfl, rfl⟩ := hp
    have e9 : f5_told s0 s1 a6 a8 s10 s11 s12 a13 a14 a17 a18 a19 a20 p1 = f5_held s12 a18 a19 a20 := by unfold f5_told; rw [if_neg c_1_0, if_neg c_1_1, if_neg c_1_2, if_neg c_1_3, if_neg c_1_4, if_pos c_1_5]
    exact r_iret hx hb hr hlocks hw ⟨by rw [e9] <;> rfl, rfl⟩ dX5_told_89
  by_cases c_1_6 : p1 = 6
  · refine lv_tableIn (off := 89) (tgt := 90) hx hb dX5_told_1 (by rw [c_1_6]; decide) (by rw [c_1_6]; decide) (by rw [c_1_6]; rfl) (by decide) ?_
    refine lv_aload_n hx hb dX5_told_90 rfl (lv_at hl 0 rfl) ?_
    refine r_get (C := RX5) (T := TX5) (v := .int (s10)) hx hb hts i5 hown hw 0 rfl rfl 10 (by decide) lk72 rfl dX5_told_91 ?_
    have e9 : f5_told s0 s1 a6 a8 s10 s11 s12 a13 a14 a17 a18 a19 a20 p1 = s10 := by unfold f5_told; rw [if_neg c_1_0, if_neg c_1_1, if_neg c_1_2, if_neg c_1_3, if_neg c_1_4, if_neg c_1_5, if_pos c_1_6]
    exact r_iret hx hb hr hlocks hw ⟨by rw [e9] <;> rfl, rfl⟩ dX5_told_94
  by_cases c_1_7 : p1 = 7
  · refine lv_tableIn (off := 94) (tgt := 95) hx hb dX5_told_1 (by rw [c_1_7]; decide) (by rw [c_1_7]; decide) (by rw [c_1_7]; rfl) (by decide) ?_
    refine lv_aload_n hx hb dX5_told_95 rfl (lv_at hl 0 rfl) ?_
    refine r_callVi 0 rfl rfl (rest := []) ⟨hx, hb, hml, hown, hts⟩ hw [] (k5_allCoins l D ty a cI ht0 s0 s1 a2 a3 a4 a5 a6 a7 a8 a9 s10 s11 s12 a13 a14 a15 a16 a17 a18 a19 a20 a21 s22 (by first | assumption | omega) (by first | assumption | omega) (by first | assumption | omega)) (cwV 0 hts gX5_told_X5_allCoins rfl rfl rfl (by decide +kernel) ⟨Nat.le_of_ble_eq_true rfl, Nat.le_of_ble_eq_true rfl⟩) rfl hl.1 rfl (Nat.le_of_ble_eq_true rfl) dX5_told_96 ⟨Nat.le_of_ble_eq_true rfl, Nat.le_of_ble_eq_true rfl⟩ (fun r w H locs hp hw => ?_)
    obtain ⟨rfl, rfl⟩ := hp
    have e9 : f5_told s0 s1 a6 a8 s10 s11 s12 a13 a14 a17 a18 a19 a20 p1 = f5_allCoins a6 a8 s10 s12 a18 a19 a20 := by unfold f5_told; rw [if_neg c_1_0, if_neg c_1_1, if_neg c_1_2, if_neg c_1_3, if_neg c_1_4, if_neg c_1_5, if_neg c_1_6, if_pos c_1_7]
    exact r_iret hx hb hr hlocks hw ⟨by rw [e9] <;> rfl, rfl⟩ dX5_told_99
  by_cases c_1_8 : p1 = 8
  · refine lv_tableIn (off := 99) (tgt := 100) hx hb dX5_told_1 (by rw [c_1_8]; decide) (by rw [c_1_8]; decide) (by rw [c_1_8]; rfl) (by decide) ?_
    refine lv_aload_n hx hb dX5_told_100 rfl (lv_at hl 0 rfl) ?_
    refine r_get (C := RX5) (T := TX5) (v := .int (s1)) hx hb hts i5 hown hw 0 rfl rfl 1 (by decide) lk68 rfl dX5_told_101 ?_
    have e9 : f5_told s0 s1 a6 a8 s10 s11 s12 a13 a14 a17 a18 a19 a20 p1 = s1 := by unfold f5_told; rw [if_neg c_1_0, if_neg c_1_1, if_neg c_1_2, if_neg c_1_3, if_neg c_1_4, if_neg c_1_5, if_neg c_1_6, if_neg c_1_7, if_pos c_1_8]
    exact r_iret hx hb hr hlocks hw ⟨by rw [e9] <;> rfl, rfl⟩ dX5_told_104
  by_cases c_1_9 : p1 = 9
  · refine lv_tableIn (off := 104) (tgt := 105) hx hb dX5_told_1 (by rw [c_1_9]; decide) (by rw [c_1_9]; decide) (by rw [c_1_9]; rfl) (by decide) ?_
    refine lv_aload_n hx hb dX5_told_105 rfl (lv_at hl 0 rfl) ?_
    refine r_get (C := RX5) (T := TX5) (v := .int (s11)) hx hb hts i5 hown hw 0 rfl rfl 11 (by decide) lk75 rfl dX5_told_106 ?_
    have e9 : f5_told s0 s1 a6 a8 s10 s11 s12 a13 a14 a17 a18 a19 a20 p1 = s11 := by unfold f5_told; rw [if_neg c_1_0, if_neg c_1_1, if_neg c_1_2, if_neg c_1_3, if_neg c_1_4, if_neg c_1_5, if_neg c_1_6, if_neg c_1_7, if_neg c_1_8, if_pos c_1_9]
    exact r_iret hx hb hr hlocks hw ⟨by rw [e9] <;> rfl, rfl⟩ dX5_told_109
  refine lv_tableOut (tgt := 110) hx hb dX5_told_1 (by have := lv_neT c_1_0 (show (0 : Int32).toInt = 0 from rfl); have := lv_neT c_1_1 (show (1 : Int32).toInt = 1 from rfl); have := lv_neT c_1_2 (show (2 : Int32).toInt = 2 from rfl); have := lv_neT c_1_3 (show (3 : Int32).toInt = 3 from rfl); have := lv_neT c_1_4 (show (4 : Int32).toInt = 4 from rfl); have := lv_neT c_1_5 (show (5 : Int32).toInt = 5 from rfl); have := lv_neT c_1_6 (show (6 : Int32).toInt = 6 from rfl); have := lv_neT c_1_7 (show (7 : Int32).toInt = 7 from rfl); have := lv_neT c_1_8 (show (8 : Int32).toInt = 8 from rfl); have := lv_neT c_1_9 (show (9 : Int32).toInt = 9 from rfl); omega) (by decide) ?_
  refine lv_bipush (v := (-102)) hx hb dX5_told_110 (by decide) ?_
  have e9 : f5_told s0 s1 a6 a8 s10 s11 s12 a13 a14 a17 a18 a19 a20 p1 = (-102) := by unfold f5_told; rw [if_neg c_1_0, if_neg c_1_1, if_neg c_1_2, if_neg c_1_3, if_neg c_1_4, if_neg c_1_5, if_neg c_1_6, if_neg c_1_7, if_neg c_1_8, if_neg c_1_9]
  exact r_iret hx hb hr hlocks hw ⟨by rw [e9] <;> rfl, rfl⟩ dX5_told_112
