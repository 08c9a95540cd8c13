section ALD
variable {p : Program} {l : Launch} {e : Env} {R : Room} {s : State} {m : MethodId} {args : Array Value} {below : List Frame} {meth : Method} {c : Code} {H : Heap} {locs : List Loc} {cells slots : Nat} {Q : State → Prop}
variable {cc : ByteArray} {pc : Nat} {ls : Array Slot} {rest : List Value} {D : va_G} {A : Nat → Prop} {ty : List (ClassId × FieldType)} {H0 : Heap}
theorem r_aldI (hexec : p.tables.exec = Jvm.exec) (hb : c.code = cc) {a : Nat → Nat} {b : Nat → Nat → Nat} {n : Nat} {cI cO : ClassId} {c0 : Nat → Int32} {c1 : Nat → Int32} {c2 : Nat → Int32} {c3 : Nat → Int32} {u4 : Int32} {c5 : Nat → Int32} {c6 : Nat → Int32} {c7 : Nat → Int32} {u8 : Int32} {u9 : Int32} {u10 : Int32} {c11 : Nat → Int32} {u12 : Int32} {u13 : Int32} {I : Nat → Nat → Nat → Int32} (hw : Wd D ty A H0 s (CW a b n cI cO c0 c1 c2 c3 u4 c5 c6 c7 u8 u9 u10 c11 u12 u13 I) H locs) (ht1 : ty[1]? = some (cO, .object "RentSizes$Item")) (i : Nat) (hi : i < n) (hn : n ≤ 60) (hdg : decode cc pc = .ok (.aaload, 1))
    (kk : W p l e R s m args below meth c H locs cells slots Q (F0 m (pc + 1) ls (.ref (b i 0) :: rest))) : W p l e R s m args below meth c H locs cells slots Q (F0 m pc ls (.int (nI i) :: .ref (a 11) :: rest)) := by
  refine va_aldq hexec hb hw.1 hw.2.1 11 1 (f := CR b n) (n := 60) rfl ht1 (vp_in_nI (by omega) (by decide)) hdg ?_
  rw [nI_clamp (by omega), CR, if_pos hi]
  exact kk
end ALD
theorem wi_i {p lo hi : Int32} (h : ¬ f4_within p lo hi = 0) : lo.toInt ≤ p.toInt ∧ p.toInt ≤ hi.toInt := by
  unfold f4_within at h
  by_cases h1 : p < lo
  · rw [if_pos h1] at h; exact absurd rfl h
  · rw [if_neg h1] at h
    by_cases h2 : hi < p
    · rw [if_pos h2] at h; exact absurd rfl h
    · rw [Int32.lt_iff_toInt_lt] at h1 h2; omega
theorem wi_nat {p lo hi : Int32} (x y : Nat) (h : ¬ f4_within p lo hi = 0) (hlo : lo.toInt = x) (hhi : hi.toInt = y) : ∃ t : Nat, (x ≤ t ∧ t ≤ y) ∧ p = nI t := by
  have := wi_i h
  obtain ⟨t, ht, e⟩ := nat_of_in (p := p) (a := x) (b := y) (by omega) (by omega) (by omega)
  exact ⟨t, ⟨by omega, by omega⟩, e⟩
theorem wi_vp {p hi : Int32} (k : Nat) (h : ¬ f4_within p 0 hi = 0) (hhi : hi.toInt + 1 = k) : vp_in p k := by
  have := wi_i h
  have e : (0 : Int32).toInt = 0 := rfl
  rw [vp_in_iff]; omega
theorem fi_in {p u12 : Int32} {n : Nat} (h : ¬ f4_within p 0 (u12 - 1) = 0) (h0 : u12 = nI (tn u12)) (h1 : tn u12 ≤ n) (h2 : n ≤ 60) : ∃ i : Nat, i < tn u12 ∧ p = nI i := by
  have q := wi_i h
  have e2 := nI_sub1_toInt (n := tn u12) (by omega)
  rw [← h0] at e2
  rw [e2] at q
  have e : (0 : Int32).toInt = 0 := rfl
  obtain ⟨t, ht, e⟩ := nat_of_in (p := p) (a := 0) (b := (tn u12 : Int) - 1) (by omega) (by omega) (by omega)
  exact ⟨t, by omega, e⟩
set_option maxHeartbeats 4000000 in
set_option maxRecDepth 100000 in
theorem k4_find (l : Launch) (D : va_G) (ty : List (ClassId × FieldType)) (a : Nat → Nat) (b : Nat → Nat → Nat) (n : Nat) (cI cO : ClassId) (ht0 : ty[0]? = some (cI, .int)) (ht1 : ty[1]? = some (cO, .object "RentSizes$Item")) (c0 : Nat → Int32) (c1 : Nat → Int32) (c2 : Nat → Int32) (c3 : Nat → Int32) (u4 : Int32) (c5 : Nat → Int32) (c6 : Nat → Int32) (c7 : Nat → Int32) (u8 : Int32) (u9 : Int32) (u10 : Int32) (c11 : Nat → Int32) (u12 : Int32) (u13 : Int32) (I : Nat → Nat → Nat → Int32) (p1 : Int32) (hob : u12 = nI (tn u12)) (hob2 : tn u12 ≤ n) (hn60 : n ≤ 60) : MetG l yX4_find wsX4_find { frames := 1, cells := 0, slots := 0, locals := 22 } D ty [.ref (a 0), .int p1] (CW a b n cI cO c0 c1 c2 c3 u4 c5 c6 c7 u8 u9 u10 c11 u12 u13 I) (va_Qq (fun r w => r = (if f4_within p1 0 (u12 - 1) = 0 then none else some (b (tn p1) 0)) ∧ w = CW a b n cI cO c0 c1 c2 c3 u4 c5 c6 c7 u8 u9 u10 c11 u12 u13 I)) 0 0 := by
  refine Met_start cX4_find 2 (some (.object "RentSizes$Item")) (by decide) rfl (Nat.le_of_ble_eq_true rfl) ?_
  intro p e s m below meth c A ls hx hb hr hlocks hml hnm hts hown hw hl
  have hl : lv_has ls 2 [(0, .ref (a 0)), (1, .int (p1))] := hl
  have i4 : ∀ w ∈ wsX40, w ∈ wsX4_find := fun _ h => List.mem_cons_of_mem _ (List.mem_append_right _ h)
  have lkm := hts (.fieldLink RX4 92 "RentSizes" "made" "I") (by decide +kernel)
  have lki := hts (.fieldLink RX4 29 "RentSizes" "items" "[LRentSizes$Item;") (by decide +kernel)
  refine lv_iload_n hx hb dX4_find_0 rfl (lv_at hl 1 rfl) ?_
  refine lv_iconst (v := 0) hx hb dX4_find_1 (by decide) ?_
  refine lv_aload_n hx hb dX4_find_2 rfl (lv_at hl 0 rfl) ?_
  refine r_get (C := RX4) (T := TX4) (v := .int (u12)) hx hb hts i4 hown hw 0 rfl rfl 4 (by decide) lkm rfl dX4_find_3 ?_
  refine lv_iconst (v := 1) hx hb dX4_find_6 (by decide) ?_
  refine lv_isub hx hb dX4_find_7 ?_
  refine r_callSi (rest := []) ⟨hx, hb, hml, hown, hts⟩ hw [.int (p1), .int (0), .int (u12 - 1)] (k4_within l D ty a b n cI cO ht0 ht1 c0 c1 c2 c3 u4 c5 c6 c7 u8 u9 u10 c11 u12 u13 I p1 0 (u12 - 1)) (va_cwS 3 hts gX4_find_X4_within rfl rfl rfl (by decide +kernel) ⟨Nat.le_of_ble_eq_true rfl, Nat.le_of_ble_eq_true rfl⟩) rfl hl.1 rfl (Nat.le_of_ble_eq_true rfl) dX4_find_8 ⟨Nat.le_of_ble_eq_true rfl, Nat.le_of_ble_eq_true rfl⟩ (fun r w H locs hp hw => ?_)
  obtain ⟨rfl, rfl⟩ := hp
  refine lv_if_eq (tgt := 23) hx hb dX4_find_11 (by decide) (fun c_11 => ?_) (fun c_11 => ?_)
  · refine lv_null hx hb dX4_find_23 ?_
    exact r_aret (v := none) hx hb hr hlocks hw ⟨(if_pos c_11).symm, rfl⟩ dX4_find_24
  · refine lv_aload_n hx hb dX4_find_14 rfl (lv_at hl 0 rfl) ?_
    refine r_get (C := RX4) (T := TX4) (v := .ref (a 11)) hx hb hts i4 hown hw 0 rfl rfl 3 (by decide) lki rfl dX4_find_15 ?_
    refine lv_iload_n hx hb dX4_find_18 rfl (lv_at hl 1 rfl) ?_
    obtain ⟨i, hii, e1⟩ := fi_in c_11 hob hob2 hn60
    refine r_top (nI i) e1 ?_
    refine r_aldI hx hb hw ht1 i (by omega) hn60 dX4_find_19 ?_
    refine lv_goto (tgt := 24) hx hb dX4_find_20 (by decide) ?_
    exact r_aret (v := some (b i 0)) hx hb hr hlocks hw ⟨by rw [if_neg c_11, e1, tn_nI (by omega)], rfl⟩ dX4_find_24
def f4_isAccount (p1 : Int32) : Int32 :=
  f4_within p1 0 5
set_option maxHeartbeats 4000000 in
set_option maxRecDepth 100000 in
theorem k4_isAccount (l : Launch) (D : va_G) (ty : List (ClassId × FieldType)) (a : Nat → Nat) (b : Nat → Nat → Nat) (n : Nat) (cI cO : ClassId) (ht0 : ty[0]? = some (cI, .int)) (ht1 : ty[1]? = some (cO, .object "RentSizes$Item")) (c0 : Nat → Int32) (c1 : Nat → Int32) (c2 : Nat → Int32) (c3 : Nat → Int32) (u4 : Int32) (c5 : Nat → Int32) (c6 : Nat → Int32) (c7 : Nat → Int32) (u8 : Int32) (u9 : Int32) (u10 : Int32) (c11 : Nat → Int32) (u12 : Int32) (u13 : Int32) (I : Nat → Nat → Nat → Int32) (p1 : Int32) : MetG l yX4_isAccount wsX4_isAccount { frames := 1, cells := 0, slots := 0, locals := 22 } D ty [.int (p1)] (CW a b n cI cO c0 c1 c2 c3 u4 c5 c6 c7 u8 u9 u10 c11 u12 u13 I) (va_Qi (fun r w => r = f4_isAccount p1 ∧ w = CW a b n cI cO c0 c1 c2 c3 u4 c5 c6 c7 u8 u9 u10 c11 u12 u13 I)) 0 0 := by
  refine Met_start cX4_isAccount 1 (some .boolean) (by decide) rfl (Nat.le_of_ble_eq_true rfl) ?_
  intro p e s m below meth c A ls hx hb hr hlocks hml hnm hts hown hw hl
  have hl : lv_has ls 1 [(0, .int (p1))] := hl
  refine lv_iload_n hx hb dX4_isAccount_0 rfl (lv_at hl 0 rfl) ?_
  refine lv_iconst (v := 0) hx hb dX4_isAccount_1 (by decide) ?_
  refine lv_iconst (v := 5) hx hb dX4_isAccount_2 (by decide) ?_
  refine r_callSi (rest := []) ⟨hx, hb, hml, hown, hts⟩ hw [.int (p1), .int (0), .int (5)] (k4_within l D ty a b n cI cO ht0 ht1 c0 c1 c2 c3 u4 c5 c6 c7 u8 u9 u10 c11 u12 u13 I p1 0 5) (va_cwS 3 hts gX4_isAccount_X4_within rfl rfl rfl (by decide +kernel) ⟨Nat.le_of_ble_eq_true rfl, Nat.le_of_ble_eq_true rfl⟩) rfl hl.1 rfl (Nat.le_of_ble_eq_true rfl) dX4_isAccount_3 ⟨Nat.le_of_ble_eq_true rfl, Nat.le_of_ble_eq_true rfl⟩ (fun r w H locs hp hw => ?_)
  obtain ⟨rfl, rfl⟩ := hp
  have e9 : f4_isAccount p1 = f4_within p1 0 5 := by unfold f4_isAccount; rfl
  exact r_zret hx hb hr hlocks wi_b hw ⟨by rw [e9] <;> rfl, rfl⟩ dX4_isAccount_6
def f4_isNode (p1 : Int32) : Int32 :=
  f4_within p1 0 4
set_option maxHeartbeats 4000000 in
set_option maxRecDepth 100000 in
theorem k4_isNode (l : Launch) (D : va_G) (ty : List (ClassId × FieldType)) (a : Nat → Nat) (b : Nat → Nat → Nat) (n : Nat) (cI cO : ClassId) (ht0 : ty[0]? = some (cI, .int)) (ht1 : ty[1]? = some (cO, .object "RentSizes$Item")) (c0 : Nat → Int32) (c1 : Nat → Int32) (c2 : Nat → Int32) (c3 : Nat → Int32) (u4 : Int32) (c5 : Nat → Int32) (c6 : Nat → Int32) (c7 : Nat → Int32) (u8 : Int32) (u9 : Int32) (u10 : Int32) (c11 : Nat → Int32) (u12 : Int32) (u13 : Int32) (I : Nat → Nat → Nat → Int32) (p1 : Int32) : MetG l yX4_isNode wsX4_isNode { frames := 1, cells := 0, slots := 0, locals := 22 } D ty [.int (p1)] (CW a b n cI cO c0 c1 c2 c3 u4 c5 c6 c7 u8 u9 u10 c11 u12 u13 I) (va_Qi (fun r w => r = f4_isNode p1 ∧ w = CW a b n cI cO c0 c1 c2 c3 u4 c5 c6 c7 u8 u9 u10 c11 u12 u13 I)) 0 0 := by
  refine Met_start cX4_isNode 1 (some .boolean) (by decide) rfl (Nat.le_of_ble_eq_true rfl) ?_
  intro p e s m below meth c A ls hx hb hr hlocks hml hnm hts hown hw hl
  have hl : lv_has ls 1 [(0, .int (p1))] := hl
  refine lv_iload_n hx hb dX4_isNode_0 rfl (lv_at hl 0 rfl) ?_
  refine lv_iconst (v := 0) hx hb dX4_isNode_1 (by decide) ?_
  refine lv_iconst (v := 4) hx hb dX4_isNode_2 (by decide) ?_
  refine r_callSi (rest := []) ⟨hx, hb, hml, hown, hts⟩ hw [.int (p1), .int (0), .int (4)] (k4_within l D ty a b n cI cO ht0 ht1 c0 c1 c2 c3 u4 c5 c6 c7 u8 u9 u10 c11 u12 u13 I p1 0 4) (va_cwS 3 hts gX4_isNode_X4_within rfl rfl rfl (by decide +kernel) ⟨Nat.le_of_ble_eq_true rfl, Nat.le_of_ble_eq_true rfl⟩) rfl hl.1 rfl (Nat.le_of_ble_eq_true rfl) dX4_isNode_3 ⟨Nat.le_of_ble_eq_true rfl, Nat.le_of_ble_eq_true rfl⟩ (fun r w H locs hp hw => ?_)
  obtain ⟨rfl, rfl⟩ := hp
  have e9 : f4_isNode p1 = f4_within p1 0 4 := by unfold f4_isNode; rfl
  exact r_zret hx hb hr hlocks wi_b hw ⟨by rw [e9] <;> rfl, rfl⟩ dX4_isNode_6
theorem ia_in {p1 : Int32} (h : ¬ f4_isAccount p1 = 0) : vp_in p1 6 := wi_vp 6 h rfl
theorem in_in {p1 : Int32} (h : ¬ f4_isNode p1 = 0) : vp_in p1 5 := wi_vp 5 h rfl
def f4_chargedSize (c0 : Nat → Int32) (c3 : Nat → Int32) (u4 : Int32) (u13 : Int32) (p1 : Int32) : Int32 :=
  (if p1 < (f0_leastOn c0 c3 u4 u13) then (f0_leastOn c0 c3 u4 u13) else p1)
set_option maxHeartbeats 4000000 in
set_option maxRecDepth 100000 in
theorem k4_chargedSize (l : Launch) (D : va_G) (ty : List (ClassId × FieldType)) (a : Nat → Nat) (b : Nat → Nat → Nat) (n : Nat) (cI cO : ClassId) (ht0 : ty[0]? = some (cI, .int)) (ht1 : ty[1]? = some (cO, .object "RentSizes$Item")) (c0 : Nat → Int32) (c1 : Nat → Int32) (c2 : Nat → Int32) (c3 : Nat → Int32) (u4 : Int32) (c5 : Nat → Int32) (c6 : Nat → Int32) (c7 : Nat → Int32) (u8 : Int32) (u9 : Int32) (u10 : Int32) (c11 : Nat → Int32) (u12 : Int32) (u13 : Int32) (I : Nat → Nat → Nat → Int32) (p1 : Int32) (he0 : u4 = nI (tn u4)) (he1 : tn u4 ≤ 10) (he2 : 1 ≤ tn u4) : MetG l yX4_chargedSize wsX4_chargedSize { frames := 2, cells := 0, slots := 0, locals := 43 } D ty [.ref (a 0), .int (p1)] (CW a b n cI cO c0 c1 c2 c3 u4 c5 c6 c7 u8 u9 u10 c11 u12 u13 I) (va_Qi (fun r w => r = f4_chargedSize c0 c3 u4 u13 p1 ∧ w = CW a b n cI cO c0 c1 c2 c3 u4 c5 c6 c7 u8 u9 u10 c11 u12 u13 I)) 0 0 := by
  refine Met_start cX4_chargedSize 2 (some .int) (by decide) rfl (Nat.le_of_ble_eq_true rfl) ?_
  intro p e s m below meth c A ls hx hb hr hlocks hml hnm hts hown hw hl
  have hl : lv_has ls 2 [(0, .ref (a 0)), (1, .int (p1))] := hl
  have i4 : ∀ w ∈ wsX40, w ∈ wsX4_chargedSize := fun _ h => List.mem_cons_of_mem _ (List.mem_append_left _ (List.mem_append_right _ h))
  have lk10 := hts (.fieldLink RX4 10 "RentSizes" "editions" "LRentSizes$Editions;") (by decide +kernel)
  have lk41 := hts (.fieldLink RX4 41 "RentSizes" "height" "I") (by decide +kernel)
  have mh231 := hts (.methodLink RX4 231 Lib.Math.max.name) (by decide +kernel)
  have ms_max := hts (.static Lib.Math.max.name) (by decide +kernel)
  have mi := hts (.initialized "java/lang/Math") (by decide +kernel)
  have mc_max := hts (.code Lib.Math.max.name Lib.Math.max.code 2 (some .int)) (List.mem_of_getElem? (i := 6) rfl)
  refine lv_iload_n hx hb dX4_chargedSize_0 rfl (lv_at hl 1 rfl) ?_
  refine lv_aload_n hx hb dX4_chargedSize_1 rfl (lv_at hl 0 rfl) ?_
  refine r_get (C := RX4) (T := TX4) (v := .ref (a 1)) hx hb hts i4 hown hw 0 rfl rfl 0 (by decide) lk10 rfl dX4_chargedSize_2 ?_
  refine lv_aload_n hx hb dX4_chargedSize_5 rfl (lv_at hl 0 rfl) ?_
  refine r_get (C := RX4) (T := TX4) (v := .int (u13)) hx hb hts i4 hown hw 0 rfl rfl 5 (by decide) lk41 rfl dX4_chargedSize_6 ?_
  refine r_callVi 1 rfl rfl (rest := [.int (p1)]) ⟨hx, hb, hml, hown, hts⟩ hw [.int (u13)] (k0_leastOn l D ty a b n cI cO ht0 ht1 c0 c1 c2 c3 u4 c5 c6 c7 u8 u9 u10 c11 u12 u13 I u13 (by first | assumption | omega) (by first | assumption | omega) (by first | assumption | omega)) (cwV 1 hts gX4_chargedSize_X0_leastOn rfl rfl rfl (by decide +kernel) ⟨Nat.le_of_ble_eq_true rfl, Nat.le_of_ble_eq_true rfl⟩) rfl hl.1 rfl (Nat.le_of_ble_eq_true rfl) dX4_chargedSize_9 ⟨Nat.le_of_ble_eq_true rfl, Nat.le_of_ble_eq_true rfl⟩ (fun r w H locs hp hw => ?_)
  obtain ⟨rfl, rfl⟩ := hp
  refine va_mmax hx hb (hml.trans hl.1.symm) hown mh231 ms_max mi mc_max (Nat.le_of_ble_eq_true rfl) (Nat.le_of_ble_eq_true rfl) (Nat.le_of_ble_eq_true rfl) (Nat.le_of_ble_eq_true rfl) dX4_chargedSize_12 ?_
  have e9 : f4_chargedSize c0 c3 u4 u13 p1 = (if p1 < (f0_leastOn c0 c3 u4 u13) then (f0_leastOn c0 c3 u4 u13) else p1) := by unfold f4_chargedSize; rfl
  exact r_iret hx hb hr hlocks hw ⟨by rw [e9] <;> rfl, rfl⟩ dX4_chargedSize_15
def f4_rentOf (c0 : Nat → Int32) (c2 : Nat → Int32) (u4 : Int32) (u13 : Int32) (p1 : Int32) (p2 : Int32) : Int64 :=
  (p1.toInt64 * ((f0_rentOn c0 c2 u4 u13).toInt64)) * p2.toInt64
set_option maxHeartbeats 4000000 in
set_option maxRecDepth 100000 in
theorem k4_rentOf (l : Launch) (D : va_G) (ty : List (ClassId × FieldType)) (a : Nat → Nat) (b : Nat → Nat → Nat) (n : Nat) (cI cO : ClassId) (ht0 : ty[0]? = some (cI, .int)) (ht1 : ty[1]? = some (cO, .object "RentSizes$Item")) (c0 : Nat → Int32) (c1 : Nat → Int32) (c2 : Nat → Int32) (c3 : Nat → Int32) (u4 : Int32) (c5 : Nat → Int32) (c6 : Nat → Int32) (c7 : Nat → Int32) (u8 : Int32) (u9 : Int32) (u10 : Int32) (c11 : Nat → Int32) (u12 : Int32) (u13 : Int32) (I : Nat → Nat → Nat → Int32) (p1 : Int32) (p2 : Int32) (he0 : u4 = nI (tn u4)) (he1 : tn u4 ≤ 10) (he2 : 1 ≤ tn u4) : MetG l yX4_rentOf wsX4_rentOf { frames := 2, cells := 0, slots := 0, locals := 43 } D ty [.ref (a 0), .int (p1), .int (p2)] (CW a b n cI cO c0 c1 c2 c3 u4 c5 c6 c7 u8 u9 u10 c11 u12 u13 I) (va_Ql (fun r w => r = f4_rentOf c0 c2 u4 u13 p1 p2 ∧ w = CW a b n cI cO c0 c1 c2 c3 u4 c5 c6 c7 u8 u9 u10 c11 u12 u13 I)) 0 0 := by
  refine Met_start cX4_rentOf 3 (some .long) (by decide) rfl (Nat.le_of_ble_eq_true rfl) ?_
  intro p e s m below meth c A ls hx hb hr hlocks hml hnm hts hown hw hl
  have hl : lv_has ls 3 [(0, .ref (a 0)), (1, .int (p1)), (2, .int (p2))] := hl
  have i4 : ∀ w ∈ wsX40, w ∈ wsX4_rentOf := fun _ h => List.mem_cons_of_mem _ (List.mem_append_left _ (List.mem_append_right _ h))
  have lk10 := hts (.fieldLink RX4 10 "RentSizes" "editions" "LRentSizes$Editions;") (by decide +kernel)
  have lk41 := hts (.fieldLink RX4 41 "RentSizes" "height" "I") (by decide +kernel)
  refine lv_iload_n hx hb dX4_rentOf_0 rfl (lv_at hl 1 rfl) ?_
  refine lv_i2l (v := p1.toInt64) hx hb dX4_rentOf_1 rfl ?_
  refine lv_aload_n hx hb dX4_rentOf_2 rfl (lv_at hl 0 rfl) ?_
  refine r_get (C := RX4) (T := TX4) (v := .ref (a 1)) hx hb hts i4 hown hw 0 rfl rfl 0 (by decide) lk10 rfl dX4_rentOf_3 ?_
  refine lv_aload_n hx hb dX4_rentOf_6 rfl (lv_at hl 0 rfl) ?_
  refine r_get (C := RX4) (T := TX4) (v := .int (u13)) hx hb hts i4 hown hw 0 rfl rfl 5 (by decide) lk41 rfl dX4_rentOf_7 ?_
  refine r_callVi 1 rfl rfl (rest := [.long (p1.toInt64)]) ⟨hx, hb, hml, hown, hts⟩ hw [.int (u13)] (k0_rentOn l D ty a b n cI cO ht0 ht1 c0 c1 c2 c3 u4 c5 c6 c7 u8 u9 u10 c11 u12 u13 I u13 (by first | assumption | omega) (by first | assumption | omega) (by first | assumption | omega)) (cwV 1 hts gX4_rentOf_X0_rentOn rfl rfl rfl (by decide +kernel) ⟨Nat.le_of_ble_eq_true rfl, Nat.le_of_ble_eq_true rfl⟩) rfl hl.1 rfl (Nat.le_of_ble_eq_true rfl) dX4_rentOf_10 ⟨Nat.le_of_ble_eq_true rfl, Nat.le_of_ble_eq_true rfl⟩ (fun r w H locs hp hw => ?_)
  obtain ⟨rfl, rfl⟩ := hp
  refine lv_i2l (v := (f0_rentOn c0 c2 u4 u13).toInt64) hx hb dX4_rentOf_13 rfl ?_
  refine lv_lmul hx hb dX4_rentOf_14 ?_
  refine lv_iload_n hx hb dX4_rentOf_15 rfl (lv_at hl 2 rfl) ?_
  refine lv_i2l (v := p2.toInt64) hx hb dX4_rentOf_16 rfl ?_
  refine lv_lmul hx hb dX4_rentOf_17 ?_
  have e9 : f4_rentOf c0 c2 u4 u13 p1 p2 = (p1.toInt64 * ((f0_rentOn c0 c2 u4 u13).toInt64)) * p2.toInt64 := by unfold f4_rentOf; rfl
  exact r_lret hx hb hr hlocks hw ⟨by rw [e9] <;> rfl, rfl⟩ dX4_rentOf_18
def lf4_liveSizes_4 (I : Nat → Nat → Nat → Int32) (p1 : Int32) : Nat → Nat → Int32 → Int32
  | 0, _, v2 => v2
  | k + 1, j, v2 => if (I j 4 0) = 0 then (if p1 = (-1) then lf4_liveSizes_4 I p1 k (j + 1) (v2 + (I j 2 0))
      else if p1 = (I j 1 0) then lf4_liveSizes_4 I p1 k (j + 1) (v2 + (I j 2 0))
      else lf4_liveSizes_4 I p1 k (j + 1) v2)
    else lf4_liveSizes_4 I p1 k (j + 1) v2
set_option maxHeartbeats 4000000 in
set_option maxRecDepth 100000 in
theorem lt4_liveSizes_4 (l : Launch) (D : va_G) (ty : List (ClassId × FieldType)) (a : Nat → Nat) (b : Nat → Nat → Nat) (n : Nat) (cI cO : ClassId) (ht0 : ty[0]? = some (cI, .int)) (ht1 : ty[1]? = some (cO, .object "RentSizes$Item")) (c0 : Nat → Int32) (c1 : Nat → Int32) (c2 : Nat → Int32) (c3 : Nat → Int32) (u4 : Int32) (c5 : Nat → Int32) (c6 : Nat → Int32) (c7 : Nat → Int32) (u8 : Int32) (u9 : Int32) (u10 : Int32) (c11 : Nat → Int32) (u12 : Int32) (u13 : Int32) (I : Nat → Nat → Nat → Int32) (p1 : Int32) (hob : u12 = nI (tn u12)) (hob2 : tn u12 ≤ n) (hn60 : n ≤ 60)  {p : Program} {e : Env} {s : State} {m : MethodId} {args : Array Value} {below : List Frame} {meth : Method} {c : Code} {A : Nat → Prop} {H0 : Heap} {Q : State → Prop} (hx : p.tables.exec = Jvm.exec) (hb : c.code = cX4_liveSizes) (hml : c.maxLocals = 5) (hts : ∀ w ∈ wsX4_liveSizes, w.before args s = true) (hown : s.vm.findClass RX4 = some m.cls) : ∀ (k j : Nat) (v2 : Int32) (hj : j + k = tn u12) (H : Heap) (locs : List Loc) (ls : Array Slot) (hw : Wd D ty A H0 s (CW a b n cI cO c0 c1 c2 c3 u4 c5 c6 c7 u8 u9 u10 c11 u12 u13 I) H locs) (hl : lv_has ls 5 [(3, .int (nI (j))), (2, .int (v2)), (0, .ref (a 0)), (1, .int (p1))]) (kk : ∀ (H1 : Heap) (locs1 : List Loc) (ls1 : Array Slot), Wd D ty A H0 s (CW a b n cI cO c0 c1 c2 c3 u4 c5 c6 c7 u8 u9 u10 c11 u12 u13 I) H1 locs1 → lv_has ls1 5 [(3, .int (nI (tn u12))), (2, .int ((lf4_liveSizes_4 I p1 k j v2))), (0, .ref (a 0)), (1, .int (p1))] → W p l e ({ frames := 0, cells := 0, slots := 0, locals := 0 } : Room) s m args below meth c H1 locs1 0 0 Q (F0 m 56 ls1 [])), W p l e ({ frames := 0, cells := 0, slots := 0, locals := 0 } : Room) s m args below meth c H locs 0 0 Q (F0 m 4 ls []) := by
  have i4 : ∀ w ∈ wsX40, w ∈ wsX4_liveSizes := fun _ h => List.mem_cons_of_mem _ (List.mem_append_left _ (List.mem_append_right _ h))
  have lk92 := hts (.fieldLink RX4 92 "RentSizes" "made" "I") (by decide +kernel)
  have lk29 := hts (.fieldLink RX4 29 "RentSizes" "items" "[LRentSizes$Item;") (by decide +kernel)
  have i1 : ∀ w ∈ wsX10, w ∈ wsX4_liveSizes := fun _ h => List.mem_cons_of_mem _ (List.mem_append_right _ h)
  intro k
  induction k with
  | zero =>
    intro j v2 hj H locs ls hw hl kk
    have hj0 : j = tn u12 := by omega
    refine lv_iload_n hx hb dX4_liveSizes_4 rfl (lv_at hl 0 rfl) ?_
    refine lv_aload_n hx hb dX4_liveSizes_5 rfl (lv_at hl 2 rfl) ?_
    refine r_get (C := RX4) (T := TX4) (v := .int (u12)) hx hb hts i4 hown hw 0 rfl rfl 4 (by decide) lk92 rfl dX4_liveSizes_6 ?_
    refine r_top (nI (tn u12)) hob ?_
    refine lv_icmp_ge (tgt := 56) hx hb dX4_liveSizes_9 (by decide) (fun c_9 => ?_) (fun c_9 => ?_)
    · rw [hj0] at hl
      exact kk _ _ _ hw (lv_sub hl [0, 1, 2, 3] rfl)
    · exact absurd (nI_le (by omega) (by omega)) c_9
  | succ k ih =>
    intro j v2 hj H locs ls hw hl kk
    have hjb : j < tn u12 := by omega
    have hjn : j < n := by omega
    refine lv_iload_n hx hb dX4_liveSizes_4 rfl (lv_at hl 0 rfl) ?_
    refine lv_aload_n hx hb dX4_liveSizes_5 rfl (lv_at hl 2 rfl) ?_
    refine r_get (C := RX4) (T := TX4) (v := .int (u12)) hx hb hts i4 hown hw 0 rfl rfl 4 (by decide) lk92 rfl dX4_liveSizes_6 ?_
    refine r_top (nI (tn u12)) hob ?_
    refine lv_icmp_ge (tgt := 56) hx hb dX4_liveSizes_9 (by decide) (fun c_9 => ?_) (fun c_9 => ?_)
    · exact absurd c_9 (nI_ge (by omega) (by omega))
    · refine lv_aload_n hx hb dX4_liveSizes_12 rfl (lv_at hl 2 rfl) ?_
      refine r_get (C := RX4) (T := TX4) (v := .ref (a 11)) hx hb hts i4 hown hw 0 rfl rfl 3 (by decide) lk29 rfl dX4_liveSizes_13 ?_
      refine lv_iload_n hx hb dX4_liveSizes_16 rfl (lv_at hl 0 rfl) ?_
      refine r_aldI hx hb hw ht1 j (by omega) (by assumption) dX4_liveSizes_17 ?_
      refine lv_astore (lv' := [(4, .ref (b j 0)), (3, .int (nI (j))), (2, .int (v2)), (0, .ref (a 0)), (1, .int (p1))]) hx hb dX4_liveSizes_18 hl (by decide) rfl (fun ls hl => ?_)
      refine lv_aload hx hb dX4_liveSizes_20 (lv_at hl 0 rfl) ?_
      refine r_getN (C := RX1) (T := TX1) (v := .int (I j 4 0)) hx hb hts i1 hown hw (12 + (6 * j + 0)) (CW_get _ (i := j) (by assumption) (by decide) rfl) rfl 5 (by decide) (List.mem_of_getElem? (i := 2) rfl) rfl dX4_liveSizes_22 ?_
      refine lv_if_ne (tgt := 50) hx hb dX4_liveSizes_25 (by decide) (fun c_25 => ?_) (fun c_25 => ?_)
      · refine lv_iinc (v := nI (j + 1)) (lv' := [(3, .int (nI (j + 1))), (4, .ref (b j 0)), (2, .int (v2)), (0, .ref (a 0)), (1, .int (p1))]) hx hb dX4_liveSizes_50 hl (k := 1) rfl (by show nI (j) + 1 = _; exact nI_1 _) (by decide) rfl (fun ls hl => ?_)
        refine lv_goto (tgt := 4) hx hb dX4_liveSizes_53 (by decide) ?_
        have e9 : lf4_liveSizes_4 I p1 (k + 1) j v2 = lf4_liveSizes_4 I p1 k (j + 1) v2 := by rw [lf4_liveSizes_4]; rw [if_neg c_25]
        rw [e9] at kk
        exact ih (j + 1) v2 (by omega)  _ _ _ hw (lv_sub hl [0, 2, 3, 4] rfl) kk
      · refine lv_iload_n hx hb dX4_liveSizes_28 rfl (lv_at hl 4 rfl) ?_
        refine lv_iconst (v := (-1)) hx hb dX4_liveSizes_29 (by decide) ?_
        refine lv_icmp_eq (tgt := 42) hx hb dX4_liveSizes_30 (by decide) (fun c_30 => ?_) (fun c_30 => ?_)
        · refine lv_iload_n hx hb dX4_liveSizes_42 rfl (lv_at hl 2 rfl) ?_
          refine lv_aload hx hb dX4_liveSizes_43 (lv_at hl 0 rfl) ?_
          refine r_getN (C := RX1) (T := TX1) (v := .int (I j 2 0)) hx hb hts i1 hown hw (12 + (6 * j + 0)) (CW_get _ (i := j) (by assumption) (by decide) rfl) rfl 3 (by decide) (List.mem_of_getElem? (i := 4) rfl) rfl dX4_liveSizes_45 ?_
          refine lv_iadd hx hb dX4_liveSizes_48 ?_
          refine lv_istore_n (lv' := [(2, .int (v2 + (I j 2 0))), (4, .ref (b j 0)), (3, .int (nI (j))), (0, .ref (a 0)), (1, .int (p1))]) hx hb dX4_liveSizes_49 rfl hl (by decide) rfl (fun ls hl => ?_)
          refine lv_iinc (v := nI (j + 1)) (lv' := [(3, .int (nI (j + 1))), (2, .int (v2 + (I j 2 0))), (4, .ref (b j 0)), (0, .ref (a 0)), (1, .int (p1))]) hx hb dX4_liveSizes_50 hl (k := 2) rfl (by show nI (j) + 1 = _; exact nI_1 _) (by decide) rfl (fun ls hl => ?_)
          refine lv_goto (tgt := 4) hx hb dX4_liveSizes_53 (by decide) ?_
          have e9 : lf4_liveSizes_4 I p1 (k + 1) j v2 = lf4_liveSizes_4 I p1 k (j + 1) (v2 + (I j 2 0)) := by rw [lf4_liveSizes_4]; rw [if_pos c_25, if_pos c_30]
          rw [e9] at kk
          exact ih (j + 1) (v2 + (I j 2 0)) (by omega)  _ _ _ hw (lv_sub hl [0, 1, 3, 4] rfl) kk
        · refine lv_iload_n hx hb dX4_liveSizes_33 rfl (lv_at hl 4 rfl) ?_
          refine lv_aload hx hb dX4_liveSizes_34 (lv_at hl 0 rfl) ?_
          refine r_getN (C := RX1) (T := TX1) (v := .int (I j 1 0)) hx hb hts i1 hown hw (12 + (6 * j + 0)) (CW_get _ (i := j) (by assumption) (by decide) rfl) rfl 2 (by decide) (List.mem_of_getElem? (i := 3) rfl) rfl dX4_liveSizes_36 ?_
          refine lv_icmp_ne (tgt := 50) hx hb dX4_liveSizes_39 (by decide) (fun c_39 => ?_) (fun c_39 => ?_)
          · refine lv_iinc (v := nI (j + 1)) (lv' := [(3, .int (nI (j + 1))), (4, .ref (b j 0)), (2, .int (v2)), (0, .ref (a 0)), (1, .int (p1))]) hx hb dX4_liveSizes_50 hl (k := 1) rfl (by show nI (j) + 1 = _; exact nI_1 _) (by decide) rfl (fun ls hl => ?_)
            refine lv_goto (tgt := 4) hx hb dX4_liveSizes_53 (by decide) ?_
            have e9 : lf4_liveSizes_4 I p1 (k + 1) j v2 = lf4_liveSizes_4 I p1 k (j + 1) v2 := by rw [lf4_liveSizes_4]; rw [if_pos c_25, if_neg c_30, if_neg c_39]
            rw [e9] at kk
            exact ih (j + 1) v2 (by omega)  _ _ _ hw (lv_sub hl [0, 2, 3, 4] rfl) kk
          · refine lv_iload_n hx hb dX4_liveSizes_42 rfl (lv_at hl 2 rfl) ?_
            refine lv_aload hx hb dX4_liveSizes_43 (lv_at hl 0 rfl) ?_
            refine r_getN (C := RX1) (T := TX1) (v := .int (I j 2 0)) hx hb hts i1 hown hw (12 + (6 * j + 0)) (CW_get _ (i := j) (by assumption) (by decide) rfl) rfl 3 (by decide) (List.mem_of_getElem? (i := 4) rfl) rfl dX4_liveSizes_45 ?_
            refine lv_iadd hx hb dX4_liveSizes_48 ?_
            refine lv_istore_n (lv' := [(2, .int (v2 + (I j 2 0))), (4, .ref (b j 0)), (3, .int (nI (j))), (0, .ref (a 0)), (1, .int (p1))]) hx hb dX4_liveSizes_49 rfl hl (by decide) rfl (fun ls hl => ?_)
            refine lv_iinc (v := nI (j + 1)) (lv' := [(3, .int (nI (j + 1))), (2, .int (v2 + (I j 2 0))), (4, .ref (b j 0)), (0, .ref (a 0)), (1, .int (p1))]) hx hb dX4_liveSizes_50 hl (k := 2) rfl (by show nI (j) + 1 = _; exact nI_1 _) (by decide) rfl (fun ls hl => ?_)
            refine lv_goto (tgt := 4) hx hb dX4_liveSizes_53 (by decide) ?_
            have e9 : lf4_liveSizes_4 I p1 (k + 1) j v2 = lf4_liveSizes_4 I p1 k (j + 1) (v2 + (I j 2 0)) := by rw [lf4_liveSizes_4]; rw [if_pos c_25, if_neg c_30, if_pos c_39]
            rw [e9] at kk
            exact ih (j + 1) (v2 + (I j 2 0)) (by omega)  _ _ _ hw (lv_sub hl [0, 1, 3, 4] rfl) kk
def f4_liveSizes (u12 : Int32) (I : Nat → Nat → Nat → Int32) (p1 : Int32) : Int32 :=
  (lf4_liveSizes_4 I p1 (tn u12) 0 0)
set_option maxHeartbeats 4000000 in
set_option maxRecDepth 100000 in
theorem k4_liveSizes (l : Launch) (D : va_G) (ty : List (ClassId × FieldType)) (a : Nat → Nat) (b : Nat → Nat → Nat) (n : Nat) (cI cO : ClassId) (ht0 : ty[0]? = some (cI, .int)) (ht1 : ty[1]? = some (cO, .object "RentSizes$Item")) (c0 : Nat → Int32) (c1 : Nat → Int32) (c2 : Nat → Int32) (c3 : Nat → Int32) (u4 : Int32) (c5 : Nat → Int32) (c6 : Nat → Int32) (c7 : Nat → Int32) (u8 : Int32) (u9 : Int32) (u10 : Int32) (c11 : Nat → Int32) (u12 : Int32) (u13 : Int32) (I : Nat → Nat → Nat → Int32) (p1 : Int32) (hob : u12 = nI (tn u12)) (hob2 : tn u12 ≤ n) (hn60 : n ≤ 60) : MetG l yX4_liveSizes wsX4_liveSizes { frames := 0, cells := 0, slots := 0, locals := 0 } D ty [.ref (a 0), .int (p1)] (CW a b n cI cO c0 c1 c2 c3 u4 c5 c6 c7 u8 u9 u10 c11 u12 u13 I) (va_Qi (fun r w => r = f4_liveSizes u12 I p1 ∧ w = CW a b n cI cO c0 c1 c2 c3 u4 c5 c6 c7 u8 u9 u10 c11 u12 u13 I)) 0 0 := by
  refine Met_start cX4_liveSizes 5 (some .int) (by decide) rfl (Nat.le_of_ble_eq_true rfl) ?_
  intro p e s m below meth c A ls hx hb hr hlocks hml hnm hts hown hw hl
  have hl : lv_has ls 5 [(0, .ref (a 0)), (1, .int (p1))] := hl
  refine lv_iconst (v := 0) hx hb dX4_liveSizes_0 (by decide) ?_
  refine lv_istore_n (lv' := [(2, .int (0)), (0, .ref (a 0)), (1, .int (p1))]) hx hb dX4_liveSizes_1 rfl hl (by decide) rfl (fun ls hl => ?_)
  refine lv_iconst (v := 0) hx hb dX4_liveSizes_2 (by decide) ?_
  refine lv_istore_n (lv' := [(3, .int (0)), (2, .int (0)), (0, .ref (a 0)), (1, .int (p1))]) hx hb dX4_liveSizes_3 rfl hl (by decide) rfl (fun ls hl => ?_)
  refine lt4_liveSizes_4 l D ty a b n cI cO ht0 ht1 c0 c1 c2 c3 u4 c5 c6 c7 u8 u9 u10 c11 u12 u13 I p1 hob hob2 hn60  hx hb hml hts hown (tn u12) 0 0 (by omega)  _ _ _ hw hl (fun H locs ls hw hl => ?_)
  refine lv_iload_n hx hb dX4_liveSizes_56 rfl (lv_at hl 1 rfl) ?_
  have e9 : f4_liveSizes u12 I p1 = (lf4_liveSizes_4 I p1 (tn u12) 0 0) := by unfold f4_liveSizes; rfl
  exact r_iret hx hb hr hlocks hw ⟨by rw [e9] <;> rfl, rfl⟩ dX4_liveSizes_57
def lf4_countOf_4 (I : Nat → Nat → Nat → Int32) (p1 : Int32) : Nat → Nat → Int32 → Int32
  | 0, _, v2 => v2
  | k + 1, j, v2 => if (I j 4 0) = p1 then lf4_countOf_4 I p1 k (j + 1) (v2 + 1)
    else lf4_countOf_4 I p1 k (j + 1) v2
set_option maxHeartbeats 4000000 in
set_option maxRecDepth 100000 in
theorem lt4_countOf_4 (l : Launch) (D : va_G) (ty : List (ClassId × FieldType)) (a : Nat → Nat) (b : Nat → Nat → Nat) (n : Nat) (cI cO : ClassId) (ht0 : ty[0]? = some (cI, .int)) (ht1 : ty[1]? = some (cO, .object "RentSizes$Item")) (c0 : Nat → Int32) (c1 : Nat → Int32) (c2 : Nat → Int32) (c3 : Nat → Int32) (u4 : Int32) (c5 : Nat → Int32) (c6 : Nat → Int32) (c7 : Nat → Int32) (u8 : Int32) (u9 : Int32) (u10 : Int32) (c11 : Nat → Int32) (u12 : Int32) (u13 : Int32) (I : Nat → Nat → Nat → Int32) (p1 : Int32) (hob : u12 = nI (tn u12)) (hob2 : tn u12 ≤ n) (hn60 : n ≤ 60)  {p : Program} {e : Env} {s : State} {m : MethodId} {args : Array Value} {below : List Frame} {meth : Method} {c : Code} {A : Nat → Prop} {H0 : Heap} {Q : State → Prop} (hx : p.tables.exec = Jvm.exec) (hb : c.code = cX4_countOf) (hml : c.maxLocals = 4) (hts : ∀ w ∈ wsX4_countOf, w.before args s = true) (hown : s.vm.findClass RX4 = some m.cls) : ∀ (k j : Nat) (v2 : Int32) (hj : j + k = tn u12) (H : Heap) (locs : List Loc) (ls : Array Slot) (hw : Wd D ty A H0 s (CW a b n cI cO c0 c1 c2 c3 u4 c5 c6 c7 u8 u9 u10 c11 u12 u13 I) H locs) (hl : lv_has ls 4 [(3, .int (nI (j))), (2, .int (v2)), (0, .ref (a 0)), (1, .int (p1))]) (kk : ∀ (H1 : Heap) (locs1 : List Loc) (ls1 : Array Slot), Wd D ty A H0 s (CW a b n cI cO c0 c1 c2 c3 u4 c5 c6 c7 u8 u9 u10 c11 u12 u13 I) H1 locs1 → lv_has ls1 4 [(3, .int (nI (tn u12))), (2, .int ((lf4_countOf_4 I p1 k j v2))), (0, .ref (a 0)), (1, .int (p1))] → W p l e ({ frames := 0, cells := 0, slots := 0, locals := 0 } : Room) s m args below meth c H1 locs1 0 0 Q (F0 m 34 ls1 [])), W p l e ({ frames := 0, cells := 0, slots := 0, locals := 0 } : Room) s m args below meth c H locs 0 0 Q (F0 m 4 ls []) := by
  have i4 : ∀ w ∈ wsX40, w ∈ wsX4_countOf := fun _ h => List.mem_cons_of_mem _ (List.mem_append_left _ (List.mem_append_right _ h))
  have lk92 := hts (.fieldLink RX4 92 "RentSizes" "made" "I") (by decide +kernel)
  have lk29 := hts (.fieldLink RX4 29 "RentSizes" "items" "[LRentSizes$Item;") (by decide +kernel)
  have i1 : ∀ w ∈ wsX10, w ∈ wsX4_countOf := fun _ h => List.mem_cons_of_mem _ (List.mem_append_right _ h)
  intro k
  induction k with
  | zero =>
    intro j v2 hj H locs ls hw hl kk
    have hj0 : j = tn u12 := by omega
    refine lv_iload_n hx hb dX4_countOf_4 rfl (lv_at hl 0 rfl) ?_
    refine lv_aload_n hx hb dX4_countOf_5 rfl (lv_at hl 2 rfl) ?_
    refine r_get (C := RX4) (T := TX4) (v := .int (u12)) hx hb hts i4 hown hw 0 rfl rfl 4 (by decide) lk92 rfl dX4_countOf_6 ?_
    refine r_top (nI (tn u12)) hob ?_
    refine lv_icmp_ge (tgt := 34) hx hb dX4_countOf_9 (by decide) (fun c_9 => ?_) (fun c_9 => ?_)
    · rw [hj0] at hl
      exact kk _ _ _ hw (lv_sub hl [0, 1, 2, 3] rfl)
    · exact absurd (nI_le (by omega) (by omega)) c_9
  | succ k ih =>
    intro j v2 hj H locs ls hw hl kk
    have hjb : j < tn u12 := by omega
    have hjn : j < n := by omega
    refine lv_iload_n hx hb dX4_countOf_4 rfl (lv_at hl 0 rfl) ?_
    refine lv_aload_n hx hb dX4_countOf_5 rfl (lv_at hl 2 rfl) ?_
    refine r_get (C := RX4) (T := TX4) (v := .int (u12)) hx hb hts i4 hown hw 0 rfl rfl 4 (by decide) lk92 rfl dX4_countOf_6 ?_
    refine r_top (nI (tn u12)) hob ?_
    refine lv_icmp_ge (tgt := 34) hx hb dX4_countOf_9 (by decide) (fun c_9 => ?_) (fun c_9 => ?_)
    · exact absurd c_9 (nI_ge (by omega) (by omega))
    · refine lv_aload_n hx hb dX4_countOf_12 rfl (lv_at hl 2 rfl) ?_
      refine r_get (C := RX4) (T := TX4) (v := .ref (a 11)) hx hb hts i4 hown hw 0 rfl rfl 3 (by decide) lk29 rfl dX4_countOf_13 ?_
      refine lv_iload_n hx hb dX4_countOf_16 rfl (lv_at hl 0 rfl) ?_
      refine r_aldI hx hb hw ht1 j (by omega) (by assumption) dX4_countOf_17 ?_
      refine r_getN (C := RX1) (T := TX1) (v := .int (I j 4 0)) hx hb hts i1 hown hw (12 + (6 * j + 0)) (CW_get _ (i := j) (by assumption) (by decide) rfl) rfl 5 (by decide) (List.mem_of_getElem? (i := 2) rfl) rfl dX4_countOf_18 ?_
      refine lv_iload_n hx hb dX4_countOf_21 rfl (lv_at hl 3 rfl) ?_
      refine lv_icmp_ne (tgt := 28) hx hb dX4_countOf_22 (by decide) (fun c_22 => ?_) (fun c_22 => ?_)
      · refine lv_iinc (v := nI (j + 1)) (lv' := [(3, .int (nI (j + 1))), (2, .int (v2)), (0, .ref (a 0)), (1, .int (p1))]) hx hb dX4_countOf_28 hl (k := 0) rfl (by show nI (j) + 1 = _; exact nI_1 _) (by decide) rfl (fun ls hl => ?_)
        refine lv_goto (tgt := 4) hx hb dX4_countOf_31 (by decide) ?_
        have e9 : lf4_countOf_4 I p1 (k + 1) j v2 = lf4_countOf_4 I p1 k (j + 1) v2 := by rw [lf4_countOf_4]; rw [if_neg c_22]
        rw [e9] at kk
        exact ih (j + 1) v2 (by omega)  _ _ _ hw (lv_sub hl [0, 1, 2, 3] rfl) kk
      · refine lv_iinc (v := v2 + 1) (lv' := [(2, .int (v2 + 1)), (3, .int (nI (j))), (0, .ref (a 0)), (1, .int (p1))]) hx hb dX4_countOf_25 hl (k := 1) rfl rfl (by decide) rfl (fun ls hl => ?_)
        refine lv_iinc (v := nI (j + 1)) (lv' := [(3, .int (nI (j + 1))), (2, .int (v2 + 1)), (0, .ref (a 0)), (1, .int (p1))]) hx hb dX4_countOf_28 hl (k := 1) rfl (by show nI (j) + 1 = _; exact nI_1 _) (by decide) rfl (fun ls hl => ?_)
        refine lv_goto (tgt := 4) hx hb dX4_countOf_31 (by decide) ?_
        have e9 : lf4_countOf_4 I p1 (k + 1) j v2 = lf4_countOf_4 I p1 k (j + 1) (v2 + 1) := by rw [lf4_countOf_4]; rw [if_pos c_22]
        rw [e9] at kk
        exact ih (j + 1) (v2 + 1) (by omega)  _ _ _ hw (lv_sub hl [0, 1, 2, 3] rfl) kk
def f4_countOf (u12 : Int32) (I : Nat → Nat → Nat → Int32) (p1 : Int32) : Int32 :=
  (lf4_countOf_4 I p1 (tn u12) 0 0)
set_option maxHeartbeats 4000000 in
set_option maxRecDepth 100000 in
theorem k4_countOf (l : Launch) (D : va_G) (ty : List (ClassId × FieldType)) (a : Nat → Nat) (b : Nat → Nat → Nat) (n : Nat) (cI cO : ClassId) (ht0 : ty[0]? = some (cI, .int)) (ht1 : ty[1]? = some (cO, .object "RentSizes$Item")) (c0 : Nat → Int32) (c1 : Nat → Int32) (c2 : Nat → Int32) (c3 : Nat → Int32) (u4 : Int32) (c5 : Nat → Int32) (c6 : Nat → Int32) (c7 : Nat → Int32) (u8 : Int32) (u9 : Int32) (u10 : Int32) (c11 : Nat → Int32) (u12 : Int32) (u13 : Int32) (I : Nat → Nat → Nat → Int32) (p1 : Int32) (hob : u12 = nI (tn u12)) (hob2 : tn u12 ≤ n) (hn60 : n ≤ 60) : MetG l yX4_countOf wsX4_countOf { frames := 0, cells := 0, slots := 0, locals := 0 } D ty [.ref (a 0), .int (p1)] (CW a b n cI cO c0 c1 c2 c3 u4 c5 c6 c7 u8 u9 u10 c11 u12 u13 I) (va_Qi (fun r w => r = f4_countOf u12 I p1 ∧ w = CW a b n cI cO c0 c1 c2 c3 u4 c5 c6 c7 u8 u9 u10 c11 u12 u13 I)) 0 0 := by
  refine Met_start cX4_countOf 4 (some .int) (by decide) rfl (Nat.le_of_ble_eq_true rfl) ?_
  intro p e s m below meth c A ls hx hb hr hlocks hml hnm hts hown hw hl
  have hl : lv_has ls 4 [(0, .ref (a 0)), (1, .int (p1))] := hl
  refine lv_iconst (v := 0) hx hb dX4_countOf_0 (by decide) ?_
  refine lv_istore_n (lv' := [(2, .int (0)), (0, .ref (a 0)), (1, .int (p1))]) hx hb dX4_countOf_1 rfl hl (by decide) rfl (fun ls hl => ?_)
  refine lv_iconst (v := 0) hx hb dX4_countOf_2 (by decide) ?_
  refine lv_istore_n (lv' := [(3, .int (0)), (2, .int (0)), (0, .ref (a 0)), (1, .int (p1))]) hx hb dX4_countOf_3 rfl hl (by decide) rfl (fun ls hl => ?_)
  refine lt4_countOf_4 l D ty a b n cI cO ht0 ht1 c0 c1 c2 c3 u4 c5 c6 c7 u8 u9 u10 c11 u12 u13 I p1 hob hob2 hn60  hx hb hml hts hown (tn u12) 0 0 (by omega)  _ _ _ hw hl (fun H locs ls hw hl => ?_)
  refine lv_iload_n hx hb dX4_countOf_34 rfl (lv_at hl 1 rfl) ?_
  have e9 : f4_countOf u12 I p1 = (lf4_countOf_4 I p1 (tn u12) 0 0) := by unfold f4_countOf; rfl
  exact r_iret hx hb hr hlocks hw ⟨by rw [e9] <;> rfl, rfl⟩ dX4_countOf_35
def f4_capsAllow (c11 : Nat → Int32) (u12 : Int32) (I : Nat → Nat → Nat → Int32) (p1 : Int32) (p2 : Int32) : Int32 :=
  if 5000 < ((f4_liveSizes u12 I (-1)) + p2) then 0
  else if (c11 (tn (p1))) < ((f4_liveSizes u12 I p1) + p2) then 0
  else 1
set_option maxHeartbeats 4000000 in
set_option maxRecDepth 100000 in
theorem k4_capsAllow (l : Launch) (D : va_G) (ty : List (ClassId × FieldType)) (a : Nat → Nat) (b : Nat → Nat → Nat) (n : Nat) (cI cO : ClassId) (ht0 : ty[0]? = some (cI, .int)) (ht1 : ty[1]? = some (cO, .object "RentSizes$Item")) (c0 : Nat → Int32) (c1 : Nat → Int32) (c2 : Nat → Int32) (c3 : Nat → Int32) (u4 : Int32) (c5 : Nat → Int32) (c6 : Nat → Int32) (c7 : Nat → Int32) (u8 : Int32) (u9 : Int32) (u10 : Int32) (c11 : Nat → Int32) (u12 : Int32) (u13 : Int32) (I : Nat → Nat → Nat → Int32) (p1 : Int32) (p2 : Int32) (hob : u12 = nI (tn u12)) (hob2 : tn u12 ≤ n) (hn60 : n ≤ 60) (hv : vp_in p1 6) : MetG l yX4_capsAllow wsX4_capsAllow { frames := 1, cells := 0, slots := 0, locals := 24 } D ty [.ref (a 0), .int (p1), .int (p2)] (CW a b n cI cO c0 c1 c2 c3 u4 c5 c6 c7 u8 u9 u10 c11 u12 u13 I) (va_Qi (fun r w => r = f4_capsAllow c11 u12 I p1 p2 ∧ w = CW a b n cI cO c0 c1 c2 c3 u4 c5 c6 c7 u8 u9 u10 c11 u12 u13 I)) 0 0 := by
  refine Met_start cX4_capsAllow 3 (some .boolean) (by decide) rfl (Nat.le_of_ble_eq_true rfl) ?_
  intro p e s m below meth c A ls hx hb hr hlocks hml hnm hts hown hw hl
  have hl : lv_has ls 3 [(0, .ref (a 0)), (1, .int (p1)), (2, .int (p2))] := hl
  have i4 : ∀ w ∈ wsX40, w ∈ wsX4_capsAllow := fun _ h => List.mem_cons_of_mem _ (List.mem_append_left _ (List.mem_append_right _ h))
  have lk23 := hts (.fieldLink RX4 23 "RentSizes" "caps" "[I") (by decide +kernel)
  refine lv_aload_n hx hb dX4_capsAllow_0 rfl (lv_at hl 0 rfl) ?_
  refine lv_iconst (v := (-1)) hx hb dX4_capsAllow_1 (by decide) ?_
  refine r_callVi 0 rfl rfl (rest := []) ⟨hx, hb, hml, hown, hts⟩ hw [.int ((-1))] (k4_liveSizes l D ty a b n cI cO ht0 ht1 c0 c1 c2 c3 u4 c5 c6 c7 u8 u9 u10 c11 u12 u13 I (-1) (by first | assumption | omega) (by first | assumption | omega) (by first | assumption | omega)) (cwV 1 hts gX4_capsAllow_X4_liveSizes rfl rfl rfl (by decide +kernel) ⟨Nat.le_of_ble_eq_true rfl, Nat.le_of_ble_eq_true rfl⟩) rfl hl.1 rfl (Nat.le_of_ble_eq_true rfl) dX4_capsAllow_2 ⟨Nat.le_of_ble_eq_true rfl, Nat.le_of_ble_eq_true rfl⟩ (fun r w H locs hp hw => ?_)
  obtain ⟨rfl, rfl⟩ := hp
  refine lv_iload_n hx hb dX4_capsAllow_5 rfl (lv_at hl 2 rfl) ?_
  refine lv_iadd hx hb dX4_capsAllow_6 ?_
  refine lv_sipush (v := 5000) hx hb dX4_capsAllow_7 (by decide) ?_
  refine lv_icmp_gt (tgt := 33) hx hb dX4_capsAllow_10 (by decide) (fun c_10 => ?_) (fun c_10 => ?_)
  · refine lv_iconst (v := 0) hx hb dX4_capsAllow_33 (by decide) ?_
    have e9 : f4_capsAllow c11 u12 I p1 p2 = 0 := by unfold f4_capsAllow; rw [if_pos c_10]
    exact r_zret hx hb hr hlocks (Or.inl rfl) hw ⟨by rw [e9] <;> rfl, rfl⟩ dX4_capsAllow_34
  · refine lv_aload_n hx hb dX4_capsAllow_13 rfl (lv_at hl 0 rfl) ?_
    refine lv_iload_n hx hb dX4_capsAllow_14 rfl (lv_at hl 1 rfl) ?_
    refine r_callVi 0 rfl rfl (rest := []) ⟨hx, hb, hml, hown, hts⟩ hw [.int (p1)] (k4_liveSizes l D ty a b n cI cO ht0 ht1 c0 c1 c2 c3 u4 c5 c6 c7 u8 u9 u10 c11 u12 u13 I p1 (by first | assumption | omega) (by first | assumption | omega) (by first | assumption | omega)) (cwV 1 hts gX4_capsAllow_X4_liveSizes rfl rfl rfl (by decide +kernel) ⟨Nat.le_of_ble_eq_true rfl, Nat.le_of_ble_eq_true rfl⟩) rfl hl.1 rfl (Nat.le_of_ble_eq_true rfl) dX4_capsAllow_15 ⟨Nat.le_of_ble_eq_true rfl, Nat.le_of_ble_eq_true rfl⟩ (fun r w H locs hp hw => ?_)
    obtain ⟨rfl, rfl⟩ := hp
    refine lv_iload_n hx hb dX4_capsAllow_18 rfl (lv_at hl 2 rfl) ?_
    refine lv_iadd hx hb dX4_capsAllow_19 ?_
    refine lv_aload_n hx hb dX4_capsAllow_20 rfl (lv_at hl 0 rfl) ?_
    refine r_get (C := RX4) (T := TX4) (v := .ref (a 10)) hx hb hts i4 hown hw 0 rfl rfl 2 (by decide) lk23 rfl dX4_capsAllow_21 ?_
    refine lv_iload_n hx hb dX4_capsAllow_24 rfl (lv_at hl 1 rfl) ?_
    refine r_iald (v := c11 (tn (p1))) hx hb hw 10 rfl ht0 (by first | assumption | exact vp_in_nI (by omega) (by omega)) dX4_capsAllow_25 rfl ?_
    refine lv_icmp_gt (tgt := 33) hx hb dX4_capsAllow_26 (by decide) (fun c_26 => ?_) (fun c_26 => ?_)
    · refine lv_iconst (v := 0) hx hb dX4_capsAllow_33 (by decide) ?_
      have e9 : f4_capsAllow c11 u12 I p1 p2 = 0 := by unfold f4_capsAllow; rw [if_neg c_10, if_pos c_26]
      exact r_zret hx hb hr hlocks (Or.inl rfl) hw ⟨by rw [e9] <;> rfl, rfl⟩ dX4_capsAllow_34
    · refine lv_iconst (v := 1) hx hb dX4_capsAllow_29 (by decide) ?_
      refine lv_goto (tgt := 34) hx hb dX4_capsAllow_30 (by decide) ?_
      have e9 : f4_capsAllow c11 u12 I p1 p2 = 1 := by unfold f4_capsAllow; rw [if_neg c_10, if_neg c_26]
      exact r_zret hx hb hr hlocks (Or.inr rfl) hw ⟨by rw [e9] <;> rfl, rfl⟩ dX4_capsAllow_34
def lf4_archiveUnpaid_4 (u13 : Int32) : Nat → Nat → Int32 → (Nat → Nat → Nat → Int32) → Int32 × (Nat → Nat → Nat → Int32)
  | 0, _, v1, Iv => (v1, Iv)
  | k + 1, j, v1, Iv => if (Iv j 4 0) = 0 then (if u13 ≤ (Iv j 3 0) then lf4_archiveUnpaid_4 u13 k (j + 1) v1 Iv
      else lf4_archiveUnpaid_4 u13 k (j + 1) (v1 + 1) (va_up Iv j (JX (Iv j 0) (Iv j 1 0) (Iv j 2 0) (Iv j 3 0) 1 (Iv j 5) (Iv j 6) (Iv j 7) (Iv j 8 0))))
    else lf4_archiveUnpaid_4 u13 k (j + 1) v1 Iv
set_option maxHeartbeats 4000000 in
set_option maxRecDepth 100000 in
theorem lt4_archiveUnpaid_4 (l : Launch) (D : va_G) (ty : List (ClassId × FieldType)) (a : Nat → Nat) (b : Nat → Nat → Nat) (n : Nat) (cI cO : ClassId) (ht0 : ty[0]? = some (cI, .int)) (ht1 : ty[1]? = some (cO, .object "RentSizes$Item")) (c0 : Nat → Int32) (c1 : Nat → Int32) (c2 : Nat → Int32) (c3 : Nat → Int32) (u4 : Int32) (c5 : Nat → Int32) (c6 : Nat → Int32) (c7 : Nat → Int32) (u8 : Int32) (u9 : Int32) (u10 : Int32) (c11 : Nat → Int32) (u12 : Int32) (u13 : Int32) (I : Nat → Nat → Nat → Int32) (hob : u12 = nI (tn u12)) (hob2 : tn u12 ≤ n) (hn60 : n ≤ 60)  {p : Program} {e : Env} {s : State} {m : MethodId} {args : Array Value} {below : List Frame} {meth : Method} {c : Code} {A : Nat → Prop} {H0 : Heap} {Q : State → Prop} (hx : p.tables.exec = Jvm.exec) (hb : c.code = cX4_archiveUnpaid) (hml : c.maxLocals = 4) (hts : ∀ w ∈ wsX4_archiveUnpaid, w.before args s = true) (hown : s.vm.findClass RX4 = some m.cls) : ∀ (k j : Nat) (v1 : Int32) (Iv : (Nat → Nat → Nat → Int32)) (hj : j + k = tn u12) (H : Heap) (locs : List Loc) (ls : Array Slot) (hw : Wd D ty A H0 s (CW a b n cI cO c0 c1 c2 c3 u4 c5 c6 c7 u8 u9 u10 c11 u12 u13 Iv) H locs) (hl : lv_has ls 4 [(2, .int (nI (j))), (1, .int (v1)), (0, .ref (a 0))]) (kk : ∀ (H1 : Heap) (locs1 : List Loc) (ls1 : Array Slot), Wd D ty A H0 s (CW a b n cI cO c0 c1 c2 c3 u4 c5 c6 c7 u8 u9 u10 c11 u12 u13 ((lf4_archiveUnpaid_4 u13 k j v1 Iv).2)) H1 locs1 → lv_has ls1 4 [(2, .int (nI (tn u12))), (1, .int ((lf4_archiveUnpaid_4 u13 k j v1 Iv).1)), (0, .ref (a 0))] → W p l e ({ frames := 0, cells := 0, slots := 0, locals := 0 } : Room) s m args below meth c H1 locs1 0 0 Q (F0 m 51 ls1 [])), W p l e ({ frames := 0, cells := 0, slots := 0, locals := 0 } : Room) s m args below meth c H locs 0 0 Q (F0 m 4 ls []) := by
  have i4 : ∀ w ∈ wsX40, w ∈ wsX4_archiveUnpaid := fun _ h => List.mem_cons_of_mem _ (List.mem_append_left _ (List.mem_append_right _ h))
  have lk92 := hts (.fieldLink RX4 92 "RentSizes" "made" "I") (by decide +kernel)
  have lk29 := hts (.fieldLink RX4 29 "RentSizes" "items" "[LRentSizes$Item;") (by decide +kernel)
  have i1 : ∀ w ∈ wsX10, w ∈ wsX4_archiveUnpaid := fun _ h => List.mem_cons_of_mem _ (List.mem_append_right _ h)
  have lk41 := hts (.fieldLink RX4 41 "RentSizes" "height" "I") (by decide +kernel)
  intro k
  induction k with
  | zero =>
    intro j v1 Iv hj H locs ls hw hl kk
    have hj0 : j = tn u12 := by omega
    refine lv_iload_n hx hb dX4_archiveUnpaid_4 rfl (lv_at hl 0 rfl) ?_
    refine lv_aload_n hx hb dX4_archiveUnpaid_5 rfl (lv_at hl 2 rfl) ?_
    refine r_get (C := RX4) (T := TX4) (v := .int (u12)) hx hb hts i4 hown hw 0 rfl rfl 4 (by decide) lk92 rfl dX4_archiveUnpaid_6 ?_
    refine r_top (nI (tn u12)) hob ?_
    refine lv_icmp_ge (tgt := 51) hx hb dX4_archiveUnpaid_9 (by decide) (fun c_9 => ?_) (fun c_9 => ?_)
    · rw [hj0] at hl
      exact kk _ _ _ hw (lv_sub hl [0, 1, 2] rfl)
    · exact absurd (nI_le (by omega) (by omega)) c_9
  | succ k ih =>
    intro j v1 Iv hj H locs ls hw hl kk
    have hjb : j < tn u12 := by omega
    have hjn : j < n := by omega
    refine lv_iload_n hx hb dX4_archiveUnpaid_4 rfl (lv_at hl 0 rfl) ?_
    refine lv_aload_n hx hb dX4_archiveUnpaid_5 rfl (lv_at hl 2 rfl) ?_
    refine r_get (C := RX4) (T := TX4) (v := .int (u12)) hx hb hts i4 hown hw 0 rfl rfl 4 (by decide) lk92 rfl dX4_archiveUnpaid_6 ?_
    refine r_top (nI (tn u12)) hob ?_
    refine lv_icmp_ge (tgt := 51) hx hb dX4_archiveUnpaid_9 (by decide) (fun c_9 => ?_) (fun c_9 => ?_)
    · exact absurd c_9 (nI_ge (by omega) (by omega))
    · refine lv_aload_n hx hb dX4_archiveUnpaid_12 rfl (lv_at hl 2 rfl) ?_
      refine r_get (C := RX4) (T := TX4) (v := .ref (a 11)) hx hb hts i4 hown hw 0 rfl rfl 3 (by decide) lk29 rfl dX4_archiveUnpaid_13 ?_
      refine lv_iload_n hx hb dX4_archiveUnpaid_16 rfl (lv_at hl 0 rfl) ?_
      refine r_aldI hx hb hw ht1 j (by omega) (by assumption) dX4_archiveUnpaid_17 ?_
      refine lv_astore_n (lv' := [(3, .ref (b j 0)), (2, .int (nI (j))), (1, .int (v1)), (0, .ref (a 0))]) hx hb dX4_archiveUnpaid_18 rfl hl (by decide) rfl (fun ls hl => ?_)
      refine lv_aload_n hx hb dX4_archiveUnpaid_19 rfl (lv_at hl 0 rfl) ?_
      refine r_getN (C := RX1) (T := TX1) (v := .int (Iv j 4 0)) hx hb hts i1 hown hw (12 + (6 * j + 0)) (CW_get _ (i := j) (by assumption) (by decide) rfl) rfl 5 (by decide) (List.mem_of_getElem? (i := 2) rfl) rfl dX4_archiveUnpaid_20 ?_
      refine lv_if_ne (tgt := 45) hx hb dX4_archiveUnpaid_23 (by decide) (fun c_23 => ?_) (fun c_23 => ?_)
      · refine lv_iinc (v := nI (j + 1)) (lv' := [(2, .int (nI (j + 1))), (3, .ref (b j 0)), (1, .int (v1)), (0, .ref (a 0))]) hx hb dX4_archiveUnpaid_45 hl (k := 1) rfl (by show nI (j) + 1 = _; exact nI_1 _) (by decide) rfl (fun ls hl => ?_)
        refine lv_goto (tgt := 4) hx hb dX4_archiveUnpaid_48 (by decide) ?_
        have e9 : lf4_archiveUnpaid_4 u13 (k + 1) j v1 Iv = lf4_archiveUnpaid_4 u13 k (j + 1) v1 Iv := by rw [lf4_archiveUnpaid_4]; rw [if_neg c_23]
        rw [e9] at kk
        exact ih (j + 1) v1 Iv (by omega)  _ _ _ hw (lv_sub hl [0, 2, 3] rfl) kk
      · refine lv_aload_n hx hb dX4_archiveUnpaid_26 rfl (lv_at hl 0 rfl) ?_
        refine r_getN (C := RX1) (T := TX1) (v := .int (Iv j 3 0)) hx hb hts i1 hown hw (12 + (6 * j + 0)) (CW_get _ (i := j) (by assumption) (by decide) rfl) rfl 4 (by decide) (List.mem_of_getElem? (i := 5) rfl) rfl dX4_archiveUnpaid_27 ?_
        refine lv_aload_n hx hb dX4_archiveUnpaid_30 rfl (lv_at hl 3 rfl) ?_
        refine r_get (C := RX4) (T := TX4) (v := .int (u13)) hx hb hts i4 hown hw 0 rfl rfl 5 (by decide) lk41 rfl dX4_archiveUnpaid_31 ?_
        refine lv_icmp_ge (tgt := 45) hx hb dX4_archiveUnpaid_34 (by decide) (fun c_34 => ?_) (fun c_34 => ?_)
        · refine lv_iinc (v := nI (j + 1)) (lv' := [(2, .int (nI (j + 1))), (3, .ref (b j 0)), (1, .int (v1)), (0, .ref (a 0))]) hx hb dX4_archiveUnpaid_45 hl (k := 1) rfl (by show nI (j) + 1 = _; exact nI_1 _) (by decide) rfl (fun ls hl => ?_)
          refine lv_goto (tgt := 4) hx hb dX4_archiveUnpaid_48 (by decide) ?_
          have e9 : lf4_archiveUnpaid_4 u13 (k + 1) j v1 Iv = lf4_archiveUnpaid_4 u13 k (j + 1) v1 Iv := by rw [lf4_archiveUnpaid_4]; rw [if_pos c_23, if_pos c_34]
          rw [e9] at kk
          exact ih (j + 1) v1 Iv (by omega)  _ _ _ hw (lv_sub hl [0, 2, 3] rfl) kk
        · replace hw := hw.cast (CW_foc _ j)
          refine lv_aload_n hx hb dX4_archiveUnpaid_37 rfl (lv_at hl 0 rfl) ?_
          refine lv_iconst (v := 1) hx hb dX4_archiveUnpaid_38 (by decide) ?_
          refine r_putN (C := RX1) (T := TX1) (ws' := CW a b n cI cO c0 c1 c2 c3 u4 c5 c6 c7 u8 u9 u10 c11 u12 u13 (va_up Iv j (JX (Iv j 0) (Iv j 1 0) (Iv j 2 0) (Iv j 3 0) 1 (Iv j 5) (Iv j 6) (Iv j 7) (Iv j 8 0)))) hx hb hts i1 tyX1 tyX1_ok nmX1 hown hw (12 + (6 * j + 0)) (CW_getF _ _ _ (by assumption) (by decide) rfl) rfl 5 (by decide) (List.mem_of_getElem? (i := 2) rfl) rfl (by decide +kernel) (Nat.le_of_ble_eq_true rfl) (CW_t4 (by assumption) _) dX4_archiveUnpaid_39 (fun H locs hw => ?_)
          refine lv_iinc (v := v1 + 1) (lv' := [(1, .int (v1 + 1)), (3, .ref (b j 0)), (2, .int (nI (j))), (0, .ref (a 0))]) hx hb dX4_archiveUnpaid_42 hl (k := 2) rfl rfl (by decide) rfl (fun ls hl => ?_)
          refine lv_iinc (v := nI (j + 1)) (lv' := [(2, .int (nI (j + 1))), (1, .int (v1 + 1)), (3, .ref (b j 0)), (0, .ref (a 0))]) hx hb dX4_archiveUnpaid_45 hl (k := 2) rfl (by show nI (j) + 1 = _; exact nI_1 _) (by decide) rfl (fun ls hl => ?_)
          refine lv_goto (tgt := 4) hx hb dX4_archiveUnpaid_48 (by decide) ?_
          have e9 : lf4_archiveUnpaid_4 u13 (k + 1) j v1 Iv = lf4_archiveUnpaid_4 u13 k (j + 1) (v1 + 1) (va_up Iv j (JX (Iv j 0) (Iv j 1 0) (Iv j 2 0) (Iv j 3 0) 1 (Iv j 5) (Iv j 6) (Iv j 7) (Iv j 8 0))) := by rw [lf4_archiveUnpaid_4]; rw [if_pos c_23, if_neg c_34]
          rw [e9] at kk
          exact ih (j + 1) (v1 + 1) (va_up Iv j (JX (Iv j 0) (Iv j 1 0) (Iv j 2 0) (Iv j 3 0) 1 (Iv j 5) (Iv j 6) (Iv j 7) (Iv j 8 0))) (by omega)  _ _ _ hw (lv_sub hl [0, 1, 3] rfl) kk
def f4_archiveUnpaid (u12 : Int32) (u13 : Int32) (I : Nat → Nat → Nat → Int32) : Int32 × (Nat → Nat → Nat → Int32) :=
  ((lf4_archiveUnpaid_4 u13 (tn u12) 0 0 I).1, (lf4_archiveUnpaid_4 u13 (tn u12) 0 0 I).2)
set_option maxHeartbeats 4000000 in
set_option maxRecDepth 100000 in
theorem k4_archiveUnpaid (l : Launch) (D : va_G) (ty : List (ClassId × FieldType)) (a : Nat → Nat) (b : Nat → Nat → Nat) (n : Nat) (cI cO : ClassId) (ht0 : ty[0]? = some (cI, .int)) (ht1 : ty[1]? = some (cO, .object "RentSizes$Item")) (c0 : Nat → Int32) (c1 : Nat → Int32) (c2 : Nat → Int32) (c3 : Nat → Int32) (u4 : Int32) (c5 : Nat → Int32) (c6 : Nat → Int32) (c7 : Nat → Int32) (u8 : Int32) (u9 : Int32) (u10 : Int32) (c11 : Nat → Int32) (u12 : Int32) (u13 : Int32) (I : Nat → Nat → Nat → Int32) (hob : u12 = nI (tn u12)) (hob2 : tn u12 ≤ n) (hn60 : n ≤ 60) : MetG l yX4_archiveUnpaid wsX4_archiveUnpaid { frames := 0, cells := 0, slots := 0, locals := 0 } D ty [.ref (a 0)] (CW a b n cI cO c0 c1 c2 c3 u4 c5 c6 c7 u8 u9 u10 c11 u12 u13 I) (va_Qi (fun r w => r = (f4_archiveUnpaid u12 u13 I).1 ∧ w = CW a b n cI cO c0 c1 c2 c3 u4 c5 c6 c7 u8 u9 u10 c11 u12 u13 (f4_archiveUnpaid u12 u13 I).2)) 0 0 := by
  refine Met_start cX4_archiveUnpaid 4 (some .int) (by decide) rfl (Nat.le_of_ble_eq_true rfl) ?_
  intro p e s m below meth c A ls hx hb hr hlocks hml hnm hts hown hw hl
  have hl : lv_has ls 4 [(0, .ref (a 0))] := hl
  refine lv_iconst (v := 0) hx hb dX4_archiveUnpaid_0 (by decide) ?_
  refine lv_istore_n (lv' := [(1, .int (0)), (0, .ref (a 0))]) hx hb dX4_archiveUnpaid_1 rfl hl (by decide) rfl (fun ls hl => ?_)
  refine lv_iconst (v := 0) hx hb dX4_archiveUnpaid_2 (by decide) ?_
  refine lv_istore_n (lv' := [(2, .int (0)), (1, .int (0)), (0, .ref (a 0))]) hx hb dX4_archiveUnpaid_3 rfl hl (by decide) rfl (fun ls hl => ?_)
  refine lt4_archiveUnpaid_4 l D ty a b n cI cO ht0 ht1 c0 c1 c2 c3 u4 c5 c6 c7 u8 u9 u10 c11 u12 u13 I hob hob2 hn60  hx hb hml hts hown (tn u12) 0 0 I (by omega)  _ _ _ hw hl (fun H locs ls hw hl => ?_)
  refine lv_iload_n hx hb dX4_archiveUnpaid_51 rfl (lv_at hl 1 rfl) ?_
  have e9 : f4_archiveUnpaid u12 u13 I = ((lf4_archiveUnpaid_4 u13 (tn u12) 0 0 I).1, (lf4_archiveUnpaid_4 u13 (tn u12) 0 0 I).2) := by unfold f4_archiveUnpaid; rfl
  exact r_iret hx hb hr hlocks hw ⟨by rw [e9] <;> rfl, by rw [e9] <;> rfl⟩ dX4_archiveUnpaid_52
def f4_refusalToShrink (t2 : Int32) (t4 : Int32) (p2 : Int32) : Int32 :=
  if t4 = 0 then (if (f4_within p2 1 (t2 - 1)) = 0 then (-102)
    else 0)
  else (-103)
set_option maxHeartbeats 4000000 in
set_option maxRecDepth 100000 in
theorem k4_refusalToShrink (l : Launch) (D : va_G) (ty : List (ClassId × FieldType)) (a : Nat → Nat) (b : Nat → Nat → Nat) (n : Nat) (cI cO : ClassId) (ht0 : ty[0]? = some (cI, .int)) (ht1 : ty[1]? = some (cO, .object "RentSizes$Item")) (c0 : Nat → Int32) (c1 : Nat → Int32) (c2 : Nat → Int32) (c3 : Nat → Int32) (u4 : Int32) (c5 : Nat → Int32) (c6 : Nat → Int32) (c7 : Nat → Int32) (u8 : Int32) (u9 : Int32) (u10 : Int32) (c11 : Nat → Int32) (u12 : Int32) (u13 : Int32) (I : Nat → Nat → Nat → Int32) (i : Nat) (b0 : Nat → Int32) (t1 : Int32) (t2 : Int32) (t3 : Int32) (t4 : Int32) (b5 : Nat → Int32) (b6 : Nat → Int32) (b7 : Nat → Int32) (t8 : Int32) (p2 : Int32) (hi : i < n) : MetG l yX4_refusalToShrink wsX4_refusalToShrink { frames := 1, cells := 0, slots := 0, locals := 22 } D ty [.ref (b i 0), .int (p2)] (CW a b n cI cO c0 c1 c2 c3 u4 c5 c6 c7 u8 u9 u10 c11 u12 u13 (va_up I i (JX b0 t1 t2 t3 t4 b5 b6 b7 t8))) (va_Qi (fun r w => r = f4_refusalToShrink t2 t4 p2 ∧ w = CW a b n cI cO c0 c1 c2 c3 u4 c5 c6 c7 u8 u9 u10 c11 u12 u13 (va_up I i (JX b0 t1 t2 t3 t4 b5 b6 b7 t8)))) 0 0 := by
  refine Met_start cX4_refusalToShrink 2 (some .int) (by decide) rfl (Nat.le_of_ble_eq_true rfl) ?_
  intro p e s m below meth c A ls hx hb hr hlocks hml hnm hts hown hw hl
  have hl : lv_has ls 2 [(0, .ref (b i 0)), (1, .int (p2))] := hl
  have i1 : ∀ w ∈ wsX10, w ∈ wsX4_refusalToShrink := fun _ h => List.mem_cons_of_mem _ (List.mem_append_right _ h)
  refine lv_aload_n hx hb dX4_refusalToShrink_0 rfl (lv_at hl 0 rfl) ?_
  refine r_getN (C := RX1) (T := TX1) (v := .int (t4)) hx hb hts i1 hown hw (12 + (6 * i + 0)) (CW_getF _ _ _ (by assumption) (by decide) rfl) rfl 5 (by decide) (List.mem_of_getElem? (i := 2) rfl) rfl dX4_refusalToShrink_1 ?_
  refine lv_if_eq (tgt := 10) hx hb dX4_refusalToShrink_4 (by decide) (fun c_4 => ?_) (fun c_4 => ?_)
  · refine lv_iload_n hx hb dX4_refusalToShrink_10 rfl (lv_at hl 1 rfl) ?_
    refine lv_iconst (v := 1) hx hb dX4_refusalToShrink_11 (by decide) ?_
    refine lv_aload_n hx hb dX4_refusalToShrink_12 rfl (lv_at hl 0 rfl) ?_
    refine r_getN (C := RX1) (T := TX1) (v := .int (t2)) hx hb hts i1 hown hw (12 + (6 * i + 0)) (CW_getF _ _ _ (by assumption) (by decide) rfl) rfl 3 (by decide) (List.mem_of_getElem? (i := 4) rfl) rfl dX4_refusalToShrink_13 ?_
    refine lv_iconst (v := 1) hx hb dX4_refusalToShrink_16 (by decide) ?_
    refine lv_isub hx hb dX4_refusalToShrink_17 ?_
    refine r_callSi (rest := []) ⟨hx, hb, hml, hown, hts⟩ hw [.int (p2), .int (1), .int (t2 - 1)] (k4_within l D ty a b n cI cO ht0 ht1 c0 c1 c2 c3 u4 c5 c6 c7 u8 u9 u10 c11 u12 u13 (va_up I i (JX b0 t1 t2 t3 t4 b5 b6 b7 t8)) p2 1 (t2 - 1)) (va_cwS 3 hts gX4_refusalToShrink_X4_within rfl rfl rfl (by decide +kernel) ⟨Nat.le_of_ble_eq_true rfl, Nat.le_of_ble_eq_true rfl⟩) rfl hl.1 rfl (Nat.le_of_ble_eq_true rfl) dX4_refusalToShrink_18 ⟨Nat.le_of_ble_eq_true rfl, Nat.le_of_ble_eq_true rfl⟩ (fun r w H locs hp hw => ?_)
    obtain ⟨rfl, rfl⟩ := hp
    refine lv_if_eq (tgt := 28) hx hb dX4_refusalToShrink_21 (by decide) (fun c_21 => ?_) (fun c_21 => ?_)
    · refine lv_bipush (v := (-102)) hx hb dX4_refusalToShrink_28 (by decide) ?_
      have e9 : f4_refusalToShrink t2 t4 p2 = (-102) := by unfold f4_refusalToShrink; rw [if_pos c_4, if_pos c_21]
      exact r_iret hx hb hr hlocks hw ⟨by rw [e9] <;> rfl, rfl⟩ dX4_refusalToShrink_30
    · refine lv_iconst (v := 0) hx hb dX4_refusalToShrink_24 (by decide) ?_
      refine lv_goto (tgt := 30) hx hb dX4_refusalToShrink_25 (by decide) ?_
      have e9 : f4_refusalToShrink t2 t4 p2 = 0 := by unfold f4_refusalToShrink; rw [if_pos c_4, if_neg c_21]
      exact r_iret hx hb hr hlocks hw ⟨by rw [e9] <;> rfl, rfl⟩ dX4_refusalToShrink_30
  · refine lv_bipush (v := (-103)) hx hb dX4_refusalToShrink_7 (by decide) ?_
    have e9 : f4_refusalToShrink t2 t4 p2 = (-103) := by unfold f4_refusalToShrink; rw [if_neg c_4]
    exact r_iret hx hb hr hlocks hw ⟨by rw [e9] <;> rfl, rfl⟩ dX4_refusalToShrink_9
def lf4_giveBack_5 (b5 : Nat → Int32) (b6 : Nat → Int32) (b7 : Nat → Int32) (t8 : Int32) (p2 : Int32) : Nat → Nat → Int32 → (Nat → Int32) → Int32 → Int32 × (Nat → Int32) × Int32
  | 0, _, v3, f5, f8 => (v3, f5, f8)
  | k + 1, j, v3, f5, f8 => lf4_giveBack_5 b5 b6 b7 t8 p2 k (j + 1) (v3 + ((f3_giveTo f5 f8 (nI (j)) (f2_worthTo b5 b6 b7 t8 (nI (j)) p2)).1)) ((f3_giveTo f5 f8 (nI (j)) (f2_worthTo b5 b6 b7 t8 (nI (j)) p2)).2.1) ((f3_giveTo f5 f8 (nI (j)) (f2_worthTo b5 b6 b7 t8 (nI (j)) p2)).2.2)
set_option maxHeartbeats 4000000 in
set_option maxRecDepth 100000 in
theorem lt4_giveBack_5 (l : Launch) (D : va_G) (ty : List (ClassId × FieldType)) (a : Nat → Nat) (b : Nat → Nat → Nat) (n : Nat) (cI cO : ClassId) (ht0 : ty[0]? = some (cI, .int)) (ht1 : ty[1]? = some (cO, .object "RentSizes$Item")) (c0 : Nat → Int32) (c1 : Nat → Int32) (c2 : Nat → Int32) (c3 : Nat → Int32) (u4 : Int32) (c5 : Nat → Int32) (c6 : Nat → Int32) (c7 : Nat → Int32) (u8 : Int32) (u9 : Int32) (u10 : Int32) (c11 : Nat → Int32) (u12 : Int32) (u13 : Int32) (I : Nat → Nat → Nat → Int32) (i : Nat) (b0 : Nat → Int32) (t1 : Int32) (t2 : Int32) (t3 : Int32) (t4 : Int32) (b5 : Nat → Int32) (b6 : Nat → Int32) (b7 : Nat → Int32) (t8 : Int32) (p2 : Int32) (hi : i < n) (hc0 : t8 = nI (tn t8)) (hc1 : tn t8 ≤ 16)  {p : Program} {e : Env} {s : State} {m : MethodId} {args : Array Value} {below : List Frame} {meth : Method} {c : Code} {A : Nat → Prop} {H0 : Heap} {Q : State → Prop} (hx : p.tables.exec = Jvm.exec) (hb : c.code = cX4_giveBack) (hml : c.maxLocals = 5) (hts : ∀ w ∈ wsX4_giveBack, w.before args s = true) (hown : s.vm.findClass RX4 = some m.cls) : ∀ (k j : Nat) (v3 : Int32) (f5 : (Nat → Int32)) (f8 : Int32) (hj : j + k = 6) (H : Heap) (locs : List Loc) (ls : Array Slot) (hw : Wd D ty A H0 s (CW a b n cI cO c0 c1 c2 c3 u4 f5 c6 c7 f8 u9 u10 c11 u12 u13 (va_up I i (JX b0 t1 t2 t3 t4 b5 b6 b7 t8))) H locs) (hl : lv_has ls 5 [(4, .int (nI (j))), (3, .int (v3)), (0, .ref (a 0)), (1, .ref (b i 0)), (2, .int (p2))]) (kk : ∀ (H1 : Heap) (locs1 : List Loc) (ls1 : Array Slot), Wd D ty A H0 s (CW a b n cI cO c0 c1 c2 c3 u4 ((lf4_giveBack_5 b5 b6 b7 t8 p2 k j v3 f5 f8).2.1) c6 c7 ((lf4_giveBack_5 b5 b6 b7 t8 p2 k j v3 f5 f8).2.2) u9 u10 c11 u12 u13 (va_up I i (JX b0 t1 t2 t3 t4 b5 b6 b7 t8))) H1 locs1 → lv_has ls1 5 [(4, .int (nI (6))), (3, .int ((lf4_giveBack_5 b5 b6 b7 t8 p2 k j v3 f5 f8).1)), (0, .ref (a 0)), (1, .ref (b i 0)), (2, .int (p2))] → W p l e ({ frames := 2, cells := 0, slots := 0, locals := 47 } : Room) s m args below meth c H1 locs1 0 0 Q (F0 m 40 ls1 [])), W p l e ({ frames := 2, cells := 0, slots := 0, locals := 47 } : Room) s m args below meth c H locs 0 0 Q (F0 m 5 ls []) := by
  have i4 : ∀ w ∈ wsX40, w ∈ wsX4_giveBack := fun _ h => List.mem_cons_of_mem _ (List.mem_append_left _ (List.mem_append_left _ (List.mem_append_left _ (List.mem_append_right _ h))))
  have lk19 := hts (.fieldLink RX4 19 "RentSizes" "ledger" "LRentSizes$Ledger;") (by decide +kernel)
  have i1 : ∀ w ∈ wsX10, w ∈ wsX4_giveBack := fun _ h => List.mem_cons_of_mem _ (List.mem_append_left _ (List.mem_append_left _ (List.mem_append_right _ h)))
  intro k
  induction k with
  | zero =>
    intro j v3 f5 f8 hj H locs ls hw hl kk
    have hj0 : j = 6 := by omega
    refine lv_iload hx hb dX4_giveBack_5 (lv_at hl 0 rfl) ?_
    refine lv_bipush (v := 6) hx hb dX4_giveBack_7 (by decide) ?_
    refine r_top (nI 6) rfl ?_
    refine lv_icmp_ge (tgt := 40) hx hb dX4_giveBack_9 (by decide) (fun c_9 => ?_) (fun c_9 => ?_)
    · subst hj0
      exact kk _ _ _ hw (lv_sub hl [0, 1, 2, 3, 4] rfl)
    · exact absurd (nI_le (by omega) (by omega)) c_9
  | succ k ih =>
    intro j v3 f5 f8 hj H locs ls hw hl kk
    have hjb : j < 6 := by omega
    refine lv_iload hx hb dX4_giveBack_5 (lv_at hl 0 rfl) ?_
    refine lv_bipush (v := 6) hx hb dX4_giveBack_7 (by decide) ?_
    refine r_top (nI 6) rfl ?_
    refine lv_icmp_ge (tgt := 40) hx hb dX4_giveBack_9 (by decide) (fun c_9 => ?_) (fun c_9 => ?_)
    · exact absurd c_9 (nI_ge (by omega) (by omega))
    · refine lv_iload_n hx hb dX4_giveBack_12 rfl (lv_at hl 1 rfl) ?_
      refine lv_aload_n hx hb dX4_giveBack_13 rfl (lv_at hl 2 rfl) ?_
      refine r_get (C := RX4) (T := TX4) (v := .ref (a 6)) hx hb hts i4 hown hw 0 rfl rfl 1 (by decide) lk19 rfl dX4_giveBack_14 ?_
      refine lv_iload hx hb dX4_giveBack_17 (lv_at hl 0 rfl) ?_
      refine lv_aload_n hx hb dX4_giveBack_19 rfl (lv_at hl 3 rfl) ?_
      refine r_getN (C := RX1) (T := TX1) (v := .ref (b i 2)) hx hb hts i1 hown hw (12 + (6 * i + 0)) (CW_getF _ _ _ (by assumption) (by decide) rfl) rfl 1 (by decide) (List.mem_of_getElem? (i := 1) rfl) rfl dX4_giveBack_20 ?_
      refine lv_iload hx hb dX4_giveBack_23 (lv_at hl 0 rfl) ?_
      refine lv_iload_n hx hb dX4_giveBack_25 rfl (lv_at hl 4 rfl) ?_
      refine r_callVi (12 + (6 * i + 2)) (CW_getF _ _ _ (by assumption) (by decide) rfl) rfl (rest := [.int (nI (j)), .ref (a 6), .int (v3)]) ⟨hx, hb, hml, hown, hts⟩ hw [.int (nI (j)), .int (p2)] (k2_worthTo l D ty a b n cI cO ht0 ht1 c0 c1 c2 c3 u4 f5 c6 c7 f8 u9 u10 c11 u12 u13 I i b0 t1 t2 t3 t4 b5 b6 b7 t8 (nI (j)) p2 (by first | assumption | omega) (by first | assumption | omega) (by first | assumption | omega)) (cwV 2 hts gX4_giveBack_X2_worthTo rfl rfl rfl (by decide +kernel) ⟨Nat.le_of_ble_eq_true rfl, Nat.le_of_ble_eq_true rfl⟩) rfl hl.1 rfl (Nat.le_of_ble_eq_true rfl) dX4_giveBack_26 ⟨Nat.le_of_ble_eq_true rfl, Nat.le_of_ble_eq_true rfl⟩ (fun r w H locs hp hw => ?_)
      obtain ⟨rfl, rfl⟩ := hp
      refine r_callVi 6 rfl rfl (rest := [.int (v3)]) ⟨hx, hb, hml, hown, hts⟩ hw [.int (nI (j)), .int (f2_worthTo b5 b6 b7 t8 (nI (j)) p2)] (k3_giveTo l D ty a b n cI cO ht0 ht1 c0 c1 c2 c3 u4 f5 c6 c7 f8 u9 u10 c11 u12 u13 (va_up I i (JX b0 t1 t2 t3 t4 b5 b6 b7 t8)) (nI (j)) (f2_worthTo b5 b6 b7 t8 (nI (j)) p2) (vp_in_nI (by omega) (by decide))) (cwV 2 hts gX4_giveBack_X3_giveTo rfl rfl rfl (by decide +kernel) ⟨Nat.le_of_ble_eq_true rfl, Nat.le_of_ble_eq_true rfl⟩) rfl hl.1 rfl (Nat.le_of_ble_eq_true rfl) dX4_giveBack_29 ⟨Nat.le_of_ble_eq_true rfl, Nat.le_of_ble_eq_true rfl⟩ (fun r w H locs hp hw => ?_)
      obtain ⟨rfl, rfl⟩ := hp
      refine lv_iadd hx hb dX4_giveBack_32 ?_
      refine lv_istore_n (lv' := [(3, .int (v3 + ((f3_giveTo f5 f8 (nI (j)) (f2_worthTo b5 b6 b7 t8 (nI (j)) p2)).1))), (4, .int (nI (j))), (0, .ref (a 0)), (1, .ref (b i 0)), (2, .int (p2))]) hx hb dX4_giveBack_33 rfl hl (by decide) rfl (fun ls hl => ?_)
      refine lv_iinc (v := nI (j + 1)) (lv' := [(4, .int (nI (j + 1))), (3, .int (v3 + ((f3_giveTo f5 f8 (nI (j)) (f2_worthTo b5 b6 b7 t8 (nI (j)) p2)).1))), (0, .ref (a 0)), (1, .ref (b i 0)), (2, .int (p2))]) hx hb dX4_giveBack_34 hl (k := 1) rfl (by show nI (j) + 1 = _; exact nI_1 _) (by decide) rfl (fun ls hl => ?_)
      refine lv_goto (tgt := 5) hx hb dX4_giveBack_37 (by decide) ?_
      have e9 : lf4_giveBack_5 b5 b6 b7 t8 p2 (k + 1) j v3 f5 f8 = lf4_giveBack_5 b5 b6 b7 t8 p2 k (j + 1) (v3 + ((f3_giveTo f5 f8 (nI (j)) (f2_worthTo b5 b6 b7 t8 (nI (j)) p2)).1)) ((f3_giveTo f5 f8 (nI (j)) (f2_worthTo b5 b6 b7 t8 (nI (j)) p2)).2.1) ((f3_giveTo f5 f8 (nI (j)) (f2_worthTo b5 b6 b7 t8 (nI (j)) p2)).2.2) := rfl
      rw [e9] at kk
      exact ih (j + 1) (v3 + ((f3_giveTo f5 f8 (nI (j)) (f2_worthTo b5 b6 b7 t8 (nI (j)) p2)).1)) ((f3_giveTo f5 f8 (nI (j)) (f2_worthTo b5 b6 b7 t8 (nI (j)) p2)).2.1) ((f3_giveTo f5 f8 (nI (j)) (f2_worthTo b5 b6 b7 t8 (nI (j)) p2)).2.2) (by omega)  _ _ _ hw (lv_sub hl [0, 1, 2, 3, 4] rfl) kk
def f4_giveBack (c5 : Nat → Int32) (u8 : Int32) (b5 : Nat → Int32) (b6 : Nat → Int32) (b7 : Nat → Int32) (t8 : Int32) (p2 : Int32) : Int32 × (Nat → Int32) × Int32 × (Nat → Int32) × Int32 :=
  ((lf4_giveBack_5 b5 b6 b7 t8 p2 6 0 0 c5 u8).1, (lf4_giveBack_5 b5 b6 b7 t8 p2 6 0 0 c5 u8).2.1, (lf4_giveBack_5 b5 b6 b7 t8 p2 6 0 0 c5 u8).2.2, (f2_remove b5 t8 p2).1, (f2_remove b5 t8 p2).2)
set_option maxHeartbeats 4000000 in
set_option maxRecDepth 100000 in
theorem k4_giveBack (l : Launch) (D : va_G) (ty : List (ClassId × FieldType)) (a : Nat → Nat) (b : Nat → Nat → Nat) (n : Nat) (cI cO : ClassId) (ht0 : ty[0]? = some (cI, .int)) (ht1 : ty[1]? = some (cO, .object "RentSizes$Item")) (c0 : Nat → Int32) (c1 : Nat → Int32) (c2 : Nat → Int32) (c3 : Nat → Int32) (u4 : Int32) (c5 : Nat → Int32) (c6 : Nat → Int32) (c7 : Nat → Int32) (u8 : Int32) (u9 : Int32) (u10 : Int32) (c11 : Nat → Int32) (u12 : Int32) (u13 : Int32) (I : Nat → Nat → Nat → Int32) (i : Nat) (b0 : Nat → Int32) (t1 : Int32) (t2 : Int32) (t3 : Int32) (t4 : Int32) (b5 : Nat → Int32) (b6 : Nat → Int32) (b7 : Nat → Int32) (t8 : Int32) (p2 : Int32) (hi : i < n) (hc0 : t8 = nI (tn t8)) (hc1 : tn t8 ≤ 16) : MetG l yX4_giveBack wsX4_giveBack { frames := 2, cells := 0, slots := 0, locals := 47 } D ty [.ref (a 0), .ref (b i 0), .int (p2)] (CW a b n cI cO c0 c1 c2 c3 u4 c5 c6 c7 u8 u9 u10 c11 u12 u13 (va_up I i (JX b0 t1 t2 t3 t4 b5 b6 b7 t8))) (va_Qi (fun r w => r = (f4_giveBack c5 u8 b5 b6 b7 t8 p2).1 ∧ w = CW a b n cI cO c0 c1 c2 c3 u4 ((f4_giveBack c5 u8 b5 b6 b7 t8 p2).2.1) c6 c7 ((f4_giveBack c5 u8 b5 b6 b7 t8 p2).2.2.1) u9 u10 c11 u12 u13 (va_up I i (JX b0 t1 t2 t3 t4 ((f4_giveBack c5 u8 b5 b6 b7 t8 p2).2.2.2.1) b6 b7 ((f4_giveBack c5 u8 b5 b6 b7 t8 p2).2.2.2.2))))) 0 0 := by
  refine Met_start cX4_giveBack 5 (some .int) (by decide) rfl (Nat.le_of_ble_eq_true rfl) ?_
  intro p e s m below meth c A ls hx hb hr hlocks hml hnm hts hown hw hl
  have hl : lv_has ls 5 [(0, .ref (a 0)), (1, .ref (b i 0)), (2, .int (p2))] := hl
  have i1 : ∀ w ∈ wsX10, w ∈ wsX4_giveBack := fun _ h => List.mem_cons_of_mem _ (List.mem_append_left _ (List.mem_append_left _ (List.mem_append_right _ h)))
  refine lv_iconst (v := 0) hx hb dX4_giveBack_0 (by decide) ?_
  refine lv_istore_n (lv' := [(3, .int (0)), (0, .ref (a 0)), (1, .ref (b i 0)), (2, .int (p2))]) hx hb dX4_giveBack_1 rfl hl (by decide) rfl (fun ls hl => ?_)
  refine lv_iconst (v := 0) hx hb dX4_giveBack_2 (by decide) ?_
  refine lv_istore (lv' := [(4, .int (0)), (3, .int (0)), (0, .ref (a 0)), (1, .ref (b i 0)), (2, .int (p2))]) hx hb dX4_giveBack_3 hl (by decide) rfl (fun ls hl => ?_)
  refine lt4_giveBack_5 l D ty a b n cI cO ht0 ht1 c0 c1 c2 c3 u4 c5 c6 c7 u8 u9 u10 c11 u12 u13 I i b0 t1 t2 t3 t4 b5 b6 b7 t8 p2 hi hc0 hc1  hx hb hml hts hown 6 0 0 c5 u8 (by omega)  _ _ _ hw hl (fun H locs ls hw hl => ?_)
  refine lv_aload_n hx hb dX4_giveBack_40 rfl (lv_at hl 3 rfl) ?_
  refine r_getN (C := RX1) (T := TX1) (v := .ref (b i 2)) hx hb hts i1 hown hw (12 + (6 * i + 0)) (CW_getF _ _ _ (by assumption) (by decide) rfl) rfl 1 (by decide) (List.mem_of_getElem? (i := 1) rfl) rfl dX4_giveBack_41 ?_
  refine lv_iload_n hx hb dX4_giveBack_44 rfl (lv_at hl 4 rfl) ?_
  refine r_callVv (12 + (6 * i + 2)) (CW_getF _ _ _ (by assumption) (by decide) rfl) rfl (rest := []) ⟨hx, hb, hml, hown, hts⟩ hw [.int (p2)] (k2_remove l D ty a b n cI cO ht0 ht1 c0 c1 c2 c3 u4 ((lf4_giveBack_5 b5 b6 b7 t8 p2 6 0 0 c5 u8).2.1) c6 c7 ((lf4_giveBack_5 b5 b6 b7 t8 p2 6 0 0 c5 u8).2.2) u9 u10 c11 u12 u13 I i b0 t1 t2 t3 t4 b5 b6 b7 t8 p2 (by first | assumption | omega) (by first | assumption | omega) (by first | assumption | omega)) (cwV 1 hts gX4_giveBack_X2_remove rfl rfl rfl (by decide +kernel) ⟨Nat.le_of_ble_eq_true rfl, Nat.le_of_ble_eq_true rfl⟩) rfl hl.1 rfl (Nat.le_of_ble_eq_true rfl) dX4_giveBack_45 ⟨Nat.le_of_ble_eq_true rfl, Nat.le_of_ble_eq_true rfl⟩ (fun w H locs hp hw => ?_)
  subst hp
  refine lv_iload_n hx hb dX4_giveBack_48 rfl (lv_at hl 1 rfl) ?_
  have e9 : f4_giveBack c5 u8 b5 b6 b7 t8 p2 = ((lf4_giveBack_5 b5 b6 b7 t8 p2 6 0 0 c5 u8).1, (lf4_giveBack_5 b5 b6 b7 t8 p2 6 0 0 c5 u8).2.1, (lf4_giveBack_5 b5 b6 b7 t8 p2 6 0 0 c5 u8).2.2, (f2_remove b5 t8 p2).1, (f2_remove b5 t8 p2).2) := by unfold f4_giveBack; rfl
  exact r_iret hx hb hr hlocks hw ⟨by rw [e9] <;> rfl, by rw [e9] <;> rfl⟩ dX4_giveBack_49
