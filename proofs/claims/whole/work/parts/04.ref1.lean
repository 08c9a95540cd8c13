abbrev tn (x : Int32) : Nat := x.toNatClampNeg
theorem am1 (x : Int32) : x + Int32.ofInt (-1) = x - 1 := by rw [Int32.sub_eq_add_neg]; rfl
theorem va_up_id {α : Type} (f : Nat → α) (k : Nat) : va_up f k (f k) = f := by
  funext j
  by_cases h : j = k
  · subst h; exact va_up_self _ _ _
  · exact va_up_ne _ _ h

def f5_in (M : Nat → Nat → Int32) (p1 : Int64) (p2 : Int64) (p3 : Int64) : Int32 :=
  if (lg_cmp p1 p2) < 0 then 0
  else if 0 < (lg_cmp p1 p3) then 0
  else 1
set_option maxHeartbeats 4000000 in
set_option maxRecDepth 100000 in
theorem k5_in (l : Launch) (D : va_G) (ty : List (ClassId × FieldType)) (a : Nat → Nat) (cI : ClassId) (ht0 : ty[0]? = some (cI, .int)) (M : Nat → Nat → Int32) (p1 : Int64) (p2 : Int64) (p3 : Int64) : MetG l yX5_in wsX5_in { frames := 0, cells := 0, slots := 0, locals := 0 } D ty [.long (p1), .long (p2), .long (p3)] (MW a cI M) (va_Qi (fun r w => r = f5_in M p1 p2 p3 ∧ w = MW a cI M)) 0 0 := by
  refine Met_start cX5_in 6 (some .boolean) (by decide) rfl (Nat.le_of_ble_eq_true rfl) ?_
  intro p e s m below meth c A ls hx hb hr hlocks hml hnm hts hown hw hl
  have hl : lv_has ls 6 [(0, .long (p1)), (2, .long (p2)), (4, .long (p3))] := hl
  refine lv_lload_n hx hb dX5_in_0 rfl (lv_at hl 0 rfl) ?_
  refine lv_lload_n hx hb dX5_in_1 rfl (lv_at hl 1 rfl) ?_
  refine W.lcmp hx hb dX5_in_2 ?_
  refine lv_if_lt (tgt := 17) hx hb dX5_in_3 (by decide) (fun c_3 => ?_) (fun c_3 => ?_)
  · refine lv_iconst (v := 0) hx hb dX5_in_17 (by decide) ?_
    have e9 : f5_in M p1 p2 p3 = 0 := by unfold f5_in; rw [if_pos c_3]
    exact r_zret hx hb hr hlocks (Or.inl rfl) hw ⟨by rw [e9] <;> rfl, rfl⟩ dX5_in_18
  · refine lv_lload_n hx hb dX5_in_6 rfl (lv_at hl 0 rfl) ?_
    refine lv_lload hx hb dX5_in_7 (lv_at hl 2 rfl) ?_
    refine W.lcmp hx hb dX5_in_9 ?_
    refine lv_if_gt (tgt := 17) hx hb dX5_in_10 (by decide) (fun c_10 => ?_) (fun c_10 => ?_)
    · refine lv_iconst (v := 0) hx hb dX5_in_17 (by decide) ?_
      have e9 : f5_in M p1 p2 p3 = 0 := by unfold f5_in; rw [if_neg c_3, if_pos c_10]
      exact r_zret hx hb hr hlocks (Or.inl rfl) hw ⟨by rw [e9] <;> rfl, rfl⟩ dX5_in_18
    · refine lv_iconst (v := 1) hx hb dX5_in_13 (by decide) ?_
      refine lv_goto (tgt := 18) hx hb dX5_in_14 (by decide) ?_
      have e9 : f5_in M p1 p2 p3 = 1 := by unfold f5_in; rw [if_neg c_3, if_neg c_10]
      exact r_zret hx hb hr hlocks (Or.inr rfl) hw ⟨by rw [e9] <;> rfl, rfl⟩ dX5_in_18
def f5_noAccount (M : Nat → Nat → Int32) (p1 : Int32) : Int32 :=
  if (f5_in M p1.toInt64 0 5) = 0 then 1
  else 0
set_option maxHeartbeats 4000000 in
set_option maxRecDepth 100000 in
theorem k5_noAccount (l : Launch) (D : va_G) (ty : List (ClassId × FieldType)) (a : Nat → Nat) (cI : ClassId) (ht0 : ty[0]? = some (cI, .int)) (M : Nat → Nat → Int32) (p1 : Int32) : MetG l yX5_noAccount wsX5_noAccount { frames := 1, cells := 0, slots := 0, locals := 25 } D ty [.ref (a 0), .int (p1)] (MW a cI M) (va_Qi (fun r w => r = f5_noAccount M p1 ∧ w = MW a cI M)) 0 0 := by
  refine Met_start cX5_noAccount 2 (some .boolean) (by decide) rfl (Nat.le_of_ble_eq_true rfl) ?_
  intro p e s m below meth c A ls hx hb hr hlocks hml hnm hts hown hw hl
  have hl : lv_has ls 2 [(0, .ref (a 0)), (1, .int (p1))] := hl
  have ci81 := hts (.constantLong RX5 81 (5)) (by decide +kernel)
  refine lv_iload_n hx hb dX5_noAccount_0 rfl (lv_at hl 1 rfl) ?_
  refine lv_i2l (v := p1.toInt64) hx hb dX5_noAccount_1 rfl ?_
  refine lv_lconst (v := 0) hx hb dX5_noAccount_2 (by decide) ?_
  refine lv_ldc2 (v := 5) hx hb hown ci81 dX5_noAccount_3 ?_
  refine r_callSi (rest := []) ⟨hx, hb, hml, hown, hts⟩ hw [.long (p1.toInt64), .long (0), .long (5)] (k5_in l D ty a cI ht0 M p1.toInt64 0 5) (va_cwS 3 hts gX5_noAccount_X5_in rfl rfl rfl (by decide +kernel) ⟨Nat.le_of_ble_eq_true rfl, Nat.le_of_ble_eq_true rfl⟩) rfl hl.1 rfl (Nat.le_of_ble_eq_true rfl) dX5_noAccount_6 ⟨Nat.le_of_ble_eq_true rfl, Nat.le_of_ble_eq_true rfl⟩ (fun r w H locs hp hw => ?_)
  obtain ⟨rfl, rfl⟩ := hp
  refine lv_if_ne (tgt := 16) hx hb dX5_noAccount_9 (by decide) (fun c_9 => ?_) (fun c_9 => ?_)
  · refine lv_iconst (v := 0) hx hb dX5_noAccount_16 (by decide) ?_
    have e9 : f5_noAccount M p1 = 0 := by unfold f5_noAccount; rw [if_neg c_9]
    exact r_zret hx hb hr hlocks (Or.inl rfl) hw ⟨by rw [e9] <;> rfl, rfl⟩ dX5_noAccount_17
  · refine lv_iconst (v := 1) hx hb dX5_noAccount_12 (by decide) ?_
    refine lv_goto (tgt := 17) hx hb dX5_noAccount_13 (by decide) ?_
    have e9 : f5_noAccount M p1 = 1 := by unfold f5_noAccount; rw [if_pos c_9]
    exact r_zret hx hb hr hlocks (Or.inr rfl) hw ⟨by rw [e9] <;> rfl, rfl⟩ dX5_noAccount_17
def f5_noObject (M : Nat → Nat → Int32) (p1 : Int32) : Int32 :=
  if (f5_in M p1.toInt64 0 (((M 12 0) - 1).toInt64)) = 0 then 1
  else 0
set_option maxHeartbeats 4000000 in
set_option maxRecDepth 100000 in
theorem k5_noObject (l : Launch) (D : va_G) (ty : List (ClassId × FieldType)) (a : Nat → Nat) (cI : ClassId) (ht0 : ty[0]? = some (cI, .int)) (M : Nat → Nat → Int32) (p1 : Int32) : MetG l yX5_noObject wsX5_noObject { frames := 1, cells := 0, slots := 0, locals := 25 } D ty [.ref (a 0), .int (p1)] (MW a cI M) (va_Qi (fun r w => r = f5_noObject M p1 ∧ w = MW a cI M)) 0 0 := by
  refine Met_start cX5_noObject 2 (some .boolean) (by decide) rfl (Nat.le_of_ble_eq_true rfl) ?_
  intro p e s m below meth c A ls hx hb hr hlocks hml hnm hts hown hw hl
  have hl : lv_has ls 2 [(0, .ref (a 0)), (1, .int (p1))] := hl
  have i5 : ∀ w ∈ wsX50, w ∈ wsX5_noObject := fun _ h => List.mem_cons_of_mem _ (List.mem_append_right _ h)
  have lk78 := hts (.fieldLink RX5 78 "RentSizesModel" "objects" "I") (by decide +kernel)
  refine lv_iload_n hx hb dX5_noObject_0 rfl (lv_at hl 1 rfl) ?_
  refine lv_i2l (v := p1.toInt64) hx hb dX5_noObject_1 rfl ?_
  refine lv_lconst (v := 0) hx hb dX5_noObject_2 (by decide) ?_
  refine lv_aload_n hx hb dX5_noObject_3 rfl (lv_at hl 0 rfl) ?_
  refine r_get (C := RX5) (T := TX5) (v := .int (M 12 0)) hx hb hts i5 hown hw 0 rfl rfl 12 (by decide) lk78 rfl dX5_noObject_4 ?_
  refine lv_iconst (v := 1) hx hb dX5_noObject_7 (by decide) ?_
  refine lv_isub hx hb dX5_noObject_8 ?_
  refine lv_i2l (v := ((M 12 0) - 1).toInt64) hx hb dX5_noObject_9 rfl ?_
  refine r_callSi (rest := []) ⟨hx, hb, hml, hown, hts⟩ hw [.long (p1.toInt64), .long (0), .long (((M 12 0) - 1).toInt64)] (k5_in l D ty a cI ht0 M p1.toInt64 0 (((M 12 0) - 1).toInt64)) (va_cwS 3 hts gX5_noObject_X5_in rfl rfl rfl (by decide +kernel) ⟨Nat.le_of_ble_eq_true rfl, Nat.le_of_ble_eq_true rfl⟩) rfl hl.1 rfl (Nat.le_of_ble_eq_true rfl) dX5_noObject_10 ⟨Nat.le_of_ble_eq_true rfl, Nat.le_of_ble_eq_true rfl⟩ (fun r w H locs hp hw => ?_)
  obtain ⟨rfl, rfl⟩ := hp
  refine lv_if_ne (tgt := 20) hx hb dX5_noObject_13 (by decide) (fun c_13 => ?_) (fun c_13 => ?_)
  · refine lv_iconst (v := 0) hx hb dX5_noObject_20 (by decide) ?_
    have e9 : f5_noObject M p1 = 0 := by unfold f5_noObject; rw [if_neg c_13]
    exact r_zret hx hb hr hlocks (Or.inl rfl) hw ⟨by rw [e9] <;> rfl, rfl⟩ dX5_noObject_21
  · refine lv_iconst (v := 1) hx hb dX5_noObject_16 (by decide) ?_
    refine lv_goto (tgt := 21) hx hb dX5_noObject_17 (by decide) ?_
    have e9 : f5_noObject M p1 = 1 := by unfold f5_noObject; rw [if_pos c_13]
    exact r_zret hx hb hr hlocks (Or.inr rfl) hw ⟨by rw [e9] <;> rfl, rfl⟩ dX5_noObject_21
theorem na_in {M : Nat → Nat → Int32} {p1 : Int32} (h : f5_noAccount M p1 = 0) : vp_in p1 6 := by
  sorry
def f5_cap (M : Nat → Nat → Int32) (p1 : Int32) (p2 : Int32) : Int32 × (Nat → Int32) :=
  if (f5_noAccount M p1) = 0 then (if (f5_in M p2.toInt64 0 5000) = 0 then ((-102), (M 7))
    else ((M 7) (tn (p1)), (upd (M 7) (tn (p1)) p2)))
  else ((-101), (M 7))
set_option maxHeartbeats 4000000 in
set_option maxRecDepth 100000 in
theorem k5_cap (l : Launch) (D : va_G) (ty : List (ClassId × FieldType)) (a : Nat → Nat) (cI : ClassId) (ht0 : ty[0]? = some (cI, .int)) (M : Nat → Nat → Int32) (p1 : Int32) (p2 : Int32) : MetG l yX5_cap wsX5_cap { frames := 2, cells := 0, slots := 0, locals := 46 } D ty [.ref (a 0), .int (p1), .int (p2)] (MW a cI M) (va_Qi (fun r w => r = (f5_cap M p1 p2).1 ∧ w = MW a cI (va_up M 7 ((f5_cap M p1 p2).2)))) 0 0 := by
  refine Met_start cX5_cap 4 (some .int) (by decide) rfl (Nat.le_of_ble_eq_true rfl) ?_
  intro p e s m below meth c A ls hx hb hr hlocks hml hnm hts hown hw hl
  have hl : lv_has ls 4 [(0, .ref (a 0)), (1, .int (p1)), (2, .int (p2))] := hl
  have ci105 := hts (.constantLong RX5 105 (5000)) (by decide +kernel)
  have i5 : ∀ w ∈ wsX50, w ∈ wsX5_cap := fun _ h => List.mem_cons_of_mem _ (List.mem_append_right _ h)
  have lk25 := hts (.fieldLink RX5 25 "RentSizesModel" "caps" "[I") (by decide +kernel)
  refine lv_aload_n hx hb dX5_cap_0 rfl (lv_at hl 0 rfl) ?_
  refine lv_iload_n hx hb dX5_cap_1 rfl (lv_at hl 1 rfl) ?_
  refine r_callVi 0 rfl rfl (rest := []) ⟨hx, hb, hml, hown, hts⟩ hw [.int (p1)] (k5_noAccount l D ty a cI ht0 M p1) (cwV 1 hts gX5_cap_X5_noAccount rfl rfl rfl (by decide +kernel) ⟨Nat.le_of_ble_eq_true rfl, Nat.le_of_ble_eq_true rfl⟩) rfl hl.1 rfl (Nat.le_of_ble_eq_true rfl) dX5_cap_2 ⟨Nat.le_of_ble_eq_true rfl, Nat.le_of_ble_eq_true rfl⟩ (fun r w H locs hp hw => ?_)
  obtain ⟨rfl, rfl⟩ := hp
  refine lv_if_eq (tgt := 11) hx hb dX5_cap_5 (by decide) (fun c_5 => ?_) (fun c_5 => ?_)
  · refine lv_iload_n hx hb dX5_cap_11 rfl (lv_at hl 2 rfl) ?_
    refine lv_i2l (v := p2.toInt64) hx hb dX5_cap_12 rfl ?_
    refine lv_lconst (v := 0) hx hb dX5_cap_13 (by decide) ?_
    refine lv_ldc2 (v := 5000) hx hb hown ci105 dX5_cap_14 ?_
    refine r_callSi (rest := []) ⟨hx, hb, hml, hown, hts⟩ hw [.long (p2.toInt64), .long (0), .long (5000)] (k5_in l D ty a cI ht0 M p2.toInt64 0 5000) (va_cwS 3 hts gX5_cap_X5_in rfl rfl rfl (by decide +kernel) ⟨Nat.le_of_ble_eq_true rfl, Nat.le_of_ble_eq_true rfl⟩) rfl hl.1 rfl (Nat.le_of_ble_eq_true rfl) dX5_cap_17 ⟨Nat.le_of_ble_eq_true rfl, Nat.le_of_ble_eq_true rfl⟩ (fun r w H locs hp hw => ?_)
    obtain ⟨rfl, rfl⟩ := hp
    refine lv_if_ne (tgt := 26) hx hb dX5_cap_20 (by decide) (fun c_20 => ?_) (fun c_20 => ?_)
    · refine lv_aload_n hx hb dX5_cap_26 rfl (lv_at hl 0 rfl) ?_
      refine r_get (C := RX5) (T := TX5) (v := .ref (a 7)) hx hb hts i5 hown hw 0 rfl rfl 7 (by decide) lk25 rfl dX5_cap_27 ?_
      have hv := na_in c_5
      refine lv_iload_n hx hb dX5_cap_30 rfl (lv_at hl 1 rfl) ?_
      refine r_iald (v := (M 7) (tn (p1))) hx hb hw 6 rfl ht0 (by first | assumption | exact vp_in_nI (by omega) (by omega)) dX5_cap_31 rfl ?_
      refine lv_istore_n (lv' := [(3, .int ((M 7) (tn (p1)))), (0, .ref (a 0)), (1, .int (p1)), (2, .int (p2))]) hx hb dX5_cap_32 rfl hl (by decide) rfl (fun ls hl => ?_)
      refine lv_aload_n hx hb dX5_cap_33 rfl (lv_at hl 1 rfl) ?_
      refine r_get (C := RX5) (T := TX5) (v := .ref (a 7)) hx hb hts i5 hown hw 0 rfl rfl 7 (by decide) lk25 rfl dX5_cap_34 ?_
      refine lv_iload_n hx hb dX5_cap_37 rfl (lv_at hl 2 rfl) ?_
      refine lv_iload_n hx hb dX5_cap_38 rfl (lv_at hl 3 rfl) ?_
      refine r_iast (ws' := MW a cI (va_up M 7 (upd (M 7) (tn (p1)) p2))) hx hb hw 6 rfl ht0 (by first | assumption | exact vp_in_nI (by omega) (by omega)) rfl dX5_cap_39 (fun H locs hw => ?_)
      refine lv_iload_n hx hb dX5_cap_40 rfl (lv_at hl 0 rfl) ?_
      have e9 : f5_cap M p1 p2 = ((M 7) (tn (p1)), (upd (M 7) (tn (p1)) p2)) := by unfold f5_cap; rw [if_pos c_5, if_neg c_20]
      exact r_iret hx hb hr hlocks hw ⟨by rw [e9] <;> rfl, by rw [e9] <;> rfl⟩ dX5_cap_41
    · refine lv_bipush (v := (-102)) hx hb dX5_cap_23 (by decide) ?_
      have e9 : f5_cap M p1 p2 = ((-102), (M 7)) := by unfold f5_cap; rw [if_pos c_5, if_pos c_20]
      exact r_iret hx hb hr hlocks hw ⟨by rw [e9] <;> rfl, by rw [e9] <;> rfl⟩ dX5_cap_25
  · refine lv_bipush (v := (-101)) hx hb dX5_cap_8 (by decide) ?_
    have e9 : f5_cap M p1 p2 = ((-101), (M 7)) := by unfold f5_cap; rw [if_neg c_5]
    exact r_iret hx hb hr hlocks hw ⟨by rw [e9] <;> rfl, by rw [e9] <;> rfl⟩ dX5_cap_10
def lf5_editionAt_4 (M : Nat → Nat → Int32) (p1 : Int32) : Nat → Nat → Int32 → Int32
  | 0, _, v2 => v2
  | k + 1, j, v2 => if p1 < ((M 2) j) then lf5_editionAt_4 M p1 k (j + 1) v2
    else lf5_editionAt_4 M p1 k (j + 1) (nI (j))
set_option maxHeartbeats 4000000 in
set_option maxRecDepth 100000 in
theorem lt5_editionAt_4 (l : Launch) (D : va_G) (ty : List (ClassId × FieldType)) (a : Nat → Nat) (cI : ClassId) (ht0 : ty[0]? = some (cI, .int)) (M : Nat → Nat → Int32) (p1 : Int32) (he0 : M 1 0 = nI (tn (M 1 0))) (he1 : tn (M 1 0) ≤ 10)  {p : Program} {e : Env} {s : State} {m : MethodId} {args : Array Value} {below : List Frame} {meth : Method} {c : Code} {A : Nat → Prop} {H0 : Heap} {Q : State → Prop} (hx : p.tables.exec = Jvm.exec) (hb : c.code = cX5_editionAt) (hml : c.maxLocals = 4) (hts : ∀ w ∈ wsX5_editionAt, w.before args s = true) (hown : s.vm.findClass RX5 = some m.cls) : ∀ (k j : Nat) (v2 : Int32) (hj : j + k = tn (M 1 0)) (H : Heap) (locs : List Loc) (ls : Array Slot) (hw : Wd D ty A H0 s (MW a cI M) H locs) (hl : lv_has ls 4 [(3, .int (nI (j))), (2, .int (v2)), (0, .ref (a 0)), (1, .int (p1))]) (kk : ∀ (H1 : Heap) (locs1 : List Loc) (ls1 : Array Slot), Wd D ty A H0 s (MW a cI M) H1 locs1 → lv_has ls1 4 [(3, .int (nI (tn (M 1 0)))), (2, .int ((lf5_editionAt_4 M p1 k j v2))), (0, .ref (a 0)), (1, .int (p1))] → W p l e ({ frames := 0, cells := 0, slots := 0, locals := 0 } : Room) s m args below meth c H1 locs1 0 0 Q (F0 m 34 ls1 [])), W p l e ({ frames := 0, cells := 0, slots := 0, locals := 0 } : Room) s m args below meth c H locs 0 0 Q (F0 m 4 ls []) := by
  have i5 : ∀ w ∈ wsX50, w ∈ wsX5_editionAt := fun _ h => List.mem_cons_of_mem _ (List.mem_append_right _ h)
  have lk68 := hts (.fieldLink RX5 68 "RentSizesModel" "editions" "I") (by decide +kernel)
  have lk7 := hts (.fieldLink RX5 7 "RentSizesModel" "eFrom" "[I") (by decide +kernel)
  intro k
  induction k with
  | zero =>
    intro j v2 hj H locs ls hw hl kk
    have hj0 : j = tn (M 1 0) := by omega
    refine lv_iload_n hx hb dX5_editionAt_4 rfl (lv_at hl 0 rfl) ?_
    refine lv_aload_n hx hb dX5_editionAt_5 rfl (lv_at hl 2 rfl) ?_
    refine r_get (C := RX5) (T := TX5) (v := .int (M 1 0)) hx hb hts i5 hown hw 0 rfl rfl 1 (by decide) lk68 rfl dX5_editionAt_6 ?_
    refine r_top (nI (tn (M 1 0))) he0 ?_
    refine lv_icmp_ge (tgt := 34) hx hb dX5_editionAt_9 (by decide) (fun c_9 => ?_) (fun c_9 => ?_)
    · rw [hj0] at hl
      exact kk _ _ _ hw (lv_sub hl [0, 1, 2, 3] rfl)
    · exact absurd (nI_le (by omega) (by omega)) c_9
  | succ k ih =>
    intro j v2 hj H locs ls hw hl kk
    have hjb : j < tn (M 1 0) := by omega
    refine lv_iload_n hx hb dX5_editionAt_4 rfl (lv_at hl 0 rfl) ?_
    refine lv_aload_n hx hb dX5_editionAt_5 rfl (lv_at hl 2 rfl) ?_
    refine r_get (C := RX5) (T := TX5) (v := .int (M 1 0)) hx hb hts i5 hown hw 0 rfl rfl 1 (by decide) lk68 rfl dX5_editionAt_6 ?_
    refine r_top (nI (tn (M 1 0))) he0 ?_
    refine lv_icmp_ge (tgt := 34) hx hb dX5_editionAt_9 (by decide) (fun c_9 => ?_) (fun c_9 => ?_)
    · exact absurd c_9 (nI_ge (by omega) (by omega))
    · refine lv_aload_n hx hb dX5_editionAt_12 rfl (lv_at hl 2 rfl) ?_
      refine r_get (C := RX5) (T := TX5) (v := .ref (a 2)) hx hb hts i5 hown hw 0 rfl rfl 2 (by decide) lk7 rfl dX5_editionAt_13 ?_
      refine lv_iload_n hx hb dX5_editionAt_16 rfl (lv_at hl 0 rfl) ?_
      refine r_ialdN (v := (M 2) j) hx hb hw 1 rfl ht0 j (by omega) (by decide) dX5_editionAt_17 rfl ?_
      refine lv_iload_n hx hb dX5_editionAt_18 rfl (lv_at hl 3 rfl) ?_
      refine lv_icmp_gt (tgt := 26) hx hb dX5_editionAt_19 (by decide) (fun c_19 => ?_) (fun c_19 => ?_)
      · refine lv_iload_n hx hb dX5_editionAt_26 rfl (lv_at hl 1 rfl) ?_
        refine lv_istore_n (lv' := [(2, .int (v2)), (3, .int (nI (j))), (0, .ref (a 0)), (1, .int (p1))]) hx hb dX5_editionAt_27 rfl hl (by decide) rfl (fun ls hl => ?_)
        refine lv_iinc (v := nI (j + 1)) (lv' := [(3, .int (nI (j + 1))), (2, .int (v2)), (0, .ref (a 0)), (1, .int (p1))]) hx hb dX5_editionAt_28 hl (k := 1) rfl (by show nI (j) + 1 = _; exact nI_1 _) (by decide) rfl (fun ls hl => ?_)
        refine lv_goto (tgt := 4) hx hb dX5_editionAt_31 (by decide) ?_
        have e9 : lf5_editionAt_4 M p1 (k + 1) j v2 = lf5_editionAt_4 M p1 k (j + 1) v2 := by rw [lf5_editionAt_4]; rw [if_pos c_19]
        rw [e9] at kk
        exact ih (j + 1) v2 (by omega)  _ _ _ hw (lv_sub hl [0, 1, 2, 3] rfl) kk
      · refine lv_iload_n hx hb dX5_editionAt_22 rfl (lv_at hl 0 rfl) ?_
        refine lv_goto (tgt := 27) hx hb dX5_editionAt_23 (by decide) ?_
        refine lv_istore_n (lv' := [(2, .int (nI (j))), (3, .int (nI (j))), (0, .ref (a 0)), (1, .int (p1))]) hx hb dX5_editionAt_27 rfl hl (by decide) rfl (fun ls hl => ?_)
        refine lv_iinc (v := nI (j + 1)) (lv' := [(3, .int (nI (j + 1))), (2, .int (nI (j))), (0, .ref (a 0)), (1, .int (p1))]) hx hb dX5_editionAt_28 hl (k := 1) rfl (by show nI (j) + 1 = _; exact nI_1 _) (by decide) rfl (fun ls hl => ?_)
        refine lv_goto (tgt := 4) hx hb dX5_editionAt_31 (by decide) ?_
        have e9 : lf5_editionAt_4 M p1 (k + 1) j v2 = lf5_editionAt_4 M p1 k (j + 1) (nI (j)) := by rw [lf5_editionAt_4]; rw [if_neg c_19]
        rw [e9] at kk
        exact ih (j + 1) (nI (j)) (by omega)  _ _ _ hw (lv_sub hl [0, 1, 2, 3] rfl) kk
def f5_editionAt (M : Nat → Nat → Int32) (p1 : Int32) : Int32 :=
  (lf5_editionAt_4 M p1 (tn (M 1 0)) 0 0)
set_option maxHeartbeats 4000000 in
set_option maxRecDepth 100000 in
theorem k5_editionAt (l : Launch) (D : va_G) (ty : List (ClassId × FieldType)) (a : Nat → Nat) (cI : ClassId) (ht0 : ty[0]? = some (cI, .int)) (M : Nat → Nat → Int32) (p1 : Int32) (he0 : M 1 0 = nI (tn (M 1 0))) (he1 : tn (M 1 0) ≤ 10) : MetG l yX5_editionAt wsX5_editionAt { frames := 0, cells := 0, slots := 0, locals := 0 } D ty [.ref (a 0), .int (p1)] (MW a cI M) (va_Qi (fun r w => r = f5_editionAt M p1 ∧ w = MW a cI M)) 0 0 := by
  refine Met_start cX5_editionAt 4 (some .int) (by decide) rfl (Nat.le_of_ble_eq_true rfl) ?_
  intro p e s m below meth c A ls hx hb hr hlocks hml hnm hts hown hw hl
  have hl : lv_has ls 4 [(0, .ref (a 0)), (1, .int (p1))] := hl
  refine lv_iconst (v := 0) hx hb dX5_editionAt_0 (by decide) ?_
  refine lv_istore_n (lv' := [(2, .int (0)), (0, .ref (a 0)), (1, .int (p1))]) hx hb dX5_editionAt_1 rfl hl (by decide) rfl (fun ls hl => ?_)
  refine lv_iconst (v := 0) hx hb dX5_editionAt_2 (by decide) ?_
  refine lv_istore_n (lv' := [(3, .int (0)), (2, .int (0)), (0, .ref (a 0)), (1, .int (p1))]) hx hb dX5_editionAt_3 rfl hl (by decide) rfl (fun ls hl => ?_)
  refine lt5_editionAt_4 l D ty a cI ht0 M p1 he0 he1  hx hb hml hts hown (tn (M 1 0)) 0 0 (by omega)  _ _ _ hw hl (fun H locs ls hw hl => ?_)
  refine lv_iload_n hx hb dX5_editionAt_34 rfl (lv_at hl 1 rfl) ?_
  have e9 : f5_editionAt M p1 = (lf5_editionAt_4 M p1 (tn (M 1 0)) 0 0) := by unfold f5_editionAt; rfl
  exact r_iret hx hb hr hlocks hw ⟨by rw [e9] <;> rfl, rfl⟩ dX5_editionAt_35
