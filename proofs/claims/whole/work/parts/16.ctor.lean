theorem Wd.part {D : va_G} {ty : List (ClassId × FieldType)} {A : Nat → Prop} {H0 : Heap} {s : State} {P P' Z : va_W} {H : Heap} {locs : List Loc} (hw : Wd D ty A H0 s (P ++ Z) H locs) (is : List Nat) (hn : va_nd is = true) (hs : is.map (fun i => P[i]?) = P'.map some) : Wd D ty A H0 s (P' ++ Z) H locs :=
  ⟨hw.1, hw.2.1.part is hs, hw.2.2.1.part is hn hs, hw.2.2.2⟩
theorem Wd.tail {D : va_G} {ty : List (ClassId × FieldType)} {A : Nat → Prop} {H0 : Heap} {s : State} {P X L : va_W} {H : Heap} {locs : List Loc} (hw : Wd D ty A H0 s (P ++ (X ++ L)) H locs) : Wd D ty A H0 s ((P ++ L) ++ X) H locs := by
  rw [List.append_assoc]
  exact hw.perm (List.Perm.append_left P List.perm_append_comm)
section NEWQ
variable {p : Program} {l : Launch} {e : Env} {R : Room} {s : State} {m : MethodId} {args : Array Value} {below : List Frame} {meth : Method} {c : Code} {H : Heap} {locs : List Loc} {cells slots : Nat} {Q : State → Prop}
variable {cc : ByteArray} {pc : Nat} {ls : Array Slot} {rest : List Value} {D : va_G} {A : Nat → Prop} {ty : List (ClassId × FieldType)} {H0 : Heap} {ws : va_W}
theorem r_newq (hexec : p.tables.exec = Jvm.exec) (hb : c.code = cc) {own : String} {index : Nat} (hown : s.vm.findClass own = some m.cls) (hclink : (Cond.classLink own index "RentSizes$Item").before args s = true) (hw : Wd D ty A H0 s ws H locs) {cO : ClassId} (ht1 : ty[1]? = some (cO, .object "RentSizes$Item")) {n : Int32} (N' : Nat) (hn : ¬ n < 0) (hN : n.toNatClampNeg = N') (hbytes : N' * 4 ≤ 536870912) (hcells : cells + 1 ≤ R.cells) (hslots : slots + N' ≤ R.slots) (hdg : decode cc pc = .ok (.anewarray index, 3))
    (kk : ∀ (q : Nat) (H1 : Heap), Wd D ty A H0 s (ws ++ [(q, .inl (cO, N', .inr (.inr (.inr (.inr (fun _ => none))))))]) H1 locs → W p l e R s m args below meth c H1 locs (cells + 1) (slots + N') Q (F0 m (pc + 3) ls (.ref q :: rest))) : W p l e R s m args below meth c H locs cells slots Q (F0 m pc ls (.int n :: rest)) := by
  obtain ⟨hK, hP, hD, hS, hA, hE⟩ := hw
  refine va_newq hexec hb hown hclink hE.2.2 hK hP hD hS hA hn hN hbytes hcells hslots hdg (fun q cB H1 h1 h2 h3 h4 => ?_)
  obtain ⟨_, _, _, _, _, e1⟩ := (hK.2 1 _ ht1).2
  obtain ⟨_, _, _, _, _, e2⟩ := (h1.2 ty.length (cB, .object "RentSizes$Item") (by simp)).2
  have e3 : cB = cO := Option.some.inj (e2.symm.trans e1)
  subst e3
  exact kk q H1 ⟨hK, h2, h3, h4, hA, hE⟩
end NEWQ
set_option maxHeartbeats 4000000 in
set_option maxRecDepth 100000 in
theorem k0_init (l : Launch) (D : va_G) (ty : List (ClassId × FieldType)) (cI : ClassId) (ht0 : ty[0]? = some (cI, .int)) (X : va_W) (h0 : Nat) : MetG l yX0_init wsX0_init { frames := 1, cells := 4, slots := 40, locals := 12 } D ty [.ref h0] ((h0, .inr (0, [.null, .null, .null, .null, .int 0])) :: X) (va_Qv (fun w => ∃ q1 q2 q3 q4 : Nat, w = (h0, .inr (0, [.ref q1, .ref q2, .ref q3, .ref q4, .int 0])) :: (X ++ [(q1, .inl (cI, 10, .inl (fun _ => 0))), (q2, .inl (cI, 10, .inl (fun _ => 0))), (q3, .inl (cI, 10, .inl (fun _ => 0))), (q4, .inl (cI, 10, .inl (fun _ => 0)))]))) 4 40 := by
  refine Met_start cX0_init 1 none (by decide) rfl (Nat.le_of_ble_eq_true rfl) ?_
  intro p e s m below meth c A ls hx hb hr hlocks hml hnm hts hown hw hl
  have hl : lv_has ls 1 [(0, .ref (h0))] := hl
  have i0 : ∀ w ∈ wsX00, w ∈ wsX0_init := fun _ h => List.mem_cons_of_mem _ (List.mem_append_right _ h)
  refine lv_aload_n hx hb dX0_init_0 rfl (lv_at hl 0 rfl) ?_
  refine W.objInit hx hb hown (hts (.methodLink RX0 3 objectInit) (by decide +kernel)) (hts (.instanceMethod objectInit) (by decide +kernel)) (hts (.code objectInit ⟨#[0xb1]⟩ 1 none) (List.mem_of_getElem? (i := 3) rfl)) rfl (by rw [hml]; exact hl.1) rfl dX0_init_1 (Nat.le_of_ble_eq_true rfl) (Nat.le_of_ble_eq_true rfl) ?_
  refine W.eq (g2 := F0 m 4 ls []) rfl ?_
  refine lv_aload_n hx hb dX0_init_4 rfl (lv_at hl 0 rfl) ?_
  refine lv_bipush (v := 10) hx hb dX0_init_5 (by decide) ?_
  refine r_newa hx hb (hts (.arrayClass .int) (by decide +kernel)) hw ht0 10 (by decide) rfl (by decide) (Nat.le_of_ble_eq_true rfl) (Nat.le_of_ble_eq_true rfl) dX0_init_7 (fun q1 H hw => ?_)
  obtain ⟨Y1, eY1⟩ : ∃ z : va_W, z = X ++ [(q1, .inl (cI, 10, .inl (fun _ => 0)))] := ⟨_, rfl⟩
  replace hw := hw.cast (ws' := (h0, .inr (0, [.null, .null, .null, .null, .int 0])) :: Y1) (by rw [eY1]; rfl)
  refine r_putF (C := RX0) (T := TX0) (ty1 := .array .int) (v := .ref q1) (ws' := (h0, .inr (0, [.ref q1, .null, .null, .null, .int 0])) :: Y1) hx hb hts i0 tyX0 tyX0_ok nmX0 hown hw 0 rfl rfl 0 (by decide) (hts (.fieldLink RX0 9 "RentSizes$Editions" "froms" "[I") (by decide +kernel)) rfl hnm rfl (by decide +kernel) rfl rfl (Nat.le_of_ble_eq_true rfl) rfl dX0_init_9 (fun H locs hw => ?_)
  refine lv_aload_n hx hb dX0_init_12 rfl (lv_at hl 0 rfl) ?_
  refine lv_bipush (v := 10) hx hb dX0_init_13 (by decide) ?_
  refine r_newa hx hb (hts (.arrayClass .int) (by decide +kernel)) hw ht0 10 (by decide) rfl (by decide) (Nat.le_of_ble_eq_true rfl) (Nat.le_of_ble_eq_true rfl) dX0_init_15 (fun q2 H hw => ?_)
  obtain ⟨Y2, eY2⟩ : ∃ z : va_W, z = Y1 ++ [(q2, .inl (cI, 10, .inl (fun _ => 0)))] := ⟨_, rfl⟩
  replace hw := hw.cast (ws' := (h0, .inr (0, [.ref q1, .null, .null, .null, .int 0])) :: Y2) (by rw [eY2]; rfl)
  refine r_putF (C := RX0) (T := TX0) (ty1 := .array .int) (v := .ref q2) (ws' := (h0, .inr (0, [.ref q1, .ref q2, .null, .null, .int 0])) :: Y2) hx hb hts i0 tyX0 tyX0_ok nmX0 hown hw 0 rfl rfl 1 (by decide) (hts (.fieldLink RX0 15 "RentSizes$Editions" "prices" "[I") (by decide +kernel)) rfl hnm rfl (by decide +kernel) rfl rfl (Nat.le_of_ble_eq_true rfl) rfl dX0_init_17 (fun H locs hw => ?_)
  refine lv_aload_n hx hb dX0_init_20 rfl (lv_at hl 0 rfl) ?_
  refine lv_bipush (v := 10) hx hb dX0_init_21 (by decide) ?_
  refine r_newa hx hb (hts (.arrayClass .int) (by decide +kernel)) hw ht0 10 (by decide) rfl (by decide) (Nat.le_of_ble_eq_true rfl) (Nat.le_of_ble_eq_true rfl) dX0_init_23 (fun q3 H hw => ?_)
  obtain ⟨Y3, eY3⟩ : ∃ z : va_W, z = Y2 ++ [(q3, .inl (cI, 10, .inl (fun _ => 0)))] := ⟨_, rfl⟩
  replace hw := hw.cast (ws' := (h0, .inr (0, [.ref q1, .ref q2, .null, .null, .int 0])) :: Y3) (by rw [eY3]; rfl)
  refine r_putF (C := RX0) (T := TX0) (ty1 := .array .int) (v := .ref q3) (ws' := (h0, .inr (0, [.ref q1, .ref q2, .ref q3, .null, .int 0])) :: Y3) hx hb hts i0 tyX0 tyX0_ok nmX0 hown hw 0 rfl rfl 2 (by decide) (hts (.fieldLink RX0 18 "RentSizes$Editions" "rents" "[I") (by decide +kernel)) rfl hnm rfl (by decide +kernel) rfl rfl (Nat.le_of_ble_eq_true rfl) rfl dX0_init_25 (fun H locs hw => ?_)
  refine lv_aload_n hx hb dX0_init_28 rfl (lv_at hl 0 rfl) ?_
  refine lv_bipush (v := 10) hx hb dX0_init_29 (by decide) ?_
  refine r_newa hx hb (hts (.arrayClass .int) (by decide +kernel)) hw ht0 10 (by decide) rfl (by decide) (Nat.le_of_ble_eq_true rfl) (Nat.le_of_ble_eq_true rfl) dX0_init_31 (fun q4 H hw => ?_)
  obtain ⟨Y4, eY4⟩ : ∃ z : va_W, z = Y3 ++ [(q4, .inl (cI, 10, .inl (fun _ => 0)))] := ⟨_, rfl⟩
  replace hw := hw.cast (ws' := (h0, .inr (0, [.ref q1, .ref q2, .ref q3, .null, .int 0])) :: Y4) (by rw [eY4]; rfl)
  refine r_putF (C := RX0) (T := TX0) (ty1 := .array .int) (v := .ref q4) (ws' := (h0, .inr (0, [.ref q1, .ref q2, .ref q3, .ref q4, .int 0])) :: Y4) hx hb hts i0 tyX0 tyX0_ok nmX0 hown hw 0 rfl rfl 3 (by decide) (hts (.fieldLink RX0 21 "RentSizes$Editions" "leasts" "[I") (by decide +kernel)) rfl hnm rfl (by decide +kernel) rfl rfl (Nat.le_of_ble_eq_true rfl) rfl dX0_init_33 (fun H locs hw => ?_)
  replace hw := hw.cast (ws' := (h0, .inr (0, [.ref q1, .ref q2, .ref q3, .ref q4, .int 0])) :: (X ++ [(q1, .inl (cI, 10, .inl (fun _ => 0))), (q2, .inl (cI, 10, .inl (fun _ => 0))), (q3, .inl (cI, 10, .inl (fun _ => 0))), (q4, .inl (cI, 10, .inl (fun _ => 0)))])) (by rw [eY4, eY3, eY2, eY1]; simp only [List.append_assoc, List.cons_append, List.nil_append])
  exact r_vret hx hb hr hlocks hw ⟨q1, q2, q3, q4, rfl⟩ dX0_init_36
set_option maxHeartbeats 4000000 in
set_option maxRecDepth 100000 in
theorem k2_init (l : Launch) (D : va_G) (ty : List (ClassId × FieldType)) (cI : ClassId) (ht0 : ty[0]? = some (cI, .int)) (X : va_W) (h0 : Nat) : MetG l yX2_init wsX2_init { frames := 1, cells := 3, slots := 48, locals := 12 } D ty [.ref h0] ((h0, .inr (2, [.null, .null, .null, .int 0])) :: X) (va_Qv (fun w => ∃ q1 q2 q3 : Nat, w = (h0, .inr (2, [.ref q1, .ref q2, .ref q3, .int 0])) :: (X ++ [(q1, .inl (cI, 16, .inl (fun _ => 0))), (q2, .inl (cI, 16, .inl (fun _ => 0))), (q3, .inl (cI, 16, .inl (fun _ => 0)))]))) 3 48 := by
  refine Met_start cX2_init 1 none (by decide) rfl (Nat.le_of_ble_eq_true rfl) ?_
  intro p e s m below meth c A ls hx hb hr hlocks hml hnm hts hown hw hl
  have hl : lv_has ls 1 [(0, .ref (h0))] := hl
  have i2 : ∀ w ∈ wsX20, w ∈ wsX2_init := fun _ h => List.mem_cons_of_mem _ (List.mem_append_right _ h)
  refine lv_aload_n hx hb dX2_init_0 rfl (lv_at hl 0 rfl) ?_
  refine W.objInit hx hb hown (hts (.methodLink RX2 3 objectInit) (by decide +kernel)) (hts (.instanceMethod objectInit) (by decide +kernel)) (hts (.code objectInit ⟨#[0xb1]⟩ 1 none) (List.mem_of_getElem? (i := 3) rfl)) rfl (by rw [hml]; exact hl.1) rfl dX2_init_1 (Nat.le_of_ble_eq_true rfl) (Nat.le_of_ble_eq_true rfl) ?_
  refine W.eq (g2 := F0 m 4 ls []) rfl ?_
  refine lv_aload_n hx hb dX2_init_4 rfl (lv_at hl 0 rfl) ?_
  refine lv_bipush (v := 16) hx hb dX2_init_5 (by decide) ?_
  refine r_newa hx hb (hts (.arrayClass .int) (by decide +kernel)) hw ht0 16 (by decide) rfl (by decide) (Nat.le_of_ble_eq_true rfl) (Nat.le_of_ble_eq_true rfl) dX2_init_7 (fun q1 H hw => ?_)
  obtain ⟨Y1, eY1⟩ : ∃ z : va_W, z = X ++ [(q1, .inl (cI, 16, .inl (fun _ => 0)))] := ⟨_, rfl⟩
  replace hw := hw.cast (ws' := (h0, .inr (2, [.null, .null, .null, .int 0])) :: Y1) (by rw [eY1]; rfl)
  refine r_putF (C := RX2) (T := TX2) (ty1 := .array .int) (v := .ref q1) (ws' := (h0, .inr (2, [.ref q1, .null, .null, .int 0])) :: Y1) hx hb hts i2 tyX2 tyX2_ok nmX2 hown hw 0 rfl rfl 0 (by decide) (hts (.fieldLink RX2 9 "RentSizes$Layers" "bytes" "[I") (by decide +kernel)) rfl hnm rfl (by decide +kernel) rfl rfl (Nat.le_of_ble_eq_true rfl) rfl dX2_init_9 (fun H locs hw => ?_)
  refine lv_aload_n hx hb dX2_init_12 rfl (lv_at hl 0 rfl) ?_
  refine lv_bipush (v := 16) hx hb dX2_init_13 (by decide) ?_
  refine r_newa hx hb (hts (.arrayClass .int) (by decide +kernel)) hw ht0 16 (by decide) rfl (by decide) (Nat.le_of_ble_eq_true rfl) (Nat.le_of_ble_eq_true rfl) dX2_init_15 (fun q2 H hw => ?_)
  obtain ⟨Y2, eY2⟩ : ∃ z : va_W, z = Y1 ++ [(q2, .inl (cI, 16, .inl (fun _ => 0)))] := ⟨_, rfl⟩
  replace hw := hw.cast (ws' := (h0, .inr (2, [.ref q1, .null, .null, .int 0])) :: Y2) (by rw [eY2]; rfl)
  refine r_putF (C := RX2) (T := TX2) (ty1 := .array .int) (v := .ref q2) (ws' := (h0, .inr (2, [.ref q1, .ref q2, .null, .int 0])) :: Y2) hx hb hts i2 tyX2 tyX2_ok nmX2 hown hw 0 rfl rfl 1 (by decide) (hts (.fieldLink RX2 15 "RentSizes$Layers" "prices" "[I") (by decide +kernel)) rfl hnm rfl (by decide +kernel) rfl rfl (Nat.le_of_ble_eq_true rfl) rfl dX2_init_17 (fun H locs hw => ?_)
  refine lv_aload_n hx hb dX2_init_20 rfl (lv_at hl 0 rfl) ?_
  refine lv_bipush (v := 16) hx hb dX2_init_21 (by decide) ?_
  refine r_newa hx hb (hts (.arrayClass .int) (by decide +kernel)) hw ht0 16 (by decide) rfl (by decide) (Nat.le_of_ble_eq_true rfl) (Nat.le_of_ble_eq_true rfl) dX2_init_23 (fun q3 H hw => ?_)
  obtain ⟨Y3, eY3⟩ : ∃ z : va_W, z = Y2 ++ [(q3, .inl (cI, 16, .inl (fun _ => 0)))] := ⟨_, rfl⟩
  replace hw := hw.cast (ws' := (h0, .inr (2, [.ref q1, .ref q2, .null, .int 0])) :: Y3) (by rw [eY3]; rfl)
  refine r_putF (C := RX2) (T := TX2) (ty1 := .array .int) (v := .ref q3) (ws' := (h0, .inr (2, [.ref q1, .ref q2, .ref q3, .int 0])) :: Y3) hx hb hts i2 tyX2 tyX2_ok nmX2 hown hw 0 rfl rfl 2 (by decide) (hts (.fieldLink RX2 18 "RentSizes$Layers" "payers" "[I") (by decide +kernel)) rfl hnm rfl (by decide +kernel) rfl rfl (Nat.le_of_ble_eq_true rfl) rfl dX2_init_25 (fun H locs hw => ?_)
  replace hw := hw.cast (ws' := (h0, .inr (2, [.ref q1, .ref q2, .ref q3, .int 0])) :: (X ++ [(q1, .inl (cI, 16, .inl (fun _ => 0))), (q2, .inl (cI, 16, .inl (fun _ => 0))), (q3, .inl (cI, 16, .inl (fun _ => 0)))])) (by rw [eY3, eY2, eY1]; simp only [List.append_assoc, List.cons_append, List.nil_append])
  exact r_vret hx hb hr hlocks hw ⟨q1, q2, q3, rfl⟩ dX2_init_28
set_option maxHeartbeats 4000000 in
set_option maxRecDepth 100000 in
theorem k3_init (l : Launch) (D : va_G) (ty : List (ClassId × FieldType)) (cI : ClassId) (ht0 : ty[0]? = some (cI, .int)) (X : va_W) (h0 : Nat) : MetG l yX3_init wsX3_init { frames := 1, cells := 3, slots := 16, locals := 12 } D ty [.ref h0] ((h0, .inr (3, [.null, .null, .null, .int 0, .int 0, .int 0])) :: X) (va_Qv (fun w => ∃ q1 q2 q3 : Nat, w = (h0, .inr (3, [.ref q1, .ref q2, .ref q3, .int 0, .int 0, .int 0])) :: (X ++ [(q1, .inl (cI, 6, .inl (fun _ => 0))), (q2, .inl (cI, 5, .inl (fun _ => 0))), (q3, .inl (cI, 5, .inl (fun _ => 0)))]))) 3 16 := by
  refine Met_start cX3_init 1 none (by decide) rfl (Nat.le_of_ble_eq_true rfl) ?_
  intro p e s m below meth c A ls hx hb hr hlocks hml hnm hts hown hw hl
  have hl : lv_has ls 1 [(0, .ref (h0))] := hl
  have i3 : ∀ w ∈ wsX30, w ∈ wsX3_init := fun _ h => List.mem_cons_of_mem _ (List.mem_append_right _ h)
  refine lv_aload_n hx hb dX3_init_0 rfl (lv_at hl 0 rfl) ?_
  refine W.objInit hx hb hown (hts (.methodLink RX3 3 objectInit) (by decide +kernel)) (hts (.instanceMethod objectInit) (by decide +kernel)) (hts (.code objectInit ⟨#[0xb1]⟩ 1 none) (List.mem_of_getElem? (i := 3) rfl)) rfl (by rw [hml]; exact hl.1) rfl dX3_init_1 (Nat.le_of_ble_eq_true rfl) (Nat.le_of_ble_eq_true rfl) ?_
  refine W.eq (g2 := F0 m 4 ls []) rfl ?_
  refine lv_aload_n hx hb dX3_init_4 rfl (lv_at hl 0 rfl) ?_
  refine lv_bipush (v := 6) hx hb dX3_init_5 (by decide) ?_
  refine r_newa hx hb (hts (.arrayClass .int) (by decide +kernel)) hw ht0 6 (by decide) rfl (by decide) (Nat.le_of_ble_eq_true rfl) (Nat.le_of_ble_eq_true rfl) dX3_init_7 (fun q1 H hw => ?_)
  obtain ⟨Y1, eY1⟩ : ∃ z : va_W, z = X ++ [(q1, .inl (cI, 6, .inl (fun _ => 0)))] := ⟨_, rfl⟩
  replace hw := hw.cast (ws' := (h0, .inr (3, [.null, .null, .null, .int 0, .int 0, .int 0])) :: Y1) (by rw [eY1]; rfl)
  refine r_putF (C := RX3) (T := TX3) (ty1 := .array .int) (v := .ref q1) (ws' := (h0, .inr (3, [.ref q1, .null, .null, .int 0, .int 0, .int 0])) :: Y1) hx hb hts i3 tyX3 tyX3_ok nmX3 hown hw 0 rfl rfl 0 (by decide) (hts (.fieldLink RX3 9 "RentSizes$Ledger" "accounts" "[I") (by decide +kernel)) rfl hnm rfl (by decide +kernel) rfl rfl (Nat.le_of_ble_eq_true rfl) rfl dX3_init_9 (fun H locs hw => ?_)
  refine lv_aload_n hx hb dX3_init_12 rfl (lv_at hl 0 rfl) ?_
  refine lv_iconst (v := 5) hx hb dX3_init_13 (by decide) ?_
  refine r_newa hx hb (hts (.arrayClass .int) (by decide +kernel)) hw ht0 5 (by decide) rfl (by decide) (Nat.le_of_ble_eq_true rfl) (Nat.le_of_ble_eq_true rfl) dX3_init_14 (fun q2 H hw => ?_)
  obtain ⟨Y2, eY2⟩ : ∃ z : va_W, z = Y1 ++ [(q2, .inl (cI, 5, .inl (fun _ => 0)))] := ⟨_, rfl⟩
  replace hw := hw.cast (ws' := (h0, .inr (3, [.ref q1, .null, .null, .int 0, .int 0, .int 0])) :: Y2) (by rw [eY2]; rfl)
  refine r_putF (C := RX3) (T := TX3) (ty1 := .array .int) (v := .ref q2) (ws' := (h0, .inr (3, [.ref q1, .ref q2, .null, .int 0, .int 0, .int 0])) :: Y2) hx hb hts i3 tyX3 tyX3_ok nmX3 hown hw 0 rfl rfl 1 (by decide) (hts (.fieldLink RX3 15 "RentSizes$Ledger" "nodes" "[I") (by decide +kernel)) rfl hnm rfl (by decide +kernel) rfl rfl (Nat.le_of_ble_eq_true rfl) rfl dX3_init_16 (fun H locs hw => ?_)
  refine lv_aload_n hx hb dX3_init_19 rfl (lv_at hl 0 rfl) ?_
  refine lv_iconst (v := 5) hx hb dX3_init_20 (by decide) ?_
  refine r_newa hx hb (hts (.arrayClass .int) (by decide +kernel)) hw ht0 5 (by decide) rfl (by decide) (Nat.le_of_ble_eq_true rfl) (Nat.le_of_ble_eq_true rfl) dX3_init_21 (fun q3 H hw => ?_)
  obtain ⟨Y3, eY3⟩ : ∃ z : va_W, z = Y2 ++ [(q3, .inl (cI, 5, .inl (fun _ => 0)))] := ⟨_, rfl⟩
  replace hw := hw.cast (ws' := (h0, .inr (3, [.ref q1, .ref q2, .null, .int 0, .int 0, .int 0])) :: Y3) (by rw [eY3]; rfl)
  refine r_putF (C := RX3) (T := TX3) (ty1 := .array .int) (v := .ref q3) (ws' := (h0, .inr (3, [.ref q1, .ref q2, .ref q3, .int 0, .int 0, .int 0])) :: Y3) hx hb hts i3 tyX3 tyX3_ok nmX3 hown hw 0 rfl rfl 2 (by decide) (hts (.fieldLink RX3 18 "RentSizes$Ledger" "weights" "[I") (by decide +kernel)) rfl hnm rfl (by decide +kernel) rfl rfl (Nat.le_of_ble_eq_true rfl) rfl dX3_init_23 (fun H locs hw => ?_)
  replace hw := hw.cast (ws' := (h0, .inr (3, [.ref q1, .ref q2, .ref q3, .int 0, .int 0, .int 0])) :: (X ++ [(q1, .inl (cI, 6, .inl (fun _ => 0))), (q2, .inl (cI, 5, .inl (fun _ => 0))), (q3, .inl (cI, 5, .inl (fun _ => 0)))])) (by rw [eY3, eY2, eY1]; simp only [List.append_assoc, List.cons_append, List.nil_append])
  exact r_vret hx hb hr hlocks hw ⟨q1, q2, q3, rfl⟩ dX3_init_26
