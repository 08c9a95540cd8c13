section ASTQ
variable {p : Program} {l : Launch} {e : Env} {R : Room} {s : State} {m : MethodId} {args : Array Value} {below : List Frame} {meth : Method} {c : Code} {H : Heap} {locs : List Loc} {cells slots : Nat} {Q : State → Prop}
variable {cc : ByteArray} {pc : Nat} {ls : Array Slot} {rest : List Value} {D : va_G} {A : Nat → Prop} {ty : List (ClassId × FieldType)} {H0 : Heap} {ws ws' : va_W}
theorem r_astq (hexec : p.tables.exec = Jvm.exec) (hb : c.code = cc) (hw : Wd D ty A H0 s ws H locs) (q0 qk : Nat) {cO : ClassId} {ad N v : Nat} {vs : List Value} {f : Nat → Option Nat} (ha : ws[q0]? = some (ad, .inl (cO, N, .inr (.inr (.inr (.inr f)))))) (ht1 : ty[1]? = some (cO, .object "RentSizes$Item")) (hv : ws[qk]? = some (v, .inr (1, vs))) (i : Nat) (hi : i < N) (hN : N < 2 ^ 31) (hset : ws.set q0 (ad, .inl (cO, N, .inr (.inr (.inr (.inr (va_up f i (some v))))))) = ws') (hdg : decode cc pc = .ok (.aastore, 1))
    (kk : ∀ (H1 : Heap) (locs1 : List Loc), Wd D ty A H0 s ws' H1 locs1 → W p l e R s m args below meth c H1 locs1 cells slots Q (F0 m (pc + 1) ls rest)) : W p l e R s m args below meth c H locs cells slots Q (F0 m pc ls (.ref v :: .int (nI i) :: .ref ad :: rest)) := by
  obtain ⟨hK, hP, hD, hS, hA, hE⟩ := hw
  subst hset
  refine va_astq (r := (RX1, TX1, 6)) hexec hb hK hP hD hS q0 1 qk 1 ha ht1 hv rfl (vp_in_nI hi hN) hdg (fun H1 locs1 h1 h2 h3 => ?_)
  rw [nI_clamp (Nat.lt_trans hi hN)] at h1 h2
  exact kk H1 locs1 ⟨hK, h1, h2, h3, hA, hE⟩
theorem r_aldI0 (hexec : p.tables.exec = Jvm.exec) (hb : c.code = cc) {a : Nat → Nat} {b : Nat → Nat → Nat} {n : Nat} {cI cO : ClassId} {c0 : Nat → Int32} {c1 : Nat → Int32} {c2 : Nat → Int32} {c3 : Nat → Int32} {u4 : Int32} {c5 : Nat → Int32} {c6 : Nat → Int32} {c7 : Nat → Int32} {u8 : Int32} {u9 : Int32} {u10 : Int32} {c11 : Nat → Int32} {u12 : Int32} {u13 : Int32} {I : Nat → Nat → Nat → Int32} (hw : Wd D ty A H0 s (CW a b n cI cO c0 c1 c2 c3 u4 c5 c6 c7 u8 u9 u10 c11 u12 u13 I) H locs) (ht1 : ty[1]? = some (cO, .object "RentSizes$Item")) (i : Nat) (hi : ¬ i < n) (hn : i < 60) (hdg : decode cc pc = .ok (.aaload, 1))
    (kk : W p l e R s m args below meth c H locs cells slots Q (F0 m (pc + 1) ls (.null :: rest))) : W p l e R s m args below meth c H locs cells slots Q (F0 m pc ls (.int (nI i) :: .ref (a 11) :: rest)) := by
  refine va_aldq hexec hb hw.1 hw.2.1 11 1 (f := CR b n) (n := 60) rfl ht1 (vp_in_nI (by omega) (by decide)) hdg ?_
  rw [nI_clamp (by omega), CR, if_neg hi]
  exact kk
end ASTQ
theorem CR_grow (b : Nat → Nat → Nat) (n : Nat) (bb : Nat → Nat) : va_up (CR b n) n (some (bb 0)) = CR (va_up b n bb) (n + 1) := by
  funext i
  by_cases e : i = n
  · subst e; rw [va_up_self, CR, if_pos (by omega), va_up_self]
  · rw [va_up_ne _ _ e]
    unfold CR
    by_cases h : i < n
    · rw [if_pos h, if_pos (by omega), va_up_ne _ _ e]
    · rw [if_neg h, if_neg (by omega)]
theorem cIs_grow (cI : ClassId) (b : Nat → Nat → Nat) (I : Nat → Nat → Nat → Int32) (bb : Nat → Nat) (J : Nat → Nat → Int32) (N : Nat) : ∀ n, n ≤ N → cIs cI (va_up b N bb) (va_up I N J) n = cIs cI b I n
  | 0, _ => rfl
  | n + 1, h => by simp only [cIs]; rw [cIs_grow cI b I bb J N n (by omega), va_up_ne _ _ (by omega), va_up_ne _ _ (by omega)]
theorem CW_grow {a : Nat → Nat} {b : Nat → Nat → Nat} {n : Nat} {cI cO : ClassId} {c0 : Nat → Int32} {c1 : Nat → Int32} {c2 : Nat → Int32} {c3 : Nat → Int32} {u4 : Int32} {c5 : Nat → Int32} {c6 : Nat → Int32} {c7 : Nat → Int32} {u8 : Int32} {u9 : Int32} {u10 : Int32} {c11 : Nat → Int32} {u12 : Int32} {u13 : Int32} {I : Nat → Nat → Nat → Int32} (bb : Nat → Nat) (J : Nat → Nat → Int32) {D : va_G} {ty : List (ClassId × FieldType)} {A : Nat → Prop} {H0 : Heap} {s : State} {H : Heap} {locs : List Loc} (hw : Wd D ty A H0 s ((it1 cI bb J ++ CW a b n cI cO c0 c1 c2 c3 u4 c5 c6 c7 u8 u9 u10 c11 u12 u13 I).set 17 (a 11, .inl (cO, 60, .inr (.inr (.inr (.inr (va_up (CR b n) n (some (bb 0)))))))) ) H locs) : Wd D ty A H0 s (CW a (va_up b n bb) (n + 1) cI cO c0 c1 c2 c3 u4 c5 c6 c7 u8 u9 u10 c11 u12 u13 (va_up I n J)) H locs := by
  rw [CR_grow] at hw
  have e1 : (it1 cI bb J ++ CW a b n cI cO c0 c1 c2 c3 u4 c5 c6 c7 u8 u9 u10 c11 u12 u13 I).set 17 (a 11, .inl (cO, 60, .inr (.inr (.inr (.inr (CR (va_up b n bb) (n + 1))))))) = it1 cI bb J ++ (cX a (va_up b n bb) (n + 1) cI cO c0 c1 c2 c3 u4 c5 c6 c7 u8 u9 u10 c11 u12 u13 ++ cIs cI b I n) := rfl
  rw [e1] at hw
  have e2 : CW a (va_up b n bb) (n + 1) cI cO c0 c1 c2 c3 u4 c5 c6 c7 u8 u9 u10 c11 u12 u13 (va_up I n J) = (cX a (va_up b n bb) (n + 1) cI cO c0 c1 c2 c3 u4 c5 c6 c7 u8 u9 u10 c11 u12 u13 ++ cIs cI b I n) ++ it1 cI bb J := by
    unfold CW
    simp only [cIs]
    rw [cIs_grow cI b I bb J n n (Nat.le_refl _), va_up_self, va_up_self, List.append_assoc]
  rw [e2]
  exact hw.perm List.perm_append_comm
set_option maxHeartbeats 2000000 in
set_option maxRecDepth 100000 in
theorem k4_freshItem (l : Launch) (D : va_G) (ty : List (ClassId × FieldType)) (a : Nat → Nat) (b : Nat → Nat → Nat) (n : Nat) (cI cO : ClassId) (ht0 : ty[0]? = some (cI, .int)) (ht1 : ty[1]? = some (cO, .object "RentSizes$Item")) (c0 : Nat → Int32) (c1 : Nat → Int32) (c2 : Nat → Int32) (c3 : Nat → Int32) (u4 : Int32) (c5 : Nat → Int32) (c6 : Nat → Int32) (c7 : Nat → Int32) (u8 : Int32) (u9 : Int32) (u10 : Int32) (c11 : Nat → Int32) (u12 : Int32) (u13 : Int32) (I : Nat → Nat → Nat → Int32) (hob : u12 = nI (tn u12)) (hob2 : tn u12 ≤ n) (hn60 : n ≤ 60) (hlt : tn u12 < 60) : MetG l yX4_freshItem wsX4_freshItem { frames := 3, cells := 6, slots := 62, locals := 52 } D ty [.ref (a 0)] (CW a b n cI cO c0 c1 c2 c3 u4 c5 c6 c7 u8 u9 u10 c11 u12 u13 I) (va_Qq (fun r w => ∃ (b2 : Nat → Nat → Nat) (n2 : Nat) (I2 : Nat → Nat → Nat → Int32), r = some (b2 (tn u12) 0) ∧ w = CW a b2 n2 cI cO c0 c1 c2 c3 u4 c5 c6 c7 u8 u9 u10 c11 (nI (tn u12 + 1)) u13 I2 ∧ tn u12 < n2 ∧ n2 ≤ 60 ∧ n ≤ n2 ∧ ∀ i, i < tn u12 → I2 i = I i)) 6 62 := by
  refine Met_start cX4_freshItem 1 (some (.object "RentSizes$Item")) (by decide) rfl (Nat.le_of_ble_eq_true rfl) ?_
  intro p e s m below meth c A ls hx hb hr hlocks hml hnm hts hown hw hl
  have hl : lv_has ls 1 [(0, .ref (a 0))] := hl
  have i4 : ∀ w ∈ wsX40, w ∈ wsX4_freshItem := fun _ h => List.mem_cons_of_mem _ (List.mem_append_left _ (List.mem_append_left _ (List.mem_append_right _ h)))
  have i1 : ∀ w ∈ wsX10, w ∈ wsX4_freshItem := fun _ h => List.mem_cons_of_mem _ (List.mem_append_left _ (List.mem_append_right _ h))
  have lkm := hts (.fieldLink RX4 92 "RentSizes" "made" "I") (by decide +kernel)
  have lki := hts (.fieldLink RX4 29 "RentSizes" "items" "[LRentSizes$Item;") (by decide +kernel)
  refine lv_aload_n hx hb dX4_freshItem_0 rfl (lv_at hl 0 rfl) ?_
  refine r_get (C := RX4) (T := TX4) (v := .ref (a 11)) hx hb hts i4 hown hw 0 rfl rfl 3 (by decide) lki rfl dX4_freshItem_1 ?_
  refine lv_aload_n hx hb dX4_freshItem_4 rfl (lv_at hl 0 rfl) ?_
  refine r_get (C := RX4) (T := TX4) (v := .int u12) hx hb hts i4 hown hw 0 rfl rfl 4 (by decide) lkm rfl dX4_freshItem_5 ?_
  refine r_top (nI (tn u12)) hob ?_
  by_cases hc : tn u12 < n
  · refine r_aldI hx hb hw ht1 (tn u12) hc hn60 dX4_freshItem_8 ?_
    refine lv_ifnonnull (tgt := 28) hx hb dX4_freshItem_9 (by decide) ?_
    refine W.widen (k := 6) (n := 62) (by omega) (by omega) ?_
    refine lv_aload_n hx hb dX4_freshItem_28 rfl (lv_at hl 0 rfl) ?_
    refine r_get (C := RX4) (T := TX4) (v := .ref (a 11)) hx hb hts i4 hown hw 0 rfl rfl 3 (by decide) lki rfl dX4_freshItem_29 ?_
    refine lv_aload_n hx hb dX4_freshItem_32 rfl (lv_at hl 0 rfl) ?_
    refine lv_dup hx hb dX4_freshItem_33 rfl ?_
    refine r_get (C := RX4) (T := TX4) (v := .int u12) hx hb hts i4 hown hw 0 rfl rfl 4 (by decide) lkm rfl dX4_freshItem_34 ?_
    refine lv_dup_x1 hx hb dX4_freshItem_37 rfl rfl ?_
    refine lv_iconst (v := 1) hx hb dX4_freshItem_38 (by decide) ?_
    refine lv_iadd hx hb dX4_freshItem_39 ?_
    refine r_top (nI (tn u12 + 1)) (by rw [show u12 + 1 = nI (tn u12) + 1 from congrArg (· + 1) hob]; exact nI_1 _) ?_
    refine r_put (C := RX4) (T := TX4) (ws' := CW a b n cI cO c0 c1 c2 c3 u4 c5 c6 c7 u8 u9 u10 c11 (nI (tn u12 + 1)) u13 I) hx hb hts i4 tyX4 tyX4_ok nmX4 hown hw 0 rfl rfl 4 (by decide) lkm rfl (by decide +kernel) (Nat.le_of_ble_eq_true rfl) (CW_s12 _) dX4_freshItem_40 (fun H locs hw => ?_)
    refine r_top (nI (tn u12)) hob ?_
    refine r_aldI hx hb hw ht1 (tn u12) (by omega) (by omega) dX4_freshItem_43 ?_
    exact r_aret (v := some (b (tn u12) 0)) hx hb hr hlocks hw ⟨b, n, I, rfl, rfl, hc, hn60, Nat.le_refl _, fun _ _ => rfl⟩ dX4_freshItem_44
  · have hnn : n = tn u12 := by omega
    refine r_aldI0 hx hb hw ht1 (tn u12) hc hlt dX4_freshItem_8 ?_
    refine lv_ifnonnullN hx hb dX4_freshItem_9 ?_
    refine lv_aload_n hx hb dX4_freshItem_12 rfl (lv_at hl 0 rfl) ?_
    refine r_get (C := RX4) (T := TX4) (v := .ref (a 11)) hx hb hts i4 hown hw 0 rfl rfl 3 (by decide) lki rfl dX4_freshItem_13 ?_
    refine lv_aload_n hx hb dX4_freshItem_16 rfl (lv_at hl 0 rfl) ?_
    refine r_get (C := RX4) (T := TX4) (v := .int u12) hx hb hts i4 hown hw 0 rfl rfl 4 (by decide) lkm rfl dX4_freshItem_17 ?_
    refine r_top (nI (tn u12)) hob ?_
    refine r_new (ci := 1) (fs := [.null, .null, .int 0, .int 0, .int 0, .int 0]) (C := RX1) (T := TX1) (N := 6) hx hb hts i1 tyX1 tyX1_ok hown (hts (.classLink RX4 27 RX1) (by decide +kernel)) (hts (.instantiable RX1 6) (by decide +kernel)) (hts (.initialized RX1) (by decide +kernel)) hw rfl (fun j hj => by rcases (show j = 0 ∨ j = 1 ∨ j = 2 ∨ j = 3 ∨ j = 4 ∨ j = 5 by omega) with rfl | rfl | rfl | rfl | rfl | rfl <;> rfl) (Nat.le_of_ble_eq_true rfl) (Nat.le_of_ble_eq_true rfl) dX4_freshItem_20 (fun q H hw => ?_)
    replace hw := hw.perm (List.perm_append_singleton _ _)
    refine lv_dup hx hb dX4_freshItem_23 rfl ?_
    refine r_callIN (rest := [.ref q, .int (nI (tn u12)), .ref (a 11)]) ⟨hx, hb, hml, hown, hts⟩ hw [] (k1_init l D ty cI ht0 (CW a b n cI cO c0 c1 c2 c3 u4 c5 c6 c7 u8 u9 u10 c11 u12 u13 I) q) ⟨va_cnB 0 hts gX4_freshItem_X1_init_n230 rfl rfl rfl (hw.2.2.2.2.2.2.1 _ (List.mem_of_getElem? (i := 2) rfl)) (hts (.initialized RX1) (by decide +kernel)) (by decide +kernel) ⟨Nat.le_of_ble_eq_true rfl, Nat.le_of_ble_eq_true rfl⟩, rfl, hts (.instanceMethod yX1_init) (by decide +kernel)⟩ rfl hl.1 rfl (Nat.le_of_ble_eq_true rfl) dX4_freshItem_24 ⟨Nat.le_of_ble_eq_true rfl, Nat.le_of_ble_eq_true rfl⟩ (fun w H locs hp hw => ?_)
    obtain ⟨bb, rfl, rfl⟩ := hp
    refine r_astq (ws' := (it1 cI bb (JX (fun _ => 0) 0 0 0 0 (fun _ => 0) (fun _ => 0) (fun _ => 0) 0) ++ CW a b n cI cO c0 c1 c2 c3 u4 c5 c6 c7 u8 u9 u10 c11 u12 u13 I).set 17 (a 11, .inl (cO, 60, .inr (.inr (.inr (.inr (va_up (CR b n) (tn u12) (some (bb 0)))))))) ) hx hb hw 17 0 rfl ht1 rfl (tn u12) hlt (by decide) rfl dX4_freshItem_27 (fun H locs hw => ?_)
    rw [← hnn] at hw
    replace hw := CW_grow bb _ hw
    refine W.widen (k := 6) (n := 62) (by omega) (by omega) ?_
    refine lv_aload_n hx hb dX4_freshItem_28 rfl (lv_at hl 0 rfl) ?_
    refine r_get (C := RX4) (T := TX4) (v := .ref (a 11)) hx hb hts i4 hown hw 0 rfl rfl 3 (by decide) lki rfl dX4_freshItem_29 ?_
    refine lv_aload_n hx hb dX4_freshItem_32 rfl (lv_at hl 0 rfl) ?_
    refine lv_dup hx hb dX4_freshItem_33 rfl ?_
    refine r_get (C := RX4) (T := TX4) (v := .int u12) hx hb hts i4 hown hw 0 rfl rfl 4 (by decide) lkm rfl dX4_freshItem_34 ?_
    refine lv_dup_x1 hx hb dX4_freshItem_37 rfl rfl ?_
    refine lv_iconst (v := 1) hx hb dX4_freshItem_38 (by decide) ?_
    refine lv_iadd hx hb dX4_freshItem_39 ?_
    refine r_top (nI (tn u12 + 1)) (by rw [show u12 + 1 = nI (tn u12) + 1 from congrArg (· + 1) hob]; exact nI_1 _) ?_
    refine r_put (C := RX4) (T := TX4) (ws' := CW a (va_up b n bb) (n + 1) cI cO c0 c1 c2 c3 u4 c5 c6 c7 u8 u9 u10 c11 (nI (tn u12 + 1)) u13 (va_up I n (JX (fun _ => 0) 0 0 0 0 (fun _ => 0) (fun _ => 0) (fun _ => 0) 0))) hx hb hts i4 tyX4 tyX4_ok nmX4 hown hw 0 rfl rfl 4 (by decide) lkm rfl (by decide +kernel) (Nat.le_of_ble_eq_true rfl) (CW_s12 _) dX4_freshItem_40 (fun H locs hw => ?_)
    refine r_top (nI (tn u12)) hob ?_
    refine r_aldI hx hb hw ht1 (tn u12) (by omega) (by omega) dX4_freshItem_43 ?_
    exact r_aret (v := some (va_up b n bb (tn u12) 0)) hx hb hr hlocks hw ⟨va_up b n bb, n + 1, va_up I n (JX (fun _ => 0) 0 0 0 0 (fun _ => 0) (fun _ => 0) (fun _ => 0) 0), rfl, rfl, by omega, by omega, by omega, fun i hi => va_up_ne _ _ (by omega)⟩ dX4_freshItem_44
