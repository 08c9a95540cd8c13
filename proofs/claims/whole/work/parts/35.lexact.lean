section LX
variable {p : Program} {l : Launch} {e : Env} {R : Room} {s : State} {m : MethodId} {args : Array Value} {below : List Frame} {meth : Method} {c : Code} {H : Heap} {locs : List Loc} {cells slots : Nat} {Q : State → Prop}
variable {cc : ByteArray} {pc : Nat} {ls : Array Slot} {rest st0 : List Value} {D : va_G} {A : Nat → Prop} {a : Nat} {ty : List (ClassId × FieldType)} {ws ws' : va_W} {H0 : Heap}
theorem r_lald (hexec : p.tables.exec = Jvm.exec) (hb : c.code = cc) (hw : Wd D ty A H0 s ws H locs) (q0 : Nat) {cA : ClassId} {n : Nat} {f : Nat → Int64} (ha : ws[q0]? = some (a, .inl (cA, n, .inr (.inl f)))) (ht : ty[2]? = some (cA, .long)) {i : Int32} (hin : vp_in i n) (hdg : decode cc pc = .ok (.laload, 1))
    (kk : W p l e R s m args below meth c H locs cells slots Q (F0 m (pc + 1) ls (.long (f i.toNatClampNeg) :: rest))) : W p l e R s m args below meth c H locs cells slots Q (F0 m pc ls (.int i :: .ref a :: rest)) :=
  va_lald hexec hb hw.1 hw.2.1 q0 2 ha ht hin hdg kk
theorem r_last (hexec : p.tables.exec = Jvm.exec) (hb : c.code = cc) (hw : Wd D ty A H0 s ws H locs) (q0 : Nat) {cA : ClassId} {n : Nat} {f : Nat → Int64} (ha : ws[q0]? = some (a, .inl (cA, n, .inr (.inl f)))) (ht : ty[2]? = some (cA, .long)) {i : Int32} {x : Int64} (hin : vp_in i n) (hset : ws.set q0 (a, .inl (cA, n, .inr (.inl (vp_updL f i.toNatClampNeg x)))) = ws') (hdg : decode cc pc = .ok (.lastore, 1))
    (kk : ∀ (H1 : Heap) (locs1 : List Loc), Wd D ty A H0 s ws' H1 locs1 → W p l e R s m args below meth c H1 locs1 cells slots Q (F0 m (pc + 1) ls rest)) : W p l e R s m args below meth c H locs cells slots Q (F0 m pc ls (.long x :: .int i :: .ref a :: rest)) := by
  obtain ⟨hK, hP, hD, hS, hA, hE⟩ := hw
  subst hset
  exact va_last hexec hb hK hP hD hS q0 2 ha ht hin hdg (fun H1 locs1 h1 h2 h3 => kk H1 locs1 ⟨hK, h1, h2, h3, hA, hE⟩)
theorem Wd.preX (hw : Wd D ty A s.heap s ws H locs) (hX : Ex A s) {av : List Value} : ∀ U : State, U.heap = H → s.WarmedH U.vm → cPX D ty av ws H.size av.toArray U := by
  have hF := hw.free
  obtain ⟨hK, hP, hD, hS, hA, hE⟩ := hw
  exact fun U hU hW => ⟨rfl, by rw [hU], by rw [hU]; exact hP, va_K.moved hW.alike hK, hD.weaken (fun _ _ _ _ => trivial), hE.warm hW, Ex.ride hW (fun a h1 h2 => by rw [hU]; exact hS.2.1 a h1 h2) hF hX⟩
end LX
def MetE (l : Launch) (y : MethodName) (wy : List Cond) (rm : Room) (D : va_G) (ty : List (ClassId × FieldType)) (av : List Value) (ws : va_W) (post : Int32 → va_W → Prop) (mc ms : Nat) : Prop :=
  ∀ sz : Nat, Met l y wy rm (cPX D ty av ws sz) (va_Qi post (cB D ty (va_A ws sz)) (va_A ws sz)) mc ms (va_A ws sz)
/-- what the law's own exact answers and leaves -/
def lxP (p1 p2 : Int64) (ws : va_W) (q0 ao : Nat) (cL : ClassId) (f : Nat → Int64) (r : Int32) (w : va_W) : Prop :=
  (∃ v, f4_exact p1 p2 = some v ∧ r = 0 ∧ w = ws.set q0 (ao, .inl (cL, 1, .inr (.inl (vp_updL f 0 v))))) ∨ (f4_exact p1 p2 = none ∧ r = 1 ∧ w = ws)
set_option maxHeartbeats 4000000 in
set_option maxRecDepth 100000 in
theorem kL_exact (l : Launch) (hst : l.stackTraces = false) (D : va_G) (ty : List (ClassId × FieldType)) {cL : ClassId} (ht2 : ty[2]? = some (cL, .long)) (ws : va_W) (j0 q0 : Nat) (q ao : Nat) {fs : List Value} {f : Nat → Int64} (hj : ws[j0]? = some (q, .inr (4, fs))) (ho : ws[q0]? = some (ao, .inl (cL, 1, .inr (.inl f)))) (p1 p2 : Int64) : MetE l yL_exact wsL_exact { frames := 7, cells := 1, slots := 6, locals := 109 } D ty [.ref q, .long p1, .long p2, .ref ao] ws (lxP p1 p2 ws q0 ao cL f) 1 6 := by
  intro sz
  refine va_MetW (cc := cL_exact) (maxL := 7) (ret := some .int) (hh := [(0, 10, 13, 13)]) (by decide) rfl ?_
  intro p e s m args below meth c s₁ B hml hv
  obtain ⟨rfl, hsz, hP, hK, hD0, hE, hX⟩ := hv
  subst hsz
  have hD := hD0.self (sz := s.heap.size)
  rw [lg_entry_eq]
  have hx := B.exec
  have hb := B.bytes
  have hr := B.returns
  have hlocks := B.notSynchronized
  have hts : ∀ w ∈ wsL_exact, w.before ([.ref q, .long p1, .long p2, .ref ao] : List Value).toArray s = true := atoms_spec (ws := wsL_exact) B.pre
  have hown : s.vm.findClass RL = some m.cls := findClass_of_methodNamed B.named
  have htab : c.exceptionTable.toList = tableOf [(0, 10, 13, 13)] := vx_table (x := yL_exact) B (hts (.codeWith yL_exact cL_exact 7 (some .int) [(0, 10, 13, 13)]) (by decide +kernel))
  have hw : Wd D ty (va_A ws s.heap.size) s.heap s ws s.heap [] := ⟨hK, hP, hD, va_S.rf, fun q h => Or.inr h, hE⟩
  have hl := lv_entry [.ref q, .long p1, .long p2, .ref ao] (n := 7) (Nat.le_of_ble_eq_true rfl)
  generalize (lg_sl ([.ref q, .long p1, .long p2, .ref ao]) ++ List.replicate (7 - (lg_sl ([.ref q, .long p1, .long p2, .ref ao])).length) Slot.unset).toArray = ls at hl ⊢
  have hl : lv_has ls 7 [(0, .ref q), (1, .long (p1)), (3, .long (p2)), (5, .ref ao)] := hl
  refine lv_aload hx hb dL_exact_0 (lv_at hl 3 rfl) ?_
  refine lv_iconst (v := 0) hx hb dL_exact_2 (by decide) ?_
  refine lv_aload_n hx hb dL_exact_3 rfl (lv_at hl 0 rfl) ?_
  refine lv_lload_n hx hb dL_exact_4 rfl (lv_at hl 1 rfl) ?_
  refine lv_lload_n hx hb dL_exact_5 rfl (lv_at hl 2 rfl) ?_
  refine vx_calll (vx_runV (As := [.long p1, .long p2]) (rest := [.int 0, .ref ao]) ⟨hx, hb, hml, hown, hts⟩ (k4_exact l hst D ty ws q p1 p2 s.heap.size) (cwV 2 hts gL_exact_X4_exact rfl rfl rfl (by decide +kernel) ⟨Nat.le_of_ble_eq_true rfl, Nat.le_of_ble_eq_true rfl⟩) ⟨cPX_blind, va_recv hw.1 hw.2.1 (ci := 4) rfl hj, hw.preX hX⟩ rfl rfl hl.1 rfl (lv_room (Nat.le_of_ble_eq_true rfl)) dL_exact_6 ⟨Nat.le_of_ble_eq_true rfl, Nat.le_of_ble_eq_true rfl⟩) hw.2.2.2.1 (fun q _ h => hw.free q h) hw.free (fun q _ h => hw.free q h) ?_ ?_
  · rintro E ce q9 u t H1 locs1 ht hvm ⟨hu, hnone⟩ ⟨rfl, hB⟩ hz hk hS1 hcell hcv hcl
    subst hu
    have hw1 := hw.after ht hB hS1
    obtain ⟨x1, x2, x3, x4, -, -, -⟩ := hX
    refine vx_catch (own := RL) (name := "java/lang/ArithmeticException") hown [] _ [] htab (fun z hz => nomatch hz) (by decide +kernel) (by decide +kernel) (hts (.classLink RL 13 "java/lang/ArithmeticException") (by decide +kernel)) (va_Nw.use rfl x4) hcell hcv hcl ?_
    refine lv_astore (lv' := [(6, .ref q9), (0, .ref q), (1, .long (p1)), (3, .long (p2)), (5, .ref ao)]) hx hb dL_exact_13 hl (by decide) rfl (fun ls hl => ?_)
    refine lv_iconst (v := 1) hx hb dL_exact_15 (by decide) ?_
    exact r_iret hx hb hr hlocks hw1 (Or.inr ⟨hnone, rfl, rfl⟩) dL_exact_16
  · rintro r u t H1 locs1 ht hvm ⟨hsome, hu⟩ hB hz hk hS1
    have hB : cB D ty (va_A ws s.heap.size) ws t := hu ▸ hB
    have hw1 := hw.after ht hB hS1
    refine r_last (ws' := ws.set q0 (ao, .inl (cL, 1, .inr (.inl (vp_updL f 0 r))))) hx hb hw1 q0 ho ht2 (by unfold vp_in; decide) rfl dL_exact_9 (fun H2 locs2 hw2 => ?_)
    refine lv_goto (tgt := 17) hx hb dL_exact_10 (by decide) ?_
    refine lv_iconst (v := 0) hx hb dL_exact_17 (by decide) ?_
    exact r_iret hx hb hr hlocks hw2 (Or.inl ⟨r, hsome, rfl, rfl⟩) dL_exact_18
