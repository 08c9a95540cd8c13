/-- what a throw of exact asks of the machine -/
def Ex (A : Nat → Prop) (U : State) : Prop :=
  va_Nw (.declares ⟨"java/lang/RuntimeException", "<init>", "(Ljava/lang/String;)V"⟩) U ∧ va_Nw (.declares ⟨"java/lang/Exception", "<init>", "(Ljava/lang/String;)V"⟩) U ∧ va_Nw (.declares ⟨"java/lang/Throwable", "<init>", "(Ljava/lang/String;)V"⟩) U ∧ va_Nw (.castable "java/lang/ArithmeticException" "java/lang/ArithmeticException") U ∧ (∃ sa, vk_R RX4 197 "the product does not go into 64 bits" sa U) ∧ vx_Zq Bundle.tN "UNASSIGNED_STACK" Bundle.steD A U U.heap ∧ vx_Zq Bundle.tN "SUPPRESSED_SENTINEL" Bundle.listD A U U.heap
theorem Ex.call {A : Nat → Prop} {U : State} (g : JFrame) (mk : MethodId) (a : Array Value) (h : Ex A U) : Ex A (U.calling g mk a) := by
  obtain ⟨h1, h2, h3, h4, ⟨sa, h5⟩, h6, h7⟩ := h
  exact ⟨va_Nw.same rfl rfl h1, va_Nw.same rfl rfl h2, va_Nw.same rfl rfl h3, va_Nw.same rfl rfl h4, ⟨sa, vk_R.same (u := U) rfl h5⟩, vx_Zq.moved (u := U) (U := U.calling g mk a) (Vm.Alike.refl U.vm) h6, vx_Zq.moved (u := U) (U := U.calling g mk a) (Vm.Alike.refl U.vm) h7⟩
/-- what rides from the entry of a walk to its calls -/
theorem Ex.ride {A B : Nat → Prop} {s U : State} (hW : s.WarmedH U.vm) (hq : ∀ a : Nat, a < s.heap.size → ¬ A a → U.heap[a]? = s.heap[a]?) (hAB : ∀ q, B q → A q) (h : Ex A s) : Ex B U := by
  obtain ⟨h1, h2, h3, h4, ⟨sa, h5⟩, h6, h7⟩ := h
  exact ⟨va_Nw.warmD hW h1, va_Nw.warmD hW h2, va_Nw.warmD hW h3, va_Nw.warmC hW h4, ⟨sa, vk_R.warm hW h5⟩, vx_Zq.narrow (vx_Zq.moved hW.alike (h6.kept hq)) hAB, vx_Zq.narrow (vx_Zq.moved hW.alike (h7.kept hq)) hAB⟩
def cPX (D : va_G) (ty : List (ClassId × FieldType)) (av : List Value) (ws : va_W) (sz : Nat) : Array Value → State → Prop := va_Pc av (fun U => U.heap.size = sz ∧ va_P D vwCl ws U.heap ∧ va_K D vwCl ty U ∧ va_D (fun _ => True) ws ∧ En U ∧ Ex (va_A ws sz) U)
theorem cPX_blind {D : va_G} {ty : List (ClassId × FieldType)} {av : List Value} {ws : va_W} {sz : Nat} : FrameBlind (cPX D ty av ws sz) := by
  intro a U g mk h
  obtain ⟨q0, q1, qP, qK, qD, qE, qX⟩ := h
  exact ⟨q0, q1, qP, va_K.moved (u := U) (U := U.calling g mk a) (Vm.Alike.refl U.vm) qK, qD, qE.call g mk a, qX.call g mk a⟩
def XAE (D : va_G) (ty : List (ClassId × FieldType)) (ws : va_W) (sz : Nat) (thr : Prop) : String → State → State → Prop := vx_X (fun u : va_W => u = ws ∧ thr) (fun E u t => E = "java/lang/ArithmeticException" ∧ cB D ty (va_A ws sz) u t) (va_A ws sz)
def MetX (l : Launch) (y : MethodName) (wy : List Cond) (rm : Room) (D : va_G) (ty : List (ClassId × FieldType)) (av : List Value) (ws : va_W) (post : Int64 → va_W → Prop) (thr : Prop) (mc ms : Nat) : Prop :=
  ∀ sz : Nat, vx_Met l y wy rm (cPX D ty av ws sz) (va_Ql post (cB D ty (va_A ws sz)) (va_A ws sz)) (XAE D ty ws sz thr) mc ms (va_A ws sz)
set_option maxHeartbeats 4000000 in
set_option maxRecDepth 100000 in
theorem k4_exact (l : Launch) (hst : l.stackTraces = false) (D : va_G) (ty : List (ClassId × FieldType)) (ws : va_W) (q : Nat) (p1 p2 : Int64) : MetX l yX4_exact wsX4_exact { frames := 6, cells := 1, slots := 6, locals := 82 } D ty [.ref q, .long p1, .long p2] ws (fun r w => f4_exact p1 p2 = some r ∧ w = ws) (f4_exact p1 p2 = none) 1 6 := by
  intro sz
  refine vx_ofW (cc := cX4_exact) (maxL := 8) (ret := some .long) (by decide) rfl ?_
  intro p e s m args below meth c s₁ B hml hno hv
  obtain ⟨rfl, hsz, hP, hK, hD0, hE, hX⟩ := hv
  subst hsz
  have hD := hD0.self (sz := s.heap.size)
  rw [lg_entry_eq]
  have hx := B.exec
  have hb := B.bytes
  have hr := B.returns
  have hlocks := B.notSynchronized
  have hts : ∀ w ∈ wsX4_exact, w.before ([.ref q, .long p1, .long p2] : List Value).toArray s = true := atoms_spec (ws := wsX4_exact) B.pre
  have hown : s.vm.findClass RX4 = some m.cls := findClass_of_methodNamed B.named
  have hw : Wd D ty (va_A ws s.heap.size) s.heap s ws s.heap [] := ⟨hK, hP, hD, va_S.rf, fun q h => Or.inr h, hE⟩
  have hl : lv_has _ 8 [(0, .ref q), (1, .long (p1)), (3, .long (p2))] := lv_entry [.ref q, .long p1, .long p2] (n := 8) (Nat.le_of_ble_eq_true rfl)
  have ci191 := hts (.constantLong RX4 191 (-9223372036854775808)) (by decide +kernel)
  have ci193 := hts (.constantLong RX4 193 (-1)) (by decide +kernel)
  have hthrow : f4_exact p1 p2 = none → ∀ ls : Array Slot, ls.size = 8 → W p l e { frames := 6, cells := 1, slots := 6, locals := 82 } s m ([.ref q, .long p1, .long p2] : List Value).toArray below meth c s.heap [] 0 0 (vx_MQ below (va_Ql (fun r w => f4_exact p1 p2 = some r ∧ w = ws) (cB D ty (va_A ws s.heap.size)) (va_A ws s.heap.size)) (XAE D ty ws s.heap.size (f4_exact p1 p2 = none)) ([.ref q, .long p1, .long p2] : List Value).toArray s 1 6 (va_A ws s.heap.size)) (F0 m 56 ls []) := by
    intro hnone ls hls
    obtain ⟨x1, x2, x3, x4, ⟨sa, x5⟩, x6, x7⟩ := hX
    refine vx_throwS (cc := cX4_exact) hx hb hst (own := RX4) (cls := "java/lang/ArithmeticException") (text := "the product does not go into 64 bits") (names := ["java/lang/RuntimeException", "java/lang/Exception"]) (ik := 195) (is := 197) (ic := 199) (sa := sa) (A := va_A ws s.heap.size) hown (by decide +kernel) (by decide +kernel) (hts _ (by decide +kernel)) (hts _ (by decide +kernel)) x5 ?_ ?_ x6 x7 va_S.rf (hls.trans hml.symm) dX4_exact_56 dX4_exact_59 dX4_exact_60 dX4_exact_62 dX4_exact_65 (fun x hx => (hno x hx).elim) (Nat.le_of_ble_eq_true rfl) (Nat.le_of_ble_eq_true rfl) (Nat.le_of_ble_eq_true rfl) (Nat.le_of_ble_eq_true rfl) hlocks ?_ (fun z hz => nomatch hz) (Nat.le_of_ble_eq_true rfl) (Nat.le_of_ble_eq_true rfl)
    · exact vx_hat (B := [.declares ⟨"java/lang/RuntimeException", "<init>", "(Ljava/lang/String;)V"⟩, .declares ⟨"java/lang/Exception", "<init>", "(Ljava/lang/String;)V"⟩, .declares ⟨"java/lang/Throwable", "<init>", "(Ljava/lang/String;)V"⟩, .castable "java/lang/ArithmeticException" "java/lang/ArithmeticException"]) (fun w hw => hts w (List.mem_cons_of_mem _ (List.mem_append_right _ hw))) (by decide +kernel) (vx_c (va_Nw.use rfl x1) (vx_c (va_Nw.use rfl x2) (vx_c (va_Nw.use rfl x3) (vx_c (va_Nw.use rfl x4) vx_n))))
    · exact List.all_eq_true.mp (by decide +kernel)
    · intro t hal hsz hk
      refine ⟨ws, ⟨rfl, hnone⟩, ⟨rfl, hP.kept (fun k q hq => hk q.1 (vx_lt hP hq)), va_K.moved hal hK, hD⟩, hsz, fun q h1 _ => hk q h1⟩
  have htail : ¬ ((lg_cmp p1 (-9223372036854775808)) = 0 ∧ (lg_cmp p2 (-1)) = 0) → ¬ lg_cmp p1 0 = 0 → ¬ lg_cmp p2 0 = 0 → ∀ ls : Array Slot, lv_has ls 8 [(0, .ref q), (1, .long (p1)), (3, .long (p2))] → W p l e { frames := 6, cells := 1, slots := 6, locals := 82 } s m ([.ref q, .long p1, .long p2] : List Value).toArray below meth c s.heap [] 0 0 (vx_MQ below (va_Ql (fun r w => f4_exact p1 p2 = some r ∧ w = ws) (cB D ty (va_A ws s.heap.size)) (va_A ws s.heap.size)) (XAE D ty ws s.heap.size (f4_exact p1 p2 = none)) ([.ref q, .long p1, .long p2] : List Value).toArray s 1 6 (va_A ws s.heap.size)) (F0 m 34 ls []) := by
    intro h1 h2 h3 ls hl
    refine lv_iconst (v := 0) hx hb dX4_exact_34 (by decide) ?_
    refine lv_istore (lv' := [(5, .int 0), (0, .ref q), (1, .long (p1)), (3, .long (p2))]) hx hb dX4_exact_35 hl (by decide) rfl (fun ls hl => ?_)
    refine lv_lload_n hx hb dX4_exact_37 rfl (lv_at hl 2 rfl) ?_
    refine lv_lload_n hx hb dX4_exact_38 rfl (lv_at hl 3 rfl) ?_
    refine lv_lmul hx hb dX4_exact_39 ?_
    refine lv_lstore (lv' := [(6, .long (p1 * p2)), (5, .int 0), (0, .ref q), (1, .long (p1)), (3, .long (p2))]) hx hb dX4_exact_40 hl (by decide) rfl (fun ls hl => ?_)
    refine lv_iload hx hb dX4_exact_42 (lv_at hl 1 rfl) ?_
    refine lv_if_ne (tgt := 56) hx hb dX4_exact_44 (by decide) (fun c_44 => absurd rfl c_44) (fun c_44 => ?_)
    refine lv_lload hx hb dX4_exact_47 (lv_at hl 0 rfl) ?_
    refine lv_lload_n hx hb dX4_exact_49 rfl (lv_at hl 4 rfl) ?_
    refine lv_ldiv hx hb dX4_exact_50 (fun h => h3 ((lg_cmp_eq _ _).mpr h)) ?_
    refine lv_lload_n hx hb dX4_exact_51 rfl (lv_at hl 3 rfl) ?_
    refine W.lcmp hx hb dX4_exact_52 ?_
    refine lv_if_eq (tgt := 66) hx hb dX4_exact_53 (by decide) (fun c_53 => ?_) (fun c_53 => ?_)
    · refine lv_lload hx hb dX4_exact_66 (lv_at hl 0 rfl) ?_
      have e9 : f4_exact p1 p2 = some (p1 * p2) := by unfold f4_exact; rw [if_neg h2, if_neg h3, if_neg h1, if_pos c_53]
      exact W.widen (Nat.le_of_ble_eq_true rfl) (Nat.le_of_ble_eq_true rfl) (vx_ret (r_lret hx hb hr hlocks hw ⟨e9, rfl⟩ dX4_exact_68))
    · exact hthrow (by unfold f4_exact; rw [if_neg h2, if_neg h3, if_neg h1, if_neg c_53]) ls hl.1
  refine lv_lload_n hx hb dX4_exact_0 rfl (lv_at hl 1 rfl) ?_
  refine lv_lconst (v := 0) hx hb dX4_exact_1 (by decide) ?_
  refine W.lcmp hx hb dX4_exact_2 ?_
  refine lv_if_eq (tgt := 12) hx hb dX4_exact_3 (by decide) (fun c_3 => ?_) (fun c_3 => ?_)
  · refine lv_lconst (v := 0) hx hb dX4_exact_12 (by decide) ?_
    have e9 : f4_exact p1 p2 = some 0 := by unfold f4_exact; rw [if_pos c_3]
    exact W.widen (Nat.le_of_ble_eq_true rfl) (Nat.le_of_ble_eq_true rfl) (vx_ret (r_lret hx hb hr hlocks hw ⟨e9, rfl⟩ dX4_exact_13))
  refine lv_lload_n hx hb dX4_exact_6 rfl (lv_at hl 2 rfl) ?_
  refine lv_lconst (v := 0) hx hb dX4_exact_7 (by decide) ?_
  refine W.lcmp hx hb dX4_exact_8 ?_
  refine lv_if_ne (tgt := 14) hx hb dX4_exact_9 (by decide) (fun c_9 => ?_) (fun c_9 => ?_)
  rotate_left
  · refine lv_lconst (v := 0) hx hb dX4_exact_12 (by decide) ?_
    have e9 : f4_exact p1 p2 = some 0 := by unfold f4_exact; rw [if_neg c_3, if_pos c_9]
    exact W.widen (Nat.le_of_ble_eq_true rfl) (Nat.le_of_ble_eq_true rfl) (vx_ret (r_lret hx hb hr hlocks hw ⟨e9, rfl⟩ dX4_exact_13))
  refine lv_lload_n hx hb dX4_exact_14 rfl (lv_at hl 1 rfl) ?_
  refine lv_ldc2 (v := (-9223372036854775808)) hx hb hown ci191 dX4_exact_15 ?_
  refine W.lcmp hx hb dX4_exact_18 ?_
  refine lv_if_ne (tgt := 34) hx hb dX4_exact_19 (by decide) (fun c_19 => htail (fun h => c_19 h.1) c_3 c_9 _ hl) (fun c_19 => ?_)
  refine lv_lload_n hx hb dX4_exact_22 rfl (lv_at hl 2 rfl) ?_
  refine lv_ldc2 (v := (-1)) hx hb hown ci193 dX4_exact_23 ?_
  refine W.lcmp hx hb dX4_exact_26 ?_
  refine lv_if_ne (tgt := 34) hx hb dX4_exact_27 (by decide) (fun c_27 => htail (fun h => c_27 h.2) c_3 c_9 _ hl) (fun c_27 => ?_)
  refine lv_iconst (v := 1) hx hb dX4_exact_30 (by decide) ?_
  refine lv_goto (tgt := 35) hx hb dX4_exact_31 (by decide) ?_
  refine lv_istore (lv' := [(5, .int 1), (0, .ref q), (1, .long (p1)), (3, .long (p2))]) hx hb dX4_exact_35 hl (by decide) rfl (fun ls hl => ?_)
  refine lv_lload_n hx hb dX4_exact_37 rfl (lv_at hl 2 rfl) ?_
  refine lv_lload_n hx hb dX4_exact_38 rfl (lv_at hl 3 rfl) ?_
  refine lv_lmul hx hb dX4_exact_39 ?_
  refine lv_lstore (lv' := [(6, .long (p1 * p2)), (5, .int 1), (0, .ref q), (1, .long (p1)), (3, .long (p2))]) hx hb dX4_exact_40 hl (by decide) rfl (fun ls hl => ?_)
  refine lv_iload hx hb dX4_exact_42 (lv_at hl 1 rfl) ?_
  refine lv_if_ne (tgt := 56) hx hb dX4_exact_44 (by decide) (fun c_44 => ?_) (fun c_44 => absurd c_44 (by decide))
  exact hthrow (by unfold f4_exact; rw [if_neg c_3, if_neg c_9, if_pos ⟨c_19, c_27⟩]) ls hl.1
