theorem G_get {ws : va_W} {q0 : Nat} {x : Nat × va_E} (h : q0 < ws.length) : (ws.set q0 x)[q0]? = some x := by simp [h]
def lf3_sumOf_4 (g0 : Nat → Int32) : Nat → Nat → Int32 → Int32
  | 0, _, v1 => v1
  | k + 1, j, v1 => lf3_sumOf_4 g0 k (j + 1) (v1 + (g0 j))
set_option maxHeartbeats 4000000 in
set_option maxRecDepth 100000 in
theorem lt3_sumOf_4 (l : Launch) (D : va_G) (ty : List (ClassId × FieldType)) (cI : ClassId) (ht0 : ty[0]? = some (cI, .int)) (ws : va_W) (q0 ad len : Nat) (hq : q0 < ws.length) (hlen : len < 2 ^ 31) (g0 : Nat → Int32)  {p : Program} {e : Env} {s : State} {m : MethodId} {args : Array Value} {below : List Frame} {meth : Method} {c : Code} {A : Nat → Prop} {H0 : Heap} {Q : State → Prop} (hx : p.tables.exec = Jvm.exec) (hb : c.code = cX3_sumOf) (hml : c.maxLocals = 3) (hts : ∀ w ∈ wsX3_sumOf, w.before args s = true) (hown : s.vm.findClass RX3 = some m.cls) : ∀ (k j : Nat) (v1 : Int32) (hj : j + k = len) (H : Heap) (locs : List Loc) (ls : Array Slot) (hw : Wd D ty A H0 s (ws.set q0 (ad, .inl (cI, len, .inl g0))) H locs) (hl : lv_has ls 3 [(2, .int (nI (j))), (1, .int (v1)), (0, .ref (ad))]) (kk : ∀ (H1 : Heap) (locs1 : List Loc) (ls1 : Array Slot), Wd D ty A H0 s (ws.set q0 (ad, .inl (cI, len, .inl g0))) H1 locs1 → lv_has ls1 3 [(2, .int (nI (len))), (1, .int ((lf3_sumOf_4 g0 k j v1))), (0, .ref (ad))] → W p l e ({ frames := 0, cells := 0, slots := 0, locals := 0 } : Room) s m args below meth c H1 locs1 0 0 Q (F0 m 22 ls1 [])), W p l e ({ frames := 0, cells := 0, slots := 0, locals := 0 } : Room) s m args below meth c H locs 0 0 Q (F0 m 4 ls []) := by
  intro k
  induction k with
  | zero =>
    intro j v1 hj H locs ls hw hl kk
    have hj0 : j = len := by omega
    refine lv_iload_n hx hb dX3_sumOf_4 rfl (lv_at hl 0 rfl) ?_
    refine lv_aload_n hx hb dX3_sumOf_5 rfl (lv_at hl 2 rfl) ?_
    refine r_alen hx hb hw q0 (G_get hq) ht0 dX3_sumOf_6 ?_
    refine lv_icmp_ge (tgt := 22) hx hb dX3_sumOf_7 (by decide) (fun c_7 => ?_) (fun c_7 => ?_)
    · subst hj0
      exact kk _ _ _ hw (lv_sub hl [0, 1, 2] rfl)
    · exact absurd (nI_le (by omega) (by omega)) c_7
  | succ k ih =>
    intro j v1 hj H locs ls hw hl kk
    have hjb : j < len := by omega
    refine lv_iload_n hx hb dX3_sumOf_4 rfl (lv_at hl 0 rfl) ?_
    refine lv_aload_n hx hb dX3_sumOf_5 rfl (lv_at hl 2 rfl) ?_
    refine r_alen hx hb hw q0 (G_get hq) ht0 dX3_sumOf_6 ?_
    refine lv_icmp_ge (tgt := 22) hx hb dX3_sumOf_7 (by decide) (fun c_7 => ?_) (fun c_7 => ?_)
    · exact absurd c_7 (nI_ge (by omega) (by omega))
    · refine lv_iload_n hx hb dX3_sumOf_10 rfl (lv_at hl 1 rfl) ?_
      refine lv_aload_n hx hb dX3_sumOf_11 rfl (lv_at hl 2 rfl) ?_
      refine lv_iload_n hx hb dX3_sumOf_12 rfl (lv_at hl 0 rfl) ?_
      refine r_ialdN (v := g0 j) hx hb hw q0 (G_get hq) ht0 j (by omega) (by assumption) dX3_sumOf_13 rfl ?_
      refine lv_iadd hx hb dX3_sumOf_14 ?_
      refine lv_istore_n (lv' := [(1, .int (v1 + (g0 j))), (2, .int (nI (j))), (0, .ref (ad))]) hx hb dX3_sumOf_15 rfl hl (by decide) rfl (fun ls hl => ?_)
      refine lv_iinc (v := nI (j + 1)) (lv' := [(2, .int (nI (j + 1))), (1, .int (v1 + (g0 j))), (0, .ref (ad))]) hx hb dX3_sumOf_16 hl (k := 1) rfl (by show nI (j) + 1 = _; exact nI_1 _) (by decide) rfl (fun ls hl => ?_)
      refine lv_goto (tgt := 4) hx hb dX3_sumOf_19 (by decide) ?_
      have e9 : lf3_sumOf_4 g0 (k + 1) j v1 = lf3_sumOf_4 g0 k (j + 1) (v1 + (g0 j)) := rfl
      rw [e9] at kk
      exact ih (j + 1) (v1 + (g0 j)) (by omega)  _ _ _ hw (lv_sub hl [0, 1, 2] rfl) kk
def f3_sumOf (g0 : Nat → Int32) (len : Nat) : Int32 :=
  (lf3_sumOf_4 g0 len 0 0)
set_option maxHeartbeats 4000000 in
set_option maxRecDepth 100000 in
theorem k3_sumOf (l : Launch) (D : va_G) (ty : List (ClassId × FieldType)) (cI : ClassId) (ht0 : ty[0]? = some (cI, .int)) (ws : va_W) (q0 ad len : Nat) (hq : q0 < ws.length) (hlen : len < 2 ^ 31) (g0 : Nat → Int32) : MetG l yX3_sumOf wsX3_sumOf { frames := 0, cells := 0, slots := 0, locals := 0 } D ty [.ref (ad)] (ws.set q0 (ad, .inl (cI, len, .inl g0))) (va_Qi (fun r w => r = f3_sumOf g0 len ∧ w = ws.set q0 (ad, .inl (cI, len, .inl g0)))) 0 0 := by
  refine Met_start cX3_sumOf 3 (some .int) (by decide) rfl (Nat.le_of_ble_eq_true rfl) ?_
  intro p e s m below meth c A ls hx hb hr hlocks hml hnm hts hown hw hl
  have hl : lv_has ls 3 [(0, .ref (ad))] := hl
  refine lv_iconst (v := 0) hx hb dX3_sumOf_0 (by decide) ?_
  refine lv_istore_n (lv' := [(1, .int (0)), (0, .ref (ad))]) hx hb dX3_sumOf_1 rfl hl (by decide) rfl (fun ls hl => ?_)
  refine lv_iconst (v := 0) hx hb dX3_sumOf_2 (by decide) ?_
  refine lv_istore_n (lv' := [(2, .int (0)), (1, .int (0)), (0, .ref (ad))]) hx hb dX3_sumOf_3 rfl hl (by decide) rfl (fun ls hl => ?_)
  refine lt3_sumOf_4 l D ty cI ht0 ws q0 ad len hq hlen g0  hx hb hml hts hown len 0 0 (by omega)  _ _ _ hw hl (fun H locs ls hw hl => ?_)
  refine lv_iload_n hx hb dX3_sumOf_22 rfl (lv_at hl 1 rfl) ?_
  have e9 : f3_sumOf g0 len = (lf3_sumOf_4 g0 len 0 0) := by unfold f3_sumOf; rfl
  exact r_iret hx hb hr hlocks hw ⟨by rw [e9] <;> rfl, rfl⟩ dX3_sumOf_23
def lf7_fill_53178_5 (p1 : Int32) : Nat → Nat → (Nat → Int32) → (Nat → Int32)
  | 0, _, f0 => f0
  | k + 1, j, f0 => lf7_fill_53178_5 p1 k (j + 1) (upd f0 j p1)
set_option maxHeartbeats 4000000 in
set_option maxRecDepth 100000 in
theorem lt7_fill_53178_5 (l : Launch) (D : va_G) (ty : List (ClassId × FieldType)) (cI : ClassId) (ht0 : ty[0]? = some (cI, .int)) (ws : va_W) (q0 ad len : Nat) (hq : q0 < ws.length) (hlen : len < 2 ^ 31) (g0 : Nat → Int32) (p1 : Int32)  {p : Program} {e : Env} {s : State} {m : MethodId} {args : Array Value} {below : List Frame} {meth : Method} {c : Code} {A : Nat → Prop} {H0 : Heap} {Q : State → Prop} (hx : p.tables.exec = Jvm.exec) (hb : c.code = cJ7_fill_53178) (hml : c.maxLocals = 4) (hts : ∀ w ∈ wsJ7_fill_53178, w.before args s = true) (hown : s.vm.findClass RJ7 = some m.cls) : ∀ (k j : Nat) (f0 : (Nat → Int32)) (hj : j + k = len) (H : Heap) (locs : List Loc) (ls : Array Slot) (hw : Wd D ty A H0 s (ws.set q0 (ad, .inl (cI, len, .inl f0))) H locs) (hl : lv_has ls 4 [(3, .int (nI (len))), (2, .int (nI (j))), (0, .ref (ad)), (1, .int (p1))]) (kk : ∀ (H1 : Heap) (locs1 : List Loc) (ls1 : Array Slot), Wd D ty A H0 s (ws.set q0 (ad, .inl (cI, len, .inl (lf7_fill_53178_5 p1 k j f0)))) H1 locs1 → lv_has ls1 4 [(3, .int (nI (len))), (2, .int (nI (len))), (0, .ref (ad)), (1, .int (p1))] → W p l e ({ frames := 0, cells := 0, slots := 0, locals := 0 } : Room) s m args below meth c H1 locs1 0 0 Q (F0 m 20 ls1 [])), W p l e ({ frames := 0, cells := 0, slots := 0, locals := 0 } : Room) s m args below meth c H locs 0 0 Q (F0 m 5 ls []) := by
  intro k
  induction k with
  | zero =>
    intro j f0 hj H locs ls hw hl kk
    have hj0 : j = len := by omega
    refine lv_iload_n hx hb dJ7_fill_53178_5 rfl (lv_at hl 1 rfl) ?_
    refine lv_iload_n hx hb dJ7_fill_53178_6 rfl (lv_at hl 0 rfl) ?_
    refine lv_icmp_ge (tgt := 20) hx hb dJ7_fill_53178_7 (by decide) (fun c_7 => ?_) (fun c_7 => ?_)
    · subst hj0
      exact kk _ _ _ hw (lv_sub hl [0, 1, 2, 3] rfl)
    · exact absurd (nI_le (by omega) (by omega)) c_7
  | succ k ih =>
    intro j f0 hj H locs ls hw hl kk
    have hjb : j < len := by omega
    refine lv_iload_n hx hb dJ7_fill_53178_5 rfl (lv_at hl 1 rfl) ?_
    refine lv_iload_n hx hb dJ7_fill_53178_6 rfl (lv_at hl 0 rfl) ?_
    refine lv_icmp_ge (tgt := 20) hx hb dJ7_fill_53178_7 (by decide) (fun c_7 => ?_) (fun c_7 => ?_)
    · exact absurd c_7 (nI_ge (by omega) (by omega))
    · refine lv_aload_n hx hb dJ7_fill_53178_10 rfl (lv_at hl 2 rfl) ?_
      refine lv_iload_n hx hb dJ7_fill_53178_11 rfl (lv_at hl 1 rfl) ?_
      refine lv_iload_n hx hb dJ7_fill_53178_12 rfl (lv_at hl 3 rfl) ?_
      refine r_iastN (ws' := ws.set q0 (ad, .inl (cI, len, .inl (upd f0 j p1)))) hx hb hw q0 (G_get hq) ht0 j (by omega) (by assumption) (List.set_set _) dJ7_fill_53178_13 (fun H locs hw => ?_)
      refine lv_iinc (v := nI (j + 1)) (lv' := [(2, .int (nI (j + 1))), (3, .int (nI (len))), (0, .ref (ad)), (1, .int (p1))]) hx hb dJ7_fill_53178_14 hl (k := 1) rfl (by show nI (j) + 1 = _; exact nI_1 _) (by decide) rfl (fun ls hl => ?_)
      refine lv_goto (tgt := 5) hx hb dJ7_fill_53178_17 (by decide) ?_
      have e9 : lf7_fill_53178_5 p1 (k + 1) j f0 = lf7_fill_53178_5 p1 k (j + 1) (upd f0 j p1) := rfl
      rw [e9] at kk
      exact ih (j + 1) (upd f0 j p1) (by omega)  _ _ _ hw (lv_sub hl [1, 0, 2, 3] rfl) kk
def f7_fill_53178 (g0 : Nat → Int32) (len : Nat) (p1 : Int32) : (Nat → Int32) :=
  (lf7_fill_53178_5 p1 len 0 g0)
set_option maxHeartbeats 4000000 in
set_option maxRecDepth 100000 in
theorem k7_fill_53178 (l : Launch) (D : va_G) (ty : List (ClassId × FieldType)) (cI : ClassId) (ht0 : ty[0]? = some (cI, .int)) (ws : va_W) (q0 ad len : Nat) (hq : q0 < ws.length) (hlen : len < 2 ^ 31) (g0 : Nat → Int32) (p1 : Int32) : MetG l yJ7_fill_53178 wsJ7_fill_53178 { frames := 0, cells := 0, slots := 0, locals := 0 } D ty [.ref (ad), .int (p1)] (ws.set q0 (ad, .inl (cI, len, .inl g0))) (va_Qv (fun w => w = ws.set q0 (ad, .inl (cI, len, .inl (f7_fill_53178 g0 len p1))))) 0 0 := by
  refine Met_start cJ7_fill_53178 4 none (by decide) rfl (Nat.le_of_ble_eq_true rfl) ?_
  intro p e s m below meth c A ls hx hb hr hlocks hml hnm hts hown hw hl
  have hl : lv_has ls 4 [(0, .ref (ad)), (1, .int (p1))] := hl
  refine lv_iconst (v := 0) hx hb dJ7_fill_53178_0 (by decide) ?_
  refine lv_istore_n (lv' := [(2, .int (0)), (0, .ref (ad)), (1, .int (p1))]) hx hb dJ7_fill_53178_1 rfl hl (by decide) rfl (fun ls hl => ?_)
  refine lv_aload_n hx hb dJ7_fill_53178_2 rfl (lv_at hl 1 rfl) ?_
  refine r_alen hx hb hw q0 (G_get hq) ht0 dJ7_fill_53178_3 ?_
  refine lv_istore_n (lv' := [(3, .int (nI (len))), (2, .int (0)), (0, .ref (ad)), (1, .int (p1))]) hx hb dJ7_fill_53178_4 rfl hl (by decide) rfl (fun ls hl => ?_)
  refine lt7_fill_53178_5 l D ty cI ht0 ws q0 ad len hq hlen g0 p1  hx hb hml hts hown len 0 g0 (by omega)  _ _ _ hw hl (fun H locs ls hw hl => ?_)
  have e9 : f7_fill_53178 g0 len p1 = (lf7_fill_53178_5 p1 len 0 g0) := by unfold f7_fill_53178; rfl
  exact r_vret hx hb hr hlocks hw (by rw [e9] <;> rfl) dJ7_fill_53178_20
def f4_within (p1 : Int32) (p2 : Int32) (p3 : Int32) : Int32 :=
  if p1 < p2 then 0
  else if p3 < p1 then 0
  else 1
set_option maxHeartbeats 4000000 in
set_option maxRecDepth 100000 in
theorem k4_within (l : Launch) (D : va_G) (ty : List (ClassId × FieldType)) (a : Nat → Nat) (b : Nat → Nat → Nat) (n : Nat) (cI cO : ClassId) (ht0 : ty[0]? = some (cI, .int)) (ht1 : ty[1]? = some (cO, .object "RentSizes$Item")) (c0 : Nat → Int32) (c1 : Nat → Int32) (c2 : Nat → Int32) (c3 : Nat → Int32) (u4 : Int32) (c5 : Nat → Int32) (c6 : Nat → Int32) (c7 : Nat → Int32) (u8 : Int32) (u9 : Int32) (u10 : Int32) (c11 : Nat → Int32) (u12 : Int32) (u13 : Int32) (I : Nat → Nat → Nat → Int32) (p1 : Int32) (p2 : Int32) (p3 : Int32) : MetG l yX4_within wsX4_within { frames := 0, cells := 0, slots := 0, locals := 0 } D ty [.int (p1), .int (p2), .int (p3)] (CW a b n cI cO c0 c1 c2 c3 u4 c5 c6 c7 u8 u9 u10 c11 u12 u13 I) (va_Qi (fun r w => r = f4_within p1 p2 p3 ∧ w = CW a b n cI cO c0 c1 c2 c3 u4 c5 c6 c7 u8 u9 u10 c11 u12 u13 I)) 0 0 := by
  refine Met_start cX4_within 3 (some .boolean) (by decide) rfl (Nat.le_of_ble_eq_true rfl) ?_
  intro p e s m below meth c A ls hx hb hr hlocks hml hnm hts hown hw hl
  have hl : lv_has ls 3 [(0, .int (p1)), (1, .int (p2)), (2, .int (p3))] := hl
  refine lv_iload_n hx hb dX4_within_0 rfl (lv_at hl 0 rfl) ?_
  refine lv_iload_n hx hb dX4_within_1 rfl (lv_at hl 1 rfl) ?_
  refine lv_icmp_lt (tgt := 14) hx hb dX4_within_2 (by decide) (fun c_2 => ?_) (fun c_2 => ?_)
  · refine lv_iconst (v := 0) hx hb dX4_within_14 (by decide) ?_
    have e9 : f4_within p1 p2 p3 = 0 := by unfold f4_within; rw [if_pos c_2]
    exact r_zret hx hb hr hlocks (Or.inl rfl) hw ⟨by rw [e9] <;> rfl, rfl⟩ dX4_within_15
  · refine lv_iload_n hx hb dX4_within_5 rfl (lv_at hl 0 rfl) ?_
    refine lv_iload_n hx hb dX4_within_6 rfl (lv_at hl 2 rfl) ?_
    refine lv_icmp_gt (tgt := 14) hx hb dX4_within_7 (by decide) (fun c_7 => ?_) (fun c_7 => ?_)
    · refine lv_iconst (v := 0) hx hb dX4_within_14 (by decide) ?_
      have e9 : f4_within p1 p2 p3 = 0 := by unfold f4_within; rw [if_neg c_2, if_pos c_7]
      exact r_zret hx hb hr hlocks (Or.inl rfl) hw ⟨by rw [e9] <;> rfl, rfl⟩ dX4_within_15
    · refine lv_iconst (v := 1) hx hb dX4_within_10 (by decide) ?_
      refine lv_goto (tgt := 15) hx hb dX4_within_11 (by decide) ?_
      have e9 : f4_within p1 p2 p3 = 1 := by unfold f4_within; rw [if_neg c_2, if_neg c_7]
      exact r_zret hx hb hr hlocks (Or.inr rfl) hw ⟨by rw [e9] <;> rfl, rfl⟩ dX4_within_15
def f0_append (c0 : Nat → Int32) (c1 : Nat → Int32) (c2 : Nat → Int32) (c3 : Nat → Int32) (u4 : Int32) (p1 : Int32) (p2 : Int32) (p3 : Int32) (p4 : Int32) : (Nat → Int32) × (Nat → Int32) × (Nat → Int32) × (Nat → Int32) × Int32 :=
  if 10 ≤ (nI (tn u4)) then (c0, c1, c2, c3, u4)
  else (upd c0 (tn u4) p1, upd c1 (tn u4) p2, upd c2 (tn u4) p3, upd c3 (tn u4) p4, nI ((tn u4) + 1))
set_option maxHeartbeats 4000000 in
set_option maxRecDepth 100000 in
theorem k0_append (l : Launch) (D : va_G) (ty : List (ClassId × FieldType)) (a : Nat → Nat) (b : Nat → Nat → Nat) (n : Nat) (cI cO : ClassId) (ht0 : ty[0]? = some (cI, .int)) (ht1 : ty[1]? = some (cO, .object "RentSizes$Item")) (c0 : Nat → Int32) (c1 : Nat → Int32) (c2 : Nat → Int32) (c3 : Nat → Int32) (u4 : Int32) (c5 : Nat → Int32) (c6 : Nat → Int32) (c7 : Nat → Int32) (u8 : Int32) (u9 : Int32) (u10 : Int32) (c11 : Nat → Int32) (u12 : Int32) (u13 : Int32) (I : Nat → Nat → Nat → Int32) (p1 : Int32) (p2 : Int32) (p3 : Int32) (p4 : Int32) (he0 : u4 = nI (tn u4)) (he1 : tn u4 ≤ 10) : MetG l yX0_append wsX0_append { frames := 0, cells := 0, slots := 0, locals := 0 } D ty [.ref (a 1), .int (p1), .int (p2), .int (p3), .int (p4)] (CW a b n cI cO c0 c1 c2 c3 u4 c5 c6 c7 u8 u9 u10 c11 u12 u13 I) (va_Qv (fun w => w = CW a b n cI cO ((f0_append c0 c1 c2 c3 u4 p1 p2 p3 p4).1) ((f0_append c0 c1 c2 c3 u4 p1 p2 p3 p4).2.1) ((f0_append c0 c1 c2 c3 u4 p1 p2 p3 p4).2.2.1) ((f0_append c0 c1 c2 c3 u4 p1 p2 p3 p4).2.2.2.1) ((f0_append c0 c1 c2 c3 u4 p1 p2 p3 p4).2.2.2.2) c5 c6 c7 u8 u9 u10 c11 u12 u13 I)) 0 0 := by
  refine Met_start cX0_append 5 none (by decide) rfl (Nat.le_of_ble_eq_true rfl) ?_
  intro p e s m below meth c A ls hx hb hr hlocks hml hnm hts hown hw hl
  have hl : lv_has ls 5 [(0, .ref (a 1)), (1, .int (p1)), (2, .int (p2)), (3, .int (p3)), (4, .int (p4))] := hl
  have i0 : ∀ w ∈ wsX00, w ∈ wsX0_append := fun _ h => List.mem_cons_of_mem _ (List.mem_append_right _ h)
  have lk24 := hts (.fieldLink RX0 24 "RentSizes$Editions" "count" "I") (by decide +kernel)
  have lk9 := hts (.fieldLink RX0 9 "RentSizes$Editions" "froms" "[I") (by decide +kernel)
  have lk15 := hts (.fieldLink RX0 15 "RentSizes$Editions" "prices" "[I") (by decide +kernel)
  have lk18 := hts (.fieldLink RX0 18 "RentSizes$Editions" "rents" "[I") (by decide +kernel)
  have lk21 := hts (.fieldLink RX0 21 "RentSizes$Editions" "leasts" "[I") (by decide +kernel)
  refine lv_aload_n hx hb dX0_append_0 rfl (lv_at hl 0 rfl) ?_
  refine r_get (C := RX0) (T := TX0) (v := .int (u4)) hx hb hts i0 hown hw 1 rfl rfl 4 (by decide) lk24 rfl dX0_append_1 ?_
  refine r_top (nI (tn u4)) he0 ?_
  refine lv_bipush (v := 10) hx hb dX0_append_4 (by decide) ?_
  refine lv_icmp_ge (tgt := 60) hx hb dX0_append_6 (by decide) (fun c_6 => ?_) (fun c_6 => ?_)
  · have e9 : f0_append c0 c1 c2 c3 u4 p1 p2 p3 p4 = (c0, c1, c2, c3, u4) := by unfold f0_append; rw [if_pos c_6]
    exact r_vret hx hb hr hlocks hw (by rw [e9] <;> rfl) dX0_append_60
  · have hE : tn u4 < 10 := by rcases Nat.lt_or_ge (tn u4) 10 with q | q; exact q; exact absurd (nI_le q (by omega)) c_6
    refine lv_aload_n hx hb dX0_append_9 rfl (lv_at hl 0 rfl) ?_
    refine r_get (C := RX0) (T := TX0) (v := .ref (a 2)) hx hb hts i0 hown hw 1 rfl rfl 0 (by decide) lk9 rfl dX0_append_10 ?_
    refine lv_aload_n hx hb dX0_append_13 rfl (lv_at hl 0 rfl) ?_
    refine r_get (C := RX0) (T := TX0) (v := .int (u4)) hx hb hts i0 hown hw 1 rfl rfl 4 (by decide) lk24 rfl dX0_append_14 ?_
    refine r_top (nI (tn u4)) he0 ?_
    refine lv_iload_n hx hb dX0_append_17 rfl (lv_at hl 1 rfl) ?_
    refine r_iastN (ws' := CW a b n cI cO (upd c0 (tn u4) p1) c1 c2 c3 u4 c5 c6 c7 u8 u9 u10 c11 u12 u13 I) hx hb hw 2 rfl ht0 (tn u4) (by omega) (by decide) (CW_u0 _) dX0_append_18 (fun H locs hw => ?_)
    refine lv_aload_n hx hb dX0_append_19 rfl (lv_at hl 0 rfl) ?_
    refine r_get (C := RX0) (T := TX0) (v := .ref (a 3)) hx hb hts i0 hown hw 1 rfl rfl 1 (by decide) lk15 rfl dX0_append_20 ?_
    refine lv_aload_n hx hb dX0_append_23 rfl (lv_at hl 0 rfl) ?_
    refine r_get (C := RX0) (T := TX0) (v := .int (u4)) hx hb hts i0 hown hw 1 rfl rfl 4 (by decide) lk24 rfl dX0_append_24 ?_
    refine r_top (nI (tn u4)) he0 ?_
    refine lv_iload_n hx hb dX0_append_27 rfl (lv_at hl 2 rfl) ?_
    refine r_iastN (ws' := CW a b n cI cO (upd c0 (tn u4) p1) (upd c1 (tn u4) p2) c2 c3 u4 c5 c6 c7 u8 u9 u10 c11 u12 u13 I) hx hb hw 3 rfl ht0 (tn u4) (by omega) (by decide) (CW_u1 _) dX0_append_28 (fun H locs hw => ?_)
    refine lv_aload_n hx hb dX0_append_29 rfl (lv_at hl 0 rfl) ?_
    refine r_get (C := RX0) (T := TX0) (v := .ref (a 4)) hx hb hts i0 hown hw 1 rfl rfl 2 (by decide) lk18 rfl dX0_append_30 ?_
    refine lv_aload_n hx hb dX0_append_33 rfl (lv_at hl 0 rfl) ?_
    refine r_get (C := RX0) (T := TX0) (v := .int (u4)) hx hb hts i0 hown hw 1 rfl rfl 4 (by decide) lk24 rfl dX0_append_34 ?_
    refine r_top (nI (tn u4)) he0 ?_
    refine lv_iload_n hx hb dX0_append_37 rfl (lv_at hl 3 rfl) ?_
    refine r_iastN (ws' := CW a b n cI cO (upd c0 (tn u4) p1) (upd c1 (tn u4) p2) (upd c2 (tn u4) p3) c3 u4 c5 c6 c7 u8 u9 u10 c11 u12 u13 I) hx hb hw 4 rfl ht0 (tn u4) (by omega) (by decide) (CW_u2 _) dX0_append_38 (fun H locs hw => ?_)
    refine lv_aload_n hx hb dX0_append_39 rfl (lv_at hl 0 rfl) ?_
    refine r_get (C := RX0) (T := TX0) (v := .ref (a 5)) hx hb hts i0 hown hw 1 rfl rfl 3 (by decide) lk21 rfl dX0_append_40 ?_
    refine lv_aload_n hx hb dX0_append_43 rfl (lv_at hl 0 rfl) ?_
    refine r_get (C := RX0) (T := TX0) (v := .int (u4)) hx hb hts i0 hown hw 1 rfl rfl 4 (by decide) lk24 rfl dX0_append_44 ?_
    refine r_top (nI (tn u4)) he0 ?_
    refine lv_iload hx hb dX0_append_47 (lv_at hl 4 rfl) ?_
    refine r_iastN (ws' := CW a b n cI cO (upd c0 (tn u4) p1) (upd c1 (tn u4) p2) (upd c2 (tn u4) p3) (upd c3 (tn u4) p4) u4 c5 c6 c7 u8 u9 u10 c11 u12 u13 I) hx hb hw 5 rfl ht0 (tn u4) (by omega) (by decide) (CW_u3 _) dX0_append_49 (fun H locs hw => ?_)
    refine lv_aload_n hx hb dX0_append_50 rfl (lv_at hl 0 rfl) ?_
    refine lv_dup hx hb dX0_append_51 rfl ?_
    refine r_get (C := RX0) (T := TX0) (v := .int (u4)) hx hb hts i0 hown hw 1 rfl rfl 4 (by decide) lk24 rfl dX0_append_52 ?_
    refine r_top (nI (tn u4)) he0 ?_
    refine lv_iconst (v := 1) hx hb dX0_append_55 (by decide) ?_
    refine lv_iadd hx hb dX0_append_56 ?_
    refine r_top (nI ((tn u4) + 1)) (show nI (tn u4) + nI (1) = nI ((tn u4) + 1) from nI_add _ _) ?_
    refine r_put (C := RX0) (T := TX0) (ws' := CW a b n cI cO (upd c0 (tn u4) p1) (upd c1 (tn u4) p2) (upd c2 (tn u4) p3) (upd c3 (tn u4) p4) (nI ((tn u4) + 1)) c5 c6 c7 u8 u9 u10 c11 u12 u13 I) hx hb hts i0 tyX0 tyX0_ok nmX0 hown hw 1 rfl rfl 4 (by decide) lk24 rfl (by decide +kernel) (Nat.le_of_ble_eq_true rfl) (CW_s4 _) dX0_append_57 (fun H locs hw => ?_)
    have e9 : f0_append c0 c1 c2 c3 u4 p1 p2 p3 p4 = (upd c0 (tn u4) p1, upd c1 (tn u4) p2, upd c2 (tn u4) p3, upd c3 (tn u4) p4, nI ((tn u4) + 1)) := by unfold f0_append; rw [if_neg c_6]
    exact r_vret hx hb hr hlocks hw (by rw [e9] <;> rfl) dX0_append_60
def f0_reset (c0 : Nat → Int32) (c1 : Nat → Int32) (c2 : Nat → Int32) (c3 : Nat → Int32) : (Nat → Int32) × (Nat → Int32) × (Nat → Int32) × (Nat → Int32) × Int32 :=
  ((f0_append c0 c1 c2 c3 0 0 10 1 8).1, (f0_append c0 c1 c2 c3 0 0 10 1 8).2.1, (f0_append c0 c1 c2 c3 0 0 10 1 8).2.2.1, (f0_append c0 c1 c2 c3 0 0 10 1 8).2.2.2.1, (f0_append c0 c1 c2 c3 0 0 10 1 8).2.2.2.2)
set_option maxHeartbeats 4000000 in
set_option maxRecDepth 100000 in
theorem k0_reset (l : Launch) (D : va_G) (ty : List (ClassId × FieldType)) (a : Nat → Nat) (b : Nat → Nat → Nat) (n : Nat) (cI cO : ClassId) (ht0 : ty[0]? = some (cI, .int)) (ht1 : ty[1]? = some (cO, .object "RentSizes$Item")) (c0 : Nat → Int32) (c1 : Nat → Int32) (c2 : Nat → Int32) (c3 : Nat → Int32) (u4 : Int32) (c5 : Nat → Int32) (c6 : Nat → Int32) (c7 : Nat → Int32) (u8 : Int32) (u9 : Int32) (u10 : Int32) (c11 : Nat → Int32) (u12 : Int32) (u13 : Int32) (I : Nat → Nat → Nat → Int32) : MetG l yX0_reset wsX0_reset { frames := 1, cells := 0, slots := 0, locals := 24 } D ty [.ref (a 1)] (CW a b n cI cO c0 c1 c2 c3 u4 c5 c6 c7 u8 u9 u10 c11 u12 u13 I) (va_Qv (fun w => w = CW a b n cI cO (f0_reset c0 c1 c2 c3).1 (f0_reset c0 c1 c2 c3).2.1 (f0_reset c0 c1 c2 c3).2.2.1 (f0_reset c0 c1 c2 c3).2.2.2.1 (f0_reset c0 c1 c2 c3).2.2.2.2 c5 c6 c7 u8 u9 u10 c11 u12 u13 I)) 0 0 := by
  refine Met_start cX0_reset 1 none (by decide) rfl (Nat.le_of_ble_eq_true rfl) ?_
  intro p e s m below meth c A ls hx hb hr hlocks hml hnm hts hown hw hl
  have hl : lv_has ls 1 [(0, .ref (a 1))] := hl
  have i0 : ∀ w ∈ wsX00, w ∈ wsX0_reset := fun _ h => List.mem_cons_of_mem _ (List.mem_append_right _ h)
  have lk24 := hts (.fieldLink RX0 24 "RentSizes$Editions" "count" "I") (by decide +kernel)
  refine lv_aload_n hx hb dX0_reset_0 rfl (lv_at hl 0 rfl) ?_
  refine lv_iconst (v := 0) hx hb dX0_reset_1 (by decide) ?_
  refine r_put (C := RX0) (T := TX0) (ws' := CW a b n cI cO c0 c1 c2 c3 0 c5 c6 c7 u8 u9 u10 c11 u12 u13 I) hx hb hts i0 tyX0 tyX0_ok nmX0 hown hw 1 rfl rfl 4 (by decide) lk24 rfl (by decide +kernel) (Nat.le_of_ble_eq_true rfl) (CW_s4 _) dX0_reset_2 (fun H locs hw => ?_)
  refine lv_aload_n hx hb dX0_reset_5 rfl (lv_at hl 0 rfl) ?_
  refine lv_iconst (v := 0) hx hb dX0_reset_6 (by decide) ?_
  refine lv_bipush (v := 10) hx hb dX0_reset_7 (by decide) ?_
  refine lv_iconst (v := 1) hx hb dX0_reset_9 (by decide) ?_
  refine lv_bipush (v := 8) hx hb dX0_reset_10 (by decide) ?_
  refine r_callVv 1 rfl rfl (rest := []) ⟨hx, hb, hml, hown, hts⟩ hw [.int (0), .int (10), .int (1), .int (8)] (k0_append l D ty a b n cI cO ht0 ht1 c0 c1 c2 c3 0 c5 c6 c7 u8 u9 u10 c11 u12 u13 I 0 10 1 8 rfl (by decide)) (cwV 4 hts gX0_reset_X0_append rfl rfl rfl (by decide +kernel) ⟨Nat.le_of_ble_eq_true rfl, Nat.le_of_ble_eq_true rfl⟩) rfl hl.1 rfl (Nat.le_of_ble_eq_true rfl) dX0_reset_12 ⟨Nat.le_of_ble_eq_true rfl, Nat.le_of_ble_eq_true rfl⟩ (fun w H locs hp hw => ?_)
  subst hp
  have e9 : f0_reset c0 c1 c2 c3 = ((f0_append c0 c1 c2 c3 0 0 10 1 8).1, (f0_append c0 c1 c2 c3 0 0 10 1 8).2.1, (f0_append c0 c1 c2 c3 0 0 10 1 8).2.2.1, (f0_append c0 c1 c2 c3 0 0 10 1 8).2.2.2.1, (f0_append c0 c1 c2 c3 0 0 10 1 8).2.2.2.2) := by unfold f0_reset; rfl
  exact r_vret hx hb hr hlocks hw (by rw [e9] <;> rfl) dX0_reset_15
def f0_hasRoom (u4 : Int32) : Int32 :=
  if 10 ≤ u4 then 0
  else 1
set_option maxHeartbeats 4000000 in
set_option maxRecDepth 100000 in
theorem k0_hasRoom (l : Launch) (D : va_G) (ty : List (ClassId × FieldType)) (a : Nat → Nat) (b : Nat → Nat → Nat) (n : Nat) (cI cO : ClassId) (ht0 : ty[0]? = some (cI, .int)) (ht1 : ty[1]? = some (cO, .object "RentSizes$Item")) (c0 : Nat → Int32) (c1 : Nat → Int32) (c2 : Nat → Int32) (c3 : Nat → Int32) (u4 : Int32) (c5 : Nat → Int32) (c6 : Nat → Int32) (c7 : Nat → Int32) (u8 : Int32) (u9 : Int32) (u10 : Int32) (c11 : Nat → Int32) (u12 : Int32) (u13 : Int32) (I : Nat → Nat → Nat → Int32) : MetG l yX0_hasRoom wsX0_hasRoom { frames := 0, cells := 0, slots := 0, locals := 0 } D ty [.ref (a 1)] (CW a b n cI cO c0 c1 c2 c3 u4 c5 c6 c7 u8 u9 u10 c11 u12 u13 I) (va_Qi (fun r w => r = f0_hasRoom u4 ∧ w = CW a b n cI cO c0 c1 c2 c3 u4 c5 c6 c7 u8 u9 u10 c11 u12 u13 I)) 0 0 := by
  refine Met_start cX0_hasRoom 1 (some .boolean) (by decide) rfl (Nat.le_of_ble_eq_true rfl) ?_
  intro p e s m below meth c A ls hx hb hr hlocks hml hnm hts hown hw hl
  have hl : lv_has ls 1 [(0, .ref (a 1))] := hl
  have i0 : ∀ w ∈ wsX00, w ∈ wsX0_hasRoom := fun _ h => List.mem_cons_of_mem _ (List.mem_append_right _ h)
  have lk24 := hts (.fieldLink RX0 24 "RentSizes$Editions" "count" "I") (by decide +kernel)
  refine lv_aload_n hx hb dX0_hasRoom_0 rfl (lv_at hl 0 rfl) ?_
  refine r_get (C := RX0) (T := TX0) (v := .int (u4)) hx hb hts i0 hown hw 1 rfl rfl 4 (by decide) lk24 rfl dX0_hasRoom_1 ?_
  refine lv_bipush (v := 10) hx hb dX0_hasRoom_4 (by decide) ?_
  refine lv_icmp_ge (tgt := 13) hx hb dX0_hasRoom_6 (by decide) (fun c_6 => ?_) (fun c_6 => ?_)
  · refine lv_iconst (v := 0) hx hb dX0_hasRoom_13 (by decide) ?_
    have e9 : f0_hasRoom u4 = 0 := by unfold f0_hasRoom; rw [if_pos c_6]
    exact r_zret hx hb hr hlocks (Or.inl rfl) hw ⟨by rw [e9] <;> rfl, rfl⟩ dX0_hasRoom_14
  · refine lv_iconst (v := 1) hx hb dX0_hasRoom_9 (by decide) ?_
    refine lv_goto (tgt := 14) hx hb dX0_hasRoom_10 (by decide) ?_
    have e9 : f0_hasRoom u4 = 1 := by unfold f0_hasRoom; rw [if_neg c_6]
    exact r_zret hx hb hr hlocks (Or.inr rfl) hw ⟨by rw [e9] <;> rfl, rfl⟩ dX0_hasRoom_14
theorem pos_nle {n : Nat} (h : ¬ nI n ≤ 0) : 1 ≤ n := by
  cases n with
  | zero => exact absurd (by decide) h
  | succ n => omega
def f0_lastFrom (c0 : Nat → Int32) (u4 : Int32) : Int32 :=
  if (nI (tn u4)) ≤ 0 then 0
  else c0 (tn u4 - 1)
set_option maxHeartbeats 4000000 in
set_option maxRecDepth 100000 in
theorem k0_lastFrom (l : Launch) (D : va_G) (ty : List (ClassId × FieldType)) (a : Nat → Nat) (b : Nat → Nat → Nat) (n : Nat) (cI cO : ClassId) (ht0 : ty[0]? = some (cI, .int)) (ht1 : ty[1]? = some (cO, .object "RentSizes$Item")) (c0 : Nat → Int32) (c1 : Nat → Int32) (c2 : Nat → Int32) (c3 : Nat → Int32) (u4 : Int32) (c5 : Nat → Int32) (c6 : Nat → Int32) (c7 : Nat → Int32) (u8 : Int32) (u9 : Int32) (u10 : Int32) (c11 : Nat → Int32) (u12 : Int32) (u13 : Int32) (I : Nat → Nat → Nat → Int32) (he0 : u4 = nI (tn u4)) (he1 : tn u4 ≤ 10) : MetG l yX0_lastFrom wsX0_lastFrom { frames := 0, cells := 0, slots := 0, locals := 0 } D ty [.ref (a 1)] (CW a b n cI cO c0 c1 c2 c3 u4 c5 c6 c7 u8 u9 u10 c11 u12 u13 I) (va_Qi (fun r w => r = f0_lastFrom c0 u4 ∧ w = CW a b n cI cO c0 c1 c2 c3 u4 c5 c6 c7 u8 u9 u10 c11 u12 u13 I)) 0 0 := by
  refine Met_start cX0_lastFrom 1 (some .int) (by decide) rfl (Nat.le_of_ble_eq_true rfl) ?_
  intro p e s m below meth c A ls hx hb hr hlocks hml hnm hts hown hw hl
  have hl : lv_has ls 1 [(0, .ref (a 1))] := hl
  have i0 : ∀ w ∈ wsX00, w ∈ wsX0_lastFrom := fun _ h => List.mem_cons_of_mem _ (List.mem_append_right _ h)
  have lk24 := hts (.fieldLink RX0 24 "RentSizes$Editions" "count" "I") (by decide +kernel)
  have lk9 := hts (.fieldLink RX0 9 "RentSizes$Editions" "froms" "[I") (by decide +kernel)
  refine lv_aload_n hx hb dX0_lastFrom_0 rfl (lv_at hl 0 rfl) ?_
  refine r_get (C := RX0) (T := TX0) (v := .int (u4)) hx hb hts i0 hown hw 1 rfl rfl 4 (by decide) lk24 rfl dX0_lastFrom_1 ?_
  refine r_top (nI (tn u4)) he0 ?_
  refine lv_if_le (tgt := 21) hx hb dX0_lastFrom_4 (by decide) (fun c_4 => ?_) (fun c_4 => ?_)
  · refine lv_iconst (v := 0) hx hb dX0_lastFrom_21 (by decide) ?_
    have e9 : f0_lastFrom c0 u4 = 0 := by unfold f0_lastFrom; rw [if_pos c_4]
    exact r_iret hx hb hr hlocks hw ⟨by rw [e9] <;> rfl, rfl⟩ dX0_lastFrom_22
  · have hE := pos_nle c_4
    refine lv_aload_n hx hb dX0_lastFrom_7 rfl (lv_at hl 0 rfl) ?_
    refine r_get (C := RX0) (T := TX0) (v := .ref (a 2)) hx hb hts i0 hown hw 1 rfl rfl 0 (by decide) lk9 rfl dX0_lastFrom_8 ?_
    refine lv_aload_n hx hb dX0_lastFrom_11 rfl (lv_at hl 0 rfl) ?_
    refine r_get (C := RX0) (T := TX0) (v := .int (u4)) hx hb hts i0 hown hw 1 rfl rfl 4 (by decide) lk24 rfl dX0_lastFrom_12 ?_
    refine r_top (nI (tn u4)) he0 ?_
    refine lv_iconst (v := 1) hx hb dX0_lastFrom_15 (by decide) ?_
    refine lv_isub hx hb dX0_lastFrom_16 ?_
    refine r_top (nI (tn u4 - 1)) (nI_sub1 hE) ?_
    refine r_ialdN (v := c0 (tn u4 - 1)) hx hb hw 2 rfl ht0 (tn u4 - 1) (by omega) (by decide) dX0_lastFrom_17 rfl ?_
    refine lv_goto (tgt := 22) hx hb dX0_lastFrom_18 (by decide) ?_
    have e9 : f0_lastFrom c0 u4 = c0 (tn u4 - 1) := by unfold f0_lastFrom; rw [if_neg c_4]
    exact r_iret hx hb hr hlocks hw ⟨by rw [e9] <;> rfl, rfl⟩ dX0_lastFrom_22
def lf0_holding_7 (c0 : Nat → Int32) (p1 : Int32) : Nat → Int32
  | 0 => 0
  | j + 1 => if p1 < (c0 (j + 1)) then lf0_holding_7 c0 p1 j
    else nI (j + 1)
set_option maxHeartbeats 4000000 in
set_option maxRecDepth 100000 in
theorem lt0_holding_7 (l : Launch) (D : va_G) (ty : List (ClassId × FieldType)) (a : Nat → Nat) (b : Nat → Nat → Nat) (n : Nat) (cI cO : ClassId) (ht0 : ty[0]? = some (cI, .int)) (ht1 : ty[1]? = some (cO, .object "RentSizes$Item")) (c0 : Nat → Int32) (c1 : Nat → Int32) (c2 : Nat → Int32) (c3 : Nat → Int32) (u4 : Int32) (c5 : Nat → Int32) (c6 : Nat → Int32) (c7 : Nat → Int32) (u8 : Int32) (u9 : Int32) (u10 : Int32) (c11 : Nat → Int32) (u12 : Int32) (u13 : Int32) (I : Nat → Nat → Nat → Int32) (p1 : Int32) (he0 : u4 = nI (tn u4)) (he1 : tn u4 ≤ 10) (he2 : 1 ≤ tn u4) {p : Program} {e : Env} {s : State} {m : MethodId} {args : Array Value} {below : List Frame} {meth : Method} {c : Code} {A : Nat → Prop} (post : Int32 → va_W → Prop) (hx : p.tables.exec = Jvm.exec) (hb : c.code = cX0_holding) (hr : meth.sig.returnType = (some .int)) (hlocks : meth.locks = false) (hml : c.maxLocals = 3) (hts : ∀ w ∈ wsX0_holding, w.before args s = true) (hown : s.vm.findClass RX0 = some m.cls) : ∀ (j : Nat) (hj : j ≤ tn u4 - 1) (H : Heap) (locs : List Loc) (ls : Array Slot) (hw : Wd D ty A s.heap s (CW a b n cI cO c0 c1 c2 c3 u4 c5 c6 c7 u8 u9 u10 c11 u12 u13 I) H locs) (hl : lv_has ls 3 [(2, .int (nI (j))), (0, .ref (a 1)), (1, .int (p1))]) (hp : post (lf0_holding_7 c0 p1 j) (CW a b n cI cO c0 c1 c2 c3 u4 c5 c6 c7 u8 u9 u10 c11 u12 u13 I)), W p l e ({ frames := 0, cells := 0, slots := 0, locals := 0 } : Room) s m args below meth c H locs 0 0 (MQ below (va_Qi post (cB D ty A) A) args s 0 0 A) (F0 m 7 ls []) := by
  have i0 : ∀ w ∈ wsX00, w ∈ wsX0_holding := fun _ h => List.mem_cons_of_mem _ (List.mem_append_right _ h)
  have lk9 := hts (.fieldLink RX0 9 "RentSizes$Editions" "froms" "[I") (by decide +kernel)
  intro j
  induction j with
  | zero =>
    intro hj H locs ls hw hl hp
    refine lv_iload_n hx hb dX0_holding_7 rfl (lv_at hl 0 rfl) ?_
    refine lv_if_le (tgt := 29) hx hb dX0_holding_8 (by decide) (fun c_8 => ?_) (fun c_8 => ?_)
    · refine lv_iconst (v := 0) hx hb dX0_holding_29 (by decide) ?_
      have e9 : lf0_holding_7 c0 p1 0 = 0 := by rw [lf0_holding_7]
      rw [e9] at hp
      exact r_iret hx hb hr hlocks hw hp dX0_holding_30
    · exact absurd (by decide) c_8
  | succ j ih =>
    intro hj H locs ls hw hl hp
    refine lv_iload_n hx hb dX0_holding_7 rfl (lv_at hl 0 rfl) ?_
    refine lv_if_le (tgt := 29) hx hb dX0_holding_8 (by decide) (fun c_8 => ?_) (fun c_8 => ?_)
    · exact absurd c_8 (nI_nle (by omega) (by omega))
    · refine lv_aload_n hx hb dX0_holding_11 rfl (lv_at hl 1 rfl) ?_
      refine r_get (C := RX0) (T := TX0) (v := .ref (a 2)) hx hb hts i0 hown hw 1 rfl rfl 0 (by decide) lk9 rfl dX0_holding_12 ?_
      refine lv_iload_n hx hb dX0_holding_15 rfl (lv_at hl 0 rfl) ?_
      refine r_ialdN (v := c0 (j + 1)) hx hb hw 2 rfl ht0 (j + 1) (by omega) (by decide) dX0_holding_16 rfl ?_
      refine lv_iload_n hx hb dX0_holding_17 rfl (lv_at hl 2 rfl) ?_
      refine lv_icmp_gt (tgt := 23) hx hb dX0_holding_18 (by decide) (fun c_18 => ?_) (fun c_18 => ?_)
      · refine lv_iinc (v := nI (j)) (lv' := [(2, .int (nI (j))), (0, .ref (a 1)), (1, .int (p1))]) hx hb dX0_holding_23 hl (k := 0) rfl ((am1 _).trans (nI_pred _)) (by decide) rfl (fun ls hl => ?_)
        refine lv_goto (tgt := 7) hx hb dX0_holding_26 (by decide) ?_
        have e9 : lf0_holding_7 c0 p1 (j + 1) = lf0_holding_7 c0 p1 j := by rw [lf0_holding_7]; rw [if_pos c_18]
        rw [e9] at hp
        exact ih (by omega) _ _ _ hw (lv_sub hl [0, 1, 2] rfl) hp
      · refine lv_iload_n hx hb dX0_holding_21 rfl (lv_at hl 0 rfl) ?_
        have e9 : lf0_holding_7 c0 p1 (j + 1) = nI (j + 1) := by rw [lf0_holding_7]; rw [if_neg c_18]
        rw [e9] at hp
        exact r_iret hx hb hr hlocks hw hp dX0_holding_22
def f0_holding (c0 : Nat → Int32) (u4 : Int32) (p1 : Int32) : Int32 :=
  lf0_holding_7 c0 p1 (tn u4 - 1)
set_option maxHeartbeats 4000000 in
set_option maxRecDepth 100000 in
theorem k0_holding (l : Launch) (D : va_G) (ty : List (ClassId × FieldType)) (a : Nat → Nat) (b : Nat → Nat → Nat) (n : Nat) (cI cO : ClassId) (ht0 : ty[0]? = some (cI, .int)) (ht1 : ty[1]? = some (cO, .object "RentSizes$Item")) (c0 : Nat → Int32) (c1 : Nat → Int32) (c2 : Nat → Int32) (c3 : Nat → Int32) (u4 : Int32) (c5 : Nat → Int32) (c6 : Nat → Int32) (c7 : Nat → Int32) (u8 : Int32) (u9 : Int32) (u10 : Int32) (c11 : Nat → Int32) (u12 : Int32) (u13 : Int32) (I : Nat → Nat → Nat → Int32) (p1 : Int32) (he0 : u4 = nI (tn u4)) (he1 : tn u4 ≤ 10) (he2 : 1 ≤ tn u4) : MetG l yX0_holding wsX0_holding { frames := 0, cells := 0, slots := 0, locals := 0 } D ty [.ref (a 1), .int (p1)] (CW a b n cI cO c0 c1 c2 c3 u4 c5 c6 c7 u8 u9 u10 c11 u12 u13 I) (va_Qi (fun r w => r = f0_holding c0 u4 p1 ∧ w = CW a b n cI cO c0 c1 c2 c3 u4 c5 c6 c7 u8 u9 u10 c11 u12 u13 I)) 0 0 := by
  refine Met_start cX0_holding 3 (some .int) (by decide) rfl (Nat.le_of_ble_eq_true rfl) ?_
  intro p e s m below meth c A ls hx hb hr hlocks hml hnm hts hown hw hl
  have hl : lv_has ls 3 [(0, .ref (a 1)), (1, .int (p1))] := hl
  have i0 : ∀ w ∈ wsX00, w ∈ wsX0_holding := fun _ h => List.mem_cons_of_mem _ (List.mem_append_right _ h)
  have lk24 := hts (.fieldLink RX0 24 "RentSizes$Editions" "count" "I") (by decide +kernel)
  refine lv_aload_n hx hb dX0_holding_0 rfl (lv_at hl 0 rfl) ?_
  refine r_get (C := RX0) (T := TX0) (v := .int (u4)) hx hb hts i0 hown hw 1 rfl rfl 4 (by decide) lk24 rfl dX0_holding_1 ?_
  refine r_top (nI (tn u4)) he0 ?_
  refine lv_iconst (v := 1) hx hb dX0_holding_4 (by decide) ?_
  refine lv_isub hx hb dX0_holding_5 ?_
  refine lv_istore_n (lv' := [(2, .int ((nI (tn u4)) - 1)), (0, .ref (a 1)), (1, .int (p1))]) hx hb dX0_holding_6 rfl hl (by decide) rfl (fun ls hl => ?_)
  have hl : lv_has ls 3 [(2, .int (nI (tn u4 - 1))), (0, .ref (a 1)), (1, .int (p1))] := by rw [nI_sub1 he2] at hl; exact hl
  have e9 : f0_holding c0 u4 p1 = lf0_holding_7 c0 p1 (tn u4 - 1) := by unfold f0_holding; rfl
  exact lt0_holding_7 l D ty a b n cI cO ht0 ht1 c0 c1 c2 c3 u4 c5 c6 c7 u8 u9 u10 c11 u12 u13 I p1 he0 he1 he2 _ hx hb hr hlocks hml hts hown (tn u4 - 1) (Nat.le_refl _) _ _ _ hw hl ⟨by rw [e9] <;> rfl, rfl⟩
theorem hd_lf (c0 : Nat → Int32) (p1 : Int32) : ∀ j, ∃ e, e ≤ j ∧ lf0_holding_7 c0 p1 j = nI e
  | 0 => ⟨0, Nat.le_refl _, rfl⟩
  | j + 1 => by
    rw [lf0_holding_7]
    split
    · obtain ⟨e, h, q⟩ := hd_lf c0 p1 j
      exact ⟨e, by omega, q⟩
    · exact ⟨j + 1, Nat.le_refl _, rfl⟩
theorem hd_in {c0 : Nat → Int32} {u4 : Int32} (p1 : Int32) (h : tn u4 ≤ 10) : vp_in (f0_holding c0 u4 p1) 10 := by
  obtain ⟨e, he, q⟩ := hd_lf c0 p1 (tn u4 - 1)
  show vp_in (lf0_holding_7 c0 p1 (tn u4 - 1)) 10
  rw [q]; exact vp_in_nI (by omega) (by decide)
def f0_priceOn (c0 : Nat → Int32) (c1 : Nat → Int32) (u4 : Int32) (p1 : Int32) : Int32 :=
  c1 (tn (f0_holding c0 u4 p1))
set_option maxHeartbeats 4000000 in
set_option maxRecDepth 100000 in
theorem k0_priceOn (l : Launch) (D : va_G) (ty : List (ClassId × FieldType)) (a : Nat → Nat) (b : Nat → Nat → Nat) (n : Nat) (cI cO : ClassId) (ht0 : ty[0]? = some (cI, .int)) (ht1 : ty[1]? = some (cO, .object "RentSizes$Item")) (c0 : Nat → Int32) (c1 : Nat → Int32) (c2 : Nat → Int32) (c3 : Nat → Int32) (u4 : Int32) (c5 : Nat → Int32) (c6 : Nat → Int32) (c7 : Nat → Int32) (u8 : Int32) (u9 : Int32) (u10 : Int32) (c11 : Nat → Int32) (u12 : Int32) (u13 : Int32) (I : Nat → Nat → Nat → Int32) (p1 : Int32) (he0 : u4 = nI (tn u4)) (he1 : tn u4 ≤ 10) (he2 : 1 ≤ tn u4) : MetG l yX0_priceOn wsX0_priceOn { frames := 1, cells := 0, slots := 0, locals := 22 } D ty [.ref (a 1), .int (p1)] (CW a b n cI cO c0 c1 c2 c3 u4 c5 c6 c7 u8 u9 u10 c11 u12 u13 I) (va_Qi (fun r w => r = f0_priceOn c0 c1 u4 p1 ∧ w = CW a b n cI cO c0 c1 c2 c3 u4 c5 c6 c7 u8 u9 u10 c11 u12 u13 I)) 0 0 := by
  refine Met_start cX0_priceOn 2 (some .int) (by decide) rfl (Nat.le_of_ble_eq_true rfl) ?_
  intro p e s m below meth c A ls hx hb hr hlocks hml hnm hts hown hw hl
  have hl : lv_has ls 2 [(0, .ref (a 1)), (1, .int (p1))] := hl
  have i0 : ∀ w ∈ wsX00, w ∈ wsX0_priceOn := fun _ h => List.mem_cons_of_mem _ (List.mem_append_right _ h)
  have lk15 := hts (.fieldLink RX0 15 "RentSizes$Editions" "prices" "[I") (by decide +kernel)
  refine lv_aload_n hx hb dX0_priceOn_0 rfl (lv_at hl 0 rfl) ?_
  refine r_get (C := RX0) (T := TX0) (v := .ref (a 3)) hx hb hts i0 hown hw 1 rfl rfl 1 (by decide) lk15 rfl dX0_priceOn_1 ?_
  refine lv_aload_n hx hb dX0_priceOn_4 rfl (lv_at hl 0 rfl) ?_
  refine lv_iload_n hx hb dX0_priceOn_5 rfl (lv_at hl 1 rfl) ?_
  refine r_callVi 1 rfl rfl (rest := [.ref (a 3)]) ⟨hx, hb, hml, hown, hts⟩ hw [.int (p1)] (k0_holding l D ty a b n cI cO ht0 ht1 c0 c1 c2 c3 u4 c5 c6 c7 u8 u9 u10 c11 u12 u13 I p1 (by first | assumption | omega) (by first | assumption | omega) (by first | assumption | omega)) (cwV 1 hts gX0_priceOn_X0_holding rfl rfl rfl (by decide +kernel) ⟨Nat.le_of_ble_eq_true rfl, Nat.le_of_ble_eq_true rfl⟩) rfl hl.1 rfl (Nat.le_of_ble_eq_true rfl) dX0_priceOn_6 ⟨Nat.le_of_ble_eq_true rfl, Nat.le_of_ble_eq_true rfl⟩ (fun r w H locs hp hw => ?_)
  obtain ⟨rfl, rfl⟩ := hp
  refine r_iald (v := c1 (tn (f0_holding c0 u4 p1))) hx hb hw 3 rfl ht0 (hd_in _ he1) dX0_priceOn_9 rfl ?_
  have e9 : f0_priceOn c0 c1 u4 p1 = c1 (tn (f0_holding c0 u4 p1)) := by unfold f0_priceOn; rfl
  exact r_iret hx hb hr hlocks hw ⟨by rw [e9] <;> rfl, rfl⟩ dX0_priceOn_10
def f0_rentOn (c0 : Nat → Int32) (c2 : Nat → Int32) (u4 : Int32) (p1 : Int32) : Int32 :=
  c2 (tn (f0_holding c0 u4 p1))
set_option maxHeartbeats 4000000 in
set_option maxRecDepth 100000 in
theorem k0_rentOn (l : Launch) (D : va_G) (ty : List (ClassId × FieldType)) (a : Nat → Nat) (b : Nat → Nat → Nat) (n : Nat) (cI cO : ClassId) (ht0 : ty[0]? = some (cI, .int)) (ht1 : ty[1]? = some (cO, .object "RentSizes$Item")) (c0 : Nat → Int32) (c1 : Nat → Int32) (c2 : Nat → Int32) (c3 : Nat → Int32) (u4 : Int32) (c5 : Nat → Int32) (c6 : Nat → Int32) (c7 : Nat → Int32) (u8 : Int32) (u9 : Int32) (u10 : Int32) (c11 : Nat → Int32) (u12 : Int32) (u13 : Int32) (I : Nat → Nat → Nat → Int32) (p1 : Int32) (he0 : u4 = nI (tn u4)) (he1 : tn u4 ≤ 10) (he2 : 1 ≤ tn u4) : MetG l yX0_rentOn wsX0_rentOn { frames := 1, cells := 0, slots := 0, locals := 22 } D ty [.ref (a 1), .int (p1)] (CW a b n cI cO c0 c1 c2 c3 u4 c5 c6 c7 u8 u9 u10 c11 u12 u13 I) (va_Qi (fun r w => r = f0_rentOn c0 c2 u4 p1 ∧ w = CW a b n cI cO c0 c1 c2 c3 u4 c5 c6 c7 u8 u9 u10 c11 u12 u13 I)) 0 0 := by
  refine Met_start cX0_rentOn 2 (some .int) (by decide) rfl (Nat.le_of_ble_eq_true rfl) ?_
  intro p e s m below meth c A ls hx hb hr hlocks hml hnm hts hown hw hl
  have hl : lv_has ls 2 [(0, .ref (a 1)), (1, .int (p1))] := hl
  have i0 : ∀ w ∈ wsX00, w ∈ wsX0_rentOn := fun _ h => List.mem_cons_of_mem _ (List.mem_append_right _ h)
  have lk18 := hts (.fieldLink RX0 18 "RentSizes$Editions" "rents" "[I") (by decide +kernel)
  refine lv_aload_n hx hb dX0_rentOn_0 rfl (lv_at hl 0 rfl) ?_
  refine r_get (C := RX0) (T := TX0) (v := .ref (a 4)) hx hb hts i0 hown hw 1 rfl rfl 2 (by decide) lk18 rfl dX0_rentOn_1 ?_
  refine lv_aload_n hx hb dX0_rentOn_4 rfl (lv_at hl 0 rfl) ?_
  refine lv_iload_n hx hb dX0_rentOn_5 rfl (lv_at hl 1 rfl) ?_
  refine r_callVi 1 rfl rfl (rest := [.ref (a 4)]) ⟨hx, hb, hml, hown, hts⟩ hw [.int (p1)] (k0_holding l D ty a b n cI cO ht0 ht1 c0 c1 c2 c3 u4 c5 c6 c7 u8 u9 u10 c11 u12 u13 I p1 (by first | assumption | omega) (by first | assumption | omega) (by first | assumption | omega)) (cwV 1 hts gX0_rentOn_X0_holding rfl rfl rfl (by decide +kernel) ⟨Nat.le_of_ble_eq_true rfl, Nat.le_of_ble_eq_true rfl⟩) rfl hl.1 rfl (Nat.le_of_ble_eq_true rfl) dX0_rentOn_6 ⟨Nat.le_of_ble_eq_true rfl, Nat.le_of_ble_eq_true rfl⟩ (fun r w H locs hp hw => ?_)
  obtain ⟨rfl, rfl⟩ := hp
  refine r_iald (v := c2 (tn (f0_holding c0 u4 p1))) hx hb hw 4 rfl ht0 (hd_in _ he1) dX0_rentOn_9 rfl ?_
  have e9 : f0_rentOn c0 c2 u4 p1 = c2 (tn (f0_holding c0 u4 p1)) := by unfold f0_rentOn; rfl
  exact r_iret hx hb hr hlocks hw ⟨by rw [e9] <;> rfl, rfl⟩ dX0_rentOn_10
def f0_leastOn (c0 : Nat → Int32) (c3 : Nat → Int32) (u4 : Int32) (p1 : Int32) : Int32 :=
  c3 (tn (f0_holding c0 u4 p1))
set_option maxHeartbeats 4000000 in
set_option maxRecDepth 100000 in
theorem k0_leastOn (l : Launch) (D : va_G) (ty : List (ClassId × FieldType)) (a : Nat → Nat) (b : Nat → Nat → Nat) (n : Nat) (cI cO : ClassId) (ht0 : ty[0]? = some (cI, .int)) (ht1 : ty[1]? = some (cO, .object "RentSizes$Item")) (c0 : Nat → Int32) (c1 : Nat → Int32) (c2 : Nat → Int32) (c3 : Nat → Int32) (u4 : Int32) (c5 : Nat → Int32) (c6 : Nat → Int32) (c7 : Nat → Int32) (u8 : Int32) (u9 : Int32) (u10 : Int32) (c11 : Nat → Int32) (u12 : Int32) (u13 : Int32) (I : Nat → Nat → Nat → Int32) (p1 : Int32) (he0 : u4 = nI (tn u4)) (he1 : tn u4 ≤ 10) (he2 : 1 ≤ tn u4) : MetG l yX0_leastOn wsX0_leastOn { frames := 1, cells := 0, slots := 0, locals := 22 } D ty [.ref (a 1), .int (p1)] (CW a b n cI cO c0 c1 c2 c3 u4 c5 c6 c7 u8 u9 u10 c11 u12 u13 I) (va_Qi (fun r w => r = f0_leastOn c0 c3 u4 p1 ∧ w = CW a b n cI cO c0 c1 c2 c3 u4 c5 c6 c7 u8 u9 u10 c11 u12 u13 I)) 0 0 := by
  refine Met_start cX0_leastOn 2 (some .int) (by decide) rfl (Nat.le_of_ble_eq_true rfl) ?_
  intro p e s m below meth c A ls hx hb hr hlocks hml hnm hts hown hw hl
  have hl : lv_has ls 2 [(0, .ref (a 1)), (1, .int (p1))] := hl
  have i0 : ∀ w ∈ wsX00, w ∈ wsX0_leastOn := fun _ h => List.mem_cons_of_mem _ (List.mem_append_right _ h)
  have lk21 := hts (.fieldLink RX0 21 "RentSizes$Editions" "leasts" "[I") (by decide +kernel)
  refine lv_aload_n hx hb dX0_leastOn_0 rfl (lv_at hl 0 rfl) ?_
  refine r_get (C := RX0) (T := TX0) (v := .ref (a 5)) hx hb hts i0 hown hw 1 rfl rfl 3 (by decide) lk21 rfl dX0_leastOn_1 ?_
  refine lv_aload_n hx hb dX0_leastOn_4 rfl (lv_at hl 0 rfl) ?_
  refine lv_iload_n hx hb dX0_leastOn_5 rfl (lv_at hl 1 rfl) ?_
  refine r_callVi 1 rfl rfl (rest := [.ref (a 5)]) ⟨hx, hb, hml, hown, hts⟩ hw [.int (p1)] (k0_holding l D ty a b n cI cO ht0 ht1 c0 c1 c2 c3 u4 c5 c6 c7 u8 u9 u10 c11 u12 u13 I p1 (by first | assumption | omega) (by first | assumption | omega) (by first | assumption | omega)) (cwV 1 hts gX0_leastOn_X0_holding rfl rfl rfl (by decide +kernel) ⟨Nat.le_of_ble_eq_true rfl, Nat.le_of_ble_eq_true rfl⟩) rfl hl.1 rfl (Nat.le_of_ble_eq_true rfl) dX0_leastOn_6 ⟨Nat.le_of_ble_eq_true rfl, Nat.le_of_ble_eq_true rfl⟩ (fun r w H locs hp hw => ?_)
  obtain ⟨rfl, rfl⟩ := hp
  refine r_iald (v := c3 (tn (f0_holding c0 u4 p1))) hx hb hw 5 rfl ht0 (hd_in _ he1) dX0_leastOn_9 rfl ?_
  have e9 : f0_leastOn c0 c3 u4 p1 = c3 (tn (f0_holding c0 u4 p1)) := by unfold f0_leastOn; rfl
  exact r_iret hx hb hr hlocks hw ⟨by rw [e9] <;> rfl, rfl⟩ dX0_leastOn_10
def f0_fromOn (c0 : Nat → Int32) (u4 : Int32) (p1 : Int32) : Int32 :=
  c0 (tn (f0_holding c0 u4 p1))
set_option maxHeartbeats 4000000 in
set_option maxRecDepth 100000 in
theorem k0_fromOn (l : Launch) (D : va_G) (ty : List (ClassId × FieldType)) (a : Nat → Nat) (b : Nat → Nat → Nat) (n : Nat) (cI cO : ClassId) (ht0 : ty[0]? = some (cI, .int)) (ht1 : ty[1]? = some (cO, .object "RentSizes$Item")) (c0 : Nat → Int32) (c1 : Nat → Int32) (c2 : Nat → Int32) (c3 : Nat → Int32) (u4 : Int32) (c5 : Nat → Int32) (c6 : Nat → Int32) (c7 : Nat → Int32) (u8 : Int32) (u9 : Int32) (u10 : Int32) (c11 : Nat → Int32) (u12 : Int32) (u13 : Int32) (I : Nat → Nat → Nat → Int32) (p1 : Int32) (he0 : u4 = nI (tn u4)) (he1 : tn u4 ≤ 10) (he2 : 1 ≤ tn u4) : MetG l yX0_fromOn wsX0_fromOn { frames := 1, cells := 0, slots := 0, locals := 22 } D ty [.ref (a 1), .int (p1)] (CW a b n cI cO c0 c1 c2 c3 u4 c5 c6 c7 u8 u9 u10 c11 u12 u13 I) (va_Qi (fun r w => r = f0_fromOn c0 u4 p1 ∧ w = CW a b n cI cO c0 c1 c2 c3 u4 c5 c6 c7 u8 u9 u10 c11 u12 u13 I)) 0 0 := by
  refine Met_start cX0_fromOn 2 (some .int) (by decide) rfl (Nat.le_of_ble_eq_true rfl) ?_
  intro p e s m below meth c A ls hx hb hr hlocks hml hnm hts hown hw hl
  have hl : lv_has ls 2 [(0, .ref (a 1)), (1, .int (p1))] := hl
  have i0 : ∀ w ∈ wsX00, w ∈ wsX0_fromOn := fun _ h => List.mem_cons_of_mem _ (List.mem_append_right _ h)
  have lk9 := hts (.fieldLink RX0 9 "RentSizes$Editions" "froms" "[I") (by decide +kernel)
  refine lv_aload_n hx hb dX0_fromOn_0 rfl (lv_at hl 0 rfl) ?_
  refine r_get (C := RX0) (T := TX0) (v := .ref (a 2)) hx hb hts i0 hown hw 1 rfl rfl 0 (by decide) lk9 rfl dX0_fromOn_1 ?_
  refine lv_aload_n hx hb dX0_fromOn_4 rfl (lv_at hl 0 rfl) ?_
  refine lv_iload_n hx hb dX0_fromOn_5 rfl (lv_at hl 1 rfl) ?_
  refine r_callVi 1 rfl rfl (rest := [.ref (a 2)]) ⟨hx, hb, hml, hown, hts⟩ hw [.int (p1)] (k0_holding l D ty a b n cI cO ht0 ht1 c0 c1 c2 c3 u4 c5 c6 c7 u8 u9 u10 c11 u12 u13 I p1 (by first | assumption | omega) (by first | assumption | omega) (by first | assumption | omega)) (cwV 1 hts gX0_fromOn_X0_holding rfl rfl rfl (by decide +kernel) ⟨Nat.le_of_ble_eq_true rfl, Nat.le_of_ble_eq_true rfl⟩) rfl hl.1 rfl (Nat.le_of_ble_eq_true rfl) dX0_fromOn_6 ⟨Nat.le_of_ble_eq_true rfl, Nat.le_of_ble_eq_true rfl⟩ (fun r w H locs hp hw => ?_)
  obtain ⟨rfl, rfl⟩ := hp
  refine r_iald (v := c0 (tn (f0_holding c0 u4 p1))) hx hb hw 2 rfl ht0 (hd_in _ he1) dX0_fromOn_9 rfl ?_
  have e9 : f0_fromOn c0 u4 p1 = c0 (tn (f0_holding c0 u4 p1)) := by unfold f0_fromOn; rfl
  exact r_iret hx hb hr hlocks hw ⟨by rw [e9] <;> rfl, rfl⟩ dX0_fromOn_10
