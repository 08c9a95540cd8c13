def R_law : String := "RentSizesLaw"
def lw_P (b : Addr) (xs : List Int32) (args : Array Value) (s : State) : Prop := args = #[.ref b] ∧ s.IntsAt b xs ∧ xs.length ≤ 2560 ∧ (Jvm.Cond.and given_1 narrow_1).before args s = true
def lw_Q (_ : Array Value) (s : State) (o : Outcome) (t : State) : Prop := o = .returned (some (.int 1)) ∧ Framed s o t [] 601024 7293034
def lw_Z (below : List Frame) (a : Array Value) (s : State) : State → Prop := fun t => ∃ o, t.status = .running ∧ Ended t below o ∧ lw_Q a s o t
/-- the law's own end, with 1 on the stack, nothing written that was there before, its room as the claim has it -/
theorem lw_ret {p : Program} {l : Launch} {e : Env} {s : State} {m : MethodId} {below : List Frame} {meth : Method} {c : Code} {b : Nat} (hx : p.tables.exec = Jvm.exec) (hb : c.code = code) (hr : meth.sig.returnType = ret) (hlocks : meth.locks = false) {pc : Nat} {H : Heap} {ls : Array Slot} (hdg : decode code pc = .ok (.ireturn, 1)) : W p l e room_1 s m #[Value.ref b] below meth c H [] 601024 7293034 (lw_Z below #[Value.ref b] s) (F0 m pc ls [.int 1]) := by
  intro T hT X
  obtain ⟨fs, hret, hrun, hended, hW, hframe⟩ := X.leave (v := some (.int 1)) (hlocks := hlocks) (fun h => by rw [hr] at h; cases h)
  have hmeth' : T.vm.method? m = some meth := X.method'
  refine ⟨T.setFrames fs, ?_, .returned (some (.int 1)), hrun, hended, rfl, ⟨_, rfl⟩, hW, hframe⟩
  jvm_step X.here [X.here.top, hx, hb, hdg, hmeth', hr, ret, narrow_b1]
  (try refine ⟨rfl, ?_⟩); (try refine ⟨rfl, ?_⟩)
  first | (intro acts; rw [hret _ acts rfl rfl rfl]) | rw [hret _ _ rfl rfl rfl]
  exact Steps.refl _
/-- what holds at the law's entry: the machine, the code, the tables' words (any of lw_tbl by 'hts w (by decide +kernel)'), the script of L ints xs at the cell b, what the Statement gives of the start (any of its parts by flat_of_before) -/
def lw_At (p : Program) (s : State) (m : MethodId) (meth : Method) (c : Code) (b L : Nat) (xs : Nat → Int32) : Prop :=
  p.tables.exec = Jvm.exec ∧ c.code = code ∧ meth.sig.returnType = ret ∧ c.maxLocals = 8 ∧ s.vm.findClass R_law = some m.cls ∧ (∀ w ∈ lw_tbl, w.before #[Value.ref b] s = true) ∧ va_X b L xs s s.heap ∧ b < s.heap.size ∧ meth.locks = false ∧ (Jvm.Cond.and given_1 narrow_1).before #[Value.ref b] s = true
abbrev LA (s : State) : Nat → Prop := fun q => s.heap.size ≤ q
/-- what the law's rows need -/
def LCx (p : Program) (s : State) (m : MethodId) (c : Code) (b L : Nat) (xs : Nat → Int32) : Prop :=
  p.tables.exec = Jvm.exec ∧ c.code = cL_law ∧ c.maxLocals = 8 ∧ s.vm.findClass RL = some m.cls ∧ (∀ w ∈ wsL_law, w.before #[Value.ref b] s = true) ∧ va_X b L xs s s.heap ∧ b < s.heap.size ∧ L ≤ 2560
/-- the locals of the law's loop -/
abbrev LV (b q1 q2 q3 i : Nat) : List (Nat × Value) := [(0, .ref b), (1, .ref q1), (2, .ref q2), (3, .ref q3), (4, .int (nI i))]
/-- the worlds of the law's loop: the class beside the reference, and the row for exact -/
def LwI (cI cO cL : ClassId) (q1 q2 q3 : Nat) (ws : va_W) : Prop :=
  ∃ (a : Nat → Nat) (b : Nat → Nat → Nat) (n : Nat) (u8 : Int32) (I : Nat → Nat → Nat → Int32) (a' : Nat → Nat) (s0 s1 : Int32) (a2 a3 a4 a5 a6 a7 a8 a9 : Nat → Int32) (s10 s11 s12 : Int32) (a13 a14 a15 a16 a17 a18 a19 a20 a21 : Nat → Int32) (s22 : Int32) (f : Nat → Int64),
    a 0 = q1 ∧ a' 0 = q2 ∧ RSt n u8 I s0 s1 a3 a4 a5 a6 a9 s10 s12 a13 a14 a15 a16 a17 a18 a19 a20 a21 ∧
    ws = CW a b n cI cO a2 a3 a4 a5 s1 a6 a8 a9 u8 s10 s11 a7 s12 s0 I ++ (MW a' cI s0 s1 a2 a3 a4 a5 a6 a7 a8 a9 s10 s11 s12 a13 a14 a15 a16 a17 a18 a19 a20 a21 s22 ++ [(q3, .inl (cL, 1, .inr (.inl f)))])
section RS
variable {n : Nat} {u8 : Int32} {I : Nat → Nat → Nat → Int32} {s0 s1 : Int32} {a2 a3 a4 a5 a6 a7 a8 a9 : Nat → Int32} {s10 s11 s12 : Int32} {a13 a14 a15 a16 a17 a18 a19 a20 a21 : Nat → Int32}
theorem vp6 {x : Int32} (h : 0 ≤ x.toInt ∧ x.toInt ≤ 5) : vp_in x 6 := by
  obtain ⟨t, ⟨-, ht⟩, rfl⟩ := nat_of_in h.1 h.2 (Int.le_refl 0)
  exact vp_in_nI (by omega) (by omega)
theorem RSt.he0 (h : RSt n u8 I s0 s1 a3 a4 a5 a6 a9 s10 s12 a13 a14 a15 a16 a17 a18 a19 a20 a21) : s1 = nI (tn s1) := h.1.1
theorem RSt.he1 (h : RSt n u8 I s0 s1 a3 a4 a5 a6 a9 s10 s12 a13 a14 a15 a16 a17 a18 a19 a20 a21) : tn s1 ≤ 10 := h.1.2.2.1
theorem RSt.he2 (h : RSt n u8 I s0 s1 a3 a4 a5 a6 a9 s10 s12 a13 a14 a15 a16 a17 a18 a19 a20 a21) : 1 ≤ tn s1 := h.1.2.1
theorem RSt.hob (h : RSt n u8 I s0 s1 a3 a4 a5 a6 a9 s10 s12 a13 a14 a15 a16 a17 a18 a19 a20 a21) : s12 = nI (tn s12) := h.2.2.2.2.1.1
theorem RSt.hobn (h : RSt n u8 I s0 s1 a3 a4 a5 a6 a9 s10 s12 a13 a14 a15 a16 a17 a18 a19 a20 a21) : tn s12 ≤ n := h.2.2.2.2.1.2.1
theorem RSt.hn60 (h : RSt n u8 I s0 s1 a3 a4 a5 a6 a9 s10 s12 a13 a14 a15 a16 a17 a18 a19 a20 a21) : n ≤ 60 := h.2.2.2.2.1.2.2
theorem RSt.hob60 (h : RSt n u8 I s0 s1 a3 a4 a5 a6 a9 s10 s12 a13 a14 a15 a16 a17 a18 a19 a20 a21) : tn s12 ≤ 60 := Nat.le_trans h.hobn h.hn60
theorem RSt.how4 (h : RSt n u8 I s0 s1 a3 a4 a5 a6 a9 s10 s12 a13 a14 a15 a16 a17 a18 a19 a20 a21) : ∀ i, i < tn s12 → vp_in (I i 1 0) 6 := fun i hi => by
  obtain ⟨⟨r1, -⟩, k1, -⟩ := h.2.2.2.2.2 i hi
  rw [r1]; exact vp6 k1
theorem RSt.hlk4 (h : RSt n u8 I s0 s1 a3 a4 a5 a6 a9 s10 s12 a13 a14 a15 a16 a17 a18 a19 a20 a21) : ∀ i, i < tn s12 → I i 8 0 = nI (tn (I i 8 0)) ∧ tn (I i 8 0) ≤ 16 := fun i hi => by
  obtain ⟨⟨r1, r2, r3, r4, r8, -⟩, k1, k2, k3, k4, k5, k6, k7, -⟩ := h.2.2.2.2.2 i hi
  rw [r8]; exact ⟨k6, k7⟩
theorem RSt.how5 (h : RSt n u8 I s0 s1 a3 a4 a5 a6 a9 s10 s12 a13 a14 a15 a16 a17 a18 a19 a20 a21) : ∀ x, x < tn s12 → vp_in (a13 x) 6 := fun i hi => vp6 (h.2.2.2.2.2 i hi).2.1
theorem RSt.hlk5 (h : RSt n u8 I s0 s1 a3 a4 a5 a6 a9 s10 s12 a13 a14 a15 a16 a17 a18 a19 a20 a21) : ∀ x, x < tn s12 → a18 x = nI (tn (a18 x)) ∧ tn (a18 x) ≤ 16 := fun i hi => by
  obtain ⟨-, k1, k2, k3, k4, k5, k6, k7, -⟩ := h.2.2.2.2.2 i hi
  exact ⟨k6, k7⟩
theorem RSt.hsz5 (h : RSt n u8 I s0 s1 a3 a4 a5 a6 a9 s10 s12 a13 a14 a15 a16 a17 a18 a19 a20 a21) : ∀ x, x < tn s12 → 1 ≤ (a14 x).toInt ∧ (a14 x).toInt ≤ 1000 := fun i hi => (h.2.2.2.2.2 i hi).2.2.1
theorem RSt.hlay5 (h : RSt n u8 I s0 s1 a3 a4 a5 a6 a9 s10 s12 a13 a14 a15 a16 a17 a18 a19 a20 a21) : ∀ x, x < tn s12 → ¬ a17 x = 2 → (∀ i, i < tn (a18 x) → 0 < (a19 (16 * x + i)).toInt) ∧ sB a19 (16 * x) (tn (a18 x)) = (a14 x).toInt := fun x hx h2 => by
  obtain ⟨-, k1, k2, k3, k4, k5, k6, k7, k8, k9⟩ := h.2.2.2.2.2 x hx
  exact ⟨fun i hi => (k8 i hi).1, k9 h2⟩
end RS
section LB
variable {p : Program} {l : Launch} {e : Env} {s : State} {m : MethodId} {below : List Frame} {meth : Method} {c : Code} {H : Heap} {locs : List Loc} {cells slots : Nat} {Q : State → Prop} {b L : Nat} {xs : Nat → Int32}
variable {pc : Nat} {ls : Array Slot} {rest st0 : List Value} {D : va_G} {ty : List (ClassId × FieldType)} {ws : va_W}
theorem l_arg (C : LCx p s m c b L xs) (hS : va_S (LA s) s.heap H locs) {q1 q2 q3 i : Nat} (hl : lv_has ls 8 (LV b q1 q2 q3 i)) {k : Nat} {ki : Int} (hik : i + k < L) (hki : Int32.ofInt ki = nI k)
    (d0 : decode cL_law pc = .ok (.aload_n 0, 1)) (d1 : decode cL_law (pc + 1) = .ok (.iload 4, 2)) (d3 : decode cL_law (pc + 3) = .ok (.iconst ki, 1)) (d4 : decode cL_law (pc + 4) = .ok (.iadd, 1)) (d5 : decode cL_law (pc + 5) = .ok (.iaload, 1))
    (kk : W p l e room_1 s m #[Value.ref b] below meth c H locs cells slots Q (F0 m (pc + 6) ls (.int (xs (i + k)) :: rest))) : W p l e room_1 s m #[Value.ref b] below meth c H locs cells slots Q (F0 m pc ls rest) := by
  obtain ⟨hx, hb, hml, hown, hts, hX, hbl, hL⟩ := C
  refine lv_aload_n hx hb d0 rfl (lv_at hl 0 rfl) ?_
  refine lv_iload hx hb d1 (lv_at hl 4 rfl) ?_
  refine lv_iconst (v := nI k) hx hb d3 hki ?_
  refine lv_iadd hx hb d4 ?_
  have e1 : nI i + nI k = nI (i + k) := (nI_add i k)
  refine r_top _ e1 ?_
  refine va_sld hx hb hX hbl (Nat.not_le.mpr hbl) hS (vp_in_nI hik (by omega)) d5 ?_
  rw [nI_clamp (by omega)]
  exact kk
theorem c_cls {X Z : va_W} {qx : Nat} {fs : List Value} {As : List Value} {index maxL mc ms n : Nat} {wy : List Cond} {rm : Room} {y : MethodName} {bytes : ByteArray} {ret : Option FieldType} {P : Int32 → va_W → Prop} (C : LCx p s m c b L xs) (hw : Wd D ty (LA s) s.heap s (X ++ Z) H locs) (hX : X[0]? = some (qx, .inr (4, fs))) (hM : MetG l y wy rm D ty (.ref qx :: As) X (va_Qi P) mc ms) (cw : CallW room_1 s #[Value.ref b] RL RX4 index y bytes maxL ret wy rm mc ms n) (hn : As.length = n) {q1 q2 q3 i : Nat} (hl : lv_has ls 8 (LV b q1 q2 q3 i)) (hst : st0 = As.reverse ++ .ref qx :: rest) (hroom : (rest.map fun v => v.category).sum ≤ 8) (hdg : decode cL_law pc = .ok (.invokevirtual index, 3)) (hf : cells + mc ≤ 601024 ∧ slots + ms ≤ 7293034)
    (kk : ∀ (r : Int32) (X' : va_W) (H1 : Heap) (locs1 : List Loc), P r X' → Wd D ty (LA s) s.heap s (X' ++ Z) H1 locs1 → W p l e room_1 s m #[Value.ref b] below meth c H1 locs1 (cells + mc) (slots + ms) Q (F0 m (pc + 3) ls (.int r :: rest))) : W p l e room_1 s m #[Value.ref b] below meth c H locs cells slots Q (F0 m pc ls st0) := by
  obtain ⟨hx, hb, hml, hown, hts, hX9, hbl, hL⟩ := C
  refine r_callVi 0 (apL hX) rfl (rest := rest) ⟨hx, hb, hml, hown, hts⟩ hw As (hM.frame_i Z) cw hn hl.1 hst hroom hdg hf (fun r w H1 locs1 hp hw => ?_)
  obtain ⟨w1, h1, rfl⟩ := hp
  exact kk r w1 H1 locs1 h1 hw
theorem perm3 (X Y O : va_W) : (X ++ (Y ++ O)).Perm (Y ++ (X ++ O)) := by
  rw [← List.append_assoc, ← List.append_assoc]
  exact List.Perm.append_right _ List.perm_append_comm
theorem c_ref {X Y O : va_W} {qx : Nat} {fs : List Value} {As : List Value} {index maxL mc ms n : Nat} {wy : List Cond} {rm : Room} {y : MethodName} {bytes : ByteArray} {ret : Option FieldType} {P : Int32 → va_W → Prop} (C : LCx p s m c b L xs) (hw : Wd D ty (LA s) s.heap s (X ++ (Y ++ O)) H locs) (hX : Y[0]? = some (qx, .inr (5, fs))) (hM : MetG l y wy rm D ty (.ref qx :: As) Y (va_Qi P) mc ms) (cw : CallW room_1 s #[Value.ref b] RL RX5 index y bytes maxL ret wy rm mc ms n) (hn : As.length = n) {lv : List (Nat × Value)} (hl : lv_has ls 8 lv) (hst : st0 = As.reverse ++ .ref qx :: rest) (hroom : (rest.map fun v => v.category).sum ≤ 8) (hdg : decode cL_law pc = .ok (.invokevirtual index, 3)) (hf : cells + mc ≤ 601024 ∧ slots + ms ≤ 7293034)
    (kk : ∀ (r : Int32) (Y' : va_W) (H1 : Heap) (locs1 : List Loc), P r Y' → Wd D ty (LA s) s.heap s (X ++ (Y' ++ O)) H1 locs1 → W p l e room_1 s m #[Value.ref b] below meth c H1 locs1 (cells + mc) (slots + ms) Q (F0 m (pc + 3) ls (.int r :: rest))) : W p l e room_1 s m #[Value.ref b] below meth c H locs cells slots Q (F0 m pc ls st0) := by
  obtain ⟨hx, hb, hml, hown, hts, hX9, hbl, hL⟩ := C
  refine r_callVi 0 (apL hX) rfl (rest := rest) ⟨hx, hb, hml, hown, hts⟩ (hw.perm (perm3 X Y O)) As (hM.frame_i (X ++ O)) cw hn hl.1 hst hroom hdg hf (fun r w H1 locs1 hp hw => ?_)
  obtain ⟨w1, h1, rfl⟩ := hp
  exact kk r w1 H1 locs1 h1 (hw.perm (perm3 w1 X O))
end LB
