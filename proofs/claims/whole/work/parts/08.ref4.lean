/-- how many of the weights are above 0, from j on -/
def cpw (w : Nat → Int32) (j : Nat) : Nat → Nat
  | 0 => 0
  | k + 1 => (if w j ≤ 0 then 0 else 1) + cpw w (j + 1) k
theorem cpw_le (w : Nat → Int32) : ∀ k j, cpw w j k ≤ k
  | 0, _ => Nat.le_refl _
  | k + 1, j => by have := cpw_le w k (j + 1); simp only [cpw]; split <;> omega
theorem cpw_pos {w : Nat → Int32} {i : Nat} (h : 0 < w i) : ∀ k j, j ≤ i → i < j + k → 1 ≤ cpw w j k
  | 0, j, h1, h2 => by omega
  | k + 1, j, h1, h2 => by
    simp only [cpw]
    by_cases e : j = i
    · subst e; rw [if_neg (Int32.not_le.mpr h)]; omega
    · have := cpw_pos h k (j + 1) (by omega) (by omega); omega
def lf5_share_20 (a9 : Nat → Int32) (s10 : Int32) : Nat → Nat → Int32 → Int32 → (Nat → Int32) → Int32 × Int32 × (Nat → Int32)
  | 0, _, v2, v3, f8 => (v2, v3, f8)
  | k + 1, j, v2, v3, f8 => if (a9 j) ≤ 0 then lf5_share_20 a9 s10 k (j + 1) (v2 - (((s10.toInt64 * ((a9 j).toInt64)) / ((f5_allWeights a9).toInt64)).toInt32)) (v3 + 0) (upd f8 j ((f8 j) + (((s10.toInt64 * ((a9 j).toInt64)) / ((f5_allWeights a9).toInt64)).toInt32)))
    else lf5_share_20 a9 s10 k (j + 1) (v2 - (((s10.toInt64 * ((a9 j).toInt64)) / ((f5_allWeights a9).toInt64)).toInt32)) (v3 + 1) (upd f8 j ((f8 j) + (((s10.toInt64 * ((a9 j).toInt64)) / ((f5_allWeights a9).toInt64)).toInt32)))
set_option maxHeartbeats 4000000 in
set_option maxRecDepth 100000 in
theorem lt5_share_20 (l : Launch) (D : va_G) (ty : List (ClassId × FieldType)) (a : Nat → Nat) (cI : ClassId) (ht0 : ty[0]? = some (cI, .int)) (s0 : Int32) (s1 : Int32) (a2 : Nat → Int32) (a3 : Nat → Int32) (a4 : Nat → Int32) (a5 : Nat → Int32) (a6 : Nat → Int32) (a7 : Nat → Int32) (a8 : Nat → Int32) (a9 : Nat → Int32) (s10 : Int32) (s11 : Int32) (s12 : Int32) (a13 : Nat → Int32) (a14 : Nat → Int32) (a15 : Nat → Int32) (a16 : Nat → Int32) (a17 : Nat → Int32) (a18 : Nat → Int32) (a19 : Nat → Int32) (a20 : Nat → Int32) (a21 : Nat → Int32) (s22 : Int32)  {p : Program} {e : Env} {s : State} {m : MethodId} {args : Array Value} {below : List Frame} {meth : Method} {c : Code} {A : Nat → Prop} {H0 : Heap} {Q : State → Prop} (hx : p.tables.exec = Jvm.exec) (hb : c.code = cX5_share) (hml : c.maxLocals = 6) (hts : ∀ w ∈ wsX5_share, w.before args s = true) (hown : s.vm.findClass RX5 = some m.cls) : ∀ (k j : Nat) (v2 : Int32) (v3 : Int32) (f8 : (Nat → Int32)) (hj : j + k = 5) (hall : ¬ f5_allWeights a9 = 0) (H : Heap) (locs : List Loc) (ls : Array Slot) (hw : Wd D ty A H0 s (MW a cI s0 s1 a2 a3 a4 a5 a6 a7 f8 a9 s10 s11 s12 a13 a14 a15 a16 a17 a18 a19 a20 a21 s22) H locs) (hl : lv_has ls 6 [(4, .int (nI (j))), (3, .int (v3)), (2, .int (v2)), (1, .int (f5_allWeights a9)), (0, .ref (a 0))]) (kk : ∀ (H1 : Heap) (locs1 : List Loc) (ls1 : Array Slot), Wd D ty A H0 s (MW a cI s0 s1 a2 a3 a4 a5 a6 a7 ((lf5_share_20 a9 s10 k j v2 v3 f8).2.2) a9 s10 s11 s12 a13 a14 a15 a16 a17 a18 a19 a20 a21 s22) H1 locs1 → lv_has ls1 6 [(4, .int (nI (5))), (3, .int ((lf5_share_20 a9 s10 k j v2 v3 f8).2.1)), (2, .int ((lf5_share_20 a9 s10 k j v2 v3 f8).1)), (1, .int (f5_allWeights a9)), (0, .ref (a 0))] → W p l e ({ frames := 1, cells := 0, slots := 0, locals := 23 } : Room) s m args below meth c H1 locs1 0 0 Q (F0 m 87 ls1 [])), W p l e ({ frames := 1, cells := 0, slots := 0, locals := 23 } : Room) s m args below meth c H locs 0 0 Q (F0 m 20 ls []) := by
  have i5 : ∀ w ∈ wsX50, w ∈ wsX5_share := fun _ h => List.mem_cons_of_mem _ (List.mem_append_right _ h)
  have lk72 := hts (.fieldLink RX5 72 "RentSizesModel" "pool" "I") (by decide +kernel)
  have lk31 := hts (.fieldLink RX5 31 "RentSizesModel" "weights" "[I") (by decide +kernel)
  have lk28 := hts (.fieldLink RX5 28 "RentSizesModel" "nodeCoins" "[I") (by decide +kernel)
  intro k
  induction k with
  | zero =>
    intro j v2 v3 f8 hj hall H locs ls hw hl kk
    have hj0 : j = 5 := by omega
    refine lv_iload hx hb dX5_share_20 (lv_at hl 0 rfl) ?_
    refine lv_iconst (v := 5) hx hb dX5_share_22 (by decide) ?_
    refine r_top (nI 5) rfl ?_
    refine lv_icmp_ge (tgt := 87) hx hb dX5_share_23 (by decide) (fun c_23 => ?_) (fun c_23 => ?_)
    · subst hj0
      exact kk _ _ _ hw (lv_sub hl [0, 1, 2, 3, 4] rfl)
    · exact absurd (nI_le (by omega) (by omega)) c_23
  | succ k ih =>
    intro j v2 v3 f8 hj hall H locs ls hw hl kk
    have hjb : j < 5 := by omega
    refine lv_iload hx hb dX5_share_20 (lv_at hl 0 rfl) ?_
    refine lv_iconst (v := 5) hx hb dX5_share_22 (by decide) ?_
    refine r_top (nI 5) rfl ?_
    refine lv_icmp_ge (tgt := 87) hx hb dX5_share_23 (by decide) (fun c_23 => ?_) (fun c_23 => ?_)
    · exact absurd c_23 (nI_ge (by omega) (by omega))
    · refine lv_aload_n hx hb dX5_share_26 rfl (lv_at hl 4 rfl) ?_
      refine r_get (C := RX5) (T := TX5) (v := .int (s10)) hx hb hts i5 hown hw 0 rfl rfl 10 (by decide) lk72 rfl dX5_share_27 ?_
      refine lv_i2l (v := s10.toInt64) hx hb dX5_share_30 rfl ?_
      refine lv_aload_n hx hb dX5_share_31 rfl (lv_at hl 4 rfl) ?_
      refine r_get (C := RX5) (T := TX5) (v := .ref (a 9)) hx hb hts i5 hown hw 0 rfl rfl 9 (by decide) lk31 rfl dX5_share_32 ?_
      refine lv_iload hx hb dX5_share_35 (lv_at hl 0 rfl) ?_
      refine r_ialdN (v := a9 j) hx hb hw 8 rfl ht0 j (by omega) (by decide) dX5_share_37 rfl ?_
      refine lv_i2l (v := (a9 j).toInt64) hx hb dX5_share_38 rfl ?_
      refine lv_lmul hx hb dX5_share_39 ?_
      refine lv_iload_n hx hb dX5_share_40 rfl (lv_at hl 3 rfl) ?_
      refine lv_i2l (v := (f5_allWeights a9).toInt64) hx hb dX5_share_41 rfl ?_
      refine lv_ldiv hx hb dX5_share_42 (i64ne hall) ?_
      refine lv_l2i (v := ((s10.toInt64 * ((a9 j).toInt64)) / ((f5_allWeights a9).toInt64)).toInt32) hx hb dX5_share_43 rfl ?_
      refine lv_istore (lv' := [(5, .int (((s10.toInt64 * ((a9 j).toInt64)) / ((f5_allWeights a9).toInt64)).toInt32)), (4, .int (nI (j))), (3, .int (v3)), (2, .int (v2)), (1, .int (f5_allWeights a9)), (0, .ref (a 0))]) hx hb dX5_share_44 hl (by decide) rfl (fun ls hl => ?_)
      refine lv_aload_n hx hb dX5_share_46 rfl (lv_at hl 5 rfl) ?_
      refine r_get (C := RX5) (T := TX5) (v := .ref (a 8)) hx hb hts i5 hown hw 0 rfl rfl 8 (by decide) lk28 rfl dX5_share_47 ?_
      refine lv_iload hx hb dX5_share_50 (lv_at hl 1 rfl) ?_
      refine lv_dup2_11 hx hb dX5_share_52 rfl rfl ?_
      refine r_ialdN (v := f8 j) hx hb hw 7 rfl ht0 j (by omega) (by decide) dX5_share_53 rfl ?_
      refine lv_iload hx hb dX5_share_54 (lv_at hl 0 rfl) ?_
      refine lv_iadd hx hb dX5_share_56 ?_
      refine r_iastN (ws' := MW a cI s0 s1 a2 a3 a4 a5 a6 a7 (upd f8 j ((f8 j) + (((s10.toInt64 * ((a9 j).toInt64)) / ((f5_allWeights a9).toInt64)).toInt32))) a9 s10 s11 s12 a13 a14 a15 a16 a17 a18 a19 a20 a21 s22) hx hb hw 7 rfl ht0 j (by omega) (by decide) (MW_u8 _) dX5_share_57 (fun H locs hw => ?_)
      refine lv_iload_n hx hb dX5_share_58 rfl (lv_at hl 3 rfl) ?_
      refine lv_iload hx hb dX5_share_59 (lv_at hl 0 rfl) ?_
      refine lv_isub hx hb dX5_share_61 ?_
      refine lv_istore_n (lv' := [(2, .int (v2 - (((s10.toInt64 * ((a9 j).toInt64)) / ((f5_allWeights a9).toInt64)).toInt32))), (5, .int (((s10.toInt64 * ((a9 j).toInt64)) / ((f5_allWeights a9).toInt64)).toInt32)), (4, .int (nI (j))), (3, .int (v3)), (1, .int (f5_allWeights a9)), (0, .ref (a 0))]) hx hb dX5_share_62 rfl hl (by decide) rfl (fun ls hl => ?_)
      refine lv_iload_n hx hb dX5_share_63 rfl (lv_at hl 3 rfl) ?_
      refine lv_aload_n hx hb dX5_share_64 rfl (lv_at hl 5 rfl) ?_
      refine r_get (C := RX5) (T := TX5) (v := .ref (a 9)) hx hb hts i5 hown hw 0 rfl rfl 9 (by decide) lk31 rfl dX5_share_65 ?_
      refine lv_iload hx hb dX5_share_68 (lv_at hl 2 rfl) ?_
      refine r_ialdN (v := a9 j) hx hb hw 8 rfl ht0 j (by omega) (by decide) dX5_share_70 rfl ?_
      refine lv_if_le (tgt := 78) hx hb dX5_share_71 (by decide) (fun c_71 => ?_) (fun c_71 => ?_)
      · refine lv_iconst (v := 0) hx hb dX5_share_78 (by decide) ?_
        refine lv_iadd hx hb dX5_share_79 ?_
        refine lv_istore_n (lv' := [(3, .int (v3 + 0)), (2, .int (v2 - (((s10.toInt64 * ((a9 j).toInt64)) / ((f5_allWeights a9).toInt64)).toInt32))), (5, .int (((s10.toInt64 * ((a9 j).toInt64)) / ((f5_allWeights a9).toInt64)).toInt32)), (4, .int (nI (j))), (1, .int (f5_allWeights a9)), (0, .ref (a 0))]) hx hb dX5_share_80 rfl hl (by decide) rfl (fun ls hl => ?_)
        refine lv_iinc (v := nI (j + 1)) (lv' := [(4, .int (nI (j + 1))), (3, .int (v3 + 0)), (2, .int (v2 - (((s10.toInt64 * ((a9 j).toInt64)) / ((f5_allWeights a9).toInt64)).toInt32))), (5, .int (((s10.toInt64 * ((a9 j).toInt64)) / ((f5_allWeights a9).toInt64)).toInt32)), (1, .int (f5_allWeights a9)), (0, .ref (a 0))]) hx hb dX5_share_81 hl (k := 3) rfl (by show nI (j) + 1 = _; exact nI_1 _) (by decide) rfl (fun ls hl => ?_)
        refine lv_goto (tgt := 20) hx hb dX5_share_84 (by decide) ?_
        have e9 : lf5_share_20 a9 s10 (k + 1) j v2 v3 f8 = lf5_share_20 a9 s10 k (j + 1) (v2 - (((s10.toInt64 * ((a9 j).toInt64)) / ((f5_allWeights a9).toInt64)).toInt32)) (v3 + 0) (upd f8 j ((f8 j) + (((s10.toInt64 * ((a9 j).toInt64)) / ((f5_allWeights a9).toInt64)).toInt32))) := by rw [lf5_share_20]; rw [if_pos c_71]
        rw [e9] at kk
        exact ih (j + 1) (v2 - (((s10.toInt64 * ((a9 j).toInt64)) / ((f5_allWeights a9).toInt64)).toInt32)) (v3 + 0) (upd f8 j ((f8 j) + (((s10.toInt64 * ((a9 j).toInt64)) / ((f5_allWeights a9).toInt64)).toInt32))) (by omega) hall _ _ _ hw (lv_sub hl [0, 1, 2, 4, 5] rfl) kk
      · refine lv_iconst (v := 1) hx hb dX5_share_74 (by decide) ?_
        refine lv_goto (tgt := 79) hx hb dX5_share_75 (by decide) ?_
        refine lv_iadd hx hb dX5_share_79 ?_
        refine lv_istore_n (lv' := [(3, .int (v3 + 1)), (2, .int (v2 - (((s10.toInt64 * ((a9 j).toInt64)) / ((f5_allWeights a9).toInt64)).toInt32))), (5, .int (((s10.toInt64 * ((a9 j).toInt64)) / ((f5_allWeights a9).toInt64)).toInt32)), (4, .int (nI (j))), (1, .int (f5_allWeights a9)), (0, .ref (a 0))]) hx hb dX5_share_80 rfl hl (by decide) rfl (fun ls hl => ?_)
        refine lv_iinc (v := nI (j + 1)) (lv' := [(4, .int (nI (j + 1))), (3, .int (v3 + 1)), (2, .int (v2 - (((s10.toInt64 * ((a9 j).toInt64)) / ((f5_allWeights a9).toInt64)).toInt32))), (5, .int (((s10.toInt64 * ((a9 j).toInt64)) / ((f5_allWeights a9).toInt64)).toInt32)), (1, .int (f5_allWeights a9)), (0, .ref (a 0))]) hx hb dX5_share_81 hl (k := 3) rfl (by show nI (j) + 1 = _; exact nI_1 _) (by decide) rfl (fun ls hl => ?_)
        refine lv_goto (tgt := 20) hx hb dX5_share_84 (by decide) ?_
        have e9 : lf5_share_20 a9 s10 (k + 1) j v2 v3 f8 = lf5_share_20 a9 s10 k (j + 1) (v2 - (((s10.toInt64 * ((a9 j).toInt64)) / ((f5_allWeights a9).toInt64)).toInt32)) (v3 + 1) (upd f8 j ((f8 j) + (((s10.toInt64 * ((a9 j).toInt64)) / ((f5_allWeights a9).toInt64)).toInt32))) := by rw [lf5_share_20]; rw [if_neg c_71]
        rw [e9] at kk
        exact ih (j + 1) (v2 - (((s10.toInt64 * ((a9 j).toInt64)) / ((f5_allWeights a9).toInt64)).toInt32)) (v3 + 1) (upd f8 j ((f8 j) + (((s10.toInt64 * ((a9 j).toInt64)) / ((f5_allWeights a9).toInt64)).toInt32))) (by omega) hall _ _ _ hw (lv_sub hl [0, 1, 2, 4, 5] rfl) kk
theorem sh_lf (a9 : Nat → Int32) (s10 : Int32) : ∀ (k j : Nat) (v2 v3 : Int32) (f8 : Nat → Int32), (lf5_share_20 a9 s10 k j v2 v3 f8).2.1 = v3 + nI (cpw a9 j k)
  | 0, j, v2, v3, f8 => by simp only [lf5_share_20, cpw]; exact (Int32.add_zero v3).symm
  | k + 1, j, v2, v3, f8 => by
    rw [lf5_share_20]
    simp only [cpw]
    split <;> rename_i c
    · rw [sh_lf a9 s10 k, Nat.zero_add, Int32.add_zero]
    · rw [sh_lf a9 s10 k, Int32.add_assoc, show (1 : Int32) = nI 1 from rfl, nI_add]
theorem sh_many (a9 : Nat → Int32) (s10 : Int32) {v2 : Int32} {f8 : Nat → Int32} : ∀ i, i < 5 → 0 < a9 i → ¬ (lf5_share_20 a9 s10 5 0 v2 0 f8).2.1 = 0 := by
  intro i hi h e
  rw [sh_lf, Int32.zero_add] at e
  have h1 := cpw_pos h 5 0 (by omega) (by omega)
  have h2 := cpw_le a9 5 0
  exact nI_ne0 (by omega) (by omega) e
def lf5_share_90 (a9 : Nat → Int32) (v2 : Int32) (v3 : Int32) : Nat → Nat → (Nat → Int32) → (Nat → Int32)
  | 0, _, f8 => f8
  | k + 1, j, f8 => if (a9 j) ≤ 0 then lf5_share_90 a9 v2 v3 k (j + 1) (upd f8 j ((f8 j) + 0))
    else if v2 ≤ (f5_rank a9 j) then lf5_share_90 a9 v2 v3 k (j + 1) (upd f8 j ((f8 j) + 0))
    else lf5_share_90 a9 v2 v3 k (j + 1) (upd f8 j ((f8 j) + ((((v2 - (f5_rank a9 j)) - 1) / v3) + 1)))
set_option maxHeartbeats 4000000 in
set_option maxRecDepth 100000 in
theorem lt5_share_90 (l : Launch) (D : va_G) (ty : List (ClassId × FieldType)) (a : Nat → Nat) (cI : ClassId) (ht0 : ty[0]? = some (cI, .int)) (s0 : Int32) (s1 : Int32) (a2 : Nat → Int32) (a3 : Nat → Int32) (a4 : Nat → Int32) (a5 : Nat → Int32) (a6 : Nat → Int32) (a7 : Nat → Int32) (a8 : Nat → Int32) (a9 : Nat → Int32) (s10 : Int32) (s11 : Int32) (s12 : Int32) (a13 : Nat → Int32) (a14 : Nat → Int32) (a15 : Nat → Int32) (a16 : Nat → Int32) (a17 : Nat → Int32) (a18 : Nat → Int32) (a19 : Nat → Int32) (a20 : Nat → Int32) (a21 : Nat → Int32) (s22 : Int32) (v2 : Int32) (v3 : Int32) {p : Program} {e : Env} {s : State} {m : MethodId} {args : Array Value} {below : List Frame} {meth : Method} {c : Code} {A : Nat → Prop} {H0 : Heap} {Q : State → Prop} (hx : p.tables.exec = Jvm.exec) (hb : c.code = cX5_share) (hml : c.maxLocals = 6) (hts : ∀ w ∈ wsX5_share, w.before args s = true) (hown : s.vm.findClass RX5 = some m.cls) : ∀ (k j : Nat) (f8 : (Nat → Int32)) (hj : j + k = 5) (hm : ∀ i, i < 5 → 0 < a9 i → ¬ v3 = 0) (H : Heap) (locs : List Loc) (ls : Array Slot) (hw : Wd D ty A H0 s (MW a cI s0 s1 a2 a3 a4 a5 a6 a7 f8 a9 s10 s11 s12 a13 a14 a15 a16 a17 a18 a19 a20 a21 s22) H locs) (hl : lv_has ls 6 [(4, .int (nI (j))), (3, .int (v3)), (2, .int (v2)), (1, .int (f5_allWeights a9)), (0, .ref (a 0))]) (kk : ∀ (H1 : Heap) (locs1 : List Loc) (ls1 : Array Slot), Wd D ty A H0 s (MW a cI s0 s1 a2 a3 a4 a5 a6 a7 (lf5_share_90 a9 v2 v3 k j f8) a9 s10 s11 s12 a13 a14 a15 a16 a17 a18 a19 a20 a21 s22) H1 locs1 → lv_has ls1 6 [(4, .int (nI (5))), (3, .int (v3)), (2, .int (v2)), (1, .int (f5_allWeights a9)), (0, .ref (a 0))] → W p l e ({ frames := 1, cells := 0, slots := 0, locals := 23 } : Room) s m args below meth c H1 locs1 0 0 Q (F0 m 150 ls1 [])), W p l e ({ frames := 1, cells := 0, slots := 0, locals := 23 } : Room) s m args below meth c H locs 0 0 Q (F0 m 90 ls []) := by
  have i5 : ∀ w ∈ wsX50, w ∈ wsX5_share := fun _ h => List.mem_cons_of_mem _ (List.mem_append_right _ h)
  have lk28 := hts (.fieldLink RX5 28 "RentSizesModel" "nodeCoins" "[I") (by decide +kernel)
  have lk31 := hts (.fieldLink RX5 31 "RentSizesModel" "weights" "[I") (by decide +kernel)
  intro k
  induction k with
  | zero =>
    intro j f8 hj hm H locs ls hw hl kk
    have hj0 : j = 5 := by omega
    refine lv_iload hx hb dX5_share_90 (lv_at hl 0 rfl) ?_
    refine lv_iconst (v := 5) hx hb dX5_share_92 (by decide) ?_
    refine r_top (nI 5) rfl ?_
    refine lv_icmp_ge (tgt := 150) hx hb dX5_share_93 (by decide) (fun c_93 => ?_) (fun c_93 => ?_)
    · subst hj0
      exact kk _ _ _ hw (lv_sub hl [0, 1, 2, 3, 4] rfl)
    · exact absurd (nI_le (by omega) (by omega)) c_93
  | succ k ih =>
    intro j f8 hj hm H locs ls hw hl kk
    have hjb : j < 5 := by omega
    refine lv_iload hx hb dX5_share_90 (lv_at hl 0 rfl) ?_
    refine lv_iconst (v := 5) hx hb dX5_share_92 (by decide) ?_
    refine r_top (nI 5) rfl ?_
    refine lv_icmp_ge (tgt := 150) hx hb dX5_share_93 (by decide) (fun c_93 => ?_) (fun c_93 => ?_)
    · exact absurd c_93 (nI_ge (by omega) (by omega))
    · refine lv_aload_n hx hb dX5_share_96 rfl (lv_at hl 4 rfl) ?_
      refine lv_iload hx hb dX5_share_97 (lv_at hl 0 rfl) ?_
      refine r_callVi 0 rfl rfl (rest := []) ⟨hx, hb, hml, hown, hts⟩ hw [.int (nI (j))] (k5_rank l D ty a cI ht0 s0 s1 a2 a3 a4 a5 a6 a7 f8 a9 s10 s11 s12 a13 a14 a15 a16 a17 a18 a19 a20 a21 s22 j (by first | assumption | omega)) (cwV 1 hts gX5_share_X5_rank rfl rfl rfl (by decide +kernel) ⟨Nat.le_of_ble_eq_true rfl, Nat.le_of_ble_eq_true rfl⟩) rfl hl.1 rfl (Nat.le_of_ble_eq_true rfl) dX5_share_99 ⟨Nat.le_of_ble_eq_true rfl, Nat.le_of_ble_eq_true rfl⟩ (fun r w H locs hp hw => ?_)
      obtain ⟨rfl, rfl⟩ := hp
      refine lv_istore (lv' := [(5, .int (f5_rank a9 j)), (4, .int (nI (j))), (3, .int (v3)), (2, .int (v2)), (1, .int (f5_allWeights a9)), (0, .ref (a 0))]) hx hb dX5_share_102 hl (by decide) rfl (fun ls hl => ?_)
      refine lv_aload_n hx hb dX5_share_104 rfl (lv_at hl 5 rfl) ?_
      refine r_get (C := RX5) (T := TX5) (v := .ref (a 8)) hx hb hts i5 hown hw 0 rfl rfl 8 (by decide) lk28 rfl dX5_share_105 ?_
      refine lv_iload hx hb dX5_share_108 (lv_at hl 1 rfl) ?_
      refine lv_dup2_11 hx hb dX5_share_110 rfl rfl ?_
      refine r_ialdN (v := f8 j) hx hb hw 7 rfl ht0 j (by omega) (by decide) dX5_share_111 rfl ?_
      refine lv_aload_n hx hb dX5_share_112 rfl (lv_at hl 5 rfl) ?_
      refine r_get (C := RX5) (T := TX5) (v := .ref (a 9)) hx hb hts i5 hown hw 0 rfl rfl 9 (by decide) lk31 rfl dX5_share_113 ?_
      refine lv_iload hx hb dX5_share_116 (lv_at hl 1 rfl) ?_
      refine r_ialdN (v := a9 j) hx hb hw 8 rfl ht0 j (by omega) (by decide) dX5_share_118 rfl ?_
      refine lv_if_le (tgt := 141) hx hb dX5_share_119 (by decide) (fun c_119 => ?_) (fun c_119 => ?_)
      · refine lv_iconst (v := 0) hx hb dX5_share_141 (by decide) ?_
        refine lv_iadd hx hb dX5_share_142 ?_
        refine r_iastN (ws' := MW a cI s0 s1 a2 a3 a4 a5 a6 a7 (upd f8 j ((f8 j) + 0)) a9 s10 s11 s12 a13 a14 a15 a16 a17 a18 a19 a20 a21 s22) hx hb hw 7 rfl ht0 j (by omega) (by decide) (MW_u8 _) dX5_share_143 (fun H locs hw => ?_)
        refine lv_iinc (v := nI (j + 1)) (lv' := [(4, .int (nI (j + 1))), (5, .int (f5_rank a9 j)), (3, .int (v3)), (2, .int (v2)), (1, .int (f5_allWeights a9)), (0, .ref (a 0))]) hx hb dX5_share_144 hl (k := 1) rfl (by show nI (j) + 1 = _; exact nI_1 _) (by decide) rfl (fun ls hl => ?_)
        refine lv_goto (tgt := 90) hx hb dX5_share_147 (by decide) ?_
        have e9 : lf5_share_90 a9 v2 v3 (k + 1) j f8 = lf5_share_90 a9 v2 v3 k (j + 1) (upd f8 j ((f8 j) + 0)) := by rw [lf5_share_90]; rw [if_pos c_119]
        rw [e9] at kk
        exact ih (j + 1) (upd f8 j ((f8 j) + 0)) (by omega) hm _ _ _ hw (lv_sub hl [0, 2, 3, 4, 5] rfl) kk
      · refine lv_iload_n hx hb dX5_share_122 rfl (lv_at hl 3 rfl) ?_
        refine lv_iload hx hb dX5_share_123 (lv_at hl 0 rfl) ?_
        refine lv_icmp_le (tgt := 141) hx hb dX5_share_125 (by decide) (fun c_125 => ?_) (fun c_125 => ?_)
        · refine lv_iconst (v := 0) hx hb dX5_share_141 (by decide) ?_
          refine lv_iadd hx hb dX5_share_142 ?_
          refine r_iastN (ws' := MW a cI s0 s1 a2 a3 a4 a5 a6 a7 (upd f8 j ((f8 j) + 0)) a9 s10 s11 s12 a13 a14 a15 a16 a17 a18 a19 a20 a21 s22) hx hb hw 7 rfl ht0 j (by omega) (by decide) (MW_u8 _) dX5_share_143 (fun H locs hw => ?_)
          refine lv_iinc (v := nI (j + 1)) (lv' := [(4, .int (nI (j + 1))), (5, .int (f5_rank a9 j)), (3, .int (v3)), (2, .int (v2)), (1, .int (f5_allWeights a9)), (0, .ref (a 0))]) hx hb dX5_share_144 hl (k := 1) rfl (by show nI (j) + 1 = _; exact nI_1 _) (by decide) rfl (fun ls hl => ?_)
          refine lv_goto (tgt := 90) hx hb dX5_share_147 (by decide) ?_
          have e9 : lf5_share_90 a9 v2 v3 (k + 1) j f8 = lf5_share_90 a9 v2 v3 k (j + 1) (upd f8 j ((f8 j) + 0)) := by rw [lf5_share_90]; rw [if_neg c_119, if_pos c_125]
          rw [e9] at kk
          exact ih (j + 1) (upd f8 j ((f8 j) + 0)) (by omega) hm _ _ _ hw (lv_sub hl [0, 2, 3, 4, 5] rfl) kk
        · refine lv_iload_n hx hb dX5_share_128 rfl (lv_at hl 3 rfl) ?_
          refine lv_iload hx hb dX5_share_129 (lv_at hl 0 rfl) ?_
          refine lv_isub hx hb dX5_share_131 ?_
          refine lv_iconst (v := 1) hx hb dX5_share_132 (by decide) ?_
          refine lv_isub hx hb dX5_share_133 ?_
          refine lv_iload_n hx hb dX5_share_134 rfl (lv_at hl 2 rfl) ?_
          refine lv_idiv hx hb dX5_share_135 (hm j (by omega) (Int32.not_le.mp c_119)) ?_
          refine lv_iconst (v := 1) hx hb dX5_share_136 (by decide) ?_
          refine lv_iadd hx hb dX5_share_137 ?_
          refine lv_goto (tgt := 142) hx hb dX5_share_138 (by decide) ?_
          refine lv_iadd hx hb dX5_share_142 ?_
          refine r_iastN (ws' := MW a cI s0 s1 a2 a3 a4 a5 a6 a7 (upd f8 j ((f8 j) + ((((v2 - (f5_rank a9 j)) - 1) / v3) + 1))) a9 s10 s11 s12 a13 a14 a15 a16 a17 a18 a19 a20 a21 s22) hx hb hw 7 rfl ht0 j (by omega) (by decide) (MW_u8 _) dX5_share_143 (fun H locs hw => ?_)
          refine lv_iinc (v := nI (j + 1)) (lv' := [(4, .int (nI (j + 1))), (5, .int (f5_rank a9 j)), (3, .int (v3)), (2, .int (v2)), (1, .int (f5_allWeights a9)), (0, .ref (a 0))]) hx hb dX5_share_144 hl (k := 1) rfl (by show nI (j) + 1 = _; exact nI_1 _) (by decide) rfl (fun ls hl => ?_)
          refine lv_goto (tgt := 90) hx hb dX5_share_147 (by decide) ?_
          have e9 : lf5_share_90 a9 v2 v3 (k + 1) j f8 = lf5_share_90 a9 v2 v3 k (j + 1) (upd f8 j ((f8 j) + ((((v2 - (f5_rank a9 j)) - 1) / v3) + 1))) := by rw [lf5_share_90]; rw [if_neg c_119, if_neg c_125]
          rw [e9] at kk
          exact ih (j + 1) (upd f8 j ((f8 j) + ((((v2 - (f5_rank a9 j)) - 1) / v3) + 1))) (by omega) hm _ _ _ hw (lv_sub hl [0, 2, 3, 4, 5] rfl) kk
def f5_share (a8 : Nat → Int32) (a9 : Nat → Int32) (s10 : Int32) (s11 : Int32) : (Nat → Int32) × Int32 × Int32 :=
  if (f5_allWeights a9) = 0 then (a8, s10, s11)
  else ((lf5_share_90 a9 ((lf5_share_20 a9 s10 5 0 s10 0 a8).1) ((lf5_share_20 a9 s10 5 0 s10 0 a8).2.1) 5 0 ((lf5_share_20 a9 s10 5 0 s10 0 a8).2.2)), 0, s11 + s10)
set_option maxHeartbeats 4000000 in
set_option maxRecDepth 100000 in
theorem k5_share (l : Launch) (D : va_G) (ty : List (ClassId × FieldType)) (a : Nat → Nat) (cI : ClassId) (ht0 : ty[0]? = some (cI, .int)) (s0 : Int32) (s1 : Int32) (a2 : Nat → Int32) (a3 : Nat → Int32) (a4 : Nat → Int32) (a5 : Nat → Int32) (a6 : Nat → Int32) (a7 : Nat → Int32) (a8 : Nat → Int32) (a9 : Nat → Int32) (s10 : Int32) (s11 : Int32) (s12 : Int32) (a13 : Nat → Int32) (a14 : Nat → Int32) (a15 : Nat → Int32) (a16 : Nat → Int32) (a17 : Nat → Int32) (a18 : Nat → Int32) (a19 : Nat → Int32) (a20 : Nat → Int32) (a21 : Nat → Int32) (s22 : Int32) : MetG l yX5_share wsX5_share { frames := 1, cells := 0, slots := 0, locals := 23 } D ty [.ref (a 0)] (MW a cI s0 s1 a2 a3 a4 a5 a6 a7 a8 a9 s10 s11 s12 a13 a14 a15 a16 a17 a18 a19 a20 a21 s22) (va_Qv (fun w => w = MW a cI s0 s1 a2 a3 a4 a5 a6 a7 (f5_share a8 a9 s10 s11).1 a9 (f5_share a8 a9 s10 s11).2.1 (f5_share a8 a9 s10 s11).2.2 s12 a13 a14 a15 a16 a17 a18 a19 a20 a21 s22)) 0 0 := by
  refine Met_start cX5_share 6 none (by decide) rfl (Nat.le_of_ble_eq_true rfl) ?_
  intro p e s m below meth c A ls hx hb hr hlocks hml hnm hts hown hw hl
  have hl : lv_has ls 6 [(0, .ref (a 0))] := hl
  have i5 : ∀ w ∈ wsX50, w ∈ wsX5_share := fun _ h => List.mem_cons_of_mem _ (List.mem_append_right _ h)
  have lk72 := hts (.fieldLink RX5 72 "RentSizesModel" "pool" "I") (by decide +kernel)
  have lk75 := hts (.fieldLink RX5 75 "RentSizesModel" "paidOut" "I") (by decide +kernel)
  refine lv_aload_n hx hb dX5_share_0 rfl (lv_at hl 0 rfl) ?_
  refine r_callVi 0 rfl rfl (rest := []) ⟨hx, hb, hml, hown, hts⟩ hw [] (k5_allWeights l D ty a cI ht0 s0 s1 a2 a3 a4 a5 a6 a7 a8 a9 s10 s11 s12 a13 a14 a15 a16 a17 a18 a19 a20 a21 s22) (cwV 0 hts gX5_share_X5_allWeights rfl rfl rfl (by decide +kernel) ⟨Nat.le_of_ble_eq_true rfl, Nat.le_of_ble_eq_true rfl⟩) rfl hl.1 rfl (Nat.le_of_ble_eq_true rfl) dX5_share_1 ⟨Nat.le_of_ble_eq_true rfl, Nat.le_of_ble_eq_true rfl⟩ (fun r w H locs hp hw => ?_)
  obtain ⟨rfl, rfl⟩ := hp
  refine lv_istore_n (lv' := [(1, .int (f5_allWeights a9)), (0, .ref (a 0))]) hx hb dX5_share_4 rfl hl (by decide) rfl (fun ls hl => ?_)
  refine lv_iload_n hx hb dX5_share_5 rfl (lv_at hl 0 rfl) ?_
  refine lv_if_ne (tgt := 10) hx hb dX5_share_6 (by decide) (fun c_6 => ?_) (fun c_6 => ?_)
  · refine lv_aload_n hx hb dX5_share_10 rfl (lv_at hl 1 rfl) ?_
    refine r_get (C := RX5) (T := TX5) (v := .int (s10)) hx hb hts i5 hown hw 0 rfl rfl 10 (by decide) lk72 rfl dX5_share_11 ?_
    refine lv_istore_n (lv' := [(2, .int (s10)), (1, .int (f5_allWeights a9)), (0, .ref (a 0))]) hx hb dX5_share_14 rfl hl (by decide) rfl (fun ls hl => ?_)
    refine lv_iconst (v := 0) hx hb dX5_share_15 (by decide) ?_
    refine lv_istore_n (lv' := [(3, .int (0)), (2, .int (s10)), (1, .int (f5_allWeights a9)), (0, .ref (a 0))]) hx hb dX5_share_16 rfl hl (by decide) rfl (fun ls hl => ?_)
    refine lv_iconst (v := 0) hx hb dX5_share_17 (by decide) ?_
    refine lv_istore (lv' := [(4, .int (0)), (3, .int (0)), (2, .int (s10)), (1, .int (f5_allWeights a9)), (0, .ref (a 0))]) hx hb dX5_share_18 hl (by decide) rfl (fun ls hl => ?_)
    refine lt5_share_20 l D ty a cI ht0 s0 s1 a2 a3 a4 a5 a6 a7 a8 a9 s10 s11 s12 a13 a14 a15 a16 a17 a18 a19 a20 a21 s22  hx hb hml hts hown 5 0 s10 0 a8 (by omega) c_6 _ _ _ hw hl (fun H locs ls hw hl => ?_)
    refine lv_iconst (v := 0) hx hb dX5_share_87 (by decide) ?_
    refine lv_istore (lv' := [(4, .int (0)), (3, .int ((lf5_share_20 a9 s10 5 0 s10 0 a8).2.1)), (2, .int ((lf5_share_20 a9 s10 5 0 s10 0 a8).1)), (1, .int (f5_allWeights a9)), (0, .ref (a 0))]) hx hb dX5_share_88 hl (by decide) rfl (fun ls hl => ?_)
    refine lt5_share_90 l D ty a cI ht0 s0 s1 a2 a3 a4 a5 a6 a7 a8 a9 s10 s11 s12 a13 a14 a15 a16 a17 a18 a19 a20 a21 s22 ((lf5_share_20 a9 s10 5 0 s10 0 a8).1) ((lf5_share_20 a9 s10 5 0 s10 0 a8).2.1) hx hb hml hts hown 5 0 ((lf5_share_20 a9 s10 5 0 s10 0 a8).2.2) (by omega) (sh_many a9 s10) _ _ _ hw hl (fun H locs ls hw hl => ?_)
    refine lv_aload_n hx hb dX5_share_150 rfl (lv_at hl 4 rfl) ?_
    refine lv_dup hx hb dX5_share_151 rfl ?_
    refine r_get (C := RX5) (T := TX5) (v := .int (s11)) hx hb hts i5 hown hw 0 rfl rfl 11 (by decide) lk75 rfl dX5_share_152 ?_
    refine lv_aload_n hx hb dX5_share_155 rfl (lv_at hl 4 rfl) ?_
    refine r_get (C := RX5) (T := TX5) (v := .int (s10)) hx hb hts i5 hown hw 0 rfl rfl 10 (by decide) lk72 rfl dX5_share_156 ?_
    refine lv_iadd hx hb dX5_share_159 ?_
    refine r_put (C := RX5) (T := TX5) (ws' := MW a cI s0 s1 a2 a3 a4 a5 a6 a7 (lf5_share_90 a9 ((lf5_share_20 a9 s10 5 0 s10 0 a8).1) ((lf5_share_20 a9 s10 5 0 s10 0 a8).2.1) 5 0 ((lf5_share_20 a9 s10 5 0 s10 0 a8).2.2)) a9 s10 (s11 + s10) s12 a13 a14 a15 a16 a17 a18 a19 a20 a21 s22) hx hb hts i5 tyX5 tyX5_ok nmX5 hown hw 0 rfl rfl 11 (by decide) lk75 rfl (by decide +kernel) (Nat.le_of_ble_eq_true rfl) (MW_s11 _) dX5_share_160 (fun H locs hw => ?_)
    refine lv_aload_n hx hb dX5_share_163 rfl (lv_at hl 4 rfl) ?_
    refine lv_iconst (v := 0) hx hb dX5_share_164 (by decide) ?_
    refine r_put (C := RX5) (T := TX5) (ws' := MW a cI s0 s1 a2 a3 a4 a5 a6 a7 (lf5_share_90 a9 ((lf5_share_20 a9 s10 5 0 s10 0 a8).1) ((lf5_share_20 a9 s10 5 0 s10 0 a8).2.1) 5 0 ((lf5_share_20 a9 s10 5 0 s10 0 a8).2.2)) a9 0 (s11 + s10) s12 a13 a14 a15 a16 a17 a18 a19 a20 a21 s22) hx hb hts i5 tyX5 tyX5_ok nmX5 hown hw 0 rfl rfl 10 (by decide) lk72 rfl (by decide +kernel) (Nat.le_of_ble_eq_true rfl) (MW_s10 _) dX5_share_165 (fun H locs hw => ?_)
    have e9 : f5_share a8 a9 s10 s11 = ((lf5_share_90 a9 ((lf5_share_20 a9 s10 5 0 s10 0 a8).1) ((lf5_share_20 a9 s10 5 0 s10 0 a8).2.1) 5 0 ((lf5_share_20 a9 s10 5 0 s10 0 a8).2.2)), 0, s11 + s10) := by unfold f5_share; rw [if_neg c_6]
    exact r_vret hx hb hr hlocks hw (by rw [e9] <;> rfl) dX5_share_168
  · have e9 : f5_share a8 a9 s10 s11 = (a8, s10, s11) := by unfold f5_share; rw [if_pos c_6]
    exact r_vret hx hb hr hlocks hw (by rw [e9] <;> rfl) dX5_share_9
def lf5_tick_48 (a16 : Nat → Int32) (p1 : Int32) (t : Nat) (v3 : Int32) (f0 : Int32) (f8 : Nat → Int32) (f10 : Int32) (f11 : Int32) : Nat → Nat → Int32 → (Nat → Int32) → Int32 × (Nat → Int32)
  | 0, _, v2, f17 => (v2, f17)
  | k + 1, j, v2, f17 => if (f17 j) = 0 then (if f0 ≤ (a16 j) then lf5_tick_48 a16 p1 t v3 f0 f8 f10 f11 k (j + 1) v2 f17
      else lf5_tick_48 a16 p1 t v3 f0 f8 f10 f11 k (j + 1) (v2 + 1) (upd f17 j 1))
    else lf5_tick_48 a16 p1 t v3 f0 f8 f10 f11 k (j + 1) v2 f17
set_option maxHeartbeats 4000000 in
set_option maxRecDepth 100000 in
theorem lt5_tick_48 (l : Launch) (D : va_G) (ty : List (ClassId × FieldType)) (a : Nat → Nat) (cI : ClassId) (ht0 : ty[0]? = some (cI, .int)) (s0 : Int32) (s1 : Int32) (a2 : Nat → Int32) (a3 : Nat → Int32) (a4 : Nat → Int32) (a5 : Nat → Int32) (a6 : Nat → Int32) (a7 : Nat → Int32) (a8 : Nat → Int32) (a9 : Nat → Int32) (s10 : Int32) (s11 : Int32) (s12 : Int32) (a13 : Nat → Int32) (a14 : Nat → Int32) (a15 : Nat → Int32) (a16 : Nat → Int32) (a17 : Nat → Int32) (a18 : Nat → Int32) (a19 : Nat → Int32) (a20 : Nat → Int32) (a21 : Nat → Int32) (s22 : Int32) (p1 : Int32) (hob : s12 = nI (tn s12)) (hob2 : tn s12 ≤ 60) (t : Nat) (v3 : Int32) (f0 : Int32) (f8 : Nat → Int32) (f10 : Int32) (f11 : Int32) {p : Program} {e : Env} {s : State} {m : MethodId} {args : Array Value} {below : List Frame} {meth : Method} {c : Code} {A : Nat → Prop} {H0 : Heap} {Q : State → Prop} (hx : p.tables.exec = Jvm.exec) (hb : c.code = cX5_tick) (hml : c.maxLocals = 5) (hts : ∀ w ∈ wsX5_tick, w.before args s = true) (hown : s.vm.findClass RX5 = some m.cls) : ∀ (k j : Nat) (v2 : Int32) (f17 : (Nat → Int32)) (hj : j + k = tn s12) (H : Heap) (locs : List Loc) (ls : Array Slot) (hw : Wd D ty A H0 s (MW a cI f0 s1 a2 a3 a4 a5 a6 a7 f8 a9 f10 f11 s12 a13 a14 a15 a16 f17 a18 a19 a20 a21 s22) H locs) (hl : lv_has ls 5 [(4, .int (nI (j))), (3, .int (v3)), (2, .int (v2)), (0, .ref (a 0)), (1, .int (nI (t)))]) (kk : ∀ (H1 : Heap) (locs1 : List Loc) (ls1 : Array Slot), Wd D ty A H0 s (MW a cI f0 s1 a2 a3 a4 a5 a6 a7 f8 a9 f10 f11 s12 a13 a14 a15 a16 ((lf5_tick_48 a16 p1 t v3 f0 f8 f10 f11 k j v2 f17).2) a18 a19 a20 a21 s22) H1 locs1 → lv_has ls1 5 [(4, .int (nI (tn s12))), (3, .int (v3)), (2, .int ((lf5_tick_48 a16 p1 t v3 f0 f8 f10 f11 k j v2 f17).1)), (0, .ref (a 0)), (1, .int (nI (t)))] → W p l e ({ frames := 2, cells := 0, slots := 0, locals := 48 } : Room) s m args below meth c H1 locs1 0 0 Q (F0 m 98 ls1 [])), W p l e ({ frames := 2, cells := 0, slots := 0, locals := 48 } : Room) s m args below meth c H locs 0 0 Q (F0 m 48 ls []) := by
  have i5 : ∀ w ∈ wsX50, w ∈ wsX5_tick := fun _ h => List.mem_cons_of_mem _ (List.mem_append_right _ h)
  have lk78 := hts (.fieldLink RX5 78 "RentSizesModel" "objects" "I") (by decide +kernel)
  have lk46 := hts (.fieldLink RX5 46 "RentSizesModel" "state" "[I") (by decide +kernel)
  have lk43 := hts (.fieldLink RX5 43 "RentSizesModel" "paid" "[I") (by decide +kernel)
  have lk64 := hts (.fieldLink RX5 64 "RentSizesModel" "height" "I") (by decide +kernel)
  intro k
  induction k with
  | zero =>
    intro j v2 f17 hj H locs ls hw hl kk
    have hj0 : j = tn s12 := by omega
    refine lv_iload hx hb dX5_tick_48 (lv_at hl 0 rfl) ?_
    refine lv_aload_n hx hb dX5_tick_50 rfl (lv_at hl 3 rfl) ?_
    refine r_get (C := RX5) (T := TX5) (v := .int (s12)) hx hb hts i5 hown hw 0 rfl rfl 12 (by decide) lk78 rfl dX5_tick_51 ?_
    refine r_top (nI (tn s12)) hob ?_
    refine lv_icmp_ge (tgt := 98) hx hb dX5_tick_54 (by decide) (fun c_54 => ?_) (fun c_54 => ?_)
    · rw [hj0] at hl
      exact kk _ _ _ hw (lv_sub hl [0, 1, 2, 3, 4] rfl)
    · exact absurd (nI_le (by omega) (by omega)) c_54
  | succ k ih =>
    intro j v2 f17 hj H locs ls hw hl kk
    have hjb : j < tn s12 := by omega
    refine lv_iload hx hb dX5_tick_48 (lv_at hl 0 rfl) ?_
    refine lv_aload_n hx hb dX5_tick_50 rfl (lv_at hl 3 rfl) ?_
    refine r_get (C := RX5) (T := TX5) (v := .int (s12)) hx hb hts i5 hown hw 0 rfl rfl 12 (by decide) lk78 rfl dX5_tick_51 ?_
    refine r_top (nI (tn s12)) hob ?_
    refine lv_icmp_ge (tgt := 98) hx hb dX5_tick_54 (by decide) (fun c_54 => ?_) (fun c_54 => ?_)
    · exact absurd c_54 (nI_ge (by omega) (by omega))
    · refine lv_aload_n hx hb dX5_tick_57 rfl (lv_at hl 3 rfl) ?_
      refine r_get (C := RX5) (T := TX5) (v := .ref (a 17)) hx hb hts i5 hown hw 0 rfl rfl 17 (by decide) lk46 rfl dX5_tick_58 ?_
      refine lv_iload hx hb dX5_tick_61 (lv_at hl 0 rfl) ?_
      refine r_ialdN (v := f17 j) hx hb hw 13 rfl ht0 j (by omega) (by decide) dX5_tick_63 rfl ?_
      refine lv_if_ne (tgt := 92) hx hb dX5_tick_64 (by decide) (fun c_64 => ?_) (fun c_64 => ?_)
      · refine lv_iinc (v := nI (j + 1)) (lv' := [(4, .int (nI (j + 1))), (3, .int (v3)), (2, .int (v2)), (0, .ref (a 0)), (1, .int (nI (t)))]) hx hb dX5_tick_92 hl (k := 0) rfl (by show nI (j) + 1 = _; exact nI_1 _) (by decide) rfl (fun ls hl => ?_)
        refine lv_goto (tgt := 48) hx hb dX5_tick_95 (by decide) ?_
        have e9 : lf5_tick_48 a16 p1 t v3 f0 f8 f10 f11 (k + 1) j v2 f17 = lf5_tick_48 a16 p1 t v3 f0 f8 f10 f11 k (j + 1) v2 f17 := by rw [lf5_tick_48]; rw [if_neg c_64]
        rw [e9] at kk
        exact ih (j + 1) v2 f17 (by omega)  _ _ _ hw (lv_sub hl [0, 1, 2, 3, 4] rfl) kk
      · refine lv_aload_n hx hb dX5_tick_67 rfl (lv_at hl 3 rfl) ?_
        refine r_get (C := RX5) (T := TX5) (v := .ref (a 16)) hx hb hts i5 hown hw 0 rfl rfl 16 (by decide) lk43 rfl dX5_tick_68 ?_
        refine lv_iload hx hb dX5_tick_71 (lv_at hl 0 rfl) ?_
        refine r_ialdN (v := a16 j) hx hb hw 12 rfl ht0 j (by omega) (by decide) dX5_tick_73 rfl ?_
        refine lv_aload_n hx hb dX5_tick_74 rfl (lv_at hl 3 rfl) ?_
        refine r_get (C := RX5) (T := TX5) (v := .int (f0)) hx hb hts i5 hown hw 0 rfl rfl 0 (by decide) lk64 rfl dX5_tick_75 ?_
        refine lv_icmp_ge (tgt := 92) hx hb dX5_tick_78 (by decide) (fun c_78 => ?_) (fun c_78 => ?_)
        · refine lv_iinc (v := nI (j + 1)) (lv' := [(4, .int (nI (j + 1))), (3, .int (v3)), (2, .int (v2)), (0, .ref (a 0)), (1, .int (nI (t)))]) hx hb dX5_tick_92 hl (k := 0) rfl (by show nI (j) + 1 = _; exact nI_1 _) (by decide) rfl (fun ls hl => ?_)
          refine lv_goto (tgt := 48) hx hb dX5_tick_95 (by decide) ?_
          have e9 : lf5_tick_48 a16 p1 t v3 f0 f8 f10 f11 (k + 1) j v2 f17 = lf5_tick_48 a16 p1 t v3 f0 f8 f10 f11 k (j + 1) v2 f17 := by rw [lf5_tick_48]; rw [if_pos c_64, if_pos c_78]
          rw [e9] at kk
          exact ih (j + 1) v2 f17 (by omega)  _ _ _ hw (lv_sub hl [0, 1, 2, 3, 4] rfl) kk
        · refine lv_aload_n hx hb dX5_tick_81 rfl (lv_at hl 3 rfl) ?_
          refine r_get (C := RX5) (T := TX5) (v := .ref (a 17)) hx hb hts i5 hown hw 0 rfl rfl 17 (by decide) lk46 rfl dX5_tick_82 ?_
          refine lv_iload hx hb dX5_tick_85 (lv_at hl 0 rfl) ?_
          refine lv_iconst (v := 1) hx hb dX5_tick_87 (by decide) ?_
          refine r_iastN (ws' := MW a cI f0 s1 a2 a3 a4 a5 a6 a7 f8 a9 f10 f11 s12 a13 a14 a15 a16 (upd f17 j 1) a18 a19 a20 a21 s22) hx hb hw 13 rfl ht0 j (by omega) (by decide) (MW_u17 _) dX5_tick_88 (fun H locs hw => ?_)
          refine lv_iinc (v := v2 + 1) (lv' := [(2, .int (v2 + 1)), (4, .int (nI (j))), (3, .int (v3)), (0, .ref (a 0)), (1, .int (nI (t)))]) hx hb dX5_tick_89 hl (k := 2) rfl rfl (by decide) rfl (fun ls hl => ?_)
          refine lv_iinc (v := nI (j + 1)) (lv' := [(4, .int (nI (j + 1))), (2, .int (v2 + 1)), (3, .int (v3)), (0, .ref (a 0)), (1, .int (nI (t)))]) hx hb dX5_tick_92 hl (k := 1) rfl (by show nI (j) + 1 = _; exact nI_1 _) (by decide) rfl (fun ls hl => ?_)
          refine lv_goto (tgt := 48) hx hb dX5_tick_95 (by decide) ?_
          have e9 : lf5_tick_48 a16 p1 t v3 f0 f8 f10 f11 (k + 1) j v2 f17 = lf5_tick_48 a16 p1 t v3 f0 f8 f10 f11 k (j + 1) (v2 + 1) (upd f17 j 1) := by rw [lf5_tick_48]; rw [if_pos c_64, if_neg c_78]
          rw [e9] at kk
          exact ih (j + 1) (v2 + 1) (upd f17 j 1) (by omega)  _ _ _ hw (lv_sub hl [0, 2, 1, 3, 4] rfl) kk
def lf5_tick_30 (a9 : Nat → Int32) (s12 : Int32) (a16 : Nat → Int32) (p1 : Int32) (t : Nat) : Nat → Nat → Int32 → Int32 → (Nat → Int32) → Int32 → Int32 → (Nat → Int32) → Int32 × Int32 × (Nat → Int32) × Int32 × Int32 × (Nat → Int32)
  | 0, _, v2, f0, f8, f10, f11, f17 => (v2, f0, f8, f10, f11, f17)
  | k + 1, j, v2, f0, f8, f10, f11, f17 => lf5_tick_30 a9 s12 a16 p1 t k (j + 1) ((lf5_tick_48 a16 p1 t (nI (j)) (f0 + 1) f8 f10 f11 (tn s12) 0 v2 f17).1) (f0 + 1) ((f5_share f8 a9 f10 f11).1) ((f5_share f8 a9 f10 f11).2.1) ((f5_share f8 a9 f10 f11).2.2) ((lf5_tick_48 a16 p1 t (nI (j)) (f0 + 1) f8 f10 f11 (tn s12) 0 v2 f17).2)
set_option maxHeartbeats 4000000 in
set_option maxRecDepth 100000 in
theorem lt5_tick_30 (l : Launch) (D : va_G) (ty : List (ClassId × FieldType)) (a : Nat → Nat) (cI : ClassId) (ht0 : ty[0]? = some (cI, .int)) (s0 : Int32) (s1 : Int32) (a2 : Nat → Int32) (a3 : Nat → Int32) (a4 : Nat → Int32) (a5 : Nat → Int32) (a6 : Nat → Int32) (a7 : Nat → Int32) (a8 : Nat → Int32) (a9 : Nat → Int32) (s10 : Int32) (s11 : Int32) (s12 : Int32) (a13 : Nat → Int32) (a14 : Nat → Int32) (a15 : Nat → Int32) (a16 : Nat → Int32) (a17 : Nat → Int32) (a18 : Nat → Int32) (a19 : Nat → Int32) (a20 : Nat → Int32) (a21 : Nat → Int32) (s22 : Int32) (p1 : Int32) (hob : s12 = nI (tn s12)) (hob2 : tn s12 ≤ 60) (t : Nat) {p : Program} {e : Env} {s : State} {m : MethodId} {args : Array Value} {below : List Frame} {meth : Method} {c : Code} {A : Nat → Prop} {H0 : Heap} {Q : State → Prop} (hx : p.tables.exec = Jvm.exec) (hb : c.code = cX5_tick) (hml : c.maxLocals = 5) (hts : ∀ w ∈ wsX5_tick, w.before args s = true) (hown : s.vm.findClass RX5 = some m.cls) : ∀ (k j : Nat) (v2 : Int32) (f0 : Int32) (f8 : (Nat → Int32)) (f10 : Int32) (f11 : Int32) (f17 : (Nat → Int32)) (hj : j + k = t) (htt : 1 ≤ t ∧ t ≤ 100) (H : Heap) (locs : List Loc) (ls : Array Slot) (hw : Wd D ty A H0 s (MW a cI f0 s1 a2 a3 a4 a5 a6 a7 f8 a9 f10 f11 s12 a13 a14 a15 a16 f17 a18 a19 a20 a21 s22) H locs) (hl : lv_has ls 5 [(3, .int (nI (j))), (2, .int (v2)), (0, .ref (a 0)), (1, .int (nI (t)))]) (kk : ∀ (H1 : Heap) (locs1 : List Loc) (ls1 : Array Slot), Wd D ty A H0 s (MW a cI ((lf5_tick_30 a9 s12 a16 p1 t k j v2 f0 f8 f10 f11 f17).2.1) s1 a2 a3 a4 a5 a6 a7 ((lf5_tick_30 a9 s12 a16 p1 t k j v2 f0 f8 f10 f11 f17).2.2.1) a9 ((lf5_tick_30 a9 s12 a16 p1 t k j v2 f0 f8 f10 f11 f17).2.2.2.1) ((lf5_tick_30 a9 s12 a16 p1 t k j v2 f0 f8 f10 f11 f17).2.2.2.2.1) s12 a13 a14 a15 a16 ((lf5_tick_30 a9 s12 a16 p1 t k j v2 f0 f8 f10 f11 f17).2.2.2.2.2) a18 a19 a20 a21 s22) H1 locs1 → lv_has ls1 5 [(3, .int (nI (t))), (2, .int ((lf5_tick_30 a9 s12 a16 p1 t k j v2 f0 f8 f10 f11 f17).1)), (0, .ref (a 0)), (1, .int (nI (t)))] → W p l e ({ frames := 2, cells := 0, slots := 0, locals := 48 } : Room) s m args below meth c H1 locs1 0 0 Q (F0 m 108 ls1 [])), W p l e ({ frames := 2, cells := 0, slots := 0, locals := 48 } : Room) s m args below meth c H locs 0 0 Q (F0 m 30 ls []) := by
  have i5 : ∀ w ∈ wsX50, w ∈ wsX5_tick := fun _ h => List.mem_cons_of_mem _ (List.mem_append_right _ h)
  have lk64 := hts (.fieldLink RX5 64 "RentSizesModel" "height" "I") (by decide +kernel)
  intro k
  induction k with
  | zero =>
    intro j v2 f0 f8 f10 f11 f17 hj htt H locs ls hw hl kk
    have hj0 : j = t := by omega
    refine lv_iload_n hx hb dX5_tick_30 rfl (lv_at hl 0 rfl) ?_
    refine lv_iload_n hx hb dX5_tick_31 rfl (lv_at hl 3 rfl) ?_
    refine lv_icmp_ge (tgt := 108) hx hb dX5_tick_32 (by decide) (fun c_32 => ?_) (fun c_32 => ?_)
    · subst hj0
      exact kk _ _ _ hw (lv_sub hl [0, 1, 2, 3] rfl)
    · exact absurd (nI_le (by omega) (by omega)) c_32
  | succ k ih =>
    intro j v2 f0 f8 f10 f11 f17 hj htt H locs ls hw hl kk
    have hjb : j < t := by omega
    refine lv_iload_n hx hb dX5_tick_30 rfl (lv_at hl 0 rfl) ?_
    refine lv_iload_n hx hb dX5_tick_31 rfl (lv_at hl 3 rfl) ?_
    refine lv_icmp_ge (tgt := 108) hx hb dX5_tick_32 (by decide) (fun c_32 => ?_) (fun c_32 => ?_)
    · exact absurd c_32 (nI_ge (by omega) (by omega))
    · refine lv_aload_n hx hb dX5_tick_35 rfl (lv_at hl 2 rfl) ?_
      refine lv_dup hx hb dX5_tick_36 rfl ?_
      refine r_get (C := RX5) (T := TX5) (v := .int (f0)) hx hb hts i5 hown hw 0 rfl rfl 0 (by decide) lk64 rfl dX5_tick_37 ?_
      refine lv_iconst (v := 1) hx hb dX5_tick_40 (by decide) ?_
      refine lv_iadd hx hb dX5_tick_41 ?_
      refine r_put (C := RX5) (T := TX5) (ws' := MW a cI (f0 + 1) s1 a2 a3 a4 a5 a6 a7 f8 a9 f10 f11 s12 a13 a14 a15 a16 f17 a18 a19 a20 a21 s22) hx hb hts i5 tyX5 tyX5_ok nmX5 hown hw 0 rfl rfl 0 (by decide) lk64 rfl (by decide +kernel) (Nat.le_of_ble_eq_true rfl) (MW_s0 _) dX5_tick_42 (fun H locs hw => ?_)
      refine lv_iconst (v := 0) hx hb dX5_tick_45 (by decide) ?_
      refine lv_istore (lv' := [(4, .int (0)), (3, .int (nI (j))), (2, .int (v2)), (0, .ref (a 0)), (1, .int (nI (t)))]) hx hb dX5_tick_46 hl (by decide) rfl (fun ls hl => ?_)
      refine lt5_tick_48 l D ty a cI ht0 s0 s1 a2 a3 a4 a5 a6 a7 a8 a9 s10 s11 s12 a13 a14 a15 a16 a17 a18 a19 a20 a21 s22 p1 hob hob2 t (nI (j)) (f0 + 1) f8 f10 f11 hx hb hml hts hown (tn s12) 0 v2 f17 (by omega)  _ _ _ hw hl (fun H locs ls hw hl => ?_)
      refine lv_aload_n hx hb dX5_tick_98 rfl (lv_at hl 3 rfl) ?_
      refine r_callVv 0 rfl rfl (rest := []) ⟨hx, hb, hml, hown, hts⟩ hw [] (k5_share l D ty a cI ht0 (f0 + 1) s1 a2 a3 a4 a5 a6 a7 f8 a9 f10 f11 s12 a13 a14 a15 a16 ((lf5_tick_48 a16 p1 t (nI (j)) (f0 + 1) f8 f10 f11 (tn s12) 0 v2 f17).2) a18 a19 a20 a21 s22) (cwV 0 hts gX5_tick_X5_share rfl rfl rfl (by decide +kernel) ⟨Nat.le_of_ble_eq_true rfl, Nat.le_of_ble_eq_true rfl⟩) rfl hl.1 rfl (Nat.le_of_ble_eq_true rfl) dX5_tick_99 ⟨Nat.le_of_ble_eq_true rfl, Nat.le_of_ble_eq_true rfl⟩ (fun w H locs hp hw => ?_)
      subst hp
      refine lv_iinc (v := nI (j + 1)) (lv' := [(3, .int (nI (j + 1))), (4, .int (nI (tn s12))), (2, .int ((lf5_tick_48 a16 p1 t (nI (j)) (f0 + 1) f8 f10 f11 (tn s12) 0 v2 f17).1)), (0, .ref (a 0)), (1, .int (nI (t)))]) hx hb dX5_tick_102 hl (k := 1) rfl (by show nI (j) + 1 = _; exact nI_1 _) (by decide) rfl (fun ls hl => ?_)
      refine lv_goto (tgt := 30) hx hb dX5_tick_105 (by decide) ?_
      have e9 : lf5_tick_30 a9 s12 a16 p1 t (k + 1) j v2 f0 f8 f10 f11 f17 = lf5_tick_30 a9 s12 a16 p1 t k (j + 1) ((lf5_tick_48 a16 p1 t (nI (j)) (f0 + 1) f8 f10 f11 (tn s12) 0 v2 f17).1) (f0 + 1) ((f5_share f8 a9 f10 f11).1) ((f5_share f8 a9 f10 f11).2.1) ((f5_share f8 a9 f10 f11).2.2) ((lf5_tick_48 a16 p1 t (nI (j)) (f0 + 1) f8 f10 f11 (tn s12) 0 v2 f17).2) := rfl
      rw [e9] at kk
      exact ih (j + 1) ((lf5_tick_48 a16 p1 t (nI (j)) (f0 + 1) f8 f10 f11 (tn s12) 0 v2 f17).1) (f0 + 1) ((f5_share f8 a9 f10 f11).1) ((f5_share f8 a9 f10 f11).2.1) ((f5_share f8 a9 f10 f11).2.2) ((lf5_tick_48 a16 p1 t (nI (j)) (f0 + 1) f8 f10 f11 (tn s12) 0 v2 f17).2) (by omega) (by first | assumption | omega) _ _ _ hw (lv_sub hl [0, 2, 3, 4] rfl) kk
def f5_tick (s0 : Int32) (a8 : Nat → Int32) (a9 : Nat → Int32) (s10 : Int32) (s11 : Int32) (s12 : Int32) (a16 : Nat → Int32) (a17 : Nat → Int32) (p1 : Int32) : Int32 × Int32 × (Nat → Int32) × Int32 × Int32 × (Nat → Int32) :=
  if (f5_in p1.toInt64 1 100) = 0 then ((-102), s0, a8, s10, s11, a17)
  else if (s0 + p1) ≤ 100000 then ((lf5_tick_30 a9 s12 a16 (nI (tn p1)) (tn p1) (tn p1) 0 0 s0 a8 s10 s11 a17).1, (lf5_tick_30 a9 s12 a16 (nI (tn p1)) (tn p1) (tn p1) 0 0 s0 a8 s10 s11 a17).2.1, (lf5_tick_30 a9 s12 a16 (nI (tn p1)) (tn p1) (tn p1) 0 0 s0 a8 s10 s11 a17).2.2.1, (lf5_tick_30 a9 s12 a16 (nI (tn p1)) (tn p1) (tn p1) 0 0 s0 a8 s10 s11 a17).2.2.2.1, (lf5_tick_30 a9 s12 a16 (nI (tn p1)) (tn p1) (tn p1) 0 0 s0 a8 s10 s11 a17).2.2.2.2.1, (lf5_tick_30 a9 s12 a16 (nI (tn p1)) (tn p1) (tn p1) 0 0 s0 a8 s10 s11 a17).2.2.2.2.2)
  else ((-102), s0, a8, s10, s11, a17)
set_option maxHeartbeats 4000000 in
set_option maxRecDepth 100000 in
theorem k5_tick (l : Launch) (D : va_G) (ty : List (ClassId × FieldType)) (a : Nat → Nat) (cI : ClassId) (ht0 : ty[0]? = some (cI, .int)) (s0 : Int32) (s1 : Int32) (a2 : Nat → Int32) (a3 : Nat → Int32) (a4 : Nat → Int32) (a5 : Nat → Int32) (a6 : Nat → Int32) (a7 : Nat → Int32) (a8 : Nat → Int32) (a9 : Nat → Int32) (s10 : Int32) (s11 : Int32) (s12 : Int32) (a13 : Nat → Int32) (a14 : Nat → Int32) (a15 : Nat → Int32) (a16 : Nat → Int32) (a17 : Nat → Int32) (a18 : Nat → Int32) (a19 : Nat → Int32) (a20 : Nat → Int32) (a21 : Nat → Int32) (s22 : Int32) (p1 : Int32) (hob : s12 = nI (tn s12)) (hob2 : tn s12 ≤ 60) : MetG l yX5_tick wsX5_tick { frames := 2, cells := 0, slots := 0, locals := 48 } D ty [.ref (a 0), .int (p1)] (MW a cI s0 s1 a2 a3 a4 a5 a6 a7 a8 a9 s10 s11 s12 a13 a14 a15 a16 a17 a18 a19 a20 a21 s22) (va_Qi (fun r w => r = (f5_tick s0 a8 a9 s10 s11 s12 a16 a17 p1).1 ∧ w = MW a cI ((f5_tick s0 a8 a9 s10 s11 s12 a16 a17 p1).2.1) s1 a2 a3 a4 a5 a6 a7 ((f5_tick s0 a8 a9 s10 s11 s12 a16 a17 p1).2.2.1) a9 ((f5_tick s0 a8 a9 s10 s11 s12 a16 a17 p1).2.2.2.1) ((f5_tick s0 a8 a9 s10 s11 s12 a16 a17 p1).2.2.2.2.1) s12 a13 a14 a15 a16 ((f5_tick s0 a8 a9 s10 s11 s12 a16 a17 p1).2.2.2.2.2) a18 a19 a20 a21 s22)) 0 0 := by
  refine Met_start cX5_tick 5 (some .int) (by decide) rfl (Nat.le_of_ble_eq_true rfl) ?_
  intro p e s m below meth c A ls hx hb hr hlocks hml hnm hts hown hw hl
  have hl : lv_has ls 5 [(0, .ref (a 0)), (1, .int (p1))] := hl
  have ci89 := hts (.constantLong RX5 89 (100)) (by decide +kernel)
  have i5 : ∀ w ∈ wsX50, w ∈ wsX5_tick := fun _ h => List.mem_cons_of_mem _ (List.mem_append_right _ h)
  have lk64 := hts (.fieldLink RX5 64 "RentSizesModel" "height" "I") (by decide +kernel)
  have ci71 := hts (.constant RX5 71 (100000)) (by decide +kernel)
  refine lv_iload_n hx hb dX5_tick_0 rfl (lv_at hl 1 rfl) ?_
  refine lv_i2l (v := p1.toInt64) hx hb dX5_tick_1 rfl ?_
  refine lv_lconst (v := 1) hx hb dX5_tick_2 (by decide) ?_
  refine lv_ldc2 (v := 100) hx hb hown ci89 dX5_tick_3 ?_
  refine r_callSi (rest := []) ⟨hx, hb, hml, hown, hts⟩ hw [.long (p1.toInt64), .long (1), .long (100)] (k5_in l D ty a cI ht0 s0 s1 a2 a3 a4 a5 a6 a7 a8 a9 s10 s11 s12 a13 a14 a15 a16 a17 a18 a19 a20 a21 s22 p1.toInt64 1 100) (va_cwS 3 hts gX5_tick_X5_in rfl rfl rfl (by decide +kernel) ⟨Nat.le_of_ble_eq_true rfl, Nat.le_of_ble_eq_true rfl⟩) rfl hl.1 rfl (Nat.le_of_ble_eq_true rfl) dX5_tick_6 ⟨Nat.le_of_ble_eq_true rfl, Nat.le_of_ble_eq_true rfl⟩ (fun r w H locs hp hw => ?_)
  obtain ⟨rfl, rfl⟩ := hp
  refine lv_if_eq (tgt := 23) hx hb dX5_tick_9 (by decide) (fun c_9 => ?_) (fun c_9 => ?_)
  · refine lv_bipush (v := (-102)) hx hb dX5_tick_23 (by decide) ?_
    have e9 : f5_tick s0 a8 a9 s10 s11 s12 a16 a17 p1 = ((-102), s0, a8, s10, s11, a17) := by unfold f5_tick; rw [if_pos c_9]
    exact r_iret hx hb hr hlocks hw ⟨by rw [e9] <;> rfl, by rw [e9] <;> rfl⟩ dX5_tick_25
  · refine lv_aload_n hx hb dX5_tick_12 rfl (lv_at hl 0 rfl) ?_
    refine r_get (C := RX5) (T := TX5) (v := .int (s0)) hx hb hts i5 hown hw 0 rfl rfl 0 (by decide) lk64 rfl dX5_tick_13 ?_
    refine lv_iload_n hx hb dX5_tick_16 rfl (lv_at hl 1 rfl) ?_
    refine lv_iadd hx hb dX5_tick_17 ?_
    refine lv_ldc (v := 100000) hx hb hown ci71 dX5_tick_18 ?_
    refine lv_icmp_le (tgt := 26) hx hb dX5_tick_20 (by decide) (fun c_20 => ?_) (fun c_20 => ?_)
    · obtain ⟨t, htt, rfl⟩ := (in_nat 1 100 c_9 rfl rfl)
      refine lv_iconst (v := 0) hx hb dX5_tick_26 (by decide) ?_
      refine lv_istore_n (lv' := [(2, .int (0)), (0, .ref (a 0)), (1, .int (nI (t)))]) hx hb dX5_tick_27 rfl hl (by decide) rfl (fun ls hl => ?_)
      refine lv_iconst (v := 0) hx hb dX5_tick_28 (by decide) ?_
      refine lv_istore_n (lv' := [(3, .int (0)), (2, .int (0)), (0, .ref (a 0)), (1, .int (nI (t)))]) hx hb dX5_tick_29 rfl hl (by decide) rfl (fun ls hl => ?_)
      refine lt5_tick_30 l D ty a cI ht0 s0 s1 a2 a3 a4 a5 a6 a7 a8 a9 s10 s11 s12 a13 a14 a15 a16 a17 a18 a19 a20 a21 s22 (nI t) hob hob2 t hx hb hml hts hown t 0 0 s0 a8 s10 s11 a17 (by omega) (by first | assumption | omega) _ _ _ hw hl (fun H locs ls hw hl => ?_)
      refine lv_iload_n hx hb dX5_tick_108 rfl (lv_at hl 1 rfl) ?_
      have e9 : f5_tick s0 a8 a9 s10 s11 s12 a16 a17 (nI t) = ((lf5_tick_30 a9 s12 a16 (nI t) t t 0 0 s0 a8 s10 s11 a17).1, (lf5_tick_30 a9 s12 a16 (nI t) t t 0 0 s0 a8 s10 s11 a17).2.1, (lf5_tick_30 a9 s12 a16 (nI t) t t 0 0 s0 a8 s10 s11 a17).2.2.1, (lf5_tick_30 a9 s12 a16 (nI t) t t 0 0 s0 a8 s10 s11 a17).2.2.2.1, (lf5_tick_30 a9 s12 a16 (nI t) t t 0 0 s0 a8 s10 s11 a17).2.2.2.2.1, (lf5_tick_30 a9 s12 a16 (nI t) t t 0 0 s0 a8 s10 s11 a17).2.2.2.2.2) := by unfold f5_tick; simp only [nI_clamp (show t < 2 ^ 31 by omega)]; rw [if_neg c_9, if_pos c_20]
      exact r_iret hx hb hr hlocks hw ⟨by rw [e9] <;> rfl, by rw [e9] <;> rfl⟩ dX5_tick_109
    · refine lv_bipush (v := (-102)) hx hb dX5_tick_23 (by decide) ?_
      have e9 : f5_tick s0 a8 a9 s10 s11 s12 a16 a17 p1 = ((-102), s0, a8, s10, s11, a17) := by unfold f5_tick; rw [if_neg c_9, if_neg c_20]
      exact r_iret hx hb hr hlocks hw ⟨by rw [e9] <;> rfl, by rw [e9] <;> rfl⟩ dX5_tick_25
