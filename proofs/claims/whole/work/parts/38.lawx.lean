/-- a long out of two ints of the script -/
def lgv (x y : Int32) : Int64 := (x.toInt64 <<< ((32 : Int32).toInt64 &&& 63)) ||| (y.toInt64 &&& 4294967295)
section LXB
variable {p : Program} {l : Launch} {e : Env} {s : State} {m : MethodId} {below : List Frame} {meth : Method} {c : Code} {H : Heap} {locs : List Loc} {cells slots : Nat} {Q : State → Prop} {b L : Nat} {xs : Nat → Int32}
variable {pc : Nat} {ls : Array Slot} {rest st0 : List Value} {D : va_G} {ty : List (ClassId × FieldType)} {ws : va_W}
theorem l_long (C : LCx p s m c b L xs) (hS : va_S (LA s) s.heap H locs) {q1 q2 q3 i : Nat} (hl : lv_has ls 8 (LV b q1 q2 q3 i)) {k k' : Nat} {ki ki' : Int} (hik : i + k < L) (hki : Int32.ofInt ki = nI k) (hik' : i + k' < L) (hki' : Int32.ofInt ki' = nI k')
    (d0 : decode cL_law pc = .ok (.aload_n 0, 1)) (d1 : decode cL_law (pc + 1) = .ok (.iload 4, 2)) (d3 : decode cL_law (pc + 3) = .ok (.iconst ki, 1)) (d4 : decode cL_law (pc + 4) = .ok (.iadd, 1)) (d5 : decode cL_law (pc + 5) = .ok (.iaload, 1))
    (d6 : decode cL_law (pc + 6) = .ok (.i2l, 1)) (d7 : decode cL_law (pc + 7) = .ok (.bipush 32, 2)) (d9 : decode cL_law (pc + 9) = .ok (.lshl, 1))
    (g0 : decode cL_law (pc + 10) = .ok (.aload_n 0, 1)) (g1 : decode cL_law (pc + 11) = .ok (.iload 4, 2)) (g3 : decode cL_law (pc + 13) = .ok (.iconst ki', 1)) (g4 : decode cL_law (pc + 14) = .ok (.iadd, 1)) (g5 : decode cL_law (pc + 15) = .ok (.iaload, 1))
    (g6 : decode cL_law (pc + 16) = .ok (.i2l, 1)) (g7 : decode cL_law (pc + 17) = .ok (.ldc2_w 95, 3)) (g8 : decode cL_law (pc + 20) = .ok (.land, 1)) (g9 : decode cL_law (pc + 21) = .ok (.lor, 1))
    (kk : W p l e room_1 s m #[Value.ref b] below meth c H locs cells slots Q (F0 m (pc + 22) ls (.long (lgv (xs (i + k)) (xs (i + k'))) :: rest))) : W p l e room_1 s m #[Value.ref b] below meth c H locs cells slots Q (F0 m pc ls rest) := by
  have hx := C.1
  have hb := C.2.1
  have hown := C.2.2.2.1
  have hts := C.2.2.2.2.1
  refine l_arg C hS hl hik hki d0 d1 d3 d4 d5 ?_
  refine lv_i2l hx hb d6 rfl ?_
  refine lv_bipush (v := 32) hx hb d7 (by decide) ?_
  refine lv_lshl hx hb d9 rfl ?_
  refine l_arg C hS hl hik' hki' g0 g1 g3 g4 g5 ?_
  refine lv_i2l hx hb g6 rfl ?_
  refine lv_ldc2 (own := RL) (v := 4294967295) hx hb hown (hts (.constantLong RL 95 (4294967295)) (by decide +kernel)) g7 ?_
  refine lv_land hx hb g8 ?_
  refine lv_lor hx hb g9 ?_
  exact kk
theorem c_refl {X Y O : va_W} {qx : Nat} {fs : List Value} {As : List Value} {index maxL mc ms n : Nat} {wy : List Cond} {rm : Room} {y : MethodName} {bytes : ByteArray} {ret : Option FieldType} {P : Int64 → va_W → Prop} (C : LCx p s m c b L xs) (hw : Wd D ty (LA s) s.heap s (X ++ (Y ++ O)) H locs) (hX : Y[0]? = some (qx, .inr (5, fs))) (hM : MetG l y wy rm D ty (.ref qx :: As) Y (va_Ql P) mc ms) (cw : CallW room_1 s #[Value.ref b] RL RX5 index y bytes maxL ret wy rm mc ms n) (hn : As.length = n) {lv : List (Nat × Value)} (hl : lv_has ls 8 lv) (hst : st0 = As.reverse ++ .ref qx :: rest) (hroom : (rest.map fun v => v.category).sum ≤ 8) (hdg : decode cL_law pc = .ok (.invokevirtual index, 3)) (hf : cells + mc ≤ 601024 ∧ slots + ms ≤ 7293034)
    (kk : ∀ (r : Int64) (Y' : va_W) (H1 : Heap) (locs1 : List Loc), P r Y' → Wd D ty (LA s) s.heap s (X ++ (Y' ++ O)) H1 locs1 → W p l e room_1 s m #[Value.ref b] below meth c H1 locs1 (cells + mc) (slots + ms) Q (F0 m (pc + 3) ls (.long r :: rest))) : W p l e room_1 s m #[Value.ref b] below meth c H locs cells slots Q (F0 m pc ls st0) := by
  obtain ⟨hx, hb, hml, hown, hts, hX9, hbl, hL⟩ := C
  refine r_callVl 0 (apL hX) rfl (rest := rest) ⟨hx, hb, hml, hown, hts⟩ (hw.perm (perm3 X Y O)) As (hM.frame_l (X ++ O)) cw hn hl.1 hst hroom hdg hf (fun r w H1 locs1 hp hw => ?_)
  obtain ⟨w1, h1, rfl⟩ := hp
  exact kk r w1 H1 locs1 h1 (hw.perm (perm3 w1 X O))
end LXB
theorem set_out (X Y : va_W) (v v' : Nat × va_E) : (X ++ (Y ++ [v])).set (X.length + (Y.length + 0)) v' = X ++ (Y ++ [v']) := by
  rw [List.set_append_right _ _ (by omega), List.set_append_right _ _ (by omega)]
  have e : X.length + (Y.length + 0) - X.length - Y.length = 0 := by omega
  rw [e]; rfl
set_option maxHeartbeats 4000000 in
set_option maxRecDepth 100000 in
theorem lc_exact {p : Program} {l : Launch} {e : Env} {s : State} {m : MethodId} {below : List Frame} {meth : Method} {c : Code} {H : Heap} {locs : List Loc} {cells slots : Nat} {Q : State → Prop} {b L : Nat} {xs : Nat → Int32} {ls : Array Slot} {D : va_G} {ty : List (ClassId × FieldType)} {ws : va_W} {cI cO cL : ClassId} {q1 q2 q3 i : Nat} (C : LCx p s m c b L xs) (hst : l.stackTraces = false) (hX : Ex (LA s) s) (ht0 : ty[0]? = some (cI, .int)) (ht2 : ty[2]? = some (cL, .long)) (hi : i + 4 < L) (hcl : cells + 6 ≤ 601024) (hsl : slots + 62 ≤ 7293034) (hI : LwI cI cO cL q1 q2 q3 ws) (hw : Wd D ty (LA s) s.heap s ws H locs) (hl : lv_has ls 8 (LV b q1 q2 q3 i))
    (kk : ∀ (ws : va_W) (H : Heap) (locs : List Loc) (ls : Array Slot), lv_has ls 8 (LV b q1 q2 q3 i) → LwI cI cO cL q1 q2 q3 ws → Wd D ty (LA s) s.heap s ws H locs → W p l e room_1 s m #[Value.ref b] below meth c H locs (cells + 6) (slots + 62) Q (F0 m 1067 ls [])) : W p l e room_1 s m #[Value.ref b] below meth c H locs cells slots Q (F0 m 898 ls []) := by
  have hx := C.1
  have hb := C.2.1
  have hml := C.2.2.1
  have hown := C.2.2.2.1
  have hts := C.2.2.2.2.1
  obtain ⟨a, b9, n, u8, I, a', s0, s1, a2, a3, a4, a5, a6, a7, a8, a9, s10, s11, s12, a13, a14, a15, a16, a17, a18, a19, a20, a21, s22, f, ha, ha', hR, rfl⟩ := hI
  subst ha
  subst ha'
  refine lv_aload_n hx hb dL_law_898 rfl (lv_at hl 1 rfl) ?_
  refine l_long (k := 1) (k' := 2) C hw.2.2.2.1 hl (by omega) (by decide) (by omega) (by decide) dL_law_899 dL_law_900 dL_law_902 dL_law_903 dL_law_904 dL_law_905 dL_law_906 dL_law_908 dL_law_909 dL_law_910 dL_law_912 dL_law_913 dL_law_914 dL_law_915 dL_law_916 dL_law_919 dL_law_920 ?_
  refine l_long (k := 3) (k' := 4) C hw.2.2.2.1 hl (by omega) (by decide) (by omega) (by decide) dL_law_921 dL_law_922 dL_law_924 dL_law_925 dL_law_926 dL_law_927 dL_law_928 dL_law_930 dL_law_931 dL_law_932 dL_law_934 dL_law_935 dL_law_936 dL_law_937 dL_law_938 dL_law_941 dL_law_942 ?_
  refine lv_aload_n hx hb dL_law_943 rfl (lv_at hl 3 rfl) ?_
  generalize hP1 : lgv (xs (i + 1)) (xs (i + 2)) = P1
  generalize hP2 : lgv (xs (i + 3)) (xs (i + 4)) = P2
  refine va_calli (vx_runSW (As := [.ref (a 0), .long P1, .long P2, .ref q3]) (rest := []) ⟨hx, hb, hml, hown, hts⟩ (kL_exact l hst D ty ht2 _ 0 ((CW a b9 n cI cO a2 a3 a4 a5 s1 a6 a8 a9 u8 s10 s11 a7 s12 s0 I).length + ((MW a' cI s0 s1 a2 a3 a4 a5 a6 a7 a8 a9 s10 s11 s12 a13 a14 a15 a16 a17 a18 a19 a20 a21 s22).length + 0)) (a 0) q3 (apL rfl) (apR (apR rfl)) P1 P2 H.size) (vx_cwSW 4 hts gL_law_L_exact rfl rfl rfl (by decide +kernel) ⟨Nat.le_of_ble_eq_true rfl, Nat.le_of_ble_eq_true rfl⟩) ⟨cPX_blind, hw.preX hX⟩ rfl rfl hl.1 rfl (lv_room (Nat.le_of_ble_eq_true rfl)) dL_law_944 ⟨by show cells + 1 ≤ 601024; omega, by show slots + 6 ≤ 7293034; omega⟩) hw.2.2.2.1 (fun q _ h => hw.free q h) hw.free (fun r u t H1 locs1 ht hvm hp hB hz1 hk1 hS1 => ?_)
  have hw := hw.after ht hB hS1
  clear hB
  have hw2 : ∃ f' : Nat → Int64, (r = 0 → f' 0 = (f5_exact P1 P2).1) ∧ r = (f5_exact P1 P2).2 ∧ Wd D ty (LA s) s.heap s (CW a b9 n cI cO a2 a3 a4 a5 s1 a6 a8 a9 u8 s10 s11 a7 s12 s0 I ++ (MW a' cI s0 s1 a2 a3 a4 a5 a6 a7 a8 a9 s10 s11 s12 a13 a14 a15 a16 a17 a18 a19 a20 a21 s22 ++ [(q3, .inl (cL, 1, .inr (.inl f')))])) H1 locs1 := by
    rcases hp with ⟨v, h1, rfl, rfl⟩ | ⟨h1, rfl, rfl⟩
    · rcases q_exact P1 P2 with ⟨g1, g2⟩ | ⟨g1, g2⟩
      · rw [h1] at g1; cases g1
      · rw [h1] at g1
        have g3 := Option.some.inj g1
        refine ⟨vp_updL f 0 v, fun _ => ?_, g2.symm, hw.cast (set_out _ _ _ _)⟩
        rw [← g3]; simp [vp_updL]
    · rcases q_exact P1 P2 with ⟨g1, g2⟩ | ⟨g1, g2⟩
      · exact ⟨f, fun h => absurd h (by decide), g2.symm, hw⟩
      · rw [h1] at g1; cases g1
  obtain ⟨f', hv, hr2, hw⟩ := hw2
  refine lv_istore (lv' := [(5, .int r), (0, .ref b), (1, .ref (a 0)), (2, .ref (a' 0)), (3, .ref q3), (4, .int (nI i))]) hx hb dL_law_947 hl (by decide) rfl (fun ls hl => ?_)
  have hlv : lv_has ls 8 (LV b (a 0) (a' 0) q3 i) := lv_sub hl [1, 2, 3, 4, 5] rfl
  refine lv_aload_n hx hb dL_law_949 rfl (lv_at hl 3 rfl) ?_
  refine l_long (k := 1) (k' := 2) C hw.2.2.2.1 hlv (by omega) (by decide) (by omega) (by decide) dL_law_950 dL_law_951 dL_law_953 dL_law_954 dL_law_955 dL_law_956 dL_law_957 dL_law_959 dL_law_960 dL_law_961 dL_law_963 dL_law_964 dL_law_965 dL_law_966 dL_law_967 dL_law_970 dL_law_971 ?_
  refine l_long (k := 3) (k' := 4) C hw.2.2.2.1 hlv (by omega) (by decide) (by omega) (by decide) dL_law_972 dL_law_973 dL_law_975 dL_law_976 dL_law_977 dL_law_978 dL_law_979 dL_law_981 dL_law_982 dL_law_983 dL_law_985 dL_law_986 dL_law_987 dL_law_988 dL_law_989 dL_law_992 dL_law_993 ?_
  rw [hP1, hP2]
  refine c_refl (rest := []) C hw rfl (k5_exact l D ty a' cI ht0 s0 s1 a2 a3 a4 a5 a6 a7 a8 a9 s10 s11 s12 a13 a14 a15 a16 a17 a18 a19 a20 a21 s22 P1 P2) (cwV 2 hts gL_law_X5_exact rfl rfl rfl (by decide +kernel) ⟨Nat.le_of_ble_eq_true rfl, Nat.le_of_ble_eq_true rfl⟩) rfl hl rfl (Nat.le_of_ble_eq_true rfl) dL_law_994 ⟨by omega, by omega⟩ (fun r5 w5 H locs hp5 hw => ?_)
  obtain ⟨e5, rfl⟩ := hp5
  refine lv_lstore (lv' := [(6, .long r5), (5, .int r), (0, .ref b), (1, .ref (a 0)), (2, .ref (a' 0)), (3, .ref q3), (4, .int (nI i))]) hx hb dL_law_997 hl (by decide) rfl (fun ls hl => ?_)
  have hlv : lv_has ls 8 (LV b (a 0) (a' 0) q3 i) := lv_sub hl [2, 3, 4, 5, 6] rfl
  refine lv_aload_n hx hb dL_law_999 rfl (lv_at hl 4 rfl) ?_
  refine c_ref (rest := []) (As := []) C hw rfl (k5_thrown l D ty a' cI ht0 s0 s1 a2 a3 a4 a5 a6 a7 a8 a9 s10 s11 s12 a13 a14 a15 a16 a17 a18 a19 a20 a21 _) (cwV 0 hts gL_law_X5_thrown rfl rfl rfl (by decide +kernel) ⟨Nat.le_of_ble_eq_true rfl, Nat.le_of_ble_eq_true rfl⟩) rfl hl rfl (Nat.le_of_ble_eq_true rfl) dL_law_1000 ⟨by omega, by omega⟩ (fun r6 w6 H locs hp6 hw => ?_)
  obtain ⟨e6, rfl⟩ := hp6
  refine lv_iload hx hb dL_law_1003 (lv_at hl 1 rfl) ?_
  refine lv_icmp_eq (tgt := 1010) hx hb dL_law_1005 (by decide) (fun _ => ?_) (fun hne => absurd (by rw [e6, hr2]; rfl) hne)
  have hfin : W p l e room_1 s m #[Value.ref b] below meth c H locs (cells + 1) (slots + 6) Q (F0 m 1026 ls []) := by
    refine lv_goto (tgt := 1067) hx hb dL_law_1026 (by decide) ?_
    refine W.widen (k := cells + 6) (n := slots + 62) (by omega) (by omega) ?_
    exact kk _ _ _ ls hlv ⟨a, b9, n, u8, I, a', s0, s1, a2, a3, a4, a5, a6, a7, a8, a9, s10, s11, s12, a13, a14, a15, a16, a17, a18, a19, a20, a21, _, f', rfl, rfl, hR, rfl⟩ hw
  refine lv_iload hx hb dL_law_1010 (lv_at hl 1 rfl) ?_
  refine lv_if_ne (tgt := 1026) hx hb dL_law_1012 (by decide) (fun _ => hfin) (fun hr0 => ?_)
  refine lv_aload_n hx hb dL_law_1015 rfl (lv_at hl 5 rfl) ?_
  refine lv_iconst (v := 0) hx hb dL_law_1016 (by decide) ?_
  refine r_lald (n := 1) (f := f') hx hb hw _ (apR (apR (k := 0) rfl)) ht2 (i := 0) (by unfold vp_in; decide) dL_law_1017 ?_
  refine lv_lload hx hb dL_law_1018 (lv_at hl 0 rfl) ?_
  refine W.lcmp hx hb dL_law_1020 ?_
  refine lv_if_eq (tgt := 1026) hx hb dL_law_1021 (by decide) (fun _ => hfin) (fun hne => absurd ?_ hne)
  exact (lg_cmp_eq _ _).mpr (by rw [e5]; exact hv hr0)
