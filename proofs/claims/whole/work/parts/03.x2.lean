theorem MW_eq {a : Nat → Nat} {cI : ClassId} {X Y : Nat → Nat → Int32} (h0 : X 0 0 = Y 0 0) (h1 : X 1 0 = Y 1 0) (h2 : X 2 = Y 2) (h3 : X 3 = Y 3) (h4 : X 4 = Y 4) (h5 : X 5 = Y 5) (h6 : X 6 = Y 6) (h7 : X 7 = Y 7) (h8 : X 8 = Y 8) (h9 : X 9 = Y 9) (h10 : X 10 0 = Y 10 0) (h11 : X 11 0 = Y 11 0) (h12 : X 12 0 = Y 12 0) (h13 : X 13 = Y 13) (h14 : X 14 = Y 14) (h15 : X 15 = Y 15) (h16 : X 16 = Y 16) (h17 : X 17 = Y 17) (h18 : X 18 = Y 18) (h19 : X 19 = Y 19) (h20 : X 20 = Y 20) (h21 : X 21 = Y 21) (h22 : X 22 0 = Y 22 0) : MW a cI X = MW a cI Y := by
  unfold MW MF
  rw [h0, h1, h2, h3, h4, h5, h6, h7, h8, h9, h10, h11, h12, h13, h14, h15, h16, h17, h18, h19, h20, h21, h22]
theorem CW_eq {a : Nat → Nat} {b : Nat → Nat → Nat} {n : Nat} {cI cO : ClassId} {X Y : Nat → Nat → Int32} {I I2 : Nat → Nat → Nat → Int32} (h0 : X 0 = Y 0) (h1 : X 1 = Y 1) (h2 : X 2 = Y 2) (h3 : X 3 = Y 3) (h4 : X 4 0 = Y 4 0) (h5 : X 5 = Y 5) (h6 : X 6 = Y 6) (h7 : X 7 = Y 7) (h8 : X 8 0 = Y 8 0) (h9 : X 9 0 = Y 9 0) (h10 : X 10 0 = Y 10 0) (h11 : X 11 = Y 11) (h12 : X 12 0 = Y 12 0) (h13 : X 13 0 = Y 13 0) (hI : I = I2) : CW a b n cI cO X I = CW a b n cI cO Y I2 := by
  subst hI
  unfold CW cX CF4 CF0 CF3
  rw [h0, h1, h2, h3, h4, h5, h6, h7, h8, h9, h10, h11, h12, h13]
theorem cIs_eq (cI : ClassId) (b : Nat → Nat → Nat) {I I2 : Nat → Nat → Nat → Int32} : ∀ n, (∀ i, i < n → c1 cI (b i) (I i) = c1 cI (b i) (I2 i)) → cIs cI b I n = cIs cI b I2 n
  | 0, _ => rfl
  | n + 1, h => by simp only [cIs]; rw [cIs_eq cI b n (fun i hi => h i (by omega)), h n (by omega)]
theorem c1_eq {cI : ClassId} {b : Nat → Nat} {X Y : Nat → Nat → Int32} (h0 : X 0 = Y 0) (h1 : X 1 0 = Y 1 0) (h2 : X 2 0 = Y 2 0) (h3 : X 3 0 = Y 3 0) (h4 : X 4 0 = Y 4 0) (h5 : X 5 = Y 5) (h6 : X 6 = Y 6) (h7 : X 7 = Y 7) (h8 : X 8 0 = Y 8 0) : c1 cI b X = c1 cI b Y := by
  unfold c1 CF1 CF2
  rw [h0, h1, h2, h3, h4, h5, h6, h7, h8]
theorem CW_eqF {a : Nat → Nat} {b : Nat → Nat → Nat} {n : Nat} {cI cO : ClassId} {X Y : Nat → Nat → Int32} {I : Nat → Nat → Nat → Int32} {i : Nat} {J J2 : Nat → Nat → Int32} (g0 : X 0 = Y 0) (g1 : X 1 = Y 1) (g2 : X 2 = Y 2) (g3 : X 3 = Y 3) (g4 : X 4 0 = Y 4 0) (g5 : X 5 = Y 5) (g6 : X 6 = Y 6) (g7 : X 7 = Y 7) (g8 : X 8 0 = Y 8 0) (g9 : X 9 0 = Y 9 0) (g10 : X 10 0 = Y 10 0) (g11 : X 11 = Y 11) (g12 : X 12 0 = Y 12 0) (g13 : X 13 0 = Y 13 0) (h0 : J 0 = J2 0) (h1 : J 1 0 = J2 1 0) (h2 : J 2 0 = J2 2 0) (h3 : J 3 0 = J2 3 0) (h4 : J 4 0 = J2 4 0) (h5 : J 5 = J2 5) (h6 : J 6 = J2 6) (h7 : J 7 = J2 7) (h8 : J 8 0 = J2 8 0) : CW a b n cI cO X (va_up I i J) = CW a b n cI cO Y (va_up I i J2) := by
  have e : CW a b n cI cO X (va_up I i J) = CW a b n cI cO X (va_up I i J2) := by
    unfold CW
    rw [cIs_eq cI b (I := va_up I i J) (I2 := va_up I i J2) n (fun k hk => by
      by_cases q : k = i
      · subst q; rw [va_up_self, va_up_self]; exact c1_eq h0 h1 h2 h3 h4 h5 h6 h7 h8
      · rw [va_up_ne _ _ q, va_up_ne _ _ q])]
  rw [e]
  exact CW_eq g0 g1 g2 g3 g4 g5 g6 g7 g8 g9 g10 g11 g12 g13 rfl
theorem Wd.cast {D : va_G} {ty : List (ClassId × FieldType)} {A : Nat → Prop} {H0 : Heap} {s : State} {ws ws' : va_W} {H : Heap} {locs : List Loc} (hw : Wd D ty A H0 s ws H locs) (h : ws = ws') : Wd D ty A H0 s ws' H locs := h ▸ hw
theorem CW_getF (a : Nat → Nat) (b : Nat → Nat → Nat) (n : Nat) (cI cO : ClassId) (C : Nat → Nat → Int32) (I : Nat → Nat → Nat → Int32) (i : Nat) (J : Nat → Nat → Int32) (hi : i < n) {j : Nat} (hj : j < 6) {x : Nat × va_E} (hx : (c1 cI (b i) J)[j]? = some x) : (CW a b n cI cO C (va_up I i J))[12 + (6 * i + j)]? = some x :=
  CW_get a b n cI cO C (va_up I i J) hi hj (by rw [va_up_self]; exact hx)
theorem CW_setF (a : Nat → Nat) (b : Nat → Nat → Nat) (n : Nat) (cI cO : ClassId) (C : Nat → Nat → Int32) (I : Nat → Nat → Nat → Int32) (i : Nat) (J : Nat → Nat → Int32) (hi : i < n) {j : Nat} (hj : j < 6) {x : Nat × va_E} {J' : Nat → Nat → Int32} (hx : (c1 cI (b i) J).set j x = c1 cI (b i) J') : (CW a b n cI cO C (va_up I i J)).set (12 + (6 * i + j)) x = CW a b n cI cO C (va_up I i J') := by
  rw [CW_set a b n cI cO C (va_up I i J) hi hj (J := J') (by rw [va_up_self]; exact hx), bx_uu]
