/-- the fields of the reference -/
def MF (a : Nat → Nat) (M : Nat → Nat → Int32) : List Value := [.int (M 0 0), .int (M 1 0), .ref (a 2), .ref (a 3), .ref (a 4), .ref (a 5), .ref (a 6), .ref (a 7), .ref (a 8), .ref (a 9), .int (M 10 0), .int (M 11 0), .int (M 12 0), .ref (a 13), .ref (a 14), .ref (a 15), .ref (a 16), .ref (a 17), .ref (a 18), .ref (a 19), .ref (a 20), .ref (a 21), .int (M 22 0)]
/-- the cells of the reference: a 0 is the object, a j its array of slot j -/
def MW (a : Nat → Nat) (cI : ClassId) (M : Nat → Nat → Int32) : va_W := [(a 0, .inr (5, MF a M)), (a 2, .inl (cI, 10, .inl (M 2))), (a 3, .inl (cI, 10, .inl (M 3))), (a 4, .inl (cI, 10, .inl (M 4))), (a 5, .inl (cI, 10, .inl (M 5))), (a 6, .inl (cI, 6, .inl (M 6))), (a 7, .inl (cI, 6, .inl (M 7))), (a 8, .inl (cI, 5, .inl (M 8))), (a 9, .inl (cI, 5, .inl (M 9))), (a 13, .inl (cI, 60, .inl (M 13))), (a 14, .inl (cI, 60, .inl (M 14))), (a 15, .inl (cI, 240, .inl (M 15))), (a 16, .inl (cI, 60, .inl (M 16))), (a 17, .inl (cI, 60, .inl (M 17))), (a 18, .inl (cI, 60, .inl (M 18))), (a 19, .inl (cI, 960, .inl (M 19))), (a 20, .inl (cI, 960, .inl (M 20))), (a 21, .inl (cI, 960, .inl (M 21)))]
theorem MW_s0 (a : Nat → Nat) (cI : ClassId) (M : Nat → Nat → Int32) (v : Int32) : (MW a cI M).set 0 (a 0, .inr (5, (MF a M).set 0 (.int v))) = MW a cI (va_up M 0 (fun _ => v)) := rfl
theorem MW_s1 (a : Nat → Nat) (cI : ClassId) (M : Nat → Nat → Int32) (v : Int32) : (MW a cI M).set 0 (a 0, .inr (5, (MF a M).set 1 (.int v))) = MW a cI (va_up M 1 (fun _ => v)) := rfl
theorem MW_s10 (a : Nat → Nat) (cI : ClassId) (M : Nat → Nat → Int32) (v : Int32) : (MW a cI M).set 0 (a 0, .inr (5, (MF a M).set 10 (.int v))) = MW a cI (va_up M 10 (fun _ => v)) := rfl
theorem MW_s11 (a : Nat → Nat) (cI : ClassId) (M : Nat → Nat → Int32) (v : Int32) : (MW a cI M).set 0 (a 0, .inr (5, (MF a M).set 11 (.int v))) = MW a cI (va_up M 11 (fun _ => v)) := rfl
theorem MW_s12 (a : Nat → Nat) (cI : ClassId) (M : Nat → Nat → Int32) (v : Int32) : (MW a cI M).set 0 (a 0, .inr (5, (MF a M).set 12 (.int v))) = MW a cI (va_up M 12 (fun _ => v)) := rfl
theorem MW_s22 (a : Nat → Nat) (cI : ClassId) (M : Nat → Nat → Int32) (v : Int32) : (MW a cI M).set 0 (a 0, .inr (5, (MF a M).set 22 (.int v))) = MW a cI (va_up M 22 (fun _ => v)) := rfl
theorem MW_u2 (a : Nat → Nat) (cI : ClassId) (M : Nat → Nat → Int32) (f : Nat → Int32) : (MW a cI M).set 1 (a 2, .inl (cI, 10, .inl f)) = MW a cI (va_up M 2 f) := rfl
theorem MW_u3 (a : Nat → Nat) (cI : ClassId) (M : Nat → Nat → Int32) (f : Nat → Int32) : (MW a cI M).set 2 (a 3, .inl (cI, 10, .inl f)) = MW a cI (va_up M 3 f) := rfl
theorem MW_u4 (a : Nat → Nat) (cI : ClassId) (M : Nat → Nat → Int32) (f : Nat → Int32) : (MW a cI M).set 3 (a 4, .inl (cI, 10, .inl f)) = MW a cI (va_up M 4 f) := rfl
theorem MW_u5 (a : Nat → Nat) (cI : ClassId) (M : Nat → Nat → Int32) (f : Nat → Int32) : (MW a cI M).set 4 (a 5, .inl (cI, 10, .inl f)) = MW a cI (va_up M 5 f) := rfl
theorem MW_u6 (a : Nat → Nat) (cI : ClassId) (M : Nat → Nat → Int32) (f : Nat → Int32) : (MW a cI M).set 5 (a 6, .inl (cI, 6, .inl f)) = MW a cI (va_up M 6 f) := rfl
theorem MW_u7 (a : Nat → Nat) (cI : ClassId) (M : Nat → Nat → Int32) (f : Nat → Int32) : (MW a cI M).set 6 (a 7, .inl (cI, 6, .inl f)) = MW a cI (va_up M 7 f) := rfl
theorem MW_u8 (a : Nat → Nat) (cI : ClassId) (M : Nat → Nat → Int32) (f : Nat → Int32) : (MW a cI M).set 7 (a 8, .inl (cI, 5, .inl f)) = MW a cI (va_up M 8 f) := rfl
theorem MW_u9 (a : Nat → Nat) (cI : ClassId) (M : Nat → Nat → Int32) (f : Nat → Int32) : (MW a cI M).set 8 (a 9, .inl (cI, 5, .inl f)) = MW a cI (va_up M 9 f) := rfl
theorem MW_u13 (a : Nat → Nat) (cI : ClassId) (M : Nat → Nat → Int32) (f : Nat → Int32) : (MW a cI M).set 9 (a 13, .inl (cI, 60, .inl f)) = MW a cI (va_up M 13 f) := rfl
theorem MW_u14 (a : Nat → Nat) (cI : ClassId) (M : Nat → Nat → Int32) (f : Nat → Int32) : (MW a cI M).set 10 (a 14, .inl (cI, 60, .inl f)) = MW a cI (va_up M 14 f) := rfl
theorem MW_u15 (a : Nat → Nat) (cI : ClassId) (M : Nat → Nat → Int32) (f : Nat → Int32) : (MW a cI M).set 11 (a 15, .inl (cI, 240, .inl f)) = MW a cI (va_up M 15 f) := rfl
theorem MW_u16 (a : Nat → Nat) (cI : ClassId) (M : Nat → Nat → Int32) (f : Nat → Int32) : (MW a cI M).set 12 (a 16, .inl (cI, 60, .inl f)) = MW a cI (va_up M 16 f) := rfl
theorem MW_u17 (a : Nat → Nat) (cI : ClassId) (M : Nat → Nat → Int32) (f : Nat → Int32) : (MW a cI M).set 13 (a 17, .inl (cI, 60, .inl f)) = MW a cI (va_up M 17 f) := rfl
theorem MW_u18 (a : Nat → Nat) (cI : ClassId) (M : Nat → Nat → Int32) (f : Nat → Int32) : (MW a cI M).set 14 (a 18, .inl (cI, 60, .inl f)) = MW a cI (va_up M 18 f) := rfl
theorem MW_u19 (a : Nat → Nat) (cI : ClassId) (M : Nat → Nat → Int32) (f : Nat → Int32) : (MW a cI M).set 15 (a 19, .inl (cI, 960, .inl f)) = MW a cI (va_up M 19 f) := rfl
theorem MW_u20 (a : Nat → Nat) (cI : ClassId) (M : Nat → Nat → Int32) (f : Nat → Int32) : (MW a cI M).set 16 (a 20, .inl (cI, 960, .inl f)) = MW a cI (va_up M 20 f) := rfl
theorem MW_u21 (a : Nat → Nat) (cI : ClassId) (M : Nat → Nat → Int32) (f : Nat → Int32) : (MW a cI M).set 17 (a 21, .inl (cI, 960, .inl f)) = MW a cI (va_up M 21 f) := rfl
def CF4 (a : Nat → Nat) (C : Nat → Nat → Int32) : List Value := [.ref (a 1), .ref (a 6), .ref (a 10), .ref (a 11), .int (C 12 0), .int (C 13 0)]
def CF0 (a : Nat → Nat) (C : Nat → Nat → Int32) : List Value := [.ref (a 2), .ref (a 3), .ref (a 4), .ref (a 5), .int (C 4 0)]
def CF3 (a : Nat → Nat) (C : Nat → Nat → Int32) : List Value := [.ref (a 7), .ref (a 8), .ref (a 9), .int (C 8 0), .int (C 9 0), .int (C 10 0)]
def CF1 (b : Nat → Nat) (I : Nat → Nat → Int32) : List Value := [.ref (b 1), .ref (b 2), .int (I 1 0), .int (I 2 0), .int (I 3 0), .int (I 4 0)]
def CF2 (b : Nat → Nat) (I : Nat → Nat → Int32) : List Value := [.ref (b 3), .ref (b 4), .ref (b 5), .int (I 8 0)]
/-- the row of items: those that were made once -/
def CR (b : Nat → Nat → Nat) (n : Nat) : Nat → Option Nat := fun i => if i < n then some (b i 0) else none
def cX (a : Nat → Nat) (b : Nat → Nat → Nat) (n : Nat) (cI cO : ClassId) (C : Nat → Nat → Int32) : va_W := [(a 0, .inr (4, CF4 a C)), (a 1, .inr (0, CF0 a C)), (a 2, .inl (cI, 10, .inl (C 0))), (a 3, .inl (cI, 10, .inl (C 1))), (a 4, .inl (cI, 10, .inl (C 2))), (a 5, .inl (cI, 10, .inl (C 3))), (a 6, .inr (3, CF3 a C)), (a 7, .inl (cI, 6, .inl (C 5))), (a 8, .inl (cI, 5, .inl (C 6))), (a 9, .inl (cI, 5, .inl (C 7))), (a 10, .inl (cI, 6, .inl (C 11))), (a 11, .inl (cO, 60, .inr (.inr (.inr (.inr (CR b n))))))]
/-- the six cells of an item -/
def c1 (cI : ClassId) (b : Nat → Nat) (I : Nat → Nat → Int32) : va_W := [(b 0, .inr (1, CF1 b I)), (b 1, .inl (cI, 4, .inl (I 0))), (b 2, .inr (2, CF2 b I)), (b 3, .inl (cI, 16, .inl (I 5))), (b 4, .inl (cI, 16, .inl (I 6))), (b 5, .inl (cI, 16, .inl (I 7)))]
def cIs (cI : ClassId) (b : Nat → Nat → Nat) (I : Nat → Nat → Nat → Int32) : Nat → va_W
  | 0 => []
  | n + 1 => cIs cI b I n ++ c1 cI (b n) (I n)
/-- the cells of the class: twelve, then six for each item; Z stands behind them and is let alone -/
def CW (a : Nat → Nat) (b : Nat → Nat → Nat) (n : Nat) (cI cO : ClassId) (C : Nat → Nat → Int32) (I : Nat → Nat → Nat → Int32) : va_W := cX a b n cI cO C ++ cIs cI b I n
theorem cIs_len (cI : ClassId) (b : Nat → Nat → Nat) (I : Nat → Nat → Nat → Int32) : ∀ n, (cIs cI b I n).length = 6 * n
  | 0 => rfl
  | n + 1 => by simp only [cIs, List.length_append, cIs_len cI b I n]; simp [c1]; omega
theorem cIs_get (cI : ClassId) (b : Nat → Nat → Nat) (I : Nat → Nat → Nat → Int32) {i j : Nat} (hj : j < 6) : ∀ n, i < n → (cIs cI b I n)[6 * i + j]? = (c1 cI (b i) (I i))[j]?
  | 0, h => absurd h (Nat.not_lt_zero _)
  | n + 1, h => by
    show (cIs cI b I n ++ c1 cI (b n) (I n))[6 * i + j]? = _
    by_cases e : i = n
    · subst e
      rw [List.getElem?_append_right (by rw [cIs_len]; omega), cIs_len]
      congr 1; omega
    · rw [List.getElem?_append_left (by rw [cIs_len]; omega)]
      exact cIs_get cI b I hj n (by omega)
theorem cIs_same (cI : ClassId) (b : Nat → Nat → Nat) {I I' : Nat → Nat → Nat → Int32} : ∀ n, (∀ i, i < n → I i = I' i) → cIs cI b I n = cIs cI b I' n
  | 0, _ => rfl
  | n + 1, h => by simp only [cIs]; rw [cIs_same cI b n (fun i hi => h i (by omega)), h n (by omega)]
theorem cIs_set (cI : ClassId) (b : Nat → Nat → Nat) (I : Nat → Nat → Nat → Int32) {i j : Nat} (hj : j < 6) (x : Nat × va_E) (J : Nat → Nat → Int32) (hx : (c1 cI (b i) (I i)).set j x = c1 cI (b i) J) : ∀ n, i < n → (cIs cI b I n).set (6 * i + j) x = cIs cI b (va_up I i J) n
  | 0, h => absurd h (Nat.not_lt_zero _)
  | n + 1, h => by
    show (cIs cI b I n ++ c1 cI (b n) (I n)).set (6 * i + j) x = cIs cI b (va_up I i J) n ++ c1 cI (b n) (va_up I i J n)
    by_cases e : i = n
    · subst e
      rw [List.set_append_right _ _ (by rw [cIs_len]; omega), cIs_len, show 6 * i + j - 6 * i = j by omega, hx, va_up_self, cIs_same cI b (I' := va_up I i J) i (fun k hk => (va_up_ne _ _ (by omega)).symm)]
    · rw [List.set_append_left _ _ (by rw [cIs_len]; omega), cIs_set cI b I hj x J hx n (by omega), va_up_ne _ _ (fun q => e q.symm)]
theorem CW_get (a : Nat → Nat) (b : Nat → Nat → Nat) (n : Nat) (cI cO : ClassId) (C : Nat → Nat → Int32) (I : Nat → Nat → Nat → Int32) {i j : Nat} (hi : i < n) (hj : j < 6) {x : Nat × va_E} (hx : (c1 cI (b i) (I i))[j]? = some x) : (CW a b n cI cO C I)[12 + (6 * i + j)]? = some x := by
  unfold CW
  rw [List.getElem?_append_right (by simp [cX]), ← hx, ← cIs_get cI b I hj n hi]
  congr 1; simp [cX]
theorem CW_set (a : Nat → Nat) (b : Nat → Nat → Nat) (n : Nat) (cI cO : ClassId) (C : Nat → Nat → Int32) (I : Nat → Nat → Nat → Int32) {i j : Nat} (hi : i < n) (hj : j < 6) {x : Nat × va_E} {J : Nat → Nat → Int32} (hx : (c1 cI (b i) (I i)).set j x = c1 cI (b i) J) : (CW a b n cI cO C I).set (12 + (6 * i + j)) x = CW a b n cI cO C (va_up I i J) := by
  unfold CW
  rw [List.set_append_right _ _ (by simp [cX]), show 12 + (6 * i + j) - (cX a b n cI cO C).length = 6 * i + j by simp [cX], cIs_set cI b I hj x J hx n hi]
theorem CW_s12 (a : Nat → Nat) (b : Nat → Nat → Nat) (n : Nat) (cI cO : ClassId) (C : Nat → Nat → Int32) (I : Nat → Nat → Nat → Int32) (v : Int32) : (CW a b n cI cO C I).set 0 (a 0, .inr (4, (CF4 a C).set 4 (.int v))) = CW a b n cI cO (va_up C 12 (fun _ => v)) I := rfl
theorem CW_s13 (a : Nat → Nat) (b : Nat → Nat → Nat) (n : Nat) (cI cO : ClassId) (C : Nat → Nat → Int32) (I : Nat → Nat → Nat → Int32) (v : Int32) : (CW a b n cI cO C I).set 0 (a 0, .inr (4, (CF4 a C).set 5 (.int v))) = CW a b n cI cO (va_up C 13 (fun _ => v)) I := rfl
theorem CW_s4 (a : Nat → Nat) (b : Nat → Nat → Nat) (n : Nat) (cI cO : ClassId) (C : Nat → Nat → Int32) (I : Nat → Nat → Nat → Int32) (v : Int32) : (CW a b n cI cO C I).set 1 (a 1, .inr (0, (CF0 a C).set 4 (.int v))) = CW a b n cI cO (va_up C 4 (fun _ => v)) I := rfl
theorem CW_s8 (a : Nat → Nat) (b : Nat → Nat → Nat) (n : Nat) (cI cO : ClassId) (C : Nat → Nat → Int32) (I : Nat → Nat → Nat → Int32) (v : Int32) : (CW a b n cI cO C I).set 6 (a 6, .inr (3, (CF3 a C).set 3 (.int v))) = CW a b n cI cO (va_up C 8 (fun _ => v)) I := rfl
theorem CW_s9 (a : Nat → Nat) (b : Nat → Nat → Nat) (n : Nat) (cI cO : ClassId) (C : Nat → Nat → Int32) (I : Nat → Nat → Nat → Int32) (v : Int32) : (CW a b n cI cO C I).set 6 (a 6, .inr (3, (CF3 a C).set 4 (.int v))) = CW a b n cI cO (va_up C 9 (fun _ => v)) I := rfl
theorem CW_s10 (a : Nat → Nat) (b : Nat → Nat → Nat) (n : Nat) (cI cO : ClassId) (C : Nat → Nat → Int32) (I : Nat → Nat → Nat → Int32) (v : Int32) : (CW a b n cI cO C I).set 6 (a 6, .inr (3, (CF3 a C).set 5 (.int v))) = CW a b n cI cO (va_up C 10 (fun _ => v)) I := rfl
theorem CW_u0 (a : Nat → Nat) (b : Nat → Nat → Nat) (n : Nat) (cI cO : ClassId) (C : Nat → Nat → Int32) (I : Nat → Nat → Nat → Int32) (f : Nat → Int32) : (CW a b n cI cO C I).set 2 (a 2, .inl (cI, 10, .inl f)) = CW a b n cI cO (va_up C 0 f) I := rfl
theorem CW_u1 (a : Nat → Nat) (b : Nat → Nat → Nat) (n : Nat) (cI cO : ClassId) (C : Nat → Nat → Int32) (I : Nat → Nat → Nat → Int32) (f : Nat → Int32) : (CW a b n cI cO C I).set 3 (a 3, .inl (cI, 10, .inl f)) = CW a b n cI cO (va_up C 1 f) I := rfl
theorem CW_u2 (a : Nat → Nat) (b : Nat → Nat → Nat) (n : Nat) (cI cO : ClassId) (C : Nat → Nat → Int32) (I : Nat → Nat → Nat → Int32) (f : Nat → Int32) : (CW a b n cI cO C I).set 4 (a 4, .inl (cI, 10, .inl f)) = CW a b n cI cO (va_up C 2 f) I := rfl
theorem CW_u3 (a : Nat → Nat) (b : Nat → Nat → Nat) (n : Nat) (cI cO : ClassId) (C : Nat → Nat → Int32) (I : Nat → Nat → Nat → Int32) (f : Nat → Int32) : (CW a b n cI cO C I).set 5 (a 5, .inl (cI, 10, .inl f)) = CW a b n cI cO (va_up C 3 f) I := rfl
theorem CW_u5 (a : Nat → Nat) (b : Nat → Nat → Nat) (n : Nat) (cI cO : ClassId) (C : Nat → Nat → Int32) (I : Nat → Nat → Nat → Int32) (f : Nat → Int32) : (CW a b n cI cO C I).set 7 (a 7, .inl (cI, 6, .inl f)) = CW a b n cI cO (va_up C 5 f) I := rfl
theorem CW_u6 (a : Nat → Nat) (b : Nat → Nat → Nat) (n : Nat) (cI cO : ClassId) (C : Nat → Nat → Int32) (I : Nat → Nat → Nat → Int32) (f : Nat → Int32) : (CW a b n cI cO C I).set 8 (a 8, .inl (cI, 5, .inl f)) = CW a b n cI cO (va_up C 6 f) I := rfl
theorem CW_u7 (a : Nat → Nat) (b : Nat → Nat → Nat) (n : Nat) (cI cO : ClassId) (C : Nat → Nat → Int32) (I : Nat → Nat → Nat → Int32) (f : Nat → Int32) : (CW a b n cI cO C I).set 9 (a 9, .inl (cI, 5, .inl f)) = CW a b n cI cO (va_up C 7 f) I := rfl
theorem CW_u11 (a : Nat → Nat) (b : Nat → Nat → Nat) (n : Nat) (cI cO : ClassId) (C : Nat → Nat → Int32) (I : Nat → Nat → Nat → Int32) (f : Nat → Int32) : (CW a b n cI cO C I).set 10 (a 10, .inl (cI, 6, .inl f)) = CW a b n cI cO (va_up C 11 f) I := rfl
theorem CW_t1 (a : Nat → Nat) (b : Nat → Nat → Nat) (n : Nat) (cI cO : ClassId) (C : Nat → Nat → Int32) (I : Nat → Nat → Nat → Int32) {i : Nat} (hi : i < n) (v : Int32) : (CW a b n cI cO C I).set (12 + (6 * i + 0)) (b i 0, .inr (1, (CF1 (b i) (I i)).set 2 (.int v))) = CW a b n cI cO C (va_up I i (va_up (I i) 1 (fun _ => v))) := CW_set a b n cI cO C I hi (by decide) rfl
theorem CW_t2 (a : Nat → Nat) (b : Nat → Nat → Nat) (n : Nat) (cI cO : ClassId) (C : Nat → Nat → Int32) (I : Nat → Nat → Nat → Int32) {i : Nat} (hi : i < n) (v : Int32) : (CW a b n cI cO C I).set (12 + (6 * i + 0)) (b i 0, .inr (1, (CF1 (b i) (I i)).set 3 (.int v))) = CW a b n cI cO C (va_up I i (va_up (I i) 2 (fun _ => v))) := CW_set a b n cI cO C I hi (by decide) rfl
theorem CW_t3 (a : Nat → Nat) (b : Nat → Nat → Nat) (n : Nat) (cI cO : ClassId) (C : Nat → Nat → Int32) (I : Nat → Nat → Nat → Int32) {i : Nat} (hi : i < n) (v : Int32) : (CW a b n cI cO C I).set (12 + (6 * i + 0)) (b i 0, .inr (1, (CF1 (b i) (I i)).set 4 (.int v))) = CW a b n cI cO C (va_up I i (va_up (I i) 3 (fun _ => v))) := CW_set a b n cI cO C I hi (by decide) rfl
theorem CW_t4 (a : Nat → Nat) (b : Nat → Nat → Nat) (n : Nat) (cI cO : ClassId) (C : Nat → Nat → Int32) (I : Nat → Nat → Nat → Int32) {i : Nat} (hi : i < n) (v : Int32) : (CW a b n cI cO C I).set (12 + (6 * i + 0)) (b i 0, .inr (1, (CF1 (b i) (I i)).set 5 (.int v))) = CW a b n cI cO C (va_up I i (va_up (I i) 4 (fun _ => v))) := CW_set a b n cI cO C I hi (by decide) rfl
theorem CW_t8 (a : Nat → Nat) (b : Nat → Nat → Nat) (n : Nat) (cI cO : ClassId) (C : Nat → Nat → Int32) (I : Nat → Nat → Nat → Int32) {i : Nat} (hi : i < n) (v : Int32) : (CW a b n cI cO C I).set (12 + (6 * i + 2)) (b i 2, .inr (2, (CF2 (b i) (I i)).set 3 (.int v))) = CW a b n cI cO C (va_up I i (va_up (I i) 8 (fun _ => v))) := CW_set a b n cI cO C I hi (by decide) rfl
theorem CW_t0 (a : Nat → Nat) (b : Nat → Nat → Nat) (n : Nat) (cI cO : ClassId) (C : Nat → Nat → Int32) (I : Nat → Nat → Nat → Int32) {i : Nat} (hi : i < n) (f : Nat → Int32) : (CW a b n cI cO C I).set (12 + (6 * i + 1)) (b i 1, .inl (cI, 4, .inl f)) = CW a b n cI cO C (va_up I i (va_up (I i) 0 f)) := CW_set a b n cI cO C I hi (by decide) rfl
theorem CW_t5 (a : Nat → Nat) (b : Nat → Nat → Nat) (n : Nat) (cI cO : ClassId) (C : Nat → Nat → Int32) (I : Nat → Nat → Nat → Int32) {i : Nat} (hi : i < n) (f : Nat → Int32) : (CW a b n cI cO C I).set (12 + (6 * i + 3)) (b i 3, .inl (cI, 16, .inl f)) = CW a b n cI cO C (va_up I i (va_up (I i) 5 f)) := CW_set a b n cI cO C I hi (by decide) rfl
theorem CW_t6 (a : Nat → Nat) (b : Nat → Nat → Nat) (n : Nat) (cI cO : ClassId) (C : Nat → Nat → Int32) (I : Nat → Nat → Nat → Int32) {i : Nat} (hi : i < n) (f : Nat → Int32) : (CW a b n cI cO C I).set (12 + (6 * i + 4)) (b i 4, .inl (cI, 16, .inl f)) = CW a b n cI cO C (va_up I i (va_up (I i) 6 f)) := CW_set a b n cI cO C I hi (by decide) rfl
theorem CW_t7 (a : Nat → Nat) (b : Nat → Nat → Nat) (n : Nat) (cI cO : ClassId) (C : Nat → Nat → Int32) (I : Nat → Nat → Nat → Int32) {i : Nat} (hi : i < n) (f : Nat → Int32) : (CW a b n cI cO C I).set (12 + (6 * i + 5)) (b i 5, .inl (cI, 16, .inl f)) = CW a b n cI cO C (va_up I i (va_up (I i) 7 f)) := CW_set a b n cI cO C I hi (by decide) rfl
