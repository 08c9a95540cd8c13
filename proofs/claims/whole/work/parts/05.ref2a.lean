theorem nI_pos1 {n : Nat} (h : ¬ nI n = 0) : 1 ≤ n := by
  cases n with
  | zero => exact absurd rfl h
  | succ n => omega
theorem sub_toInt {a b : Int32} (h1 : -2147483648 ≤ a.toInt - b.toInt) (h2 : a.toInt - b.toInt < 2147483648) : (a - b).toInt = a.toInt - b.toInt := by
  rw [Int32.toInt_sub]
  exact Int.bmod_eq_of_le (by omega) (by omega)
theorem add_toInt {a b : Int32} (h1 : -2147483648 ≤ a.toInt + b.toInt) (h2 : a.toInt + b.toInt < 2147483648) : (a + b).toInt = a.toInt + b.toInt := by
  rw [Int32.toInt_add]
  exact Int.bmod_eq_of_le (by omega) (by omega)
theorem i32_lo (a : Int32) : -2147483648 ≤ a.toInt := Int32.le_toInt a
theorem i32_hi (a : Int32) : a.toInt < 2147483648 := Int32.toInt_lt a
/-- the bytes of the first layers together -/
def sB (f : Nat → Int32) (o : Nat) : Nat → Int
  | 0 => 0
  | k + 1 => sB f o k + (f (o + k)).toInt
theorem sB_same {f g : Nat → Int32} {o : Nat} : ∀ k, (∀ i, i < k → f (o + i) = g (o + i)) → sB f o k = sB g o k
  | 0, _ => rfl
  | k + 1, h => by simp only [sB]; rw [sB_same k (fun i hi => h i (by omega)), h k (by omega)]
theorem sB_nn {f : Nat → Int32} {o : Nat} : ∀ k, (∀ i, i < k → 0 < (f (o + i)).toInt) → 0 ≤ sB f o k
  | 0, _ => by simp [sB]
  | k + 1, h => by
    have h1 := sB_nn k (fun i hi => h i (by omega))
    have h2 := h k (by omega)
    simp only [sB]; omega
