theorem ofI_id {K : Int} (h1 : -2147483648 ≤ K) (h2 : K < 2147483648) : (Int32.ofInt K).toInt = K := by
  exact Int32.toInt_ofInt_of_le (by omega) (by omega)
theorem mul64 {a b : Int64} (h1 : -9223372036854775808 ≤ a.toInt * b.toInt) (h2 : a.toInt * b.toInt < 9223372036854775808) : (a * b).toInt = a.toInt * b.toInt := by
  rw [Int64.toInt_mul]
  exact Int.bmod_eq_of_le (by omega) (by omega)
theorem add64 {a b : Int64} (h1 : -9223372036854775808 ≤ a.toInt + b.toInt) (h2 : a.toInt + b.toInt < 9223372036854775808) : (a + b).toInt = a.toInt + b.toInt := by
  rw [Int64.toInt_add]
  exact Int.bmod_eq_of_le (by omega) (by omega)
theorem l2i (a : Int64) : a.toInt32 = Int32.ofInt a.toInt := by
  conv => lhs; rw [← Int64.ofInt_toInt a]
  exact Int64.toInt32_ofInt
theorem mul_bd {x y A B : Int} (hx : 0 ≤ x ∧ x ≤ A) (hy : 0 ≤ y ∧ y ≤ B) : 0 ≤ x * y ∧ x * y ≤ A * B :=
  ⟨Int.mul_nonneg hx.1 hy.1, Int.mul_le_mul hx.2 hy.2 hy.1 (by omega)⟩
theorem k2 {x y : Int32} (hx : 0 ≤ x.toInt ∧ x.toInt ≤ 1000) (hy : 0 ≤ y.toInt ∧ y.toInt ≤ 100) : ∃ K : Int, (0 ≤ K ∧ K ≤ 100000) ∧ (x.toInt64 * y.toInt64).toInt = K ∧ x * y = Int32.ofInt K ∧ K = x.toInt * y.toInt := by
  have h := mul_bd hx hy
  refine ⟨x.toInt * y.toInt, h, ?_, (ofI_mul x y).symm, rfl⟩
  rw [mul64] <;> rw [Int32.toInt_toInt64, Int32.toInt_toInt64] <;> omega
theorem k3 {x y z : Int32} (hx : 0 ≤ x.toInt ∧ x.toInt ≤ 1000) (hy : 0 ≤ y.toInt ∧ y.toInt ≤ 20) {Z : Int} (hz : 0 ≤ z.toInt ∧ z.toInt ≤ Z) (hZ : Z ≤ 200000) : ∃ K : Int, (0 ≤ K ∧ K ≤ 20000 * Z) ∧ ((x.toInt64 * y.toInt64) * z.toInt64).toInt = K ∧ (x * y) * z = Int32.ofInt K := by
  have h := mul_bd hx hy
  have h2 := mul_bd h hz
  have e : (x.toInt64 * y.toInt64).toInt = x.toInt * y.toInt := by
    rw [mul64] <;> rw [Int32.toInt_toInt64, Int32.toInt_toInt64] <;> omega
  refine ⟨x.toInt * y.toInt * z.toInt, ⟨h2.1, by omega⟩, ?_, ?_⟩
  · rw [mul64] <;> rw [e, Int32.toInt_toInt64] <;> omega
  · rw [Int32.ofInt_mul, ofI_mul, Int32.ofInt_toInt]
theorem cp_iff {a6 : Nat → Int32} {p : Int32} {L : Int64} : f3_canPay a6 p L = 0 ↔ (a6 (tn p)).toInt < L.toInt := by
  unfold f3_canPay
  have := lg_0lt (a := L) (b := (a6 (tn p)).toInt64)
  rw [Int32.toInt_toInt64] at this
  by_cases c : 0 < lg_cmp L (a6 (tn p)).toInt64
  · rw [if_pos c]; have := this.mp c; simp [this]
  · rw [if_neg c]; have := mt this.mpr c; simp; omega
theorem paid {a6 : Nat → Int32} {s10 : Int32} {H Dk Rk : Int} {k : Nat} (h0 : ∀ i, i < 6 → 0 ≤ (a6 i).toInt) (h1 : 0 ≤ s10.toInt) (hH : 0 ≤ H) (h2 : s6 a6 + H + s10.toInt ≤ 600000) (hD : 0 ≤ Dk) (hR : 0 ≤ Rk) (hk : k < 6) (hc : Dk + Rk ≤ (a6 k).toInt) :
    (∀ i, i < 6 → 0 ≤ (upd a6 k (a6 k - Int32.ofInt (Dk + Rk)) i).toInt) ∧ 0 ≤ (s10 + Int32.ofInt Rk).toInt ∧ s6 (upd a6 k (a6 k - Int32.ofInt (Dk + Rk))) + (H + Dk) + (s10 + Int32.ofInt Rk).toInt ≤ 600000 := by
  have hle := s6_le h0 hk
  have hs := i32_hi (a6 k)
  have e1 : (Int32.ofInt (Dk + Rk)).toInt = Dk + Rk := ofI_id (by omega) (by omega)
  have e2 : (Int32.ofInt Rk).toInt = Rk := ofI_id (by omega) (by omega)
  have e3 : (a6 k - Int32.ofInt (Dk + Rk)).toInt = (a6 k).toInt - (Dk + Rk) := by rw [sub_toInt (by omega) (by omega), e1]
  have hq : 0 ≤ s6 a6 := by have := h0 k hk; omega
  have e4 : (s10 + Int32.ofInt Rk).toInt = s10.toInt + Rk := by rw [add_toInt (by omega) (by omega), e2]
  refine ⟨fun i hi => ?_, by omega, ?_⟩
  · by_cases e : i = k
    · rw [e, upd_self]; omega
    · rw [upd_ne _ _ e]; exact h0 i hi
  · rw [s6_upd hk]; omega
theorem RI.cong {I I' : Nat → Nat → Nat → Int32} {a13 a14 a15 a16 a17 a18 a19 a20 a21 b13 b14 b15 b16 b17 b18 b19 b20 b21 : Nat → Int32} {x : Nat} (h : RI I a13 a14 a15 a16 a17 a18 a19 a20 a21 x) (e : I' x = I x) (e13 : b13 x = a13 x) (e14 : b14 x = a14 x) (e15 : ∀ k, k < 4 → b15 (4 * x + k) = a15 (4 * x + k)) (e16 : b16 x = a16 x) (e17 : b17 x = a17 x) (e18 : b18 x = a18 x) (eL : ∀ k, k < tn (a18 x) → b19 (16 * x + k) = a19 (16 * x + k) ∧ b20 (16 * x + k) = a20 (16 * x + k) ∧ b21 (16 * x + k) = a21 (16 * x + k)) : RI I' b13 b14 b15 b16 b17 b18 b19 b20 b21 x := by
  obtain ⟨r1, r2, r3, r4, r8, r0, r5⟩ := h
  rw [RI, e, e13, e14, e16, e17, e18]
  refine ⟨r1, r2, r3, r4, r8, fun k hk => by rw [e15 k hk]; exact r0 k hk, fun k hk => ?_⟩
  obtain ⟨q1, q2, q3⟩ := eL k hk
  rw [q1, q2, q3]; exact r5 k hk
theorem OKx.cong {s0 t0 : Int32} {a13 a14 a16 a17 a18 a19 a20 a21 b13 b14 b16 b17 b18 b19 b20 b21 : Nat → Int32} {x : Nat} (h : OKx s0 a13 a14 a16 a17 a18 a19 a20 a21 x) (e0 : t0 = s0) (e13 : b13 x = a13 x) (e14 : b14 x = a14 x) (e16 : b16 x = a16 x) (e17 : b17 x = a17 x) (e18 : b18 x = a18 x) (eL : ∀ k, k < tn (a18 x) → b19 (16 * x + k) = a19 (16 * x + k) ∧ b20 (16 * x + k) = a20 (16 * x + k) ∧ b21 (16 * x + k) = a21 (16 * x + k)) : OKx t0 b13 b14 b16 b17 b18 b19 b20 b21 x := by
  obtain ⟨k1, k2, k3, k4, k5, k6, k7, k8, k9⟩ := h
  rw [OKx, e0, e13, e14, e16, e17, e18]
  refine ⟨k1, k2, k3, k4, k5, k6, k7, fun k hk => ?_, fun hn => ?_⟩
  · obtain ⟨q1, q2, q3⟩ := eL k hk
    rw [q1, q2, q3]; exact k8 k hk
  · rw [sB_same _ (fun i hi => (eL i hi).1)]; exact k9 hn
section
variable {n : Nat} {u8 : Int32} {I : Nat → Nat → Nat → Int32} {s0 s1 : Int32} {a2 a3 a4 a5 a6 a7 a8 a9 : Nat → Int32} {s10 s11 s12 : Int32} {a13 a14 a15 a16 a17 a18 a19 a20 a21 : Nat → Int32}
theorem RSt.hnn (h : RSt n u8 I s0 s1 a3 a4 a5 a6 a9 s10 s12 a13 a14 a15 a16 a17 a18 a19 a20 a21) : 0 ≤ hI a18 a19 a20 (tn s12) := hI_nn _ (fun x hx i hi => by
  obtain ⟨-, -, -, -, -, -, -, -, k8, -⟩ := h.2.2.2.2.2 x hx
  obtain ⟨q1, q2, -⟩ := k8 i hi
  exact ⟨by omega, q2.1⟩)
theorem RSt.price (h : RSt n u8 I s0 s1 a3 a4 a5 a6 a9 s10 s12 a13 a14 a15 a16 a17 a18 a19 a20 a21) : 0 ≤ (f5_price s0 s1 a2 a3).toInt ∧ (f5_price s0 s1 a2 a3).toInt ≤ 100 :=
  (h.1.2.2.2 _ (ed_lt a2 s0 h.1.2.1 h.1.2.2.1)).1
theorem RSt.rent (h : RSt n u8 I s0 s1 a3 a4 a5 a6 a9 s10 s12 a13 a14 a15 a16 a17 a18 a19 a20 a21) : 0 ≤ (f5_rent s0 s1 a2 a4).toInt ∧ (f5_rent s0 s1 a2 a4).toInt ≤ 20 :=
  (h.1.2.2.2 _ (ed_lt a2 s0 h.1.2.1 h.1.2.2.1)).2.1
theorem RSt.charged (h : RSt n u8 I s0 s1 a3 a4 a5 a6 a9 s10 s12 a13 a14 a15 a16 a17 a18 a19 a20 a21) : ∃ B : Int, (1 ≤ B ∧ B ≤ 64) ∧ ∀ p : Int32, (f5_charged s0 s1 a2 a5 p).toInt = max p.toInt B := by
  refine ⟨_, (h.1.2.2.2 _ (ed_lt a2 s0 h.1.2.1 h.1.2.2.1)).2.2, fun p => ?_⟩
  unfold f5_charged
  split
  · rename_i c; have := i32_le.mp c; omega
  · rename_i c; have := mt i32_le.mpr c; omega
theorem rentOf_eq (h : 1 ≤ tn s1) (x z : Int32) : f4_rentOf a2 a4 s1 s0 x z = (x.toInt64 * (f5_rent s0 s1 a2 a4).toInt64) * z.toInt64 := by
  unfold f4_rentOf f0_rentOn f5_rent
  rw [ed_same _ _ h]
theorem priceOn_eq (h : 1 ≤ tn s1) : f0_priceOn a2 a3 s1 s0 = f5_price s0 s1 a2 a3 := by
  unfold f0_priceOn f5_price
  rw [ed_same _ _ h]
theorem acc_lt {p : Int32} (h : ¬ f5_in p.toInt64 0 5 = 0) : tn p < 6 ∧ 0 ≤ p.toInt ∧ p.toInt ≤ 5 := by
  obtain ⟨t, ht, e⟩ := in_small h 5 rfl
  have := in_i h
  exact ⟨by rw [e, tn_nI (by omega)]; omega, this.1, this.2⟩
theorem q_pay (h : RSt n u8 I s0 s1 a3 a4 a5 a6 a9 s10 s12 a13 a14 a15 a16 a17 a18 a19 a20 a21) (p1 p2 p3 : Int32) :
    (f4_pay a2 a4 a5 s1 a6 u8 s10 s12 s0 I p1 p2 p3).1 = (f5_pay s0 s1 a2 a4 a5 a6 s10 s12 a14 a16 a17 p1 p2 p3).1 ∧ (f4_pay a2 a4 a5 s1 a6 u8 s10 s12 s0 I p1 p2 p3).2.1 = (f5_pay s0 s1 a2 a4 a5 a6 s10 s12 a14 a16 a17 p1 p2 p3).2.1 ∧ (f4_pay a2 a4 a5 s1 a6 u8 s10 s12 s0 I p1 p2 p3).2.2.2.1 = (f5_pay s0 s1 a2 a4 a5 a6 s10 s12 a14 a16 a17 p1 p2 p3).2.2.1 ∧
    RSt n (f4_pay a2 a4 a5 s1 a6 u8 s10 s12 s0 I p1 p2 p3).2.2.1 (f4_pay a2 a4 a5 s1 a6 u8 s10 s12 s0 I p1 p2 p3).2.2.2.2 s0 s1 a3 a4 a5 (f5_pay s0 s1 a2 a4 a5 a6 s10 s12 a14 a16 a17 p1 p2 p3).2.1 a9 (f5_pay s0 s1 a2 a4 a5 a6 s10 s12 a14 a16 a17 p1 p2 p3).2.2.1 s12 a13 a14 a15 (f5_pay s0 s1 a2 a4 a5 a6 s10 s12 a14 a16 a17 p1 p2 p3).2.2.2 a17 a18 a19 a20 a21 := by
  unfold f4_pay f5_pay
  simp only [no_iff, na_iff, ia_iff, wi_in (lo := 1) (hi := 100) (lo' := 1) (hi' := 100) rfl rfl]
  by_cases c1 : f4_within p1 0 (s12 - 1) = 0
  · simp only [c1, if_true, if_false, not_true_eq_false]; exact ⟨trivial, trivial, trivial, h⟩
  obtain ⟨x, hx, e, -, ⟨r1, r2, r3, r4, r8, r0, r5⟩, k1, k2, k3', k4, k5, k6, k7, k8, k9⟩ := h.find c1
  by_cases c2 : f5_in p2.toInt64 0 5 = 0
  · simp only [c1, c2, if_true, if_false, not_true_eq_false, not_false_eq_true]; exact ⟨trivial, trivial, trivial, h⟩
  by_cases c3 : f5_in p3.toInt64 1 100 = 0
  · simp only [c1, c2, c3, if_true, if_false, not_true_eq_false, not_false_eq_true]; exact ⟨trivial, trivial, trivial, h⟩
  simp only [c1, c2, c3, if_true, if_false, not_true_eq_false, not_false_eq_true, e, r2, r3, r4, rentOf_eq h.1.2.1, ch_same _ _ _ h.1.2.1, cp_iff]
  by_cases c4 : a17 x = 0
  rotate_left
  · simp only [c4, if_false]; exact ⟨trivial, trivial, trivial, h⟩
  by_cases c5 : a16 x + p3 ≤ s0 + 400
  rotate_left
  · simp only [c4, c5, if_true, if_false]; exact ⟨trivial, trivial, trivial, h⟩
  obtain ⟨B, hB, hch⟩ := h.charged (a2 := a2)
  have hch' := hch (a14 x)
  have b3 := in_i c3
  have b3a : (1 : Int64).toInt = 1 := rfl
  have b3b : (100 : Int64).toInt = 100 := rfl
  obtain ⟨K, hK, hK1, hK2⟩ := k3 (x := f5_charged s0 s1 a2 a5 (a14 x)) (y := f5_rent s0 s1 a2 a4) (z := p3) (Z := 100) (by omega) h.rent (by omega) (by omega)
  simp only [c4, c5, if_true, hK1, hK2]
  have eK : (Int32.ofInt K).toInt = K := ofI_id (by omega) (by omega)
  by_cases c6 : Int32.ofInt K ≤ a6 (tn p2)
  rotate_left
  · have c6' : (a6 (tn p2)).toInt < K := by have := mt i32_le.mpr c6; omega
    simp only [c6, c6', if_true, if_false]; exact ⟨trivial, trivial, trivial, h⟩
  have c6' : ¬ (a6 (tn p2)).toInt < K := by have := i32_le.mp c6; omega
  have eP : (0 + (f5_charged s0 s1 a2 a5 (a14 x)).toInt64 * (f5_rent s0 s1 a2 a4).toInt64 * p3.toInt64).toInt32 = Int32.ofInt K := by
    rw [Int64.zero_add, l2i, hK1]
  have eP2 : ((f5_charged s0 s1 a2 a5 (a14 x)).toInt64 * (f5_rent s0 s1 a2 a4).toInt64 * p3.toInt64).toInt32 = Int32.ofInt K := by
    rw [l2i, hK1]
  have eZ : (0 : Int64).toInt32 = 0 := rfl
  simp only [c6, c6', if_true, if_false, f3_takeFrom, eP, eP2, eZ, Int32.add_zero]
  refine ⟨trivial, trivial, trivial, ?_⟩
  obtain ⟨hA, hB0, ⟨hC1, hC2, hC3, hC4⟩, hD, hE, hF⟩ := h
  have pd := paid (Dk := 0) (Rk := K) (k := tn p2) hC1 hC2 (RSt.hnn ⟨hA, hB0, ⟨hC1, hC2, hC3, hC4⟩, hD, hE, hF⟩) hC3 (by omega) (by omega) (acc_lt c2).1 (by omega)
  rw [Int.zero_add, Int.add_zero] at pd
  refine ⟨hA, hB0, ⟨pd.1, pd.2.1, pd.2.2, hC4⟩, hD, hE, fun y hy => ?_⟩
  by_cases ey : y = x
  · subst ey
    have ea : (a16 y + p3).toInt = (a16 y).toInt + p3.toInt := add_toInt (by omega) (by omega)
    have es : (s0 + 400).toInt = s0.toInt + 400 := add_toInt (by have : (400 : Int32).toInt = 400 := rfl; omega) (by have : (400 : Int32).toInt = 400 := rfl; omega)
    have c5' := i32_le.mp c5
    refine ⟨?_, k1, k2, ?_, ?_, ?_, k6, k7, k8, k9⟩
    · rw [RI, va_up_self, upd_self]
      exact ⟨r1, rfl, rfl, c4.symm, r8, r0, r5⟩
    · rw [upd_self]; omega
    · intro; rw [upd_self]; have := k4 c4; omega
    · intro h1; rw [c4] at h1; exact absurd h1 (by decide)
  · obtain ⟨q1, q2⟩ := hF y hy
    exact ⟨q1.cong (va_up_ne _ _ ey) rfl rfl (fun _ _ => rfl) (upd_ne _ _ ey) rfl rfl (fun _ _ => ⟨rfl, rfl, rfl⟩), q2.cong rfl rfl rfl (upd_ne _ _ ey) rfl rfl (fun _ _ => ⟨rfl, rfl, rfl⟩)⟩
end
section
variable {n : Nat} {u8 : Int32} {I : Nat → Nat → Nat → Int32} {s0 s1 : Int32} {a2 a3 a4 a5 a6 a7 a8 a9 : Nat → Int32} {s10 s11 s12 : Int32} {a13 a14 a15 a16 a17 a18 a19 a20 a21 : Nat → Int32}
theorem q_write (h : RSt n u8 I s0 s1 a3 a4 a5 a6 a9 s10 s12 a13 a14 a15 a16 a17 a18 a19 a20 a21) (p1 p2 p3 : Int32) :
    (f4_write s12 I p1 p2 p3).1 = (f5_write s12 a15 a17 p1 p2 p3).1 ∧ RSt n u8 (f4_write s12 I p1 p2 p3).2 s0 s1 a3 a4 a5 a6 a9 s10 s12 a13 a14 (f5_write s12 a15 a17 p1 p2 p3).2 a16 a17 a18 a19 a20 a21 := by
  unfold f4_write f5_write
  simp only [no_iff, wi_in (lo := 0) (hi := 3) (lo' := 0) (hi' := 3) rfl rfl]
  by_cases c1 : f4_within p1 0 (s12 - 1) = 0
  · simp only [c1, if_true, if_false, not_true_eq_false]; exact ⟨trivial, h⟩
  obtain ⟨x, hx, e, -, ⟨r1, r2, r3, r4, r8, r0, r5⟩, hok⟩ := h.find c1
  by_cases c2 : f5_in p2.toInt64 0 3 = 0
  · simp only [c1, c2, if_true, if_false, not_false_eq_true]; exact ⟨trivial, h⟩
  simp only [c1, c2, if_true, if_false, not_false_eq_true, e, r4]
  by_cases c4 : a17 x = 0
  rotate_left
  · simp only [c4, if_false]; exact ⟨trivial, h⟩
  simp only [c4, if_true]
  refine ⟨trivial, ?_⟩
  obtain ⟨t, ht, rfl⟩ := in_small c2 3 rfl
  rw [tn_nI (by omega)]
  obtain ⟨hA, hB0, hC, hD, hE, hF⟩ := h
  refine ⟨hA, hB0, hC, hD, hE, fun y hy => ?_⟩
  by_cases ey : y = x
  · subst ey
    refine ⟨?_, hok⟩
    rw [RI, va_up_self]
    refine ⟨r1, r2, r3, c4.symm, r8, fun k hk => ?_, r5⟩
    show upd (I y 0) t p3 k = _
    by_cases ek : k = t
    · rw [ek, upd_self, upd_self]
    · rw [upd_ne _ _ ek, upd_ne _ _ (by omega)]; exact r0 k hk
  · obtain ⟨q1, q2⟩ := hF y hy
    exact ⟨q1.cong (va_up_ne _ _ ey) rfl rfl (fun k hk => upd_ne _ _ (by omega)) rfl rfl rfl (fun _ _ => ⟨rfl, rfl, rfl⟩), q2⟩
theorem q_back (h : RSt n u8 I s0 s1 a3 a4 a5 a6 a9 s10 s12 a13 a14 a15 a16 a17 a18 a19 a20 a21) (p1 p2 p3 p4 : Int32) :
    (f4_back a2 a4 a5 s1 a6 u8 s10 a7 s12 s0 I p1 p2 p3 p4).1 = (f5_back s0 s1 a2 a4 a5 a6 a7 s10 s12 a13 a14 a15 a16 a17 p1 p2 p3 p4).1 ∧ (f4_back a2 a4 a5 s1 a6 u8 s10 a7 s12 s0 I p1 p2 p3 p4).2.1 = (f5_back s0 s1 a2 a4 a5 a6 a7 s10 s12 a13 a14 a15 a16 a17 p1 p2 p3 p4).2.1 ∧ (f4_back a2 a4 a5 s1 a6 u8 s10 a7 s12 s0 I p1 p2 p3 p4).2.2.2.1 = (f5_back s0 s1 a2 a4 a5 a6 a7 s10 s12 a13 a14 a15 a16 a17 p1 p2 p3 p4).2.2.1 ∧
    RSt n (f4_back a2 a4 a5 s1 a6 u8 s10 a7 s12 s0 I p1 p2 p3 p4).2.2.1 (f4_back a2 a4 a5 s1 a6 u8 s10 a7 s12 s0 I p1 p2 p3 p4).2.2.2.2 s0 s1 a3 a4 a5 (f5_back s0 s1 a2 a4 a5 a6 a7 s10 s12 a13 a14 a15 a16 a17 p1 p2 p3 p4).2.1 a9 (f5_back s0 s1 a2 a4 a5 a6 a7 s10 s12 a13 a14 a15 a16 a17 p1 p2 p3 p4).2.2.1 s12 a13 a14 a15 (f5_back s0 s1 a2 a4 a5 a6 a7 s10 s12 a13 a14 a15 a16 a17 p1 p2 p3 p4).2.2.2.1 (f5_back s0 s1 a2 a4 a5 a6 a7 s10 s12 a13 a14 a15 a16 a17 p1 p2 p3 p4).2.2.2.2 a18 a19 a20 a21 := by
  unfold f4_back f5_back
  simp only [no_iff, na_iff, ia_iff, wi_in (lo := 1) (hi := 100) (lo' := 1) (hi' := 100) rfl rfl]
  by_cases c1 : f4_within p1 0 (s12 - 1) = 0
  · simp only [c1, if_true, if_false, not_true_eq_false]; exact ⟨trivial, trivial, trivial, h⟩
  obtain ⟨x, hx, e, -, ⟨r1, r2, r3, r4, r8, r0, r5⟩, k1, k2, k3', k4, k5, k6, k7, k8, k9⟩ := h.find c1
  by_cases c2 : f5_in p2.toInt64 0 5 = 0
  · simp only [c1, c2, if_true, if_false, not_true_eq_false, not_false_eq_true]; exact ⟨trivial, trivial, trivial, h⟩
  by_cases c3 : f5_in p4.toInt64 1 100 = 0
  · simp only [c1, c2, c3, if_true, if_false, not_false_eq_true]; exact ⟨trivial, trivial, trivial, h⟩
  have hdg := h.digest hx
  rw [r2] at hdg
  simp only [c1, c2, c3, if_true, if_false, not_false_eq_true, e, r1, r2, hdg, r3, r4, rentOf_eq h.1.2.1, ch_same _ _ _ h.1.2.1, cp_iff, h.caps k1, lg_0le, Int32.toInt_toInt64]
  by_cases c4 : a17 x = 1
  rotate_left
  · simp only [c4, if_false]; exact ⟨trivial, trivial, trivial, h⟩
  by_cases c5 : p3 = f5_digestOf a14 a15 x
  rotate_left
  · simp only [c4, c5, if_true, if_false]; exact ⟨trivial, trivial, trivial, h⟩
  by_cases c7 : f5_isCapped a7 s12 a13 a14 a17 (a13 x) (a14 x) = 0
  rotate_left
  · simp only [c4, c5, c7, if_true, if_false, not_false_eq_true]; exact ⟨trivial, trivial, trivial, h⟩
  obtain ⟨B, hB, hch⟩ := h.charged (a2 := a2)
  have hch' := hch (a14 x)
  have b3 := in_i c3
  have b3a : (1 : Int64).toInt = 1 := rfl
  have b3b : (100 : Int64).toInt = 100 := rfl
  have b5 := k5 c4
  have hs0 := h.2.1
  have ez : p4 + s0 - a16 x = s0 - a16 x + p4 := by grind
  have e1 : (s0 - a16 x).toInt = s0.toInt - (a16 x).toInt := sub_toInt (by omega) (by omega)
  have e2 : (s0 - a16 x + p4).toInt = s0.toInt - (a16 x).toInt + p4.toInt := by rw [add_toInt (by omega) (by omega), e1]
  rw [ez]
  obtain ⟨K, hK, hK1, hK2⟩ := k3 (x := f5_charged s0 s1 a2 a5 (a14 x)) (y := f5_rent s0 s1 a2 a4) (z := s0 - a16 x + p4) (Z := 200000) (by omega) h.rent (by omega) (by omega)
  simp only [c4, c5, c7, if_true, if_false, not_true_eq_false, hK1]
  by_cases c6 : K ≤ (a6 (tn p2)).toInt
  rotate_left
  · have c6' : (a6 (tn p2)).toInt < K := by omega
    simp only [c6, c6', if_true, if_false]; exact ⟨trivial, trivial, trivial, h⟩
  have c6' : ¬ (a6 (tn p2)).toInt < K := by omega
  have eP2 : ((f5_charged s0 s1 a2 a5 (a14 x)).toInt64 * (f5_rent s0 s1 a2 a4).toInt64 * (s0 - a16 x + p4).toInt64).toInt32 = Int32.ofInt K := by
    rw [l2i, hK1]
  have eZ : (0 : Int64).toInt32 = 0 := rfl
  simp only [c6, c6', if_true, if_false, f3_takeFrom, Int64.zero_add, eP2, eZ, Int32.add_zero]
  refine ⟨trivial, trivial, trivial, ?_⟩
  obtain ⟨hA, hB0, ⟨hC1, hC2, hC3, hC4⟩, hD, hE, hF⟩ := h
  have pd := paid (Dk := 0) (Rk := K) (k := tn p2) hC1 hC2 (RSt.hnn ⟨hA, hB0, ⟨hC1, hC2, hC3, hC4⟩, hD, hE, hF⟩) hC3 (by omega) (by omega) (acc_lt c2).1 (by omega)
  rw [Int.zero_add, Int.add_zero] at pd
  refine ⟨hA, hB0, ⟨pd.1, pd.2.1, pd.2.2, hC4⟩, hD, hE, fun y hy => ?_⟩
  by_cases ey : y = x
  · subst ey
    have ea : (s0 + p4).toInt = s0.toInt + p4.toInt := add_toInt (by omega) (by omega)
    refine ⟨?_, k1, k2, ?_, ?_, ?_, k6, k7, k8, ?_⟩
    · rw [RI, va_up_self, upd_self, upd_self]
      exact ⟨rfl, rfl, rfl, rfl, r8, r0, r5⟩
    · rw [upd_self]; omega
    · intro; rw [upd_self]; omega
    · intro h1; rw [upd_self] at h1; exact absurd h1 (by decide)
    · intro _; exact k9 (by rw [c4]; decide)
  · obtain ⟨q1, q2⟩ := hF y hy
    exact ⟨q1.cong (va_up_ne _ _ ey) rfl rfl (fun _ _ => rfl) (upd_ne _ _ ey) (upd_ne _ _ ey) rfl (fun _ _ => ⟨rfl, rfl, rfl⟩), q2.cong rfl rfl rfl (upd_ne _ _ ey) (upd_ne _ _ ey) rfl (fun _ _ => ⟨rfl, rfl, rfl⟩)⟩
end
/-- bytes come: a layer is put on top, or the newest grows -/
def ptP (x : Nat) (p3 P p2 : Int32) (a18 a19 a20 a21 : Nat → Int32) (r : (Nat → Int32) × (Nat → Int32) × (Nat → Int32) × Int32) (R : (Nat → Int32) × (Nat → Int32) × (Nat → Int32) × (Nat → Int32)) : Prop :=
  R.1 x = r.2.2.2 ∧ (∀ y, y ≠ x → R.1 y = a18 y) ∧ r.2.2.2 = nI (tn r.2.2.2) ∧ tn r.2.2.2 ≤ 16 ∧ (∀ k, k < tn r.2.2.2 → (r.1 k = R.2.1 (16 * x + k) ∧ r.2.1 k = R.2.2.1 (16 * x + k) ∧ r.2.2.1 k = R.2.2.2 (16 * x + k)) ∧ 0 < (R.2.1 (16 * x + k)).toInt ∧ (0 ≤ (R.2.2.1 (16 * x + k)).toInt ∧ (R.2.2.1 (16 * x + k)).toInt ≤ 100) ∧ (0 ≤ (R.2.2.2 (16 * x + k)).toInt ∧ (R.2.2.2 (16 * x + k)).toInt ≤ 5)) ∧ (∀ i, (i < 16 * x ∨ 16 * x + 16 ≤ i) → R.2.1 i = a19 i ∧ R.2.2.1 i = a20 i ∧ R.2.2.2 i = a21 i) ∧ sB R.2.1 (16 * x) (tn r.2.2.2) = sB a19 (16 * x) (tn (a18 x)) + p3.toInt ∧ wK R.2.1 R.2.2.1 (16 * x) (tn r.2.2.2) = wK a19 a20 (16 * x) (tn (a18 x)) + p3.toInt * P.toInt
theorem sB_top {f : Nat → Int32} {o m : Nat} (h : ∀ i, i < m + 1 → 0 < (f (o + i)).toInt) : (f (o + m)).toInt ≤ sB f o (m + 1) := by
  have := sB_nn (f := f) (o := o) m (fun i hi => h i (by omega))
  rw [sB]; omega
theorem jn_iff {s0 s1 : Int32} {a2 a3 a18 a20 a21 b6 b7 : Nat → Int32} {x : Nat} {p2 : Int32} (h18 : a18 x = nI (tn (a18 x))) (h16 : tn (a18 x) ≤ 16) (hL : ∀ k, k < tn (a18 x) → b6 k = a20 (16 * x + k) ∧ b7 k = a21 (16 * x + k)) : f2_joinsNewest b6 b7 (a18 x) (f5_price s0 s1 a2 a3) p2 = 0 ↔ ¬ f5_needsLayer s0 s1 a2 a3 a18 a20 a21 x p2 = 0 := by
  unfold f2_joinsNewest f5_needsLayer
  by_cases c : tn (a18 x) = 0
  · rw [c, if_pos (by decide), if_pos (by decide)]; decide
  · obtain ⟨m, hm⟩ : ∃ m, tn (a18 x) = m + 1 := ⟨tn (a18 x) - 1, by omega⟩
    obtain ⟨e6, e7⟩ := hL m (by omega)
    have t : (nI (m + 1)).toInt = (m + 1 : Nat) := Int32.toInt_ofNat_of_lt (by omega)
    have n1 : ¬ nI (m + 1) ≤ 0 := fun hh => by have := i32_le.mp hh; rw [t, z_toInt] at this; omega
    have n2 : ¬ nI (m + 1) = 0 := fun hh => by have := congrArg Int32.toInt hh; rw [t, z_toInt] at this; omega
    rw [hm, if_neg n1, if_neg n2, Nat.add_sub_cancel, e6, e7]
    by_cases d : a20 (16 * x + m) = f5_price s0 s1 a2 a3
    · rw [if_pos d, if_pos d]; split <;> simp
    · rw [if_neg d, if_neg d]; simp
theorem put_same {s0 s1 : Int32} {a2 a3 a18 a19 a20 a21 b5 b6 b7 : Nat → Int32} {x : Nat} {p2 p3 : Int32} (h18 : a18 x = nI (tn (a18 x))) (h16 : tn (a18 x) ≤ 16) (hL : ∀ k, k < tn (a18 x) → b5 k = a19 (16 * x + k) ∧ b6 k = a20 (16 * x + k) ∧ b7 k = a21 (16 * x + k)) (hO : ∀ k, k < tn (a18 x) → 0 < (a19 (16 * x + k)).toInt ∧ (0 ≤ (a20 (16 * x + k)).toInt ∧ (a20 (16 * x + k)).toInt ≤ 100) ∧ (0 ≤ (a21 (16 * x + k)).toInt ∧ (a21 (16 * x + k)).toInt ≤ 5)) (hr : tn (a18 x) < 16 ∨ f5_needsLayer s0 s1 a2 a3 a18 a20 a21 x p2 = 0) (hp3 : 0 < p3.toInt ∧ p3.toInt ≤ 1000) (hP : 0 ≤ (f5_price s0 s1 a2 a3).toInt ∧ (f5_price s0 s1 a2 a3).toInt ≤ 100) (hp2 : 0 ≤ p2.toInt ∧ p2.toInt ≤ 5) (hs : sB a19 (16 * x) (tn (a18 x)) ≤ 1000) :
    ptP x p3 (f5_price s0 s1 a2 a3) p2 a18 a19 a20 a21 (f2_put b5 b6 b7 (a18 x) p3 (f5_price s0 s1 a2 a3) p2) (f5_comes s0 s1 a2 a3 a18 a19 a20 a21 x p2 p3) := by
  have hj := jn_iff (s0 := s0) (s1 := s1) (a2 := a2) (a3 := a3) (b6 := b6) (b7 := b7) (a21 := a21) (a20 := a20) (p2 := p2) h18 h16 (fun k hk => (hL k hk).2)
  unfold f2_put f5_comes
  by_cases c : f5_needsLayer s0 s1 a2 a3 a18 a20 a21 x p2 = 0
  · have c' : ¬ f2_joinsNewest b6 b7 (a18 x) (f5_price s0 s1 a2 a3) p2 = 0 := fun hh => (hj.mp hh) c
    have hpos : 1 ≤ tn (a18 x) := by
      unfold f5_needsLayer at c
      by_cases d : nI (tn (a18 x)) = 0
      · rw [if_pos d] at c; exact absurd c (by decide)
      · exact nI_pos1 d
    have hpr : a20 (16 * x + (tn (a18 x) - 1)) = f5_price s0 s1 a2 a3 := by
      unfold f5_needsLayer at c
      by_cases d : nI (tn (a18 x)) = 0
      · rw [if_pos d] at c; exact absurd c (by decide)
      · rw [if_neg d] at c
        by_cases g : a20 (16 * x + (tn (a18 x) - 1)) = f5_price s0 s1 a2 a3
        · exact g
        · rw [if_neg g] at c; exact absurd c (by decide)
    rw [if_pos c, if_neg c']
    obtain ⟨m, hm⟩ : ∃ m, tn (a18 x) = m + 1 := ⟨tn (a18 x) - 1, by omega⟩
    rw [hm] at hs hL hO hpr
    rw [Nat.add_sub_cancel] at hpr
    have htop := sB_top (f := a19) (o := 16 * x) (m := m) (fun i hi => (hO i hi).1)
    obtain ⟨g1, g2, g3⟩ := hL m (by omega)
    obtain ⟨o1, o2, o3⟩ := hO m (by omega)
    have ea : (a19 (16 * x + m) + p3).toInt = (a19 (16 * x + m)).toInt + p3.toInt := add_toInt (by omega) (by omega)
    simp only [hm, Nat.add_sub_cancel]
    refine ⟨rfl, fun _ _ => rfl, h18, h16, fun k hk => ?_, fun i hi => ⟨upd_ne _ _ (by omega), rfl, rfl⟩, ?_, ?_⟩
    · have hk : k < m + 1 := by rw [← hm]; exact hk
      obtain ⟨f1, f2, f3⟩ := hL k hk
      obtain ⟨d1, d2, d3⟩ := hO k hk
      dsimp only
      by_cases ek : k = m
      · subst ek
        rw [upd_self, upd_self, g1]
        exact ⟨⟨rfl, f2, f3⟩, by omega, d2, d3⟩
      · rw [upd_ne _ _ (show 16 * x + k ≠ 16 * x + m by omega), upd_ne _ _ ek]
        exact ⟨⟨f1, f2, f3⟩, d1, d2, d3⟩
    · show sB (upd a19 (16 * x + m) (a19 (16 * x + m) + p3)) (16 * x) (tn (a18 x)) = sB a19 (16 * x) (tn (a18 x)) + p3.toInt
      rw [hm, sB, sB, upd_self, ea, sB_same (f := upd a19 (16 * x + m) (a19 (16 * x + m) + p3)) (g := a19) m (fun i hi => upd_ne _ _ (by omega))]; omega
    · show wK (upd a19 (16 * x + m) (a19 (16 * x + m) + p3)) a20 (16 * x) (tn (a18 x)) = wK a19 a20 (16 * x) (tn (a18 x)) + p3.toInt * _
      rw [hm, wK, wK, upd_self, ea, wK_same (f := upd a19 (16 * x + m) (a19 (16 * x + m) + p3)) (f' := a19) (g := a20) (g' := a20) (o := 16 * x) (o' := 16 * x) m (fun i hi => ⟨upd_ne _ _ (by omega), rfl⟩), hpr, Int.add_mul]; omega
  · have c' : f2_joinsNewest b6 b7 (a18 x) (f5_price s0 s1 a2 a3) p2 = 0 := hj.mpr c
    have hlt : tn (a18 x) < 16 := hr.resolve_right c
    generalize hm : tn (a18 x) = m at *
    have t : (nI m).toInt = (m : Nat) := Int32.toInt_ofNat_of_lt (by omega)
    have n1 : ¬ 16 ≤ nI m := fun hh => by have := i32_le.mp hh; rw [t] at this; have : (16 : Int32).toInt = 16 := rfl; omega
    rw [if_neg c, if_pos c', if_neg n1]
    have tm : tn (nI (m + 1)) = m + 1 := tn_nI (by omega)
    refine ⟨upd_self _ _ _, fun y hy => upd_ne _ _ hy, ?_, ?_, fun k hk => ?_, fun i hi => ⟨?_, ?_, ?_⟩, ?_, ?_⟩
    · show nI (m + 1) = nI (tn (nI (m + 1))); rw [tm]
    · show tn (nI (m + 1)) ≤ 16; rw [tm]; omega
    · have hk : k < m + 1 := by rw [← tm]; exact hk
      show (upd b5 m p3 k = upd (upd a19 (16 * x + m) 0) (16 * x + m) (upd a19 (16 * x + m) 0 (16 * x + m) + p3) (16 * x + k) ∧ upd b6 m _ k = upd a20 (16 * x + m) _ (16 * x + k) ∧ upd b7 m p2 k = upd a21 (16 * x + m) p2 (16 * x + k)) ∧ 0 < (upd (upd a19 (16 * x + m) 0) (16 * x + m) (upd a19 (16 * x + m) 0 (16 * x + m) + p3) (16 * x + k)).toInt ∧ (0 ≤ (upd a20 (16 * x + m) _ (16 * x + k)).toInt ∧ (upd a20 (16 * x + m) _ (16 * x + k)).toInt ≤ 100) ∧ 0 ≤ (upd a21 (16 * x + m) p2 (16 * x + k)).toInt ∧ (upd a21 (16 * x + m) p2 (16 * x + k)).toInt ≤ 5
      by_cases ek : k = m
      · subst ek
        simp only [upd_self, Int32.zero_add]
        exact ⟨⟨trivial, trivial, trivial⟩, hp3.1, hP, hp2⟩
      · have e16 : 16 * x + k ≠ 16 * x + m := by omega
        simp only [upd_ne _ _ ek, upd_ne _ _ e16]
        exact ⟨hL k (by omega), hO k (by omega)⟩
    · show upd (upd a19 (16 * x + m) 0) (16 * x + m) _ i = a19 i
      rw [upd_ne _ _ (by omega), upd_ne _ _ (by omega)]
    · show upd a20 (16 * x + m) _ i = a20 i
      rw [upd_ne _ _ (by omega)]
    · show upd a21 (16 * x + m) _ i = a21 i
      rw [upd_ne _ _ (by omega)]
    · show sB (upd (upd a19 (16 * x + m) 0) (16 * x + m) (upd a19 (16 * x + m) 0 (16 * x + m) + p3)) (16 * x) (tn (nI (m + 1))) = sB a19 (16 * x) (tn (a18 x)) + p3.toInt
      rw [hm, tm, sB, upd_self, upd_self, Int32.zero_add, sB_same (g := a19) m (fun i hi => by rw [upd_ne _ _ (by omega), upd_ne _ _ (by omega)])]
    · show wK (upd (upd a19 (16 * x + m) 0) (16 * x + m) (upd a19 (16 * x + m) 0 (16 * x + m) + p3)) (upd a20 (16 * x + m) _) (16 * x) (tn (nI (m + 1))) = wK a19 a20 (16 * x) (tn (a18 x)) + p3.toInt * _
      rw [hm, tm, wK, upd_self, upd_self, upd_self, Int32.zero_add, wK_same (f' := a19) (g' := a20) (o' := 16 * x) m (fun i hi => ⟨by rw [upd_ne _ _ (by omega), upd_ne _ _ (by omega)], upd_ne _ _ (by omega)⟩)]
section
variable {n : Nat} {u8 : Int32} {I : Nat → Nat → Nat → Int32} {s0 s1 : Int32} {a2 a3 a4 a5 a6 a7 a8 a9 : Nat → Int32} {s10 s11 s12 : Int32} {a13 a14 a15 a16 a17 a18 a19 a20 a21 : Nat → Int32}
def grR (n : Nat) (s0 s1 : Int32) (a3 a4 a5 a9 : Nat → Int32) (s12 : Int32) (a13 a15 a16 a17 : Nat → Int32) (A : Int32 × (Nat → Int32) × Int32 × Int32 × (Nat → Nat → Nat → Int32)) (B : Int32 × (Nat → Int32) × Int32 × (Nat → Int32) × (Nat → Int32) × (Nat → Int32) × (Nat → Int32) × (Nat → Int32)) : Prop :=
  A.1 = B.1 ∧ A.2.1 = B.2.1 ∧ A.2.2.2.1 = B.2.2.1 ∧ RSt n A.2.2.1 A.2.2.2.2 s0 s1 a3 a4 a5 B.2.1 a9 B.2.2.1 s12 a13 B.2.2.2.1 a15 a16 a17 B.2.2.2.2.1 B.2.2.2.2.2.1 B.2.2.2.2.2.2.1 B.2.2.2.2.2.2.2
theorem q_grow (h : RSt n u8 I s0 s1 a3 a4 a5 a6 a9 s10 s12 a13 a14 a15 a16 a17 a18 a19 a20 a21) (p1 p2 p3 : Int32) :
    grR n s0 s1 a3 a4 a5 a9 s12 a13 a15 a16 a17 (f4_grow a2 a3 a4 a5 s1 a6 u8 s10 a7 s12 s0 I p1 p2 p3) (f5_grow s0 s1 a2 a3 a4 a5 a6 a7 s10 s12 a13 a14 a16 a17 a18 a19 a20 a21 p1 p2 p3) := by
  unfold f4_grow f5_grow
  simp only [no_iff, na_iff, ia_iff, wi_in (lo := 1) (hi := 999) (lo' := 1) (hi' := 999) rfl rfl]
  by_cases c1 : f4_within p1 0 (s12 - 1) = 0
  · simp only [c1, if_true, if_false, not_true_eq_false]; exact ⟨rfl, rfl, rfl, h⟩
  obtain ⟨x, hx, e, -, ⟨r1, r2, r3, r4, r8, r0, r5⟩, k1, k2', k3', k4, k5, k6, k7, k8, k9⟩ := h.find c1
  by_cases c2 : f5_in p2.toInt64 0 5 = 0
  · simp only [c1, c2, if_true, if_false, not_true_eq_false, not_false_eq_true]; exact ⟨rfl, rfl, rfl, h⟩
  by_cases c3 : f5_in p3.toInt64 1 999 = 0
  · simp only [c1, c2, c3, if_true, if_false, not_false_eq_true]; exact ⟨rfl, rfl, rfl, h⟩
  simp only [c1, c2, c3, if_true, if_false, not_false_eq_true, e, r1, r2, r3, r4, r8, rentOf_eq h.1.2.1, priceOn_eq h.1.2.1, ch_same _ _ _ h.1.2.1, cp_iff, h.caps k1, f1_sizeNow, f5_sizeNow]
  by_cases c4 : (if a17 x = 2 then 0 else a14 x) + p3 ≤ 1000
  rotate_left
  · simp only [c4, if_false]; exact ⟨rfl, rfl, rfl, h⟩
  by_cases c5 : a17 x = 0
  rotate_left
  · rw [if_pos c4, if_pos c4, if_neg c5, if_neg c5]; exact ⟨rfl, rfl, rfl, h⟩
  by_cases c7 : f5_isCapped a7 s12 a13 a14 a17 (a13 x) p3 = 0
  rotate_left
  · rw [if_pos c4, if_pos c4, if_pos c5, if_pos c5, if_pos c7, if_neg c7]; exact ⟨rfl, rfl, rfl, h⟩
  rw [if_pos c4, if_pos c4, if_pos c5, if_pos c5, if_neg (fun hh => hh c7), if_pos c7]
  rw [if_neg (by rw [c5]; decide)] at c4
  obtain ⟨B, hB, hch⟩ := h.charged (a2 := a2)
  have b3 := in_i c3
  have b3a : (1 : Int64).toInt = 1 := rfl
  have b3b : (999 : Int64).toInt = 999 := rfl
  have b4 := k4 c5
  have hs0 := h.2.1
  have ep : (a14 x + p3).toInt = (a14 x).toInt + p3.toInt := add_toInt (by omega) (by omega)
  have c4' : (a14 x).toInt + p3.toInt ≤ 1000 := by
    have := i32_le.mp c4
    rw [ep] at this
    exact this
  have hc1 := hch (a14 x)
  have hc2 := hch (a14 x + p3)
  have ed : (f5_charged s0 s1 a2 a5 (a14 x + p3) - f5_charged s0 s1 a2 a5 (a14 x)).toInt = (f5_charged s0 s1 a2 a5 (a14 x + p3)).toInt - (f5_charged s0 s1 a2 a5 (a14 x)).toInt := sub_toInt (by omega) (by omega)
  have eh : (a16 x - s0).toInt = (a16 x).toInt - s0.toInt := sub_toInt (by omega) (by omega)
  obtain ⟨K, hK, hK1, hK2⟩ := k3 (x := f5_charged s0 s1 a2 a5 (a14 x + p3) - f5_charged s0 s1 a2 a5 (a14 x)) (y := f5_rent s0 s1 a2 a4) (z := a16 x - s0) (Z := 400) (by omega) h.rent (by omega) (by omega)
  obtain ⟨Dk, hDk, hD1, hD2, hD3⟩ := k2 (x := p3) (y := f5_price s0 s1 a2 a3) (by omega) h.price
  have hP := h.price (a2 := a2)
  generalize hRr : (f5_charged s0 s1 a2 a5 (a14 x + p3) - f5_charged s0 s1 a2 a5 (a14 x)).toInt64 * (f5_rent s0 s1 a2 a4).toInt64 * (a16 x - s0).toInt64 = RR at hK1 ⊢
  generalize hDd : p3.toInt64 * (f5_price s0 s1 a2 a3).toInt64 = DD at hD1 ⊢
  rw [hK2, hD2]
  have eS : (DD + RR).toInt = Dk + K := by rw [add64 (by omega) (by omega), hD1, hK1]
  have eC : Int32.ofInt Dk + Int32.ofInt K = Int32.ofInt (Dk + K) := (Int32.ofInt_add _ _).symm
  have eK : (Int32.ofInt (Dk + K)).toInt = Dk + K := ofI_id (by omega) (by omega)
  rw [eS, eC]
  by_cases c6 : Int32.ofInt (Dk + K) ≤ a6 (tn p2)
  rotate_left
  · rw [if_neg c6, if_pos (by have := mt i32_le.mpr c6; omega)]; exact ⟨rfl, rfl, rfl, h⟩
  have c6' : Dk + K ≤ (a6 (tn p2)).toInt := by have := i32_le.mp c6; omega
  rw [if_pos c6, if_neg (by omega)]
  have hj := jn_iff (s0 := s0) (s1 := s1) (a2 := a2) (a3 := a3) (b6 := I x 6) (b7 := I x 7) (a21 := a21) (a20 := a20) (p2 := p2) k6 k7 (fun k hk => (r5 k hk).2)
  have tt : (nI (tn (a18 x))).toInt = (tn (a18 x) : Nat) := Int32.toInt_ofNat_of_lt (by omega)
  have t16 : (16 : Int32).toInt = 16 := rfl
  have hroom : f2_hasRoomFor (I x 6) (I x 7) (a18 x) (f5_price s0 s1 a2 a3) p2 = 0 ↔ ¬ (tn (a18 x) < 16 ∨ f5_needsLayer s0 s1 a2 a3 a18 a20 a21 x p2 = 0) := by
    unfold f2_hasRoomFor
    by_cases g : nI (tn (a18 x)) < 16
    · have := i32_lt.mp g
      rw [if_pos g]; constructor
      · intro hh; exact absurd hh (by decide)
      · intro hh; exact absurd (Or.inl (by omega)) hh
    · have g' := mt i32_lt.mpr g
      rw [if_neg g]
      by_cases g2 : f5_needsLayer s0 s1 a2 a3 a18 a20 a21 x p2 = 0
      · rw [if_neg (fun hh => (hj.mp hh) g2)]; simp [g2]
      · rw [if_pos (hj.mpr g2)]; simp [g2]; omega
  by_cases c8 : tn (a18 x) < 16 ∨ f5_needsLayer s0 s1 a2 a3 a18 a20 a21 x p2 = 0
  rotate_left
  · rw [if_pos (hroom.mpr c8), if_neg (fun hh => c8 (Or.inr hh)), if_pos (by apply i32_ext; rw [tt, t16]; have : ¬ tn (a18 x) < 16 := fun hh => c8 (Or.inl hh); omega)]
    exact ⟨rfl, rfl, rfl, h⟩
  rw [if_neg (fun hh => (hroom.mp hh) c8)]
  have hsz := k9 (by rw [c5]; decide)
  have hpt := put_same (s0 := s0) (s1 := s1) (a2 := a2) (a3 := a3) (b5 := I x 5) (b6 := I x 6) (b7 := I x 7) (a18 := a18) (x := x) (p2 := p2) (p3 := p3) k6 k7 r5 k8 c8 (by omega) hP (acc_lt c2).2 (by omega)
  have hB2 : (if f5_needsLayer s0 s1 a2 a3 a18 a20 a21 x p2 = 0 then (Int32.ofInt (Dk + K), upd a6 (tn p2) (a6 (tn p2) - Int32.ofInt (Dk + K)), s10 + Int32.ofInt K, upd a14 x (a14 x + p3), f5_comes s0 s1 a2 a3 a18 a19 a20 a21 x p2 p3) else if nI (tn (a18 x)) = 16 then (-107, a6, s10, a14, a18, a19, a20, a21) else (Int32.ofInt (Dk + K), upd a6 (tn p2) (a6 (tn p2) - Int32.ofInt (Dk + K)), s10 + Int32.ofInt K, upd a14 x (a14 x + p3), f5_comes s0 s1 a2 a3 a18 a19 a20 a21 x p2 p3)) = (Int32.ofInt (Dk + K), upd a6 (tn p2) (a6 (tn p2) - Int32.ofInt (Dk + K)), s10 + Int32.ofInt K, upd a14 x (a14 x + p3), f5_comes s0 s1 a2 a3 a18 a19 a20 a21 x p2 p3) := by
    by_cases g : f5_needsLayer s0 s1 a2 a3 a18 a20 a21 x p2 = 0
    · rw [if_pos g]
    · rw [if_neg g, if_neg (fun hh => by have := congrArg Int32.toInt hh; rw [tt, t16] at this; have := c8.resolve_right g; omega)]
  rw [show (f5_comes s0 s1 a2 a3 a18 a19 a20 a21 x p2 p3).2.2.2 = (f5_comes s0 s1 a2 a3 a18 a19 a20 a21 x p2 p3).2.2.2 from rfl]
  refine Eq.mpr (congrArg _ hB2) ?_
  have eP : (DD + RR).toInt32 = Int32.ofInt (Dk + K) := by rw [l2i, eS]
  have eP2 : RR.toInt32 = Int32.ofInt K := by rw [l2i, hK1]
  have eP3 : DD.toInt32 = Int32.ofInt Dk := by rw [l2i, hD1]
  simp only [f3_takeFrom, eP, eP2, eP3]
  generalize f5_comes s0 s1 a2 a3 a18 a19 a20 a21 x p2 p3 = R at hpt ⊢
  generalize f2_put (I x 5) (I x 6) (I x 7) (a18 x) p3 (f5_price s0 s1 a2 a3) p2 = r at hpt ⊢
  obtain ⟨t1, t2, t3, t4, t5, t6, t7, t8⟩ := hpt
  refine ⟨rfl, rfl, rfl, ?_⟩
  obtain ⟨hA, hB0, ⟨hC1, hC2, hC3, hC4⟩, hD, hE, hF⟩ := h
  have pd := paid (Dk := Dk) (Rk := K) (k := tn p2) hC1 hC2 (RSt.hnn ⟨hA, hB0, ⟨hC1, hC2, hC3, hC4⟩, hD, hE, hF⟩) hC3 (by omega) (by omega) (acc_lt c2).1 (by omega)
  have hh : hI R.1 R.2.1 R.2.2.1 (tn s12) = hI a18 a19 a20 (tn s12) + Dk := by
    rw [hI_one (a18 := a18) (a19 := a19) (a20 := a20) (tn s12) hx (fun y hy ne => ⟨t2 y ne, fun i hi => by
      have := (hF y hy).2.2.2.2.2.2.2.1
      have q := t6 (16 * y + i) (by omega)
      exact ⟨q.1, q.2.1⟩⟩), t1, t8, hD3]; omega
  refine ⟨hA, hB0, ⟨pd.1, pd.2.1, ?_, ?_⟩, hD, hE, fun y hy => ?_⟩
  · show s6 _ + hI R.1 R.2.1 R.2.2.1 (tn s12) + _ ≤ _
    rw [hh]; exact pd.2.2
  · show u8 + Int32.ofInt Dk = Int32.ofInt (hI R.1 R.2.1 R.2.2.1 (tn s12))
    rw [hh, hC4, Int32.ofInt_add]
  by_cases ey : y = x
  · subst ey
    refine ⟨?_, k1, ?_, k3', k4, k5, ?_, ?_, ?_, ?_⟩
    · show RI (va_up I y _) a13 (upd a14 y (a14 y + p3)) a15 a16 a17 R.1 R.2.1 R.2.2.1 R.2.2.2 y
      rw [RI, va_up_self, upd_self, t1]
      exact ⟨rfl, rfl, rfl, rfl, rfl, r0, fun k hk => (t5 k hk).1⟩
    · show 1 ≤ (upd a14 y (a14 y + p3) y).toInt ∧ (upd a14 y (a14 y + p3) y).toInt ≤ 1000
      rw [upd_self]; omega
    · show R.1 y = nI (tn (R.1 y)); rw [t1]; exact t3
    · show tn (R.1 y) ≤ 16; rw [t1]; exact t4
    · intro k hk
      have hk : k < tn (R.1 y) := hk
      rw [t1] at hk
      exact (t5 k hk).2
    · intro _
      show sB R.2.1 (16 * y) (tn (R.1 y)) = (upd a14 y (a14 y + p3) y).toInt
      rw [t1, t7, upd_self, hsz, ep]
  · obtain ⟨q1, q2⟩ := hF y hy
    have h16 := q2.2.2.2.2.2.2.1
    exact ⟨q1.cong (va_up_ne _ _ ey) rfl (upd_ne _ _ ey) (fun _ _ => rfl) rfl rfl (t2 y ey) (fun k hk => t6 _ (by omega)), q2.cong rfl rfl (upd_ne _ _ ey) rfl rfl (t2 y ey) (fun k hk => t6 _ (by omega))⟩
end
theorem mk_words (s12 p1 p2 p3 p4 v5 : Int32) : ∀ (k j : Nat) (f : Nat → Int32) (i : Nat), lf5_make_132 s12 p1 p2 p3 p4 v5 k j f i = if 4 * tn s12 + j ≤ i ∧ i < 4 * tn s12 + j + k then 0 else f i
  | 0, j, f, i => by rw [lf5_make_132, if_neg (by omega)]
  | k + 1, j, f, i => by
    rw [lf5_make_132, mk_words s12 p1 p2 p3 p4 v5 k (j + 1)]
    by_cases c : i = 4 * tn s12 + j
    · subst c
      rw [if_neg (by omega), if_pos (by omega), upd_self]
    · rw [upd_ne _ _ c]
      by_cases d : 4 * tn s12 + (j + 1) ≤ i ∧ i < 4 * tn s12 + (j + 1) + k
      · rw [if_pos d, if_pos (by omega)]
      · rw [if_neg d, if_neg (by omega)]
theorem fill_at (v : Int32) : ∀ (k j : Nat) (f : Nat → Int32) (i : Nat), lf7_fill_53178_5 v k j f i = if j ≤ i ∧ i < j + k then v else f i
  | 0, j, f, i => by rw [lf7_fill_53178_5, if_neg (by omega)]
  | k + 1, j, f, i => by
    rw [lf7_fill_53178_5, fill_at v k (j + 1)]
    by_cases c : i = j
    · subst c
      rw [if_neg (by omega), if_pos (by omega), upd_self]
    · rw [upd_ne _ _ c]
      by_cases d : j + 1 ≤ i ∧ i < j + 1 + k
      · rw [if_pos d, if_pos (by omega)]
      · rw [if_neg d, if_neg (by omega)]
section
variable {n : Nat} {u8 : Int32} {I : Nat → Nat → Nat → Int32} {s0 s1 : Int32} {a2 a3 a4 a5 a6 a7 a8 a9 : Nat → Int32} {s10 s11 s12 : Int32} {a13 a14 a15 a16 a17 a18 a19 a20 a21 : Nat → Int32}
/-- what make leaves of the items -/
def mkI (n n2 : Nat) (I I2 : Nat → Nat → Nat → Int32) (s12 m : Int32) (p1 p2 p3 t P : Int32) : Prop :=
  (m = s12 ∧ n2 = n ∧ I2 = I) ∨ ∃ (I3 : Nat → Nat → Nat → Int32) (b0 : Nat → Int32) (b5 b6 b7 : Nat → Int32), tn s12 < n2 ∧ (∀ i, i < tn s12 → I3 i = I i) ∧ m = nI (tn s12 + 1) ∧ I2 = va_up I3 (tn s12) (JX (f7_fill_53178 b0 4 0) p2 p3 t 0 (f2_put b5 b6 b7 0 p3 P p1).1 (f2_put b5 b6 b7 0 p3 P p1).2.1 (f2_put b5 b6 b7 0 p3 P p1).2.2.1 (f2_put b5 b6 b7 0 p3 P p1).2.2.2)
def mkR (n2 : Nat) (I2 : Nat → Nat → Nat → Int32) (s0 s1 : Int32) (a3 a4 a5 a9 : Nat → Int32) (A : Int32 × (Nat → Int32) × Int32 × Int32 × Int32) (B : Int32 × (Nat → Int32) × Int32 × Int32 × (Nat → Int32) × (Nat → Int32) × (Nat → Int32) × (Nat → Int32) × (Nat → Int32) × (Nat → Int32) × (Nat → Int32) × (Nat → Int32) × (Nat → Int32)) : Prop :=
  A.1 = B.1 ∧ A.2.1 = B.2.1 ∧ A.2.2.2.1 = B.2.2.1 ∧ A.2.2.2.2 = B.2.2.2.1 ∧ RSt n2 A.2.2.1 I2 s0 s1 a3 a4 a5 B.2.1 a9 B.2.2.1 B.2.2.2.1 B.2.2.2.2.1 B.2.2.2.2.2.1 B.2.2.2.2.2.2.1 B.2.2.2.2.2.2.2.1 B.2.2.2.2.2.2.2.2.1 B.2.2.2.2.2.2.2.2.2.1 B.2.2.2.2.2.2.2.2.2.2.1 B.2.2.2.2.2.2.2.2.2.2.2.1 B.2.2.2.2.2.2.2.2.2.2.2.2
theorem q_make (h : RSt n u8 I s0 s1 a3 a4 a5 a6 a9 s10 s12 a13 a14 a15 a16 a17 a18 a19 a20 a21) (p1 p2 p3 p4 : Int32) {n2 : Nat} {I2 : Nat → Nat → Nat → Int32} (hn2 : n2 ≤ 60) (hI2 : mkI n n2 I I2 s12 (f4_make a2 a3 a4 a5 s1 a6 u8 s10 a7 s12 s0 I p1 p2 p3 p4).2.2.2.2 p1 p2 p3 (s0 + p4) (f0_priceOn a2 a3 s1 s0)) :
    mkR n2 I2 s0 s1 a3 a4 a5 a9 (f4_make a2 a3 a4 a5 s1 a6 u8 s10 a7 s12 s0 I p1 p2 p3 p4) (f5_make s0 s1 a2 a3 a4 a5 a6 a7 s10 s12 a13 a14 a15 a16 a17 a18 a19 a20 a21 p1 p2 p3 p4) := by
  have hE := h.2.2.2.2.1
  have hne : ¬ s12 = nI (tn s12 + 1) := fun hh => by
    have q := congrArg tn hh
    rw [tn_nI (by omega)] at q; omega
  have refuse : ∀ v : Int32, mkI n n2 I I2 s12 s12 p1 p2 p3 (s0 + p4) (f0_priceOn a2 a3 s1 s0) → mkR n2 I2 s0 s1 a3 a4 a5 a9 (v, a6, u8, s10, s12) (v, a6, s10, s12, a13, a14, a15, a16, a17, a18, a19, a20, a21) := by
    intro v hh
    rcases hh with ⟨-, rfl, rfl⟩ | ⟨_, _, _, _, _, _, _, hh, _⟩
    · exact ⟨rfl, rfl, rfl, rfl, h⟩
    · exact absurd hh hne
  unfold f4_make at hI2 ⊢
  unfold f5_make
  simp only [na_iff, ia_iff, wi_in (lo := 1) (hi := 1000) (lo' := 1) (hi' := 1000) rfl rfl, wi_in (lo := 1) (hi := 100) (lo' := 1) (hi' := 100) rfl rfl] at hI2 ⊢
  by_cases c1 : f5_in p1.toInt64 0 5 = 0
  · simp only [c1, if_true, if_false, not_true_eq_false] at hI2 ⊢; exact refuse _ hI2
  by_cases c2 : f5_in p2.toInt64 0 5 = 0
  · simp only [c1, c2, if_true, if_false, not_true_eq_false, not_false_eq_true] at hI2 ⊢; exact refuse _ hI2
  by_cases c3 : f5_in p3.toInt64 1 1000 = 0
  · simp only [c1, c2, c3, if_true, if_false, not_false_eq_true] at hI2 ⊢; exact refuse _ hI2
  by_cases c4 : f5_in p4.toInt64 1 100 = 0
  · simp only [c1, c2, c3, c4, if_true, if_false, not_false_eq_true] at hI2 ⊢; exact refuse _ hI2
  have hp2 := (acc_lt c2).2
  simp only [c1, c2, c3, c4, if_true, if_false, not_false_eq_true, rentOf_eq h.1.2.1, ch_same _ _ _ h.1.2.1, cp_iff, h.caps hp2] at hI2 ⊢
  rw [priceOn_eq h.1.2.1] at hI2 refuse ⊢
  by_cases c7 : f5_isCapped a7 s12 a13 a14 a17 p2 p3 = 0
  rotate_left
  · simp only [c7, if_true, if_false, not_false_eq_true] at hI2 ⊢; exact refuse _ hI2
  rw [if_neg (fun hh => hh c7)] at hI2 ⊢
  rw [if_pos c7]
  obtain ⟨B, hB, hch⟩ := h.charged (a2 := a2)
  have b3 := in_i c3
  have b4 := in_i c4
  have b3a : (1 : Int64).toInt = 1 := rfl
  have b3b : (1000 : Int64).toInt = 1000 := rfl
  have b4b : (100 : Int64).toInt = 100 := rfl
  have hs0 := h.2.1
  have hc1 := hch p3
  obtain ⟨K, hK, hK1, hK2⟩ := k3 (x := f5_charged s0 s1 a2 a5 p3) (y := f5_rent s0 s1 a2 a4) (z := p4) (Z := 100) (by omega) h.rent (by omega) (by omega)
  obtain ⟨Dk, hDk, hD1, hD2, hD3⟩ := k2 (x := p3) (y := f5_price s0 s1 a2 a3) (by omega) h.price
  have hP := h.price (a2 := a2)
  generalize hRr : (f5_charged s0 s1 a2 a5 p3).toInt64 * (f5_rent s0 s1 a2 a4).toInt64 * p4.toInt64 = RR at hK1 hI2 ⊢
  generalize hDd : p3.toInt64 * (f5_price s0 s1 a2 a3).toInt64 = DD at hD1 hI2 ⊢
  rw [hK2, hD2]
  have eS : (DD + RR).toInt = Dk + K := by rw [add64 (by omega) (by omega), hD1, hK1]
  have eC : Int32.ofInt Dk + Int32.ofInt K = Int32.ofInt (Dk + K) := (Int32.ofInt_add _ _).symm
  have eK : (Int32.ofInt (Dk + K)).toInt = Dk + K := ofI_id (by omega) (by omega)
  rw [eS] at hI2 ⊢
  rw [eC]
  by_cases c6 : Int32.ofInt (Dk + K) ≤ a6 (tn p1)
  rotate_left
  · have c6' : (a6 (tn p1)).toInt < Dk + K := by have := mt i32_le.mpr c6; omega
    rw [if_pos c6'] at hI2 ⊢
    rw [if_neg c6]; exact refuse _ hI2
  have c6' : ¬ (a6 (tn p1)).toInt < Dk + K := by have := i32_le.mp c6; omega
  rw [if_neg c6'] at hI2 ⊢
  rw [if_pos c6]
  have tt : (nI (tn s12)).toInt = (tn s12 : Nat) := Int32.toInt_ofNat_of_lt (by omega)
  have t60 : (60 : Int32).toInt = 60 := rfl
  by_cases c8 : nI (tn s12) = 60
  · have c8' : ¬ nI (tn s12) < 60 := fun hh => by rw [c8] at hh; exact absurd hh (by decide)
    rw [if_neg c8'] at hI2 ⊢
    rw [if_pos c8]; exact refuse _ hI2
  have c8' : nI (tn s12) < 60 := i32_lt.mpr (by
    have : ¬ (nI (tn s12)).toInt = (60 : Int32).toInt := fun hh => c8 (i32_ext hh)
    rw [tt, t60] at this ⊢; omega)
  have hX60 : tn s12 < 60 := by have := i32_lt.mp c8'; rw [tt, t60] at this; omega
  rw [if_pos c8'] at hI2 ⊢
  rw [if_neg c8]
  have hX : tn (nI (tn s12 + 1)) = tn s12 + 1 := tn_nI (by omega)
  rcases hI2 with ⟨hh, -⟩ | ⟨I3, b0, b5, b6, b7, g1, g2, -, rfl⟩
  · exact absurd hh.symm hne
  have eP : (DD + RR).toInt32 = Int32.ofInt (Dk + K) := by rw [l2i, eS]
  have eP2 : RR.toInt32 = Int32.ofInt K := by rw [l2i, hK1]
  have eP3 : DD.toInt32 = Int32.ofInt Dk := by rw [l2i, hD1]
  have es1 : nI (tn s12 + 1) - 1 = nI (tn s12) := by
    apply i32_ext
    have t2 : (nI (tn s12 + 1)).toInt = (tn s12 + 1 : Nat) := Int32.toInt_ofNat_of_lt (by omega)
    have o : (1 : Int32).toInt = 1 := rfl
    rw [sub_toInt (by omega) (by omega), t2, tt, o]; omega
  simp only [f3_takeFrom, eP, eP2, eP3, es1]
  generalize hx : tn s12 = x at *
  have h0 : upd a18 x 0 x = 0 := upd_self _ _ _
  have h00 : tn (0 : Int32) = 0 := rfl
  have hpt := put_same (s0 := s0) (s1 := s1) (a2 := a2) (a3 := a3) (b5 := b5) (b6 := b6) (b7 := b7) (a18 := upd a18 x 0) (a19 := a19) (a20 := a20) (a21 := a21) (x := x) (p2 := p1) (p3 := p3) (by rw [h0]; rfl) (by rw [h0, h00]; omega) (fun k hk => by rw [h0, h00] at hk; omega) (fun k hk => by rw [h0, h00] at hk; omega) (Or.inl (by rw [h0, h00]; omega)) (by omega) hP (acc_lt c1).2 (by rw [h0, h00, sB]; omega)
  rw [h0] at hpt
  generalize f5_comes s0 s1 a2 a3 (upd a18 x 0) a19 a20 a21 x p1 p3 = R at hpt ⊢
  generalize f2_put b5 b6 b7 0 p3 (f5_price s0 s1 a2 a3) p1 = r at hpt ⊢
  obtain ⟨t1, t2, t3, t4, t5, t6, t7, t8⟩ := hpt
  rw [h0, h00, sB] at t7
  rw [h0, h00, wK] at t8
  refine ⟨rfl, rfl, rfl, rfl, ?_⟩
  obtain ⟨hA, hB0, ⟨hC1, hC2, hC3, hC4⟩, hD, hE, hF⟩ := h
  have hnn : 0 ≤ hI a18 a19 a20 x := by rw [← hx]; exact RSt.hnn ⟨hA, hB0, ⟨hC1, hC2, hC3, hC4⟩, hD, hE, hF⟩
  rw [hx] at hC3 hC4 hF
  have pd := paid (Dk := Dk) (Rk := K) (k := tn p1) hC1 hC2 hnn hC3 (by omega) (by omega) (acc_lt c1).1 (by omega)
  have hh : hI R.1 R.2.1 R.2.2.1 (x + 1) = hI a18 a19 a20 x + Dk := by
    rw [hI, hI_same (a18 := a18) (a19 := a19) (a20 := a20) x (fun y hy => ⟨by rw [t2 y (by omega), upd_ne _ _ (by omega)], fun i hi => by
      have := (hF y hy).2.2.2.2.2.2.2.1
      have q := t6 (16 * y + i) (by omega)
      exact ⟨q.1, q.2.1⟩⟩), t1, t8, hD3]; omega
  refine ⟨hA, hB0, ⟨pd.1, pd.2.1, ?_, ?_⟩, hD, ⟨?_, ?_, hn2⟩, fun y hy => ?_⟩
  · show s6 _ + hI R.1 R.2.1 R.2.2.1 (tn (nI (x + 1))) + _ ≤ _
    rw [hX, hh]; exact pd.2.2
  · show u8 + Int32.ofInt Dk = Int32.ofInt (hI R.1 R.2.1 R.2.2.1 (tn (nI (x + 1))))
    rw [hX, hh, hC4, Int32.ofInt_add]
  · show nI (x + 1) = nI (tn (nI (x + 1))); rw [hX]
  · show tn (nI (x + 1)) ≤ n2; rw [hX]; omega
  have hy : y < x + 1 := by rw [← hX]; exact hy
  by_cases ey : y = x
  · subst ey
    have ea : (s0 + p4).toInt = s0.toInt + p4.toInt := add_toInt (by omega) (by omega)
    refine ⟨?_, ?_, ?_, ?_, ?_, ?_, ?_, ?_, ?_, ?_⟩
    · show RI (va_up I3 y _) (upd a13 y p2) (upd a14 y p3) (lf5_make_132 s12 p1 p2 p3 p4 (Int32.ofInt K) 4 0 a15) (upd a16 y (s0 + p4)) (upd a17 y 0) R.1 R.2.1 R.2.2.1 R.2.2.2 y
      rw [RI, va_up_self, upd_self, upd_self, upd_self, upd_self, t1]
      refine ⟨rfl, rfl, rfl, rfl, rfl, fun k hk => ?_, fun k hk => (t5 k hk).1⟩
      show lf7_fill_53178_5 0 4 0 b0 k = _
      rw [fill_at, mk_words, if_pos (by omega), if_pos (by omega)]
    · show 0 ≤ (upd a13 y p2 y).toInt ∧ (upd a13 y p2 y).toInt ≤ 5
      rw [upd_self]; exact hp2
    · show 1 ≤ (upd a14 y p3 y).toInt ∧ (upd a14 y p3 y).toInt ≤ 1000
      rw [upd_self]; omega
    · show 0 ≤ (upd a16 y (s0 + p4) y).toInt ∧ (upd a16 y (s0 + p4) y).toInt ≤ _
      rw [upd_self]; omega
    · intro _
      show _ ≤ (upd a16 y (s0 + p4) y).toInt
      rw [upd_self]; omega
    · intro h1
      have h1 : upd a17 y 0 y = 1 := h1
      rw [upd_self] at h1; exact absurd h1 (by decide)
    · show R.1 y = nI (tn (R.1 y)); rw [t1]; exact t3
    · show tn (R.1 y) ≤ 16; rw [t1]; exact t4
    · intro k hk
      have hk : k < tn (R.1 y) := hk
      rw [t1] at hk
      exact (t5 k hk).2
    · intro _
      show sB R.2.1 (16 * y) (tn (R.1 y)) = (upd a14 y p3 y).toInt
      rw [t1, t7, upd_self]; omega
  · obtain ⟨q1, q2⟩ := hF y (by omega)
    have h16 := q2.2.2.2.2.2.2.1
    exact ⟨q1.cong ((va_up_ne _ _ ey).trans (g2 y (by omega))) (upd_ne _ _ ey) (upd_ne _ _ ey) (fun k hk => by
      show lf5_make_132 s12 p1 p2 p3 p4 (Int32.ofInt K) 4 0 a15 _ = _
      rw [mk_words, if_neg (by omega)]) (upd_ne _ _ ey) (upd_ne _ _ ey) ((t2 y ey).trans (upd_ne _ _ ey)) (fun k hk => t6 _ (by omega)), q2.cong rfl (upd_ne _ _ ey) (upd_ne _ _ ey) (upd_ne _ _ ey) (upd_ne _ _ ey) ((t2 y ey).trans (upd_ne _ _ ey)) (fun k hk => t6 _ (by omega))⟩
end
theorem go_12 {a18 a19 a20 a21 : Nat → Int32} {x : Nat} {p2 v3 : Int32} : ∀ (k j : Nat) (f : Nat → Int32) (i : Nat), lf5_goes_12 a18 a19 a20 a21 x p2 v3 k j f i = if j ≤ i ∧ i < j + k then f i + f5_gives a18 a19 a20 a21 x p2 (nI i) else f i
  | 0, j, f, i => by rw [lf5_goes_12, if_neg (by omega)]
  | k + 1, j, f, i => by
    rw [lf5_goes_12, go_12 k (j + 1)]
    by_cases c : i = j
    · subst c
      rw [if_neg (by omega), if_pos (by omega), upd_self]
    · rw [upd_ne _ _ c]
      by_cases d : j + 1 ≤ i ∧ i < j + 1 + k
      · rw [if_pos d, if_pos (by omega)]
      · rw [if_neg d, if_neg (by omega)]
theorem gb_12 {b5 b6 b7 a18 a19 a20 a21 : Nat → Int32} {t8 p2 v3 : Int32} {x : Nat} : ∀ (k j : Nat) (v : Int32) (f : Nat → Int32) (f8 : Int32), j + k ≤ 6 → (∀ i, j ≤ i → i < j + k → f2_worthTo b5 b6 b7 t8 (nI i) p2 = f5_gives a18 a19 a20 a21 x p2 (nI i)) → (lf4_giveBack_5 b5 b6 b7 t8 p2 k j v f f8).2.1 = lf5_goes_12 a18 a19 a20 a21 x p2 v3 k j f
  | 0, _, _, _, _, _, _ => rfl
  | k + 1, j, v, f, f8, h6, h => by
    rw [lf4_giveBack_5, lf5_goes_12, gb_12 (x := x) (a18 := a18) (a19 := a19) (a20 := a20) (a21 := a21) (v3 := v3) k (j + 1) _ _ _ (by omega) (fun i h1 h2 => h i (by omega) (by omega))]
    simp only [f3_giveTo]
    rw [tn_nI (by omega), h j (by omega) (by omega)]
theorem nI_ne {a : Nat} (h : a < 6) : ¬ nI a = -109 := fun e => by
  have t : (nI a).toInt = (a : Nat) := Int32.toInt_ofNat_of_lt (by omega)
  have := congrArg Int32.toInt e
  rw [t] at this
  have o : (-109 : Int32).toInt = -109 := rfl
  omega
theorem gives_gv {a18 a19 a20 a21 : Nat → Int32} {x : Nat} {L q : Int32} (hL : 0 ≤ L.toInt) (hp : ∀ k, k < tn (a18 x) → 0 ≤ (a19 (16 * x + k)).toInt) : f5_gives a18 a19 a20 a21 x L q = Int32.ofInt (gv a19 a20 (16 * x) (fun k => decide (q = -109 ∨ a21 (16 * x + k) = q)) (tn (a18 x)) L.toInt) := by
  unfold f5_gives
  rw [gv_ref _ _ _ hL hp, Int32.zero_add]
theorem wt_same {a18 a19 a20 a21 b5 b6 b7 : Nat → Int32} {x : Nat} {L q : Int32} (hL : 0 ≤ L.toInt) (hq : ¬ q = -109) (hp : ∀ k, k < tn (a18 x) → 0 ≤ (a19 (16 * x + k)).toInt) (hb : ∀ k, k < tn (a18 x) → b5 k = a19 (16 * x + k) ∧ b6 k = a20 (16 * x + k) ∧ b7 k = a21 (16 * x + k)) : f2_worthTo b5 b6 b7 (a18 x) q L = f5_gives a18 a19 a20 a21 x L q := by
  rw [gives_gv hL hp]
  unfold f2_worthTo
  rw [gv_cls _ _ _ hL (fun k hk => by rw [Nat.zero_add, (hb k hk).1]; exact hp k hk), Int32.zero_add]
  refine congrArg Int32.ofInt ?_
  refine gv_same _ _ (fun k hk => ?_)
  obtain ⟨h1, h2, h3⟩ := hb k hk
  rw [Nat.zero_add, h1, h2, h3]
  exact ⟨rfl, rfl, by simp [hq]⟩
def gbP (x : Nat) (u8 : Int32) (a6 a18 a19 a20 : Nat → Int32) (L : Int32) (A : Int32 × (Nat → Int32) × Int32 × (Nat → Int32) × Int32) (B : Int32 × (Nat → Int32) × (Nat → Int32) × (Nat → Int32)) : Prop :=
  A.1 = B.1 ∧ A.2.1 = B.2.1 ∧ ∃ G : Int, A.2.2.1 = u8 - Int32.ofInt G ∧ (∀ i, i < 6 → 0 ≤ (B.2.1 i).toInt) ∧ s6 B.2.1 = s6 a6 + G ∧ B.2.2.1 x = A.2.2.2.2 ∧ (∀ y, y ≠ x → B.2.2.1 y = a18 y) ∧ (∀ i, (i < 16 * x ∨ 16 * x + 16 ≤ i) → B.2.2.2 i = a19 i) ∧ A.2.2.2.2 = nI (tn A.2.2.2.2) ∧ tn A.2.2.2.2 ≤ tn (a18 x) ∧ (∀ k, k < tn A.2.2.2.2 → A.2.2.2.1 k = B.2.2.2 (16 * x + k) ∧ 0 < (B.2.2.2 (16 * x + k)).toInt) ∧ sB B.2.2.2 (16 * x) (tn A.2.2.2.2) = sB a19 (16 * x) (tn (a18 x)) - L.toInt ∧ wK B.2.2.2 a20 (16 * x) (tn A.2.2.2.2) = wK a19 a20 (16 * x) (tn (a18 x)) - G
section
variable {n : Nat} {u8 : Int32} {I : Nat → Nat → Nat → Int32} {s0 s1 : Int32} {a2 a3 a4 a5 a6 a7 a8 a9 : Nat → Int32} {s10 s11 s12 : Int32} {a13 a14 a15 a16 a17 a18 a19 a20 a21 : Nat → Int32}
theorem hI_ge {a18 a19 a20 : Nat → Int32} {x : Nat} : ∀ m, x < m → (∀ y, y < m → ∀ i, i < tn (a18 y) → 0 ≤ (a19 (16 * y + i)).toInt ∧ 0 ≤ (a20 (16 * y + i)).toInt) → wK a19 a20 (16 * x) (tn (a18 x)) ≤ hI a18 a19 a20 m
  | 0, h, _ => absurd h (Nat.not_lt_zero _)
  | m + 1, hx, h => by
    have h1 := wK_nn _ (h m (by omega))
    have h2 := hI_nn m (fun y hy => h y (by omega))
    rw [hI]
    by_cases e : x = m
    · subst e; omega
    · have := hI_ge m (show x < m by omega) (fun y hy => h y (by omega)); omega
theorem gb_same (h : RSt n u8 I s0 s1 a3 a4 a5 a6 a9 s10 s12 a13 a14 a15 a16 a17 a18 a19 a20 a21) {x : Nat} (hx : x < tn s12) {L : Int32} (hL : 0 ≤ L.toInt) (hL2 : L.toInt ≤ sB a19 (16 * x) (tn (a18 x))) :
    gbP x u8 a6 a18 a19 a20 L (f4_giveBack a6 u8 (I x 5) (I x 6) (I x 7) (a18 x) L) (f5_goes a6 a18 a19 a20 a21 x L) := by
  have hnn := h.hnn
  obtain ⟨hA, hB0, ⟨hC1, hC2, hC3, hC4⟩, hD, hE, hF⟩ := h
  obtain ⟨⟨r1, r2, r3, r4, r8, r0, r5⟩, k1, k2', k3', k4, k5, k6, k7, k8, k9⟩ := hF x hx
  have hp : ∀ k, k < tn (a18 x) → 0 ≤ (a19 (16 * x + k)).toInt := fun k hk => by have := (k8 k hk).1; omega
  have hw : ∀ i, 0 ≤ i → i < 0 + 6 → f2_worthTo (I x 5) (I x 6) (I x 7) (a18 x) (nI i) L = f5_gives a18 a19 a20 a21 x L (nI i) := fun i _ hi => wt_same hL (nI_ne (by omega)) hp r5
  have hg : ∀ i, i < 6 → f5_gives a18 a19 a20 a21 x L (nI i) = Int32.ofInt (gv a19 a20 (16 * x) (fun k => decide (a21 (16 * x + k) = nI i)) (tn (a18 x)) L.toInt) := fun i hi => by
    rw [gives_gv hL hp]
    refine congrArg Int32.ofInt ?_
    exact gv_same _ _ (fun k hk => ⟨rfl, rfl, by simp [nI_ne hi]⟩)
  have hall : f5_gives a18 a19 a20 a21 x L (-109) = Int32.ofInt (gv a19 a20 (16 * x) (fun _ => true) (tn (a18 x)) L.toInt) := by
    rw [gives_gv hL hp]
    refine congrArg Int32.ofInt ?_
    exact gv_same _ _ (fun k hk => ⟨rfl, rfl, by simp⟩)
  have hsix := gv_six (f := a19) (g := a20) (y := a21) (o := 16 * x) (tn (a18 x)) L.toInt (fun k hk => (k8 k hk).2.2)
  have hq : ∀ sel, 0 ≤ gv a19 a20 (16 * x) sel (tn (a18 x)) L.toInt ∧ gv a19 a20 (16 * x) sel (tn (a18 x)) L.toInt ≤ wK a19 a20 (16 * x) (tn (a18 x)) := fun sel => gv_le _ _ hL (fun k hk => ⟨hp k hk, (k8 k hk).2.1.1⟩)
  have hge := hI_ge (a18 := a18) (a19 := a19) (a20 := a20) (tn s12) hx (fun y hy i hi => by
    have q := (hF y hy).2.2.2.2.2.2.2.2.1 i hi
    exact ⟨by omega, q.2.1.1⟩)
  have hrm := rm_same (x := x) (q := L) (p2 := L) (v3 := f5_gives a18 a19 a20 a21 x L (-109)) (f6 := lf5_goes_12 a18 a19 a20 a21 x L (f5_gives a18 a19 a20 a21 x L (-109)) 6 0 a6) (tn (a18 x)) L (I x 5) (a18 x) a18 a19 rfl k6 k7 hL (fun _ => rfl) (fun k hk => ⟨(r5 k hk).1, (k8 k hk).1⟩) hL2
  have e6 := gb_12 (b5 := I x 5) (b6 := I x 6) (b7 := I x 7) (t8 := a18 x) (p2 := L) (v3 := f5_gives a18 a19 a20 a21 x L (-109)) 6 0 0 a6 u8 (by omega) hw
  unfold f4_giveBack f5_goes f2_remove
  obtain ⟨m1, m2, m3, m4, m5, m6, m7, m8⟩ := hrm
  have w0 := hw 0 (by omega) (by omega); have w1 := hw 1 (by omega) (by omega); have w2 := hw 2 (by omega) (by omega); have w3 := hw 3 (by omega) (by omega); have w4 := hw 4 (by omega) (by omega); have w5 := hw 5 (by omega) (by omega)
  have g0 := hg 0 (by omega); have g1 := hg 1 (by omega); have g2 := hg 2 (by omega); have g3 := hg 3 (by omega); have g4 := hg 4 (by omega); have g5 := hg 5 (by omega)
  have e1 : (lf4_giveBack_5 (I x 5) (I x 6) (I x 7) (a18 x) L 6 0 0 a6 u8).1 = 0 + f2_worthTo (I x 5) (I x 6) (I x 7) (a18 x) (nI 0) L + f2_worthTo (I x 5) (I x 6) (I x 7) (a18 x) (nI 1) L + f2_worthTo (I x 5) (I x 6) (I x 7) (a18 x) (nI 2) L + f2_worthTo (I x 5) (I x 6) (I x 7) (a18 x) (nI 3) L + f2_worthTo (I x 5) (I x 6) (I x 7) (a18 x) (nI 4) L + f2_worthTo (I x 5) (I x 6) (I x 7) (a18 x) (nI 5) L := rfl
  have e2 : (lf4_giveBack_5 (I x 5) (I x 6) (I x 7) (a18 x) L 6 0 0 a6 u8).2.2 = u8 - f2_worthTo (I x 5) (I x 6) (I x 7) (a18 x) (nI 0) L - f2_worthTo (I x 5) (I x 6) (I x 7) (a18 x) (nI 1) L - f2_worthTo (I x 5) (I x 6) (I x 7) (a18 x) (nI 2) L - f2_worthTo (I x 5) (I x 6) (I x 7) (a18 x) (nI 3) L - f2_worthTo (I x 5) (I x 6) (I x 7) (a18 x) (nI 4) L - f2_worthTo (I x 5) (I x 6) (I x 7) (a18 x) (nI 5) L := rfl
  rw [w0, w1, w2, w3, w4, w5, g0, g1, g2, g3, g4, g5] at e1 e2
  have hat : ∀ i, i < 6 → lf5_goes_12 a18 a19 a20 a21 x L (f5_gives a18 a19 a20 a21 x L (-109)) 6 0 a6 i = a6 i + Int32.ofInt (gv a19 a20 (16 * x) (fun k => decide (a21 (16 * x + k) = nI i)) (tn (a18 x)) L.toInt) := fun i hi => by
    rw [go_12, if_pos (by omega), hg i hi]
  have q0 := (hq (fun k => decide (a21 (16 * x + k) = nI 0))); have q1 := (hq (fun k => decide (a21 (16 * x + k) = nI 1))); have q2 := (hq (fun k => decide (a21 (16 * x + k) = nI 2))); have q3 := (hq (fun k => decide (a21 (16 * x + k) = nI 3))); have q4 := (hq (fun k => decide (a21 (16 * x + k) = nI 4))); have q5 := (hq (fun k => decide (a21 (16 * x + k) = nI 5))); have qa := hq (fun _ => true)
  have hti : ∀ i, i < 6 → (lf5_goes_12 a18 a19 a20 a21 x L (f5_gives a18 a19 a20 a21 x L (-109)) 6 0 a6 i).toInt = (a6 i).toInt + gv a19 a20 (16 * x) (fun k => decide (a21 (16 * x + k) = nI i)) (tn (a18 x)) L.toInt := fun i hi => by
    have q := hq (fun k => decide (a21 (16 * x + k) = nI i))
    have hl := s6_le hC1 hi
    have hz := hC1 i hi
    have ee : (Int32.ofInt (gv a19 a20 (16 * x) (fun k => decide (a21 (16 * x + k) = nI i)) (tn (a18 x)) L.toInt)).toInt = gv a19 a20 (16 * x) (fun k => decide (a21 (16 * x + k) = nI i)) (tn (a18 x)) L.toInt := ofI_id (by omega) (by omega)
    rw [hat i hi, add_toInt (by omega) (by omega), ee]
  refine ⟨?_, e6, gv a19 a20 (16 * x) (fun _ => true) (tn (a18 x)) L.toInt, ?_, fun i hi => ?_, ?_, m1, m2, fun i hi => m3 i (by omega), m4, m5, m6, m7, m8 a20⟩
  · show (lf4_giveBack_5 (I x 5) (I x 6) (I x 7) (a18 x) L 6 0 0 a6 u8).1 = f5_gives a18 a19 a20 a21 x L (-109)
    rw [e1, hall, ← hsix]
    simp only [Int32.ofInt_add, Int32.zero_add]
  · show (lf4_giveBack_5 (I x 5) (I x 6) (I x 7) (a18 x) L 6 0 0 a6 u8).2.2 = u8 - Int32.ofInt _
    rw [e2, ← hsix]
    simp only [Int32.ofInt_add]
    grind
  · show 0 ≤ (lf5_goes_12 a18 a19 a20 a21 x L (f5_gives a18 a19 a20 a21 x L (-109)) 6 0 a6 i).toInt
    rw [hti i hi]
    have := hC1 i hi; have := hq (fun k => decide (a21 (16 * x + k) = nI i)); omega
  · show s6 (lf5_goes_12 a18 a19 a20 a21 x L (f5_gives a18 a19 a20 a21 x L (-109)) 6 0 a6) = _
    rw [s6, hti 0 (by omega), hti 1 (by omega), hti 2 (by omega), hti 3 (by omega), hti 4 (by omega), hti 5 (by omega), ← hsix, s6]
    omega
theorem q_wouldGive (h : RSt n u8 I s0 s1 a3 a4 a5 a6 a9 s10 s12 a13 a14 a15 a16 a17 a18 a19 a20 a21) (p1 p2 p3 : Int32) : f4_wouldGive s12 I p1 p2 p3 = f5_wouldGive s12 a14 a17 a18 a19 a20 a21 p1 p2 p3 := by
  unfold f4_wouldGive f5_wouldGive f4_refusalToShrink
  simp only [no_iff, na_iff, ia_iff]
  by_cases c1 : f4_within p1 0 (s12 - 1) = 0
  · simp only [c1, if_true, if_false, not_true_eq_false]
  obtain ⟨x, hx, e, -, ⟨r1, r2, r3, r4, r8, r0, r5⟩, k1, k2', k3', k4, k5, k6, k7, k8, k9⟩ := h.find c1
  by_cases c2 : f5_in p3.toInt64 0 5 = 0
  · simp only [c1, c2, if_true, if_false, not_true_eq_false, not_false_eq_true]
  rw [if_neg c1, if_neg c2, if_pos c1, if_pos c2, e, r2, r4, r8]
  by_cases c3 : a17 x = 0
  rotate_left
  · rw [if_neg c3, if_neg c3, if_neg (by decide)]
  rw [if_pos c3, if_pos c3]
  have hw := wi_in (p := p2) (lo := 1) (hi := a14 x - 1) (lo' := 1) (hi' := (a14 x - 1).toInt64) rfl (Int32.toInt_toInt64 _)
  by_cases c4 : f5_in p2.toInt64 1 (a14 x - 1).toInt64 = 0
  · rw [if_pos c4, if_pos (hw.mpr c4), if_neg (by decide)]
  · rw [if_neg c4, if_neg (fun hh => c4 (hw.mp hh)), if_pos rfl]
    have b := in_i c4
    obtain ⟨t, ht, rfl⟩ := in_small c2 5 rfl
    have b1 : (1 : Int64).toInt = 1 := rfl
    exact wt_same (by omega) (nI_ne (by omega)) (fun k hk => by have := (k8 k hk).1; omega) r5
def shR (n : Nat) (s0 s1 : Int32) (a3 a4 a5 a9 : Nat → Int32) (s10 s12 : Int32) (a13 a15 a16 a17 a20 a21 : Nat → Int32) (A : Int32 × (Nat → Int32) × Int32 × (Nat → Nat → Nat → Int32)) (B : Int32 × (Nat → Int32) × (Nat → Int32) × (Nat → Int32) × (Nat → Int32)) : Prop :=
  A.1 = B.1 ∧ A.2.1 = B.2.1 ∧ RSt n A.2.2.1 A.2.2.2 s0 s1 a3 a4 a5 B.2.1 a9 s10 s12 a13 B.2.2.1 a15 a16 a17 B.2.2.2.1 B.2.2.2.2 a20 a21
def drR (n : Nat) (s0 s1 : Int32) (a3 a4 a5 a9 : Nat → Int32) (s10 s12 : Int32) (a13 a14 a15 a16 a20 a21 : Nat → Int32) (A : Int32 × (Nat → Int32) × Int32 × (Nat → Nat → Nat → Int32)) (B : Int32 × (Nat → Int32) × (Nat → Int32) × (Nat → Int32) × (Nat → Int32)) : Prop :=
  A.1 = B.1 ∧ A.2.1 = B.2.1 ∧ RSt n A.2.2.1 A.2.2.2 s0 s1 a3 a4 a5 B.2.1 a9 s10 s12 a13 a14 a15 a16 B.2.2.1 B.2.2.2.1 B.2.2.2.2 a20 a21
theorem q_shrink (h : RSt n u8 I s0 s1 a3 a4 a5 a6 a9 s10 s12 a13 a14 a15 a16 a17 a18 a19 a20 a21) (p1 p2 : Int32) : shR n s0 s1 a3 a4 a5 a9 s10 s12 a13 a15 a16 a17 a20 a21 (f4_shrink a6 u8 s12 I p1 p2) (f5_shrink a6 s12 a14 a17 a18 a19 a20 a21 p1 p2) := by
  unfold f4_shrink f5_shrink f4_refusalToShrink
  simp only [no_iff]
  by_cases c1 : f4_within p1 0 (s12 - 1) = 0
  · simp only [c1, if_true, if_false, not_true_eq_false]; exact ⟨rfl, rfl, h⟩
  obtain ⟨x, hx, e, -, ⟨r1, r2, r3, r4, r8, r0, r5⟩, k1, k2', k3', k4, k5, k6, k7, k8, k9⟩ := h.find c1
  rw [if_neg c1, if_pos c1, e, r2, r4, r8]
  by_cases c3 : a17 x = 0
  rotate_left
  · rw [if_neg c3, if_neg c3, if_neg (by decide)]; exact ⟨rfl, rfl, h⟩
  rw [if_pos c3, if_pos c3]
  have hw := wi_in (p := p2) (lo := 1) (hi := a14 x - 1) (lo' := 1) (hi' := (a14 x - 1).toInt64) rfl (Int32.toInt_toInt64 _)
  by_cases c4 : f5_in p2.toInt64 1 (a14 x - 1).toInt64 = 0
  · rw [if_pos c4, if_pos (hw.mpr c4), if_neg (by decide)]; exact ⟨rfl, rfl, h⟩
  rw [if_neg c4, if_neg (fun hh => c4 (hw.mp hh)), if_pos rfl]
  have b := in_i c4
  have b1 : (1 : Int64).toInt = 1 := rfl
  have o1 : (1 : Int32).toInt = 1 := rfl
  have es : (a14 x - 1).toInt = (a14 x).toInt - 1 := by rw [sub_toInt (by omega) (by omega), o1]
  rw [Int32.toInt_toInt64, es] at b
  have ed : (a14 x - p2).toInt = (a14 x).toInt - p2.toInt := sub_toInt (by omega) (by omega)
  have hsz := k9 (by rw [c3]; decide)
  have hgb := gb_same h hx (L := p2) (by omega) (by omega)
  generalize f4_giveBack a6 u8 (I x 5) (I x 6) (I x 7) (a18 x) p2 = A at hgb ⊢
  generalize f5_goes a6 a18 a19 a20 a21 x p2 = B at hgb ⊢
  obtain ⟨m1, m2, G, m3, m4, m5, m6, m7, m8, m9, m10, m11, m12, m13⟩ := hgb
  obtain ⟨hA, hB0, ⟨hC1, hC2, hC3, hC4⟩, hD, hE, hF⟩ := h
  have hh : hI B.2.2.1 B.2.2.2 a20 (tn s12) = hI a18 a19 a20 (tn s12) - G := by
    rw [hI_one (a18 := a18) (a19 := a19) (a20 := a20) (tn s12) hx (fun y hy ne => ⟨m7 y ne, fun i hi => by
      have := (hF y hy).2.2.2.2.2.2.2.1
      exact ⟨m8 (16 * y + i) (by omega), rfl⟩⟩), m6, m13]; omega
  refine ⟨m1, m2, hA, hB0, ⟨m4, hC2, ?_, ?_⟩, hD, hE, fun y hy => ?_⟩
  · show s6 B.2.1 + hI B.2.2.1 B.2.2.2 a20 (tn s12) + _ ≤ _
    rw [hh, m5]; omega
  · show A.2.2.1 = Int32.ofInt (hI B.2.2.1 B.2.2.2 a20 (tn s12))
    rw [hh, m3, hC4, Int32.ofInt_sub]
  by_cases ey : y = x
  · subst ey
    refine ⟨?_, k1, ?_, k3', k4, k5, ?_, ?_, ?_, ?_⟩
    · show RI (va_up I y _) a13 (upd a14 y (a14 y - p2)) a15 a16 a17 B.2.2.1 B.2.2.2 a20 a21 y
      rw [RI, va_up_self, upd_self, m6]
      exact ⟨r1, rfl, r3, rfl, rfl, r0, fun k hk => ⟨(m11 k hk).1, (r5 k (by omega)).2⟩⟩
    · show 1 ≤ (upd a14 y (a14 y - p2) y).toInt ∧ (upd a14 y (a14 y - p2) y).toInt ≤ 1000
      rw [upd_self]; omega
    · show B.2.2.1 y = nI (tn (B.2.2.1 y)); rw [m6]; exact m9
    · show tn (B.2.2.1 y) ≤ 16; rw [m6]; omega
    · intro k hk
      have hk : k < tn (B.2.2.1 y) := hk
      rw [m6] at hk
      exact ⟨(m11 k hk).2, (k8 k (by omega)).2⟩
    · intro _
      show sB B.2.2.2 (16 * y) (tn (B.2.2.1 y)) = (upd a14 y (a14 y - p2) y).toInt
      rw [m6, m12, upd_self]; omega
  · obtain ⟨q1, q2⟩ := hF y hy
    have h16 := q2.2.2.2.2.2.2.1
    exact ⟨q1.cong (va_up_ne _ _ ey) rfl (upd_ne _ _ ey) (fun _ _ => rfl) rfl rfl (m7 y ey) (fun k hk => ⟨m8 _ (by omega), rfl, rfl⟩), q2.cong rfl rfl (upd_ne _ _ ey) rfl rfl (m7 y ey) (fun k hk => ⟨m8 _ (by omega), rfl, rfl⟩)⟩
theorem q_drop (h : RSt n u8 I s0 s1 a3 a4 a5 a6 a9 s10 s12 a13 a14 a15 a16 a17 a18 a19 a20 a21) (p1 : Int32) : drR n s0 s1 a3 a4 a5 a9 s10 s12 a13 a14 a15 a16 a20 a21 (f4_drop a6 u8 s12 I p1) (f5_drop a6 s12 a14 a17 a18 a19 a20 a21 p1) := by
  unfold f4_drop f5_drop
  simp only [no_iff]
  by_cases c1 : f4_within p1 0 (s12 - 1) = 0
  · simp only [c1, if_true, if_false, not_true_eq_false]; exact ⟨rfl, rfl, h⟩
  obtain ⟨x, hx, e, -, ⟨r1, r2, r3, r4, r8, r0, r5⟩, k1, k2', k3', k4, k5, k6, k7, k8, k9⟩ := h.find c1
  rw [if_neg c1, if_pos c1, e, r2, r4, r8]
  by_cases c3 : a17 x = 2
  · rw [if_pos c3, if_pos c3]; exact ⟨rfl, rfl, h⟩
  rw [if_neg c3, if_neg c3]
  have hsz := k9 c3
  have hgb := gb_same h hx (L := a14 x) (by omega) (by omega)
  generalize f4_giveBack a6 u8 (I x 5) (I x 6) (I x 7) (a18 x) (a14 x) = A at hgb ⊢
  generalize f5_goes a6 a18 a19 a20 a21 x (a14 x) = B at hgb ⊢
  obtain ⟨m1, m2, G, m3, m4, m5, m6, m7, m8, m9, m10, m11, m12, m13⟩ := hgb
  obtain ⟨hA, hB0, ⟨hC1, hC2, hC3, hC4⟩, hD, hE, hF⟩ := h
  have hh : hI B.2.2.1 B.2.2.2 a20 (tn s12) = hI a18 a19 a20 (tn s12) - G := by
    rw [hI_one (a18 := a18) (a19 := a19) (a20 := a20) (tn s12) hx (fun y hy ne => ⟨m7 y ne, fun i hi => by
      have := (hF y hy).2.2.2.2.2.2.2.1
      exact ⟨m8 (16 * y + i) (by omega), rfl⟩⟩), m6, m13]; omega
  refine ⟨m1, m2, hA, hB0, ⟨m4, hC2, ?_, ?_⟩, hD, hE, fun y hy => ?_⟩
  · show s6 B.2.1 + hI B.2.2.1 B.2.2.2 a20 (tn s12) + _ ≤ _
    rw [hh, m5]; omega
  · show A.2.2.1 = Int32.ofInt (hI B.2.2.1 B.2.2.2 a20 (tn s12))
    rw [hh, m3, hC4, Int32.ofInt_sub]
  by_cases ey : y = x
  · subst ey
    refine ⟨?_, k1, k2', k3', ?_, ?_, ?_, ?_, ?_, ?_⟩
    · show RI (va_up I y _) a13 a14 a15 a16 (upd a17 y 2) B.2.2.1 B.2.2.2 a20 a21 y
      rw [RI, va_up_self, upd_self, m6]
      exact ⟨r1, rfl, r3, rfl, rfl, r0, fun k hk => ⟨(m11 k hk).1, (r5 k (by omega)).2⟩⟩
    · intro h1
      have h1 : upd a17 y 2 y = 0 := h1
      rw [upd_self] at h1; exact absurd h1 (by decide)
    · intro h1
      have h1 : upd a17 y 2 y = 1 := h1
      rw [upd_self] at h1; exact absurd h1 (by decide)
    · show B.2.2.1 y = nI (tn (B.2.2.1 y)); rw [m6]; exact m9
    · show tn (B.2.2.1 y) ≤ 16; rw [m6]; omega
    · intro k hk
      have hk : k < tn (B.2.2.1 y) := hk
      rw [m6] at hk
      exact ⟨(m11 k hk).2, (k8 k (by omega)).2⟩
    · intro h1
      have h1 : ¬ upd a17 y 2 y = 2 := h1
      rw [upd_self] at h1; exact absurd rfl h1
  · obtain ⟨q1, q2⟩ := hF y hy
    have h16 := q2.2.2.2.2.2.2.1
    exact ⟨q1.cong (va_up_ne _ _ ey) rfl rfl (fun _ _ => rfl) rfl (upd_ne _ _ ey) (m7 y ey) (fun k hk => ⟨m8 _ (by omega), rfl, rfl⟩), q2.cong rfl rfl rfl rfl (upd_ne _ _ ey) (m7 y ey) (fun k hk => ⟨m8 _ (by omega), rfl, rfl⟩)⟩
end
