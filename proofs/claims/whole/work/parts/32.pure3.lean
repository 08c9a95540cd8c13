theorem upd_id (f : Nat → Int32) (k : Nat) : upd f k (f k) = f := by
  funext j; unfold upd; split
  · rename_i c; rw [c]
  · rfl
theorem sp_20 (a9 : Nat → Int32) (P : Int32) : ∀ (k j : Nat) (f6 : Nat → Int32) (f9 f10 v3 : Int32), (lf3_sharePool_20 a9 P k j f6 f9 f10).1 = (lf5_share_20 a9 P k j f9 v3 f6).2.2 ∧ (lf3_sharePool_20 a9 P k j f6 f9 f10).2.1 = (lf5_share_20 a9 P k j f9 v3 f6).1 ∧ (lf3_sharePool_20 a9 P k j f6 f9 f10).2.1 + (lf3_sharePool_20 a9 P k j f6 f9 f10).2.2 = f9 + f10
  | 0, _, _, _, _, _ => ⟨rfl, rfl, rfl⟩
  | k + 1, j, f6, f9, f10, v3 => by
    have e : f3_sumOf a9 5 = f5_allWeights a9 := by unfold f3_sumOf f5_allWeights; rw [sum_same]
    rw [lf3_sharePool_20, lf5_share_20]
    simp only [f3_payNode, e]
    generalize ((P.toInt64 * (a9 j).toInt64) / (f5_allWeights a9).toInt64).toInt32 = q
    have ih := fun v3 => sp_20 a9 P k (j + 1) (upd f6 j (f6 j + q)) (f9 - q) (f10 + q) v3
    have e3 : f9 - q + (f10 + q) = f9 + f10 := by grind
    split
    · obtain ⟨h1, h2, h3⟩ := ih (v3 + 0)
      exact ⟨h1, h2, h3.trans e3⟩
    · obtain ⟨h1, h2, h3⟩ := ih (v3 + 1)
      exact ⟨h1, h2, h3.trans e3⟩
/-- how many of the nodes get one of the coins that are left -/
def gtN (w : Nat → Int32) (r : Int32) : Nat → Nat → Nat
  | 0, _ => 0
  | k + 1, j => (if w j ≤ 0 then 0 else if r ≤ f3_rankOf w j then 0 else 1) + gtN w r k (j + 1)
theorem nI_one_add (m : Nat) : 1 + nI m = nI (1 + m) := by
  unfold nI; rw [Int32.ofNat_add]; rfl
theorem sp_58 (w : Nat → Int32) (r c : Int32) (hq : ∀ j, j < 5 → ¬ r ≤ f3_rankOf w j → ((r - f3_rankOf w j) - 1) / c = 0) : ∀ (k j : Nat) (f6 : Nat → Int32) (f9 f10 : Int32), j + k ≤ 5 → (lf3_sharePool_58 w r k j f6 f9 f10).1 = lf5_share_90 w r c k j f6 ∧ (lf3_sharePool_58 w r k j f6 f9 f10).2.1 = f9 - nI (gtN w r k j) ∧ (lf3_sharePool_58 w r k j f6 f9 f10).2.1 + (lf3_sharePool_58 w r k j f6 f9 f10).2.2 = f9 + f10
  | 0, _, _, f9, _, _ => ⟨rfl, by rw [lf3_sharePool_58, gtN, show nI 0 = 0 from rfl, Int32.sub_zero], rfl⟩
  | k + 1, j, f6, f9, f10, hj => by
    have ih := fun f6 f9 f10 => sp_58 w r c hq k (j + 1) f6 f9 f10 (by omega)
    have er : f5_rank w j = f3_rankOf w j := by unfold f5_rank f3_rankOf; exact rk_same w j 5 0 0
    rw [lf3_sharePool_58, lf5_share_90, gtN, er, Int32.add_zero, upd_id]
    by_cases c1 : w j ≤ 0
    · simp only [c1, if_true, Nat.zero_add]; exact ih _ _ _
    · by_cases c2 : r ≤ f3_rankOf w j
      · simp only [c1, c2, if_true, if_false, Nat.zero_add]; exact ih _ _ _
      · simp only [c1, c2, if_false, f3_payNode, hq j (by omega) c2, Int32.zero_add]
        obtain ⟨h1, h2, h3⟩ := ih (upd f6 j (f6 j + 1)) (f9 - 1) (f10 + 1)
        refine ⟨h1, ?_, h3.trans (by grind)⟩
        rw [h2, ← nI_one_add]; grind
def bN (b : Bool) : Nat := if b then 1 else 0
def bf (w : Nat → Int32) (i x : Nat) : Bool := decide ((w x).toInt < (w i).toInt) || (decide ((w i).toInt = (w x).toInt) && decide (i < x))
def rkN (w : Nat → Int32) (x : Nat) : Nat → Nat → Nat
  | 0, _ => 0
  | k + 1, j => bN (bf w j x) + rkN w x k (j + 1)
theorem rk_nat (w : Nat → Int32) {x : Nat} (hx : x < 5) : ∀ (k j : Nat) (v : Int32), j + k ≤ 5 → lf3_rankOf_4 w x k j v = v + nI (rkN w x k j)
  | 0, _, v, _ => by rw [lf3_rankOf_4, rkN, show nI 0 = 0 from rfl, Int32.add_zero]
  | k + 1, j, v, hj => by
    have ih := fun v => rk_nat w hx k (j + 1) v (by omega)
    have tx : (nI x).toInt = (x : Nat) := Int32.toInt_ofNat_of_lt (by omega)
    have tj : (nI j).toInt = (j : Nat) := Int32.toInt_ofNat_of_lt (by omega)
    rw [lf3_rankOf_4, rkN, bf, ih, ih]
    by_cases c1 : w x < w j
    · have c1' := i32_lt.mp c1
      rw [if_pos c1]
      simp only [c1', decide_true, Bool.true_or, bN, if_true]
      rw [← nI_one_add, Int32.add_assoc]
    · have c1' := mt i32_lt.mpr c1
      rw [if_neg c1]
      by_cases c2 : w j = w x
      · rw [if_pos c2, c2]
        by_cases c3 : nI x ≤ nI j
        · have : ¬ j < x := by have := i32_le.mp c3; omega
          rw [if_pos c3]; simp [this, bN]
        · have : j < x := by have := mt i32_le.mpr c3; omega
          rw [if_neg c3]; simp [this, bN]
          rw [← nI_one_add, Int32.add_assoc]
      · rw [if_neg c2]
        have c2' : ¬ (w j).toInt = (w x).toInt := fun h => c2 (i32_ext h)
        simp [c1', c2', bN]
/-- five that are put in a row: as many are before the r-th place as r says -/
def chk5 (b01 b02 b03 b04 b12 b13 b14 b23 b24 b34 : Bool) : Bool :=
  let ok (x y z : Bool) : Bool := !(x && y && !z) && !(!x && !y && z)
  !(ok b01 b12 b02 && ok b01 b13 b03 && ok b01 b14 b04 && ok b02 b23 b03 && ok b02 b24 b04 && ok b03 b34 b04 && ok b12 b23 b13 && ok b12 b24 b14 && ok b13 b34 b14 && ok b23 b34 b24) ||
  (let r0 := bN (!b01) + bN (!b02) + bN (!b03) + bN (!b04)
   let r1 := bN b01 + bN (!b12) + bN (!b13) + bN (!b14)
   let r2 := bN b02 + bN b12 + bN (!b23) + bN (!b24)
   let r3 := bN b03 + bN b13 + bN b23 + bN (!b34)
   let r4 := bN b04 + bN b14 + bN b24 + bN b34
   let c (r : Nat) : Bool := (bN (decide (r0 < r)) + bN (decide (r1 < r)) + bN (decide (r2 < r)) + bN (decide (r3 < r)) + bN (decide (r4 < r))) == r
   c 0 && c 1 && c 2 && c 3 && c 4 && c 5)
set_option maxRecDepth 100000 in
theorem chk5_all : ∀ b01 b02 b03 b04 b12 b13 b14 b23 b24 b34 : Bool, chk5 b01 b02 b03 b04 b12 b13 b14 b23 b24 b34 = true := by decide +kernel
theorem bf_self (w : Nat → Int32) (x : Nat) : bf w x x = false := by simp [bf]
theorem bf_lt (w : Nat → Int32) {i x : Nat} (h : i < x) : bf w i x = decide ((w x).toInt ≤ (w i).toInt) := by
  unfold bf
  by_cases c : (w x).toInt < (w i).toInt
  · have : (w x).toInt ≤ (w i).toInt := by omega
    simp [c, this]
  · by_cases d : (w i).toInt = (w x).toInt
    · simp [d, h]
    · have : ¬ (w x).toInt ≤ (w i).toInt := by omega
      simp [c, d, this]
theorem bf_gt (w : Nat → Int32) {i x : Nat} (h : x < i) : bf w i x = !decide ((w i).toInt ≤ (w x).toInt) := by
  unfold bf
  have h' : ¬ i < x := by omega
  by_cases c : (w x).toInt < (w i).toInt
  · have : ¬ (w i).toInt ≤ (w x).toInt := by omega
    simp [c, this]
  · have : (w i).toInt ≤ (w x).toInt := by omega
    simp [h', c, this]
theorem ok3 (a b c : Int) : (!(decide (b ≤ a) && decide (c ≤ b) && !decide (c ≤ a)) && !(!decide (b ≤ a) && !decide (c ≤ b) && decide (c ≤ a))) = true := by
  by_cases h1 : b ≤ a <;> by_cases h2 : c ≤ b <;> by_cases h3 : c ≤ a <;> simp [*] <;> omega
theorem rkN5 (w : Nat → Int32) (x : Nat) : rkN w x 5 0 = bN (bf w 0 x) + bN (bf w 1 x) + bN (bf w 2 x) + bN (bf w 3 x) + bN (bf w 4 x) := by
  show bN (bf w 0 x) + (bN (bf w 1 x) + (bN (bf w 2 x) + (bN (bf w 3 x) + (bN (bf w 4 x) + 0)))) = _
  omega
theorem row5 (w : Nat → Int32) {r : Nat} (hr : r ≤ 5) : bN (decide (rkN w 0 5 0 < r)) + bN (decide (rkN w 1 5 0 < r)) + bN (decide (rkN w 2 5 0 < r)) + bN (decide (rkN w 3 5 0 < r)) + bN (decide (rkN w 4 5 0 < r)) = r := by
  have h := chk5_all (decide ((w 1).toInt ≤ (w 0).toInt)) (decide ((w 2).toInt ≤ (w 0).toInt)) (decide ((w 3).toInt ≤ (w 0).toInt)) (decide ((w 4).toInt ≤ (w 0).toInt)) (decide ((w 2).toInt ≤ (w 1).toInt)) (decide ((w 3).toInt ≤ (w 1).toInt)) (decide ((w 4).toInt ≤ (w 1).toInt)) (decide ((w 3).toInt ≤ (w 2).toInt)) (decide ((w 4).toInt ≤ (w 2).toInt)) (decide ((w 4).toInt ≤ (w 3).toInt))
  unfold chk5 at h
  simp only [ok3, Bool.and_self, Bool.not_true, Bool.false_or, Bool.and_eq_true, beq_iff_eq] at h
  obtain ⟨⟨⟨⟨⟨h0, h1⟩, h2⟩, h3⟩, h4⟩, h5⟩ := h
  have b0 : bN false = 0 := rfl
  have e0 : rkN w 0 5 0 = bN (!decide ((w 1).toInt ≤ (w 0).toInt)) + bN (!decide ((w 2).toInt ≤ (w 0).toInt)) + bN (!decide ((w 3).toInt ≤ (w 0).toInt)) + bN (!decide ((w 4).toInt ≤ (w 0).toInt)) := by
    rw [rkN5, bf_self, bf_gt w (show 0 < 1 by omega), bf_gt w (show 0 < 2 by omega), bf_gt w (show 0 < 3 by omega), bf_gt w (show 0 < 4 by omega), b0]; omega
  have e1 : rkN w 1 5 0 = bN (decide ((w 1).toInt ≤ (w 0).toInt)) + bN (!decide ((w 2).toInt ≤ (w 1).toInt)) + bN (!decide ((w 3).toInt ≤ (w 1).toInt)) + bN (!decide ((w 4).toInt ≤ (w 1).toInt)) := by
    rw [rkN5, bf_self, bf_lt w (show 0 < 1 by omega), bf_gt w (show 1 < 2 by omega), bf_gt w (show 1 < 3 by omega), bf_gt w (show 1 < 4 by omega), b0]; omega
  have e2 : rkN w 2 5 0 = bN (decide ((w 2).toInt ≤ (w 0).toInt)) + bN (decide ((w 2).toInt ≤ (w 1).toInt)) + bN (!decide ((w 3).toInt ≤ (w 2).toInt)) + bN (!decide ((w 4).toInt ≤ (w 2).toInt)) := by
    rw [rkN5, bf_self, bf_lt w (show 0 < 2 by omega), bf_lt w (show 1 < 2 by omega), bf_gt w (show 2 < 3 by omega), bf_gt w (show 2 < 4 by omega), b0]; omega
  have e3 : rkN w 3 5 0 = bN (decide ((w 3).toInt ≤ (w 0).toInt)) + bN (decide ((w 3).toInt ≤ (w 1).toInt)) + bN (decide ((w 3).toInt ≤ (w 2).toInt)) + bN (!decide ((w 4).toInt ≤ (w 3).toInt)) := by
    rw [rkN5, bf_self, bf_lt w (show 0 < 3 by omega), bf_lt w (show 1 < 3 by omega), bf_lt w (show 2 < 3 by omega), bf_gt w (show 3 < 4 by omega), b0]; omega
  have e4 : rkN w 4 5 0 = bN (decide ((w 4).toInt ≤ (w 0).toInt)) + bN (decide ((w 4).toInt ≤ (w 1).toInt)) + bN (decide ((w 4).toInt ≤ (w 2).toInt)) + bN (decide ((w 4).toInt ≤ (w 3).toInt)) := by
    rw [rkN5, bf_self, bf_lt w (show 0 < 4 by omega), bf_lt w (show 1 < 4 by omega), bf_lt w (show 2 < 4 by omega), bf_lt w (show 3 < 4 by omega), b0]; omega
  rw [← e0, ← e1, ← e2, ← e3, ← e4] at h0 h1 h2 h3 h4 h5
  have : r = 0 ∨ r = 1 ∨ r = 2 ∨ r = 3 ∨ r = 4 ∨ r = 5 := by omega
  rcases this with rfl | rfl | rfl | rfl | rfl | rfl
  · exact h0
  · exact h1
  · exact h2
  · exact h3
  · exact h4
  · exact h5
theorem bN_le (b : Bool) : bN b ≤ 1 := by cases b <;> simp [bN]
theorem cpw5 (w : Nat → Int32) : cpw w 0 5 = (if w 0 ≤ 0 then 0 else 1) + (if w 1 ≤ 0 then 0 else 1) + (if w 2 ≤ 0 then 0 else 1) + (if w 3 ≤ 0 then 0 else 1) + (if w 4 ≤ 0 then 0 else 1) := by
  show (if w 0 ≤ 0 then 0 else 1) + ((if w 1 ≤ 0 then 0 else 1) + ((if w 2 ≤ 0 then 0 else 1) + ((if w 3 ≤ 0 then 0 else 1) + ((if w 4 ≤ 0 then 0 else 1) + 0)))) = _
  omega
theorem pos_bf {w : Nat → Int32} {i x : Nat} (hx : w x ≤ 0) : (if w i ≤ 0 then 0 else 1) ≤ bN (bf w i x) := by
  split
  · omega
  · rename_i c
    have h1 := i32_le.mp hx
    have h2 := mt i32_le.mpr c
    have : (w x).toInt < (w i).toInt := by omega
    simp [bf, this, bN]
theorem rk_pos {w : Nat → Int32} {x : Nat} (hx : w x ≤ 0) : cpw w 0 5 ≤ rkN w x 5 0 := by
  rw [cpw5, rkN5]
  have h0 := pos_bf (i := 0) hx; have h1 := pos_bf (i := 1) hx; have h2 := pos_bf (i := 2) hx; have h3 := pos_bf (i := 3) hx; have h4 := pos_bf (i := 4) hx
  omega
theorem rank_nat (w : Nat → Int32) {x : Nat} (hx : x < 5) : f3_rankOf w x = nI (rkN w x 5 0) ∧ rkN w x 5 0 ≤ 5 := by
  refine ⟨?_, ?_⟩
  · unfold f3_rankOf; rw [rk_nat w hx 5 0 0 (by omega), Int32.zero_add]
  · rw [rkN5]
    have := bN_le (bf w 0 x); have := bN_le (bf w 1 x); have := bN_le (bf w 2 x); have := bN_le (bf w 3 x); have := bN_le (bf w 4 x)
    omega
theorem gt_one {w : Nat → Int32} {r : Int32} {R x : Nat} (hr : r.toInt = R) (hR : R < cpw w 0 5) (hx : x < 5) : (if w x ≤ 0 then 0 else if r ≤ f3_rankOf w x then 0 else 1) = bN (decide (rkN w x 5 0 < R)) := by
  obtain ⟨e, h5⟩ := rank_nat w hx
  have t : (nI (rkN w x 5 0)).toInt = (rkN w x 5 0 : Nat) := Int32.toInt_ofNat_of_lt (by omega)
  by_cases c : w x ≤ 0
  · have := rk_pos c
    rw [if_pos c]
    have : ¬ rkN w x 5 0 < R := by omega
    simp [this, bN]
  · rw [if_neg c, e]
    by_cases d : r ≤ nI (rkN w x 5 0)
    · have := i32_le.mp d
      have : ¬ rkN w x 5 0 < R := by omega
      rw [if_pos d]; simp [this, bN]
    · have := mt i32_le.mpr d
      have : rkN w x 5 0 < R := by omega
      rw [if_neg d]; simp [this, bN]
theorem gt_all {w : Nat → Int32} {r : Int32} {R : Nat} (hr : r.toInt = R) (hR : R < cpw w 0 5) : gtN w r 5 0 = R := by
  have h5 := cpw_le w 5 0
  have h := row5 w (r := R) (by omega)
  have g0 := gt_one hr hR (x := 0) (by omega); have g1 := gt_one hr hR (x := 1) (by omega); have g2 := gt_one hr hR (x := 2) (by omega); have g3 := gt_one hr hR (x := 3) (by omega); have g4 := gt_one hr hR (x := 4) (by omega)
  show (if w 0 ≤ 0 then 0 else if r ≤ f3_rankOf w 0 then 0 else 1) + ((if w 1 ≤ 0 then 0 else if r ≤ f3_rankOf w 1 then 0 else 1) + ((if w 2 ≤ 0 then 0 else if r ≤ f3_rankOf w 2 then 0 else 1) + ((if w 3 ≤ 0 then 0 else if r ≤ f3_rankOf w 3 then 0 else 1) + ((if w 4 ≤ 0 then 0 else if r ≤ f3_rankOf w 4 then 0 else 1) + 0)))) = R
  rw [g0, g1, g2, g3, g4]
  omega
theorem mod_bd {P w W e : Int} (hw : 0 ≤ w) (hW : 0 < W) (he : (w = 0 ∧ e = 0) ∨ (0 < w ∧ e = 1)) : 0 ≤ P * w % W ∧ P * w % W ≤ e * W - e := by
  have h1 := Int.emod_nonneg (P * w) (show W ≠ 0 by omega)
  have h2 := Int.emod_lt_of_pos (P * w) hW
  rcases he with ⟨rfl, rfl⟩ | ⟨_, rfl⟩
  · simp
  · omega
theorem share_bd {P W w0 w1 w2 w3 w4 e0 e1 e2 e3 e4 : Int} (h0 : 0 ≤ w0) (h1 : 0 ≤ w1) (h2 : 0 ≤ w2) (h3 : 0 ≤ w3) (h4 : 0 ≤ w4) (hW : W = w0 + w1 + w2 + w3 + w4) (hW0 : 0 < W) (he0 : (w0 = 0 ∧ e0 = 0) ∨ (0 < w0 ∧ e0 = 1)) (he1 : (w1 = 0 ∧ e1 = 0) ∨ (0 < w1 ∧ e1 = 1)) (he2 : (w2 = 0 ∧ e2 = 0) ∨ (0 < w2 ∧ e2 = 1)) (he3 : (w3 = 0 ∧ e3 = 0) ∨ (0 < w3 ∧ e3 = 1)) (he4 : (w4 = 0 ∧ e4 = 0) ∨ (0 < w4 ∧ e4 = 1)) : 0 ≤ P - P * w0 / W - P * w1 / W - P * w2 / W - P * w3 / W - P * w4 / W ∧ P - P * w0 / W - P * w1 / W - P * w2 / W - P * w3 / W - P * w4 / W < e0 + e1 + e2 + e3 + e4 := by
  have m0 := mod_bd (P := P) h0 hW0 he0; have m1 := mod_bd (P := P) h1 hW0 he1; have m2 := mod_bd (P := P) h2 hW0 he2; have m3 := mod_bd (P := P) h3 hW0 he3; have m4 := mod_bd (P := P) h4 hW0 he4
  have d0 := Int.emod_add_mul_ediv (P * w0) W; have d1 := Int.emod_add_mul_ediv (P * w1) W; have d2 := Int.emod_add_mul_ediv (P * w2) W; have d3 := Int.emod_add_mul_ediv (P * w3) W; have d4 := Int.emod_add_mul_ediv (P * w4) W
  generalize P * w0 / W = q0 at *
  generalize P * w1 / W = q1 at *
  generalize P * w2 / W = q2 at *
  generalize P * w3 / W = q3 at *
  generalize P * w4 / W = q4 at *
  have key : W * (P - q0 - q1 - q2 - q3 - q4) = P * w0 % W + P * w1 % W + P * w2 % W + P * w3 % W + P * w4 % W := by
    have : P * w0 + P * w1 + P * w2 + P * w3 + P * w4 = W * P := by rw [hW]; grind
    have e : W * (P - q0 - q1 - q2 - q3 - q4) = W * P - W * q0 - W * q1 - W * q2 - W * q3 - W * q4 := by grind
    omega
  generalize P - q0 - q1 - q2 - q3 - q4 = R at *
  generalize P * w0 % W = t0 at *
  generalize P * w1 % W = t1 at *
  generalize P * w2 % W = t2 at *
  generalize P * w3 % W = t3 at *
  generalize P * w4 % W = t4 at *
  have es : e0 * W + e1 * W + e2 * W + e3 * W + e4 * W = W * (e0 + e1 + e2 + e3 + e4) := by grind
  constructor
  · apply Classical.byContradiction
    intro hR
    have : W * R ≤ W * (-1) := Int.mul_le_mul_of_nonneg_left (by omega) (by omega)
    omega
  · apply Classical.byContradiction
    intro hR
    have : W * (e0 + e1 + e2 + e3 + e4) ≤ W * R := Int.mul_le_mul_of_nonneg_left (by omega) (by omega)
    omega
theorem div64 {a b : Int64} (ha : 0 ≤ a.toInt) (hb : 0 < b.toInt) : (a / b).toInt = a.toInt / b.toInt := by
  have h1 : a.toInt < 9223372036854775808 := Int64.toInt_lt a
  rw [Int64.toInt_div, Int.tdiv_eq_ediv_of_nonneg ha]
  have h2 : 0 ≤ a.toInt / b.toInt := Int.ediv_nonneg ha (by omega)
  have h3 : a.toInt / b.toInt ≤ a.toInt := Int.ediv_le_self _ ha
  exact Int.bmod_eq_of_le (by omega) (by omega)
theorem div32z {a b : Int32} (ha : 0 ≤ a.toInt) (hb : a.toInt < b.toInt) : a / b = 0 := by
  apply i32_ext
  rw [Int32.toInt_div, Int.tdiv_eq_ediv_of_nonneg ha, Int.ediv_eq_zero_of_lt ha hb]
  rfl
theorem e_cas {w : Int32} (h : 0 ≤ w.toInt) : (w.toInt = 0 ∧ (((if w ≤ 0 then 0 else 1 : Nat)) : Int) = 0) ∨ (0 < w.toInt ∧ (((if w ≤ 0 then 0 else 1 : Nat)) : Int) = 1) := by
  by_cases c : w ≤ 0
  · have := i32_le.mp c
    rw [z_toInt] at this
    rw [if_pos c]; exact Or.inl ⟨by omega, rfl⟩
  · have := mt i32_le.mpr c
    rw [z_toInt] at this
    rw [if_neg c]; exact Or.inr ⟨by omega, rfl⟩
theorem share_same {a8 a9 : Nat → Int32} {P s11 : Int32} (hP : 0 ≤ P.toInt ∧ P.toInt ≤ 600000) (hw : ∀ i, i < 5 → 0 ≤ (a9 i).toInt ∧ (a9 i).toInt ≤ 1000) : f3_sharePool a8 a9 P s11 = f5_share a8 a9 P s11 := by
  have e : f3_sumOf a9 5 = f5_allWeights a9 := by unfold f3_sumOf f5_allWeights; rw [sum_same]
  have w0 := hw 0 (by omega); have w1 := hw 1 (by omega); have w2 := hw 2 (by omega); have w3 := hw 3 (by omega); have w4 := hw 4 (by omega)
  have eW : (f5_allWeights a9).toInt = (a9 0).toInt + (a9 1).toInt + (a9 2).toInt + (a9 3).toInt + (a9 4).toInt := by
    have : f5_allWeights a9 = 0 + a9 0 + a9 1 + a9 2 + a9 3 + a9 4 := rfl
    rw [this, Int32.zero_add]
    have t1 : (a9 0 + a9 1).toInt = (a9 0).toInt + (a9 1).toInt := add_toInt (by omega) (by omega)
    have t2 : (a9 0 + a9 1 + a9 2).toInt = (a9 0).toInt + (a9 1).toInt + (a9 2).toInt := by rw [add_toInt (by omega) (by omega), t1]
    have t3 : (a9 0 + a9 1 + a9 2 + a9 3).toInt = (a9 0).toInt + (a9 1).toInt + (a9 2).toInt + (a9 3).toInt := by rw [add_toInt (by omega) (by omega), t2]
    rw [add_toInt (by omega) (by omega), t3]
  unfold f3_sharePool f5_share
  rw [e]
  by_cases c : f5_allWeights a9 = 0
  · rw [if_pos c, if_neg (by rw [c]; decide)]
  have hW0 : 0 < (f5_allWeights a9).toInt := by
    have : ¬ (f5_allWeights a9).toInt = 0 := fun h => c (i32_ext (by rw [h, z_toInt]))
    omega
  rw [if_neg c, if_pos (i32_lt.mpr (by rw [z_toInt]; omega))]
  obtain ⟨h1, h2, h3⟩ := sp_20 a9 P 5 0 a8 P s11 0
  have hcnt : (lf5_share_20 a9 P 5 0 P 0 a8).2.1 = nI (cpw a9 0 5) := by rw [sh_lf, Int32.zero_add]
  have hQ : ∀ i, i < 5 → ((P.toInt64 * (a9 i).toInt64) / (f5_allWeights a9).toInt64).toInt32 = Int32.ofInt (P.toInt * (a9 i).toInt / (f5_allWeights a9).toInt) := fun i hi => by
    have hb := mul_bd (x := P.toInt) (y := (a9 i).toInt) ⟨hP.1, hP.2⟩ (hw i hi)
    have em : (P.toInt64 * (a9 i).toInt64).toInt = P.toInt * (a9 i).toInt := by
      rw [mul64] <;> rw [Int32.toInt_toInt64, Int32.toInt_toInt64] <;> omega
    rw [l2i, div64 (by rw [em]; omega) (by rw [Int32.toInt_toInt64]; omega), em, Int32.toInt_toInt64]
  have hrest : (lf3_sharePool_20 a9 P 5 0 a8 P s11).2.1 = Int32.ofInt (P.toInt - P.toInt * (a9 0).toInt / (f5_allWeights a9).toInt - P.toInt * (a9 1).toInt / (f5_allWeights a9).toInt - P.toInt * (a9 2).toInt / (f5_allWeights a9).toInt - P.toInt * (a9 3).toInt / (f5_allWeights a9).toInt - P.toInt * (a9 4).toInt / (f5_allWeights a9).toInt) := by
    have : (lf3_sharePool_20 a9 P 5 0 a8 P s11).2.1 = P - ((P.toInt64 * (a9 0).toInt64) / (f3_sumOf a9 5).toInt64).toInt32 - ((P.toInt64 * (a9 1).toInt64) / (f3_sumOf a9 5).toInt64).toInt32 - ((P.toInt64 * (a9 2).toInt64) / (f3_sumOf a9 5).toInt64).toInt32 - ((P.toInt64 * (a9 3).toInt64) / (f3_sumOf a9 5).toInt64).toInt32 - ((P.toInt64 * (a9 4).toInt64) / (f3_sumOf a9 5).toInt64).toInt32 := rfl
    rw [this, e, hQ 0 (by omega), hQ 1 (by omega), hQ 2 (by omega), hQ 3 (by omega), hQ 4 (by omega)]
    simp only [Int32.ofInt_sub, Int32.ofInt_toInt]
  obtain ⟨b1, b2⟩ := share_bd (P := P.toInt) (W := (f5_allWeights a9).toInt) w0.1 w1.1 w2.1 w3.1 w4.1 eW hW0 (e_cas w0.1) (e_cas w1.1) (e_cas w2.1) (e_cas w3.1) (e_cas w4.1)
  have hc5 := cpw5 a9
  generalize P.toInt - P.toInt * (a9 0).toInt / (f5_allWeights a9).toInt - P.toInt * (a9 1).toInt / (f5_allWeights a9).toInt - P.toInt * (a9 2).toInt / (f5_allWeights a9).toInt - P.toInt * (a9 3).toInt / (f5_allWeights a9).toInt - P.toInt * (a9 4).toInt / (f5_allWeights a9).toInt = R at hrest b1 b2
  obtain ⟨Rn, rfl⟩ : ∃ Rn : Nat, R = Rn := ⟨R.toNat, by omega⟩
  have hR : Rn < cpw a9 0 5 := by rw [hc5]; omega
  have hcle := cpw_le a9 5 0
  have tr : (Int32.ofInt (Rn : Int)).toInt = Rn := ofI_id (by omega) (by omega)
  rw [hrest] at h2 h3
  rw [hrest, h1, ← h2, hcnt]
  have tc : (nI (cpw a9 0 5)).toInt = (cpw a9 0 5 : Nat) := Int32.toInt_ofNat_of_lt (by omega)
  obtain ⟨g1, g2, g3⟩ := sp_58 a9 (Int32.ofInt Rn) (nI (cpw a9 0 5)) (fun j hj hh => by
    obtain ⟨ej, h5⟩ := rank_nat a9 hj
    have t : (nI (rkN a9 j 5 0)).toInt = (rkN a9 j 5 0 : Nat) := Int32.toInt_ofNat_of_lt (by omega)
    rw [ej] at hh ⊢
    have := mt i32_le.mpr hh
    have o : (1 : Int32).toInt = 1 := rfl
    have s1 : (Int32.ofInt Rn - nI (rkN a9 j 5 0)).toInt = Rn - rkN a9 j 5 0 := by rw [sub_toInt (by omega) (by omega), tr, t]
    have s2 : (Int32.ofInt Rn - nI (rkN a9 j 5 0) - 1).toInt = Rn - rkN a9 j 5 0 - 1 := by rw [sub_toInt (by omega) (by omega), s1, o]
    exact div32z (by omega) (by omega)) 5 0 (lf5_share_20 a9 P 5 0 P 0 a8).2.2 (Int32.ofInt Rn) (lf3_sharePool_20 a9 P 5 0 a8 P s11).2.2 (by omega)
  rw [gt_all tr hR] at g2
  have g2' : (lf3_sharePool_58 a9 (Int32.ofInt Rn) 5 0 (lf5_share_20 a9 P 5 0 P 0 a8).2.2 (Int32.ofInt Rn) (lf3_sharePool_20 a9 P 5 0 a8 P s11).2.2).2.1 = 0 := by
    rw [g2]
    apply i32_ext
    have t : (nI Rn).toInt = (Rn : Nat) := Int32.toInt_ofNat_of_lt (by omega)
    rw [sub_toInt (by omega) (by omega), tr, t, z_toInt]; omega
  rw [g2', Int32.zero_add] at g3
  rw [g1, g2', g3, h3]
  refine congrArg _ (congrArg _ ?_)
  exact Int32.add_comm _ _
theorem tk_48 {a16 : Nat → Int32} {p1 : Int32} {t : Nat} {v3 h : Int32} {f8 : Nat → Int32} {f10 f11 : Int32} : ∀ (k j : Nat) (v2 : Int32) (f : Nat → Int32) (x : Nat), (lf5_tick_48 a16 p1 t v3 h f8 f10 f11 k j v2 f).2 x = if (j ≤ x ∧ x < j + k) ∧ f x = 0 ∧ ¬ h ≤ a16 x then 1 else f x
  | 0, j, v2, f, x => by rw [lf5_tick_48, if_neg (by omega)]
  | k + 1, j, v2, f, x => by
    rw [lf5_tick_48]
    by_cases c1 : f j = 0
    · by_cases c2 : h ≤ a16 j
      · rw [if_pos c1, if_pos c2, tk_48 k (j + 1)]
        by_cases ex : x = j
        · subst ex
          rw [if_neg (by omega), if_neg (fun q => q.2.2 c2)]
        · simp only [show (j + 1 ≤ x ∧ x < j + 1 + k) ↔ (j ≤ x ∧ x < j + (k + 1)) by omega]
      · rw [if_pos c1, if_neg c2, tk_48 k (j + 1)]
        by_cases ex : x = j
        · subst ex
          rw [if_neg (by omega), upd_self, if_pos ⟨by omega, c1, c2⟩]
        · rw [upd_ne _ _ ex]
          simp only [show (j + 1 ≤ x ∧ x < j + 1 + k) ↔ (j ≤ x ∧ x < j + (k + 1)) by omega]
    · rw [if_neg c1, tk_48 k (j + 1)]
      by_cases ex : x = j
      · subst ex
        rw [if_neg (by omega), if_neg (fun q => c1 q.2.1)]
      · simp only [show (j + 1 ≤ x ∧ x < j + 1 + k) ↔ (j ≤ x ∧ x < j + (k + 1)) by omega]
def arX (J : Nat → Nat → Int32) : Nat → Nat → Int32 := JX (J 0) (J 1 0) (J 2 0) (J 3 0) 1 (J 5) (J 6) (J 7) (J 8 0)
theorem tk_ar {h : Int32} : ∀ (k j : Nat) (v1 : Int32) (Iv : Nat → Nat → Nat → Int32) (x : Nat), (lf4_archiveUnpaid_4 h k j v1 Iv).2 x = if (j ≤ x ∧ x < j + k) ∧ Iv x 4 0 = 0 ∧ ¬ h ≤ Iv x 3 0 then arX (Iv x) else Iv x
  | 0, j, v2, f, x => by rw [lf4_archiveUnpaid_4, if_neg (by omega)]
  | k + 1, j, v2, Iv, x => by
    rw [lf4_archiveUnpaid_4]
    by_cases c1 : Iv j 4 0 = 0
    · by_cases c2 : h ≤ Iv j 3 0
      · rw [if_pos c1, if_pos c2, tk_ar k (j + 1)]
        by_cases ex : x = j
        · subst ex
          rw [if_neg (by omega), if_neg (fun q => q.2.2 c2)]
        · simp only [show (j + 1 ≤ x ∧ x < j + 1 + k) ↔ (j ≤ x ∧ x < j + (k + 1)) by omega]
      · rw [if_pos c1, if_neg c2, tk_ar k (j + 1)]
        by_cases ex : x = j
        · subst ex
          rw [if_neg (by omega), va_up_self, if_pos ⟨by omega, c1, c2⟩]; rfl
        · rw [va_up_ne _ _ ex]
          simp only [show (j + 1 ≤ x ∧ x < j + 1 + k) ↔ (j ≤ x ∧ x < j + (k + 1)) by omega]
    · rw [if_neg c1, tk_ar k (j + 1)]
      by_cases ex : x = j
      · subst ex
        rw [if_neg (by omega), if_neg (fun q => c1 q.2.1)]
      · simp only [show (j + 1 ≤ x ∧ x < j + 1 + k) ↔ (j ≤ x ∧ x < j + (k + 1)) by omega]
theorem tk_count {a16 : Nat → Int32} {p1 : Int32} {t : Nat} {v3 h : Int32} {f8 : Nat → Int32} {f10 f11 : Int32} : ∀ (k j : Nat) (v1 v2 : Int32) (Iv : Nat → Nat → Nat → Int32) (f : Nat → Int32), (∀ x, j ≤ x → x < j + k → Iv x 4 0 = f x ∧ Iv x 3 0 = a16 x) → (lf5_tick_48 a16 p1 t v3 h f8 f10 f11 k j v2 f).1 + v1 = v2 + (lf4_archiveUnpaid_4 h k j v1 Iv).1
  | 0, j, v1, v2, Iv, f, _ => rfl
  | k + 1, j, v1, v2, Iv, f, hh => by
    obtain ⟨e4, e3⟩ := hh j (by omega) (by omega)
    rw [lf5_tick_48, lf4_archiveUnpaid_4, e4, e3]
    by_cases c1 : f j = 0
    · by_cases c2 : h ≤ a16 j
      · rw [if_pos c1, if_pos c2, if_pos c1, if_pos c2]
        exact tk_count k (j + 1) v1 v2 Iv f (fun x h1 h2 => hh x (by omega) (by omega))
      · rw [if_pos c1, if_neg c2, if_pos c1, if_neg c2]
        have q := tk_count (t := t) (p1 := p1) (v3 := v3) (h := h) (a16 := a16) (f8 := f8) (f10 := f10) (f11 := f11) k (j + 1) (v1 + 1) (v2 + 1) (va_up Iv j (JX (Iv j 0) (Iv j 1 0) (Iv j 2 0) (Iv j 3 0) 1 (Iv j 5) (Iv j 6) (Iv j 7) (Iv j 8 0))) (upd f j 1) (fun x h1 h2 => by
          rw [va_up_ne _ _ (by omega), upd_ne _ _ (by omega)]; exact hh x (by omega) (by omega))
        rw [e3] at q
        generalize (lf5_tick_48 _ _ _ _ _ _ _ _ _ _ _ _).1 = X at q ⊢
        generalize (lf4_archiveUnpaid_4 _ _ _ _ _).1 = Y at q ⊢
        grind
    · rw [if_neg c1, if_neg c1]
      exact tk_count k (j + 1) v1 v2 Iv f (fun x h1 h2 => hh x (by omega) (by omega))
section
variable {n : Nat} {u8 : Int32} {I : Nat → Nat → Nat → Int32} {s0 s1 : Int32} {a2 a3 a4 a5 a6 a7 a8 a9 : Nat → Int32} {s10 s11 s12 : Int32} {a13 a14 a15 a16 a17 a18 a19 a20 a21 : Nat → Int32}
theorem ar_step (h : RSt n u8 I s0 s1 a3 a4 a5 a6 a9 s10 s12 a13 a14 a15 a16 a17 a18 a19 a20 a21) (hs : s0.toInt + 1 ≤ 100000) {p1 : Int32} {t : Nat} {v3 : Int32} {f8 : Nat → Int32} {f10 f11 v2 : Int32} :
    (lf5_tick_48 a16 p1 t v3 (s0 + 1) f8 f10 f11 (tn s12) 0 v2 a17).1 = v2 + (f4_archiveUnpaid s12 (s0 + 1) I).1 ∧ RSt n u8 (f4_archiveUnpaid s12 (s0 + 1) I).2 (s0 + 1) s1 a3 a4 a5 a6 a9 s10 s12 a13 a14 a15 a16 (lf5_tick_48 a16 p1 t v3 (s0 + 1) f8 f10 f11 (tn s12) 0 v2 a17).2 a18 a19 a20 a21 := by
  obtain ⟨hA, hB0, hC, hD, hE, hF⟩ := h
  have o : (1 : Int32).toInt = 1 := rfl
  have es : (s0 + 1).toInt = s0.toInt + 1 := by rw [add_toInt (by omega) (by omega), o]
  unfold f4_archiveUnpaid
  constructor
  · have q := tk_count (a16 := a16) (p1 := p1) (t := t) (v3 := v3) (h := s0 + 1) (f8 := f8) (f10 := f10) (f11 := f11) (tn s12) 0 0 v2 I a17 (fun x _ hx => by
      obtain ⟨r1, r2, r3, r4, -⟩ := (hF x (by omega)).1
      exact ⟨r4, r3⟩)
    rw [Int32.add_zero] at q
    exact q
  · refine ⟨hA, by omega, hC, hD, hE, fun x hx => ?_⟩
    obtain ⟨⟨r1, r2, r3, r4, r8, r0, r5⟩, k1, k2', k3', k4, k5, k6, k7, k8, k9⟩ := hF x hx
    have ec := tk_48 (a16 := a16) (p1 := p1) (t := t) (v3 := v3) (h := s0 + 1) (f8 := f8) (f10 := f10) (f11 := f11) (tn s12) 0 v2 a17 x
    have ei := tk_ar (h := s0 + 1) (tn s12) 0 0 I x
    rw [r4, r3] at ei
    by_cases c : (0 ≤ x ∧ x < 0 + tn s12) ∧ a17 x = 0 ∧ ¬ s0 + 1 ≤ a16 x
    · rw [if_pos c] at ec ei
      have c3 := mt i32_le.mpr c.2.2
      refine ⟨?_, k1, k2', ⟨k3'.1, by omega⟩, fun h0 => ?_, fun _ => by omega, k6, k7, k8, fun _ => ?_⟩
      · rw [RI]
        show (lf4_archiveUnpaid_4 (s0 + 1) (tn s12) 0 0 I).2 x 1 0 = _ ∧ (lf4_archiveUnpaid_4 (s0 + 1) (tn s12) 0 0 I).2 x 2 0 = _ ∧ (lf4_archiveUnpaid_4 (s0 + 1) (tn s12) 0 0 I).2 x 3 0 = _ ∧ (lf4_archiveUnpaid_4 (s0 + 1) (tn s12) 0 0 I).2 x 4 0 = _ ∧ (lf4_archiveUnpaid_4 (s0 + 1) (tn s12) 0 0 I).2 x 8 0 = _ ∧ _
        rw [ei, ec]
        exact ⟨r1, r2, r3, rfl, r8, r0, r5⟩
      · rw [ec] at h0; exact absurd h0 (by decide)
      · exact k9 (by rw [c.2.1]; decide)
    · rw [if_neg c] at ec ei
      refine ⟨?_, k1, k2', ⟨k3'.1, by omega⟩, fun h0 => ?_, fun h1 => ?_, k6, k7, k8, fun h2 => ?_⟩
      · rw [RI, ec]
        show (lf4_archiveUnpaid_4 (s0 + 1) (tn s12) 0 0 I).2 x 1 0 = _ ∧ (lf4_archiveUnpaid_4 (s0 + 1) (tn s12) 0 0 I).2 x 2 0 = _ ∧ (lf4_archiveUnpaid_4 (s0 + 1) (tn s12) 0 0 I).2 x 3 0 = _ ∧ (lf4_archiveUnpaid_4 (s0 + 1) (tn s12) 0 0 I).2 x 4 0 = _ ∧ (lf4_archiveUnpaid_4 (s0 + 1) (tn s12) 0 0 I).2 x 8 0 = _ ∧ _
        rw [ei]
        exact ⟨r1, r2, r3, r4, r8, r0, r5⟩
      · rw [ec] at h0
        have : s0 + 1 ≤ a16 x := Classical.byContradiction fun q => c ⟨by omega, h0, q⟩
        exact i32_le.mp this
      · rw [ec] at h1; have := k5 h1; omega
      · rw [ec] at h2; exact k9 h2
theorem share_ok (hP : 0 ≤ s10.toInt) : 0 ≤ (f5_share a8 a9 s10 s11).2.1.toInt ∧ (f5_share a8 a9 s10 s11).2.1.toInt ≤ s10.toInt := by
  unfold f5_share
  split
  · exact ⟨hP, Int.le_refl _⟩
  · exact ⟨by show 0 ≤ (0 : Int32).toInt; rw [z_toInt]; omega, by show (0 : Int32).toInt ≤ _; rw [z_toInt]; exact hP⟩
def tkR (n : Nat) (u8 s1 : Int32) (a3 a4 a5 a6 a9 : Nat → Int32) (s12 : Int32) (a13 a14 a15 a16 a18 a19 a20 a21 : Nat → Int32) (A : Int32 × (Nat → Int32) × Int32 × Int32 × Int32 × (Nat → Nat → Nat → Int32)) (B : Int32 × Int32 × (Nat → Int32) × Int32 × Int32 × (Nat → Int32)) : Prop :=
  A.1 = B.1 ∧ A.2.1 = B.2.2.1 ∧ A.2.2.1 = B.2.2.2.1 ∧ A.2.2.2.1 = B.2.2.2.2.1 ∧ A.2.2.2.2.1 = B.2.1 ∧ RSt n u8 A.2.2.2.2.2 B.2.1 s1 a3 a4 a5 a6 a9 B.2.2.2.1 s12 a13 a14 a15 a16 B.2.2.2.2.2 a18 a19 a20 a21
theorem tk_loop {p1 : Int32} {t : Nat} : ∀ (k j : Nat) (v2 f0 : Int32) (f8 : Nat → Int32) (f10 f11 : Int32) (f17 : Nat → Int32) (Iv : Nat → Nat → Nat → Int32), RSt n u8 Iv f0 s1 a3 a4 a5 a6 a9 f10 s12 a13 a14 a15 a16 f17 a18 a19 a20 a21 → f0.toInt + k ≤ 100000 → tkR n u8 s1 a3 a4 a5 a6 a9 s12 a13 a14 a15 a16 a18 a19 a20 a21 (lf4_tick_28 a9 s12 p1 t k j v2 f8 f10 f11 f0 Iv) (lf5_tick_30 a9 s12 a16 p1 t k j v2 f0 f8 f10 f11 f17)
  | 0, j, v2, f0, f8, f10, f11, f17, Iv, h, _ => ⟨rfl, rfl, rfl, rfl, rfl, h⟩
  | k + 1, j, v2, f0, f8, f10, f11, f17, Iv, h, hk => by
    rw [lf4_tick_28, lf5_tick_30]
    obtain ⟨e1, h1⟩ := ar_step h (by omega) (p1 := p1) (t := t) (v3 := nI j) (f8 := f8) (f10 := f10) (f11 := f11) (v2 := v2)
    have hq := h.hnn
    have hC := h.2.2.1
    have hs6 : 0 ≤ s6 a6 := by
      have g0 := hC.1 0 (by omega); have g1 := hC.1 1 (by omega); have g2 := hC.1 2 (by omega); have g3 := hC.1 3 (by omega); have g4 := hC.1 4 (by omega); have g5 := hC.1 5 (by omega)
      unfold s6; omega
    rw [share_same (P := f10) ⟨hC.2.1, by omega⟩ h.2.2.2.1, e1]
    have o : (1 : Int32).toInt = 1 := rfl
    have hf := h.2.1
    have es : (f0 + 1).toInt = f0.toInt + 1 := by rw [add_toInt (by omega) (by omega), o]
    have so := share_ok (a8 := f8) (a9 := a9) (s11 := f11) hC.2.1
    refine tk_loop k (j + 1) _ (f0 + 1) _ _ _ _ _ ?_ (by omega)
    obtain ⟨hA, hB0, ⟨hC1, hC2, hC3, hC4⟩, hD, hE, hF⟩ := h1
    exact ⟨hA, hB0, ⟨hC1, so.1, by omega, hC4⟩, hD, hE, hF⟩
theorem q_tick (h : RSt n u8 I s0 s1 a3 a4 a5 a6 a9 s10 s12 a13 a14 a15 a16 a17 a18 a19 a20 a21) (p1 : Int32) : tkR n u8 s1 a3 a4 a5 a6 a9 s12 a13 a14 a15 a16 a18 a19 a20 a21 (f4_tick a8 a9 s10 s11 s12 s0 I p1) (f5_tick s0 a8 a9 s10 s11 s12 a16 a17 p1) := by
  unfold f4_tick f5_tick
  simp only [wi_in (lo := 1) (hi := 100) (lo' := 1) (hi' := 100) rfl rfl]
  by_cases c1 : f5_in p1.toInt64 1 100 = 0
  · rw [if_pos c1, if_pos c1]; exact ⟨rfl, rfl, rfl, rfl, rfl, h⟩
  rw [if_neg c1, if_neg c1]
  by_cases c2 : s0 + p1 ≤ 100000
  rotate_left
  · rw [if_neg c2, if_neg c2]; exact ⟨rfl, rfl, rfl, rfl, rfl, h⟩
  rw [if_pos c2, if_pos c2]
  obtain ⟨t, ht, rfl⟩ := in_nat 1 100 c1 rfl rfl
  have hs := h.2.1
  have tt : (nI t).toInt = (t : Nat) := Int32.toInt_ofNat_of_lt (by omega)
  have ea : (s0 + nI t).toInt = s0.toInt + t := by rw [add_toInt (by omega) (by omega), tt]
  have c2' := i32_le.mp c2
  have o : (100000 : Int32).toInt = 100000 := rfl
  have et : tn (nI t) = t := tn_nI (by omega)
  exact tk_loop (tn (nI t)) 0 0 s0 a8 s10 s11 a17 I h (by rw [et]; omega)
end
theorem bg_42 : ∀ (k j : Nat) (f6 f7 : Nat → Int32), lf5_begin_42 k j f6 f7 = (lf7_fill_53178_5 100000 k j f6, lf7_fill_53178_5 1000 k j f7)
  | 0, _, _, _ => rfl
  | k + 1, j, f6, f7 => by rw [lf5_begin_42, bg_42 k (j + 1)]; rfl
theorem bg_73 (g6 g7 : Nat → Int32) : ∀ (k j : Nat) (f8 f9 : Nat → Int32), lf5_begin_73 g6 g7 k j f8 f9 = (lf7_fill_53178_5 0 k j f8, lf7_fill_53178_5 0 k j f9)
  | 0, _, _, _ => rfl
  | k + 1, j, f8, f9 => by rw [lf5_begin_73, bg_73 g6 g7 k (j + 1)]; rfl
theorem bg_ref (a2 a3 a4 a5 a6 a7 a8 a9 : Nat → Int32) : f5_begin a2 a3 a4 a5 a6 a7 a8 a9 = (0, 1, upd a2 0 0, upd a3 0 10, upd a4 0 1, upd a5 0 8, lf7_fill_53178_5 100000 6 0 a6, lf7_fill_53178_5 1000 6 0 a7, lf7_fill_53178_5 0 5 0 a8, lf7_fill_53178_5 0 5 0 a9, 0, 0, 0) := by
  unfold f5_begin
  rw [bg_42, bg_73]
theorem bg_cls (a2 a3 a4 a5 a6 a7 a8 a9 : Nat → Int32) : f4_beginAnew a2 a3 a4 a5 a6 a8 a9 a7 = (upd a2 0 0, upd a3 0 10, upd a4 0 1, upd a5 0 8, 1, lf7_fill_53178_5 100000 6 0 a6, lf7_fill_53178_5 0 5 0 a8, lf7_fill_53178_5 0 5 0 a9, 0, 0, 0, lf7_fill_53178_5 1000 6 0 a7, 0, 0) := by
  unfold f4_beginAnew f0_reset f0_append f3_reset f7_fill_53178
  have e : tn (0 : Int32) = 0 := rfl
  rw [e, if_neg (by decide)]
  rfl
theorem RSt_begin {n : Nat} (hn : n ≤ 60) (I : Nat → Nat → Nat → Int32) (a3 a4 a5 a6 a9 a13 a14 a15 a16 a17 a18 a19 a20 a21 : Nat → Int32) : RSt n 0 I 0 1 (upd a3 0 10) (upd a4 0 1) (upd a5 0 8) (lf7_fill_53178_5 100000 6 0 a6) (lf7_fill_53178_5 0 5 0 a9) 0 0 a13 a14 a15 a16 a17 a18 a19 a20 a21 := by
  have t1 : tn (1 : Int32) = 1 := rfl
  have t0 : tn (0 : Int32) = 0 := rfl
  have h6 : ∀ i, i < 6 → (lf7_fill_53178_5 100000 6 0 a6 i).toInt = 100000 := fun i hi => by
    rw [fill_at, if_pos (by omega)]; rfl
  refine ⟨⟨by rw [t1]; rfl, by rw [t1]; omega, by rw [t1]; omega, fun i hi => ?_⟩, ⟨by rw [z_toInt]; omega, by rw [z_toInt]; omega⟩, ⟨fun i hi => by rw [h6 i hi]; omega, by rw [z_toInt]; omega, ?_, ?_⟩, fun i hi => ?_, ⟨by rw [t0]; rfl, by rw [t0]; omega, hn⟩, fun x hx => ?_⟩
  · rw [t1] at hi
    have : i = 0 := by omega
    subst this
    rw [upd_self, upd_self, upd_self]
    decide
  · rw [t0, hI, z_toInt, s6, h6 0 (by omega), h6 1 (by omega), h6 2 (by omega), h6 3 (by omega), h6 4 (by omega), h6 5 (by omega)]; omega
  · rw [t0, hI]; rfl
  · rw [fill_at, if_pos (by omega), z_toInt]; omega
  · rw [t0] at hx; omega
section
variable {n : Nat} {u8 : Int32} {I : Nat → Nat → Nat → Int32} {s0 s1 : Int32} {a2 a3 a4 a5 a6 a7 a8 a9 : Nat → Int32} {s10 s11 s12 : Int32} {a13 a14 a15 a16 a17 a18 a19 a20 a21 : Nat → Int32}
theorem q_weight2 (h : RSt n u8 I s0 s1 a3 a4 a5 a6 a9 s10 s12 a13 a14 a15 a16 a17 a18 a19 a20 a21) (p1 p2 : Int32) : RSt n u8 I s0 s1 a3 a4 a5 a6 (f5_weight a9 p1 p2).2 s10 s12 a13 a14 a15 a16 a17 a18 a19 a20 a21 := by
  unfold f5_weight
  split
  · exact h
  · split
    · exact h
    · rename_i c1 c2
      have b := in_i c2
      have o0 : (0 : Int64).toInt = 0 := rfl
      have o1 : (1000 : Int64).toInt = 1000 := rfl
      obtain ⟨hA, hB0, hC, hD, hE, hF⟩ := h
      refine ⟨hA, hB0, hC, fun i hi => ?_, hE, hF⟩
      show 0 ≤ (upd a9 (tn p1) p2 i).toInt ∧ (upd a9 (tn p1) p2 i).toInt ≤ 1000
      by_cases e : i = tn p1
      · rw [e, upd_self]; omega
      · rw [upd_ne _ _ e]; exact hD i hi
def edR (n : Nat) (u8 : Int32) (I : Nat → Nat → Nat → Int32) (s0 : Int32) (a6 a9 : Nat → Int32) (s10 s12 : Int32) (a13 a14 a15 a16 a17 a18 a19 a20 a21 : Nat → Int32) (A : Int32 × (Nat → Int32) × (Nat → Int32) × (Nat → Int32) × (Nat → Int32) × Int32) (B : Int32 × Int32 × (Nat → Int32) × (Nat → Int32) × (Nat → Int32) × (Nat → Int32)) : Prop :=
  A.1 = B.1 ∧ A.2.1 = B.2.2.1 ∧ A.2.2.1 = B.2.2.2.1 ∧ A.2.2.2.1 = B.2.2.2.2.1 ∧ A.2.2.2.2.1 = B.2.2.2.2.2 ∧ A.2.2.2.2.2 = B.2.1 ∧ RSt n u8 I s0 B.2.1 B.2.2.2.1 B.2.2.2.2.1 B.2.2.2.2.2 a6 a9 s10 s12 a13 a14 a15 a16 a17 a18 a19 a20 a21
theorem q_edition (h : RSt n u8 I s0 s1 a3 a4 a5 a6 a9 s10 s12 a13 a14 a15 a16 a17 a18 a19 a20 a21) (p1 p2 p3 p4 : Int32) : edR n u8 I s0 a6 a9 s10 s12 a13 a14 a15 a16 a17 a18 a19 a20 a21 (f4_edition a2 a3 a4 a5 s1 s0 p1 p2 p3 p4) (f5_edition s0 s1 a2 a3 a4 a5 p1 p2 p3 p4) := by
  unfold f4_edition f5_edition f0_lastFrom f0_hasRoom f0_append
  simp only [wi_in (lo := 0) (hi := 100000) (lo' := 0) (hi' := 100000) rfl rfl, wi_in (lo := 0) (hi := 100) (lo' := 0) (hi' := 100) rfl rfl, wi_in (lo := 0) (hi := 20) (lo' := 0) (hi' := 20) rfl rfl, wi_in (lo := 1) (hi := 64) (lo' := 1) (hi' := 64) rfl rfl]
  have hk := h
  obtain ⟨⟨hA1, hA2, hA3, hA4⟩, hB0, hC, hD, hE, hF⟩ := h
  have tt : (nI (tn s1)).toInt = (tn s1 : Nat) := Int32.toInt_ofNat_of_lt (by omega)
  have n1 : ¬ nI (tn s1) ≤ 0 := fun hh => by have := i32_le.mp hh; rw [tt, z_toInt] at this; omega
  by_cases c1 : f5_in p1.toInt64 0 100000 = 0
  · rw [if_pos c1, if_pos c1]; exact ⟨rfl, rfl, rfl, rfl, rfl, rfl, hk⟩
  rw [if_neg c1, if_neg c1]
  by_cases c2 : f5_in p2.toInt64 0 100 = 0
  · rw [if_pos c2, if_pos c2]; exact ⟨rfl, rfl, rfl, rfl, rfl, rfl, hk⟩
  rw [if_neg c2, if_neg c2]
  by_cases c3 : f5_in p3.toInt64 0 20 = 0
  · rw [if_pos c3, if_pos c3]; exact ⟨rfl, rfl, rfl, rfl, rfl, rfl, hk⟩
  rw [if_neg c3, if_neg c3]
  by_cases c4 : f5_in p4.toInt64 1 64 = 0
  · rw [if_pos c4, if_pos c4]; exact ⟨rfl, rfl, rfl, rfl, rfl, rfl, hk⟩
  rw [if_neg c4, if_neg c4]
  by_cases c5 : p1 < s0 + 5
  · rw [if_pos c5, if_pos c5]; exact ⟨rfl, rfl, rfl, rfl, rfl, rfl, hk⟩
  rw [if_neg c5, if_neg c5, if_neg n1]
  by_cases c6 : a2 (tn s1 - 1) < p1
  rotate_left
  · rw [if_neg c6, if_neg c6]; exact ⟨rfl, rfl, rfl, rfl, rfl, rfl, hk⟩
  rw [if_pos c6, if_pos c6, ← hA1]
  have o10 : (10 : Int32).toInt = 10 := rfl
  by_cases c7 : s1 = 10
  · have c8 : 10 ≤ s1 := by rw [c7]; decide
    have e8 : (if 10 ≤ s1 then (0 : Int32) else 1) = 0 := if_pos c8
    rw [if_pos c7, if_pos e8]; exact ⟨rfl, rfl, rfl, rfl, rfl, rfl, hk⟩
  have ht : tn s1 < 10 := by
    have : ¬ (nI (tn s1)).toInt = (10 : Int32).toInt := fun hh => c7 (by rw [hA1]; exact i32_ext hh)
    rw [tt, o10] at this; omega
  have c8 : ¬ 10 ≤ s1 := fun hh => by
    rw [hA1] at hh
    have := i32_le.mp hh
    rw [tt, o10] at this; omega
  rw [if_neg c7, if_neg c8, if_neg c8, if_neg (by decide)]
  refine ⟨rfl, rfl, rfl, rfl, rfl, rfl, ⟨?_, ?_, ?_, fun i hi => ?_⟩, hB0, hC, hD, hE, hF⟩
  · show nI (tn s1 + 1) = nI (tn (nI (tn s1 + 1))); rw [tn_nI (by omega)]
  · show 1 ≤ tn (nI (tn s1 + 1)); rw [tn_nI (by omega)]; omega
  · show tn (nI (tn s1 + 1)) ≤ 10; rw [tn_nI (by omega)]; omega
  · have hi : i < tn (nI (tn s1 + 1)) := hi
    rw [tn_nI (by omega)] at hi
    show (0 ≤ (upd a3 (tn s1) p2 i).toInt ∧ (upd a3 (tn s1) p2 i).toInt ≤ 100) ∧ (0 ≤ (upd a4 (tn s1) p3 i).toInt ∧ (upd a4 (tn s1) p3 i).toInt ≤ 20) ∧ 1 ≤ (upd a5 (tn s1) p4 i).toInt ∧ (upd a5 (tn s1) p4 i).toInt ≤ 64
    by_cases e : i = tn s1
    · rw [e, upd_self, upd_self, upd_self]
      exact ⟨in_i c2, in_i c3, in_i c4⟩
    · rw [upd_ne _ _ e, upd_ne _ _ e, upd_ne _ _ e]; exact hA4 i (by omega)
end
/-- the product, or none where it doesn't fit -/
def f4_exact (a b : Int64) : Option Int64 :=
  if (lg_cmp a 0) = 0 then some 0
  else if (lg_cmp b 0) = 0 then some 0
  else if (lg_cmp a (-9223372036854775808)) = 0 ∧ (lg_cmp b (-1)) = 0 then none
  else if (lg_cmp ((a * b) / b) a) = 0 then some (a * b) else none
theorem lg_eq0 {a b : Int64} : lg_cmp a b = 0 ↔ a = b := by
  unfold lg_cmp
  by_cases c : a > b
  · rw [if_pos c]
    have := i64_lt.mp c
    constructor
    · intro h; exact absurd h (by decide)
    · intro h; rw [h] at this; omega
  · rw [if_neg c]
    by_cases d : a = b
    · simp [d]
    · rw [if_neg d]; simp [d]
theorem q_exact (a b : Int64) : (f4_exact a b = none ∧ (f5_exact a b).2 = 1) ∨ (f4_exact a b = some (f5_exact a b).1 ∧ (f5_exact a b).2 = 0) := by
  unfold f4_exact f5_exact
  simp only [lg_eq0]
  by_cases c1 : a = 0
  · simp [c1]
  by_cases c2 : b = 0
  · simp [c1, c2]
  rw [if_neg c1, if_neg c1, if_neg c2, if_neg c2]
  by_cases c3 : a * b / b = a
  rotate_left
  · rw [if_neg c3, if_neg c3]
    left
    refine ⟨?_, rfl⟩
    split <;> rfl
  rw [if_pos c3, if_pos c3]
  by_cases c4 : a = -1
  · by_cases c5 : b = -9223372036854775808
    · rw [c4, c5] at c3; exact absurd c3 (by decide)
    · rw [if_pos c4, if_neg c5]
      by_cases c6 : b = -1
      · rw [if_pos c6]
        have : ¬ a = -9223372036854775808 := by rw [c4]; decide
        rw [if_neg this, if_neg (fun q => this q.1)]
        exact Or.inr ⟨rfl, rfl⟩
      · rw [if_neg c6, if_neg (fun q => c6 q.2)]
        exact Or.inr ⟨rfl, rfl⟩
  · rw [if_neg c4]
    by_cases c6 : b = -1
    · rw [if_pos c6]
      by_cases c7 : a = -9223372036854775808
      · rw [if_pos c7, if_pos ⟨c7, c6⟩]; exact Or.inl ⟨rfl, rfl⟩
      · rw [if_neg c7, if_neg (fun q => c7 q.1)]; exact Or.inr ⟨rfl, rfl⟩
    · rw [if_neg c6, if_neg (fun q => c6 q.2)]
      exact Or.inr ⟨rfl, rfl⟩
