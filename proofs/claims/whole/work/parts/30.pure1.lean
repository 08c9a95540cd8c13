theorem ed_last (a2 : Nat → Int32) (p : Int32) : ∀ (k j : Nat) (v : Int32), lf5_editionAt_4 a2 p (k + 1) j v = if p < a2 (j + k) then lf5_editionAt_4 a2 p k j v else nI (j + k)
  | 0, j, v => by simp [lf5_editionAt_4]
  | k + 1, j, v => by
    have h := ed_last a2 p k (j + 1)
    have e : j + 1 + k = j + (k + 1) := by omega
    rw [e] at h
    rw [show lf5_editionAt_4 a2 p (k + 1 + 1) j v = if p < a2 j then lf5_editionAt_4 a2 p (k + 1) (j + 1) v else lf5_editionAt_4 a2 p (k + 1) (j + 1) (nI j) from rfl, h, h, show lf5_editionAt_4 a2 p (k + 1) j v = if p < a2 j then lf5_editionAt_4 a2 p k (j + 1) v else lf5_editionAt_4 a2 p k (j + 1) (nI j) from rfl]
    split <;> rfl
theorem ed_hold (a2 : Nat → Int32) (p : Int32) : ∀ m, lf5_editionAt_4 a2 p (m + 1) 0 0 = lf0_holding_7 a2 p m
  | 0 => by
    rw [ed_last]; simp only [lf5_editionAt_4, lf0_holding_7]
    split <;> rfl
  | m + 1 => by
    rw [ed_last, ed_hold a2 p m, lf0_holding_7, Nat.zero_add]
theorem ed_same {s1 : Int32} (a2 : Nat → Int32) (p : Int32) (h : 1 ≤ tn s1) : f0_holding a2 s1 p = f5_editionAt s1 a2 p := by
  obtain ⟨m, hm⟩ : ∃ m, tn s1 = m + 1 := ⟨tn s1 - 1, by omega⟩
  rw [f0_holding, f5_editionAt, hm, ed_hold]; rfl
theorem ed_lt {s1 : Int32} (a2 : Nat → Int32) (p : Int32) (h : 1 ≤ tn s1) (h1 : tn s1 ≤ 10) : tn (f5_editionAt s1 a2 p) < tn s1 := by
  obtain ⟨e, he, hq⟩ := hd_lf a2 p (tn s1 - 1)
  rw [← ed_same a2 p h, f0_holding, hq, tn_nI (by omega)]; omega
/-- the two lives' sizes -/
theorem lv_same {I : Nat → Nat → Nat → Int32} {a13 a14 a17 : Nat → Int32} {p q : Int32} (hpq : (p = -1 ∧ q = -109) ∨ (p = q ∧ p ≠ -1 ∧ p ≠ -109)) : ∀ (k j : Nat) (v : Int32), (∀ x, x < j + k → I x 1 0 = a13 x ∧ I x 2 0 = a14 x ∧ I x 4 0 = a17 x) → lf4_liveSizes_4 I p k j v = lf5_liveSizes_4 a13 a14 a17 q k j v
  | 0, _, _, _ => rfl
  | k + 1, j, v, h => by
    obtain ⟨h1, h2, h4⟩ := h j (by omega)
    have ih := fun v => lv_same hpq k (j + 1) v (fun x hx => h x (by omega))
    rw [lf4_liveSizes_4, lf5_liveSizes_4, h1, h2, h4, ih, ih, Int32.add_zero]
    rcases hpq with ⟨rfl, rfl⟩ | ⟨rfl, hp, hq⟩
    · simp
    · simp only [hp, hq, if_false]
      by_cases e : p = a13 j
      · simp [e]
      · have e' : ¬ a13 j = p := fun h => e h.symm
        simp [e, e']
theorem mn_same {I : Nat → Nat → Nat → Int32} {a17 : Nat → Int32} {p : Int32} : ∀ (k j : Nat) (v : Int32), (∀ x, x < j + k → I x 4 0 = a17 x) → lf4_countOf_4 I p k j v = lf5_manyOf_4 a17 p k j v
  | 0, _, _, _ => rfl
  | k + 1, j, v, h => by
    have h4 := h j (by omega)
    have ih := fun v => mn_same (p := p) k (j + 1) v (fun x hx => h x (by omega))
    rw [lf4_countOf_4, lf5_manyOf_4, h4, ih, ih, Int32.add_zero]
theorem rk_same (w : Nat → Int32) (x : Nat) : ∀ (k j : Nat) (v : Int32), lf5_rank_4 w x k j v = lf3_rankOf_4 w x k j v
  | 0, _, _ => rfl
  | k + 1, j, v => by
    rw [lf5_rank_4, lf3_rankOf_4, Int32.add_zero, rk_same w x k, rk_same w x k]
theorem dg_same {b0 a15 : Nat → Int32} {x : Nat} : ∀ (k j : Nat) (v : Int32), (∀ i, i < j + k → b0 i = a15 (4 * x + i)) → lf1_sumUp_7 b0 k j v = lf5_digestOf_9 a15 x k j v
  | 0, _, _, _ => rfl
  | k + 1, j, v, h => by
    rw [lf1_sumUp_7, lf5_digestOf_9, h j (by omega), dg_same k (j + 1) _ (fun i hi => h i (by omega))]
theorem sum_same (g : Nat → Int32) : ∀ (k j : Nat) (v : Int32), lf5_allWeights_4 g k j v = lf3_sumOf_4 g k j v
  | 0, _, _ => rfl
  | k + 1, j, v => by rw [lf5_allWeights_4, lf3_sumOf_4, sum_same g k]
theorem sumv (g : Nat → Int32) : ∀ (k j : Nat) (v : Int32), lf3_sumOf_4 g k j v = v + lf3_sumOf_4 g k j 0
  | 0, _, v => by simp [lf3_sumOf_4]
  | k + 1, j, v => by
    rw [lf3_sumOf_4, lf3_sumOf_4, sumv g k (j + 1) (v + g j), sumv g k (j + 1) (0 + g j)]
    grind
theorem sum12 (g : Nat → Int32) : ∀ (k j : Nat) (v : Int32), lf5_allCoins_12 g k j v = lf3_sumOf_4 g k j v
  | 0, _, v => rfl
  | k + 1, j, v => by rw [lf5_allCoins_12, lf3_sumOf_4, sum12 g k]
theorem sum35 (g : Nat → Int32) : ∀ (k j : Nat) (v : Int32), lf5_allCoins_35 g k j v = lf3_sumOf_4 g k j v
  | 0, _, v => rfl
  | k + 1, j, v => by rw [lf5_allCoins_35, lf3_sumOf_4, sum35 g k]
/-- what the first layers cost, as whole numbers -/
def wK (f g : Nat → Int32) (o : Nat) : Nat → Int
  | 0 => 0
  | k + 1 => wK f g o k + (f (o + k)).toInt * (g (o + k)).toInt
def hI (a18 a19 a20 : Nat → Int32) : Nat → Int
  | 0 => 0
  | m + 1 => hI a18 a19 a20 m + wK a19 a20 (16 * m) (tn (a18 m))
theorem ofI_mul (a b : Int32) : Int32.ofInt (a.toInt * b.toInt) = a * b := by rw [Int32.ofInt_mul, Int32.ofInt_toInt, Int32.ofInt_toInt]
theorem hf_wK (a19 a20 : Nat → Int32) (x : Nat) : ∀ (k j : Nat) (v : Int32), lf5_heldFor_4 a19 a20 x k j v + Int32.ofInt (wK a19 a20 (16 * x) j) = v + Int32.ofInt (wK a19 a20 (16 * x) (j + k))
  | 0, _, _ => rfl
  | k + 1, j, v => by
    have h := hf_wK a19 a20 x k (j + 1) (v + a19 (16 * x + j) * a20 (16 * x + j))
    rw [show j + 1 + k = j + (k + 1) by omega, wK, Int32.ofInt_add, ofI_mul] at h
    rw [lf5_heldFor_4]
    generalize lf5_heldFor_4 a19 a20 x k (j + 1) _ = A at h ⊢
    grind
theorem heldFor_wK (a18 a19 a20 : Nat → Int32) (x : Nat) : f5_heldFor a18 a19 a20 x = Int32.ofInt (wK a19 a20 (16 * x) (tn (a18 x))) := by
  have h := hf_wK a19 a20 x (tn (a18 x)) 0 0
  rw [Nat.zero_add, wK] at h
  simpa [f5_heldFor] using h
theorem hl_hI (a18 a19 a20 : Nat → Int32) : ∀ (k j : Nat) (v : Int32), lf5_held_4 a18 a19 a20 k j v + Int32.ofInt (hI a18 a19 a20 j) = v + Int32.ofInt (hI a18 a19 a20 (j + k))
  | 0, _, _ => rfl
  | k + 1, j, v => by
    have h := hl_hI a18 a19 a20 k (j + 1) (v + f5_heldFor a18 a19 a20 j)
    rw [show j + 1 + k = j + (k + 1) by omega, hI, Int32.ofInt_add, ← heldFor_wK] at h
    rw [lf5_held_4]
    generalize lf5_held_4 a18 a19 a20 k (j + 1) _ = A at h ⊢
    grind
theorem held_hI (s12 : Int32) (a18 a19 a20 : Nat → Int32) : f5_held s12 a18 a19 a20 = Int32.ofInt (hI a18 a19 a20 (tn s12)) := by
  have h := hl_hI a18 a19 a20 (tn s12) 0 0
  rw [Nat.zero_add, hI] at h
  simpa [f5_held] using h
theorem wo_same {b5 b6 a19 a20 : Nat → Int32} {x : Nat} : ∀ (k j : Nat) (v : Int32), (∀ i, i < j + k → b5 i = a19 (16 * x + i) ∧ b6 i = a20 (16 * x + i)) → lf2_worth_4 b5 b6 k j v = lf5_heldFor_4 a19 a20 x k j v
  | 0, _, _, _ => rfl
  | k + 1, j, v, h => by
    obtain ⟨h5, h6⟩ := h j (by omega)
    rw [lf2_worth_4, lf5_heldFor_4, h5, h6, wo_same k (j + 1) _ (fun i hi => h i (by omega))]
theorem wK_same {f g f' g' : Nat → Int32} {o o' : Nat} : ∀ k, (∀ i, i < k → f (o + i) = f' (o' + i) ∧ g (o + i) = g' (o' + i)) → wK f g o k = wK f' g' o' k
  | 0, _ => rfl
  | k + 1, h => by
    obtain ⟨h1, h2⟩ := h k (by omega)
    rw [wK, wK, wK_same k (fun i hi => h i (by omega)), h1, h2]
theorem wK_nn {f g : Nat → Int32} {o : Nat} : ∀ k, (∀ i, i < k → 0 ≤ (f (o + i)).toInt ∧ 0 ≤ (g (o + i)).toInt) → 0 ≤ wK f g o k
  | 0, _ => by simp [wK]
  | k + 1, h => by
    obtain ⟨h1, h2⟩ := h k (by omega)
    have h3 := wK_nn k (fun i hi => h i (by omega))
    have h4 := Int.mul_nonneg h1 h2
    rw [wK]; omega
theorem hI_same {a18 a19 a20 b18 b19 b20 : Nat → Int32} : ∀ m, (∀ x, x < m → b18 x = a18 x ∧ ∀ i, i < tn (a18 x) → b19 (16 * x + i) = a19 (16 * x + i) ∧ b20 (16 * x + i) = a20 (16 * x + i)) → hI b18 b19 b20 m = hI a18 a19 a20 m
  | 0, _ => rfl
  | m + 1, h => by
    obtain ⟨h1, h2⟩ := h m (by omega)
    rw [hI, hI, hI_same m (fun x hx => h x (by omega)), h1, wK_same _ h2]
theorem hI_nn {a18 a19 a20 : Nat → Int32} : ∀ m, (∀ x, x < m → ∀ i, i < tn (a18 x) → 0 ≤ (a19 (16 * x + i)).toInt ∧ 0 ≤ (a20 (16 * x + i)).toInt) → 0 ≤ hI a18 a19 a20 m
  | 0, _ => by simp [hI]
  | m + 1, h => by
    have h1 := wK_nn _ (h m (by omega))
    have h2 := hI_nn m (fun x hx => h x (by omega))
    rw [hI]; omega
/-- one object changed -/
theorem hI_one {a18 a19 a20 b18 b19 b20 : Nat → Int32} {x : Nat} : ∀ m, x < m → (∀ y, y < m → y ≠ x → b18 y = a18 y ∧ ∀ i, i < tn (a18 y) → b19 (16 * y + i) = a19 (16 * y + i) ∧ b20 (16 * y + i) = a20 (16 * y + i)) → hI b18 b19 b20 m = hI a18 a19 a20 m - wK a19 a20 (16 * x) (tn (a18 x)) + wK b19 b20 (16 * x) (tn (b18 x))
  | 0, h, _ => absurd h (Nat.not_lt_zero _)
  | m + 1, hx, h => by
    by_cases e : m = x
    · subst e
      rw [hI, hI, hI_same m (fun y hy => h y (by omega) (by omega))]; omega
    · obtain ⟨h1, h2⟩ := h m (by omega) e
      rw [hI, hI, hI_one m (by omega) (fun y hy => h y (by omega)), h1, wK_same _ h2]; omega
theorem i32_le {a b : Int32} : a ≤ b ↔ a.toInt ≤ b.toInt := Int32.le_iff_toInt_le
theorem i32_lt {a b : Int32} : a < b ↔ a.toInt < b.toInt := Int32.lt_iff_toInt_lt
theorem i32_ext {a b : Int32} (h : a.toInt = b.toInt) : a = b := Int32.toInt_inj.mp h
theorem ofI_zero : Int32.ofInt 0 = 0 := rfl
theorem z_toInt : (0 : Int32).toInt = 0 := rfl
theorem upd_self (f : Nat → Int32) (k : Nat) (v : Int32) : upd f k v k = v := by simp [upd]
theorem upd_ne (f : Nat → Int32) {k j : Nat} (v : Int32) (h : j ≠ k) : upd f k v j = f j := by simp [upd, h]
/-- what the newest L bytes cost, of the layers that are asked for -/
def gv (f g : Nat → Int32) (o : Nat) (sel : Nat → Bool) : Nat → Int → Int
  | 0, _ => 0
  | j + 1, L => (if sel j then min L (f (o + j)).toInt * (g (o + j)).toInt else 0) + gv f g o sel j (L - min L (f (o + j)).toInt)
theorem gv_zero {f g : Nat → Int32} {o : Nat} {sel : Nat → Bool} : ∀ j, (∀ k, k < j → 0 ≤ (f (o + k)).toInt) → gv f g o sel j 0 = 0
  | 0, _ => rfl
  | j + 1, h => by
    have h1 := h j (by omega)
    rw [gv, Int.min_eq_left h1, Int.sub_zero, gv_zero j (fun k hk => h k (by omega))]
    split <;> simp
theorem gv_same {f g f' g' : Nat → Int32} {o o' : Nat} {sel sel' : Nat → Bool} : ∀ (j : Nat) (L : Int), (∀ k, k < j → f (o + k) = f' (o' + k) ∧ g (o + k) = g' (o' + k) ∧ sel k = sel' k) → gv f g o sel j L = gv f' g' o' sel' j L
  | 0, _, _ => rfl
  | j + 1, L, h => by
    obtain ⟨h1, h2, h3⟩ := h j (by omega)
    rw [gv, gv, h1, h2, h3, gv_same j _ (fun k hk => h k (by omega))]
theorem gv_le {f g : Nat → Int32} {o : Nat} {sel : Nat → Bool} : ∀ (j : Nat) (L : Int), 0 ≤ L → (∀ k, k < j → 0 ≤ (f (o + k)).toInt ∧ 0 ≤ (g (o + k)).toInt) → 0 ≤ gv f g o sel j L ∧ gv f g o sel j L ≤ wK f g o j
  | 0, _, _, _ => by simp [gv, wK]
  | j + 1, L, hL, h => by
    obtain ⟨h1, h2⟩ := h j (by omega)
    have ih := gv_le (sel := sel) j (L - min L (f (o + j)).toInt) (by omega) (fun k hk => h k (by omega))
    have hm : 0 ≤ min L (f (o + j)).toInt := by omega
    have h3 : 0 ≤ min L (f (o + j)).toInt * (g (o + j)).toInt := Int.mul_nonneg hm h2
    have h4 : min L (f (o + j)).toInt * (g (o + j)).toInt ≤ (f (o + j)).toInt * (g (o + j)).toInt := Int.mul_le_mul_of_nonneg_right (by omega) h2
    have h5 : 0 ≤ (f (o + j)).toInt * (g (o + j)).toInt := Int.mul_nonneg h1 h2
    rw [gv, wK]
    split <;> omega
theorem gv_ref {a19 a20 a21 : Nat → Int32} {x : Nat} {p2 p3 : Int32} : ∀ (j : Nat) (v4 v5 : Int32), 0 ≤ v4.toInt → (∀ k, k < j → 0 ≤ (a19 (16 * x + k)).toInt) → (lf5_gives_16 a19 a20 a21 x p2 p3 j v4 v5).2 = v5 + Int32.ofInt (gv a19 a20 (16 * x) (fun k => decide (p3 = -109 ∨ a21 (16 * x + k) = p3)) j v4.toInt)
  | 0, v4, v5, _, _ => by simp [lf5_gives_16, gv, ofI_zero]
  | j + 1, v4, v5, h0, h => by
    have hB := h j (by omega)
    have hj : ∀ k, k < j → 0 ≤ (a19 (16 * x + k)).toInt := fun k hk => h k (by omega)
    have hv := i32_hi v4
    have hBh := i32_hi (a19 (16 * x + j))
    rw [lf5_gives_16, gv]
    by_cases c1 : v4 ≤ a19 (16 * x + j)
    · have c1' := i32_le.mp c1
      have e0 : v4 - v4 = 0 := Int32.sub_self v4
      have z := fun v5 => gv_ref (a19 := a19) (a20 := a20) (a21 := a21) (p2 := p2) (p3 := p3) j 0 v5 (by simp) hj
      simp only [z_toInt, gv_zero j hj, ofI_zero, Int32.add_zero] at z
      rw [Int.min_eq_left c1', Int.sub_self, gv_zero j hj, Int.add_zero, if_pos c1, e0]
      by_cases c2 : p3 = -109
      · rw [if_pos c2, z]; simp [c2, Int32.ofInt_mul]
      · rw [if_neg c2]
        by_cases c3 : a21 (16 * x + j) = p3
        · rw [if_pos c3, z]; simp [c2, c3, Int32.ofInt_mul]
        · rw [if_neg c3, Int32.add_zero, z]; simp [c2, c3, ofI_zero]
    · have c1' : (a19 (16 * x + j)).toInt < v4.toInt := by have := mt i32_le.mpr c1; omega
      have e0 : (v4 - a19 (16 * x + j)).toInt = v4.toInt - (a19 (16 * x + j)).toInt := sub_toInt (by omega) (by omega)
      have z := fun v5 => gv_ref (a19 := a19) (a20 := a20) (a21 := a21) (p2 := p2) (p3 := p3) j (v4 - a19 (16 * x + j)) v5 (by omega) hj
      rw [e0] at z
      rw [Int.min_eq_right (by omega), if_neg c1, Int32.ofInt_add]
      by_cases c2 : p3 = -109
      · rw [if_pos c2, z]; simp [c2, Int32.ofInt_mul, Int32.add_assoc]
      · rw [if_neg c2]
        by_cases c3 : a21 (16 * x + j) = p3
        · rw [if_pos c3, z]; simp [c2, c3, Int32.ofInt_mul, Int32.add_assoc]
        · rw [if_neg c3, Int32.add_zero, z]; simp [c2, c3, ofI_zero]
theorem gv_cls {b5 b6 b7 : Nat → Int32} {p1 p2 : Int32} : ∀ (j : Nat) (v3 v4 : Int32), 0 ≤ v4.toInt → (∀ k, k < j → 0 ≤ (b5 (0 + k)).toInt) → (lf2_worthTo_13 b5 b6 b7 p1 p2 j v3 v4).1 = v3 + Int32.ofInt (gv b5 b6 0 (fun k => decide (b7 k = p1)) j v4.toInt)
  | 0, v3, v4, _, _ => by simp [lf2_worthTo_13, gv, ofI_zero]
  | j + 1, v3, v4, h0, h => by
    have hB := h j (by omega)
    have hj : ∀ k, k < j → 0 ≤ (b5 (0 + k)).toInt := fun k hk => h k (by omega)
    have hv := i32_hi v4
    by_cases c0 : v4 ≤ 0
    · have : v4.toInt = 0 := by have := i32_le.mp c0; rw [z_toInt] at this; omega
      rw [lf2_worthTo_13, if_pos c0, this, gv_zero (j + 1) h]; simp [ofI_zero]
    · rw [Nat.zero_add] at hB
      have hBh := i32_hi (b5 j)
      have eg : (if b5 j < v4 then b5 j else v4).toInt = min v4.toInt (b5 j).toInt := by
        split
        · rename_i c; have := i32_lt.mp c; omega
        · rename_i c; have := mt i32_lt.mpr c; omega
      rw [lf2_worthTo_13, if_neg c0, gv, Nat.zero_add, ← eg]
      generalize (if b5 j < v4 then b5 j else v4) = G at eg ⊢
      have e0 : (v4 - G).toInt = v4.toInt - G.toInt := sub_toInt (by omega) (by omega)
      have z := fun v3 => gv_cls (b5 := b5) (b6 := b6) (b7 := b7) (p1 := p1) (p2 := p2) j v3 (v4 - G) (by omega) hj
      rw [e0] at z
      rw [Int32.ofInt_add]
      by_cases c3 : b7 j = p1
      · rw [if_pos c3, z]; simp [c3, Int32.ofInt_mul, Int32.add_assoc]
      · rw [if_neg c3, z]; simp [c3, ofI_zero]
theorem nI_le5 {y : Int32} (h0 : 0 ≤ y.toInt) (h1 : y.toInt ≤ 5) : y = nI 0 ∨ y = nI 1 ∨ y = nI 2 ∨ y = nI 3 ∨ y = nI 4 ∨ y = nI 5 := by
  obtain ⟨t, ⟨-, ht⟩, rfl⟩ := nat_of_in h0 h1 (by omega)
  have : t = 0 ∨ t = 1 ∨ t = 2 ∨ t = 3 ∨ t = 4 ∨ t = 5 := by omega
  rcases this with rfl | rfl | rfl | rfl | rfl | rfl <;> simp
/-- the six accounts together get what goes -/
theorem gv_six {f g y : Nat → Int32} {o : Nat} : ∀ (j : Nat) (L : Int), (∀ k, k < j → 0 ≤ (y (o + k)).toInt ∧ (y (o + k)).toInt ≤ 5) → gv f g o (fun k => decide (y (o + k) = nI 0)) j L + gv f g o (fun k => decide (y (o + k) = nI 1)) j L + gv f g o (fun k => decide (y (o + k) = nI 2)) j L + gv f g o (fun k => decide (y (o + k) = nI 3)) j L + gv f g o (fun k => decide (y (o + k) = nI 4)) j L + gv f g o (fun k => decide (y (o + k) = nI 5)) j L = gv f g o (fun _ => true) j L
  | 0, _, _ => rfl
  | j + 1, L, h => by
    have ih := gv_six (f := f) (g := g) (y := y) (o := o) j (L - min L (f (o + j)).toInt) (fun k hk => h k (by omega))
    simp only [gv]
    rw [← ih]
    generalize min L (f (o + j)).toInt * (g (o + j)).toInt = T
    obtain ⟨h0, h1⟩ := h j (by omega)
    have q : (if y (o + j) = nI 0 then T else 0) + (if y (o + j) = nI 1 then T else 0) + (if y (o + j) = nI 2 then T else 0) + (if y (o + j) = nI 3 then T else 0) + (if y (o + j) = nI 4 then T else 0) + (if y (o + j) = nI 5 then T else 0) = T := by
      rcases nI_le5 h0 h1 with e | e | e | e | e | e <;> rw [e]
      · rw [if_pos rfl, if_neg (by decide), if_neg (by decide), if_neg (by decide), if_neg (by decide), if_neg (by decide)]; omega
      · rw [if_pos rfl, if_neg (by decide), if_neg (by decide), if_neg (by decide), if_neg (by decide), if_neg (by decide)]; omega
      · rw [if_pos rfl, if_neg (by decide), if_neg (by decide), if_neg (by decide), if_neg (by decide), if_neg (by decide)]; omega
      · rw [if_pos rfl, if_neg (by decide), if_neg (by decide), if_neg (by decide), if_neg (by decide), if_neg (by decide)]; omega
      · rw [if_pos rfl, if_neg (by decide), if_neg (by decide), if_neg (by decide), if_neg (by decide), if_neg (by decide)]; omega
      · rw [if_pos rfl, if_neg (by decide), if_neg (by decide), if_neg (by decide), if_neg (by decide), if_neg (by decide)]; omega
    simp only [decide_eq_true_eq, if_true]
    omega
def rmP (x : Nat) (v t8 : Int32) (f18 f19 : Nat → Int32) (r : Int32 × (Nat → Int32) × Int32) (R : Int32 × (Nat → Int32) × (Nat → Int32)) : Prop :=
  R.2.1 x = r.2.2 ∧ (∀ y, y ≠ x → R.2.1 y = f18 y) ∧ (∀ i, (i < 16 * x ∨ 16 * x + tn t8 ≤ i) → R.2.2 i = f19 i) ∧ r.2.2 = nI (tn r.2.2) ∧ tn r.2.2 ≤ tn t8 ∧ (∀ k, k < tn r.2.2 → r.2.1 k = R.2.2 (16 * x + k) ∧ 0 < (R.2.2 (16 * x + k)).toInt) ∧ sB R.2.2 (16 * x) (tn r.2.2) = sB f19 (16 * x) (tn t8) - v.toInt ∧ (∀ g, wK R.2.2 g (16 * x) (tn r.2.2) = wK f19 g (16 * x) (tn t8) - gv f19 g (16 * x) (fun _ => true) (tn t8) v.toInt)
theorem rm_stop {x : Nat} {v t8 : Int32} {b5 f18 f19 : Nat → Int32} (hv : v.toInt = 0) (h1 : f18 x = t8) (h2 : t8 = nI (tn t8)) (h5 : ∀ k, k < tn t8 → b5 k = f19 (16 * x + k) ∧ 0 < (f19 (16 * x + k)).toInt) : rmP x v t8 f18 f19 (v, b5, t8) (v, f18, f19) := by
  refine ⟨h1, fun _ _ => rfl, fun _ _ => rfl, h2, Nat.le_refl _, h5, ?_, fun g => ?_⟩
  · rw [hv]; simp
  · rw [hv, gv_zero _ (fun k hk => Int.le_of_lt (h5 k hk).2)]; simp
theorem rm_drop {x j : Nat} {v t8 : Int32} {f18 f19 f18' : Nat → Int32} {r : Int32 × (Nat → Int32) × Int32} {R : Int32 × (Nat → Int32) × (Nat → Int32)} (hj : tn t8 = j + 1) (hj2 : j < 16) (hB : (f19 (16 * x + j)).toInt ≤ v.toInt) (hB0 : 0 < (f19 (16 * x + j)).toInt) (h18 : ∀ y, y ≠ x → f18' y = f18 y) (h : rmP x (v - f19 (16 * x + j)) (nI j) f18' (upd f19 (16 * x + j) 0) r R) : rmP x v t8 f18 f19 r R := by
  obtain ⟨q1, q2, q3, q4, q5, q6, q7, q8⟩ := h
  have hv := i32_hi v
  have e0 : (v - f19 (16 * x + j)).toInt = v.toInt - (f19 (16 * x + j)).toInt := sub_toInt (by omega) (by omega)
  have ej : tn (nI j) = j := tn_nI (by omega)
  rw [ej] at q3 q5 q7 q8
  rw [e0] at q7 q8
  refine ⟨q1, fun y hy => (q2 y hy).trans (h18 y hy), fun i hi => ?_, q4, by omega, q6, ?_, fun g => ?_⟩
  · rw [q3 i (by omega), upd_ne _ _ (by omega)]
  · rw [q7, sB_same (f := upd f19 (16 * x + j) 0) (g := f19) j (fun i hi => upd_ne _ _ (by omega)), hj, sB]; omega
  · rw [q8 g, wK_same (f := upd f19 (16 * x + j) 0) (f' := f19) (g := g) (g' := g) (o := 16 * x) (o' := 16 * x) j (fun i hi => ⟨upd_ne _ _ (by omega), rfl⟩), gv_same (f := upd f19 (16 * x + j) 0) (f' := f19) (g := g) (g' := g) (o := 16 * x) (o' := 16 * x) (sel' := fun _ => true) j _ (fun i hi => ⟨upd_ne _ _ (by omega), rfl, rfl⟩), hj, wK, gv, Int.min_eq_right hB, if_pos rfl]; omega
theorem rm_keep {x j : Nat} {v t8 : Int32} {f18 f19 f18' : Nat → Int32} {r : Int32 × (Nat → Int32) × Int32} {R : Int32 × (Nat → Int32) × (Nat → Int32)} (hj : tn t8 = j + 1) (hv0 : 0 < v.toInt) (hB : v.toInt ≤ (f19 (16 * x + j)).toInt) (hp : ∀ k, k < tn t8 → 0 < (f19 (16 * x + k)).toInt) (h18 : ∀ y, y ≠ x → f18' y = f18 y) (h : rmP x 0 t8 f18' (upd f19 (16 * x + j) (f19 (16 * x + j) - v)) r R) : rmP x v t8 f18 f19 r R := by
  obtain ⟨q1, q2, q3, q4, q5, q6, q7, q8⟩ := h
  have hBh := i32_hi (f19 (16 * x + j))
  have e0 : (f19 (16 * x + j) - v).toInt = (f19 (16 * x + j)).toInt - v.toInt := sub_toInt (by omega) (by omega)
  rw [z_toInt] at q7 q8
  refine ⟨q1, fun y hy => (q2 y hy).trans (h18 y hy), fun i hi => ?_, q4, q5, q6, ?_, fun g => ?_⟩
  · rw [q3 i hi, upd_ne _ _ (by omega)]
  · rw [q7, hj, sB, sB, upd_self, e0, sB_same (f := upd f19 (16 * x + j) (f19 (16 * x + j) - v)) (g := f19) j (fun i hi => upd_ne _ _ (by omega))]; omega
  · rw [q8 g, gv_zero _ (fun k hk => ?_), hj, wK, wK, upd_self, e0, wK_same (f := upd f19 (16 * x + j) (f19 (16 * x + j) - v)) (f' := f19) (g := g) (g' := g) (o := 16 * x) (o' := 16 * x) j (fun i hi => ⟨upd_ne _ _ (by omega), rfl⟩), gv, Int.min_eq_left hB, if_pos rfl, Int.sub_self, gv_zero j (fun k hk => Int.le_of_lt (hp k (by omega))), Int.sub_mul]
    · omega
    · by_cases ek : k = j
      · rw [ek, upd_self, e0]; omega
      · rw [upd_ne _ _ (by omega)]; exact Int.le_of_lt (hp k hk)
theorem i32_min {a v : Int32} : (if a < v then a else v) = if v ≤ a then v else a := by
  by_cases c : v ≤ a
  · rw [if_pos c, if_neg (fun h => by have := i32_le.mp c; have := i32_lt.mp h; omega)]
  · rw [if_neg c, if_pos (by have := mt i32_le.mpr c; exact i32_lt.mpr (by omega))]
theorem rm_same {x : Nat} {q p2 v3 : Int32} {f6 : Nat → Int32} : ∀ (j : Nat) (v : Int32) (b5 : Nat → Int32) (t8 : Int32) (f18 f19 : Nat → Int32), f18 x = t8 → t8 = nI (tn t8) → tn t8 ≤ 16 → 0 ≤ v.toInt → (0 < v.toInt → tn t8 = j) → (∀ k, k < tn t8 → b5 k = f19 (16 * x + k) ∧ 0 < (f19 (16 * x + k)).toInt) → v.toInt ≤ sB f19 (16 * x) (tn t8) → rmP x v t8 f18 f19 (lf2_remove_9 q j v b5 t8) (lf5_goes_46 x p2 v3 f6 (j + 1) v f18 f19)
  | 0, v, b5, t8, f18, f19, h1, h2, h3, h4, h5, h6, h7 => by
    have hv : v.toInt = 0 := by
      by_cases c : 0 < v.toInt
      · rw [h5 c, sB] at h7; omega
      · omega
    rw [lf2_remove_9, lf5_goes_46, if_pos (i32_le.mpr (by rw [hv, z_toInt]; omega))]
    exact rm_stop hv h1 h2 h6
  | j + 1, v, b5, t8, f18, f19, h1, h2, h3, h4, h5, h6, h7 => by
    by_cases c0 : v ≤ 0
    · have hv : v.toInt = 0 := by have := i32_le.mp c0; rw [z_toInt] at this; omega
      rw [lf2_remove_9, if_pos c0, lf5_goes_46, if_pos c0]
      exact rm_stop hv h1 h2 h6
    · have hv0 : 0 < v.toInt := by have := mt i32_le.mpr c0; rw [z_toInt] at this; omega
      have ej := h5 hv0
      have e18 : tn (f18 x) = j + 1 := by rw [h1, ej]
      have hvh := i32_hi v
      obtain ⟨hb, hB0⟩ := h6 j (by omega)
      have hBh := i32_hi (f19 (16 * x + j))
      have en : nI (j + 1) - 1 = nI j := by
        apply i32_ext
        have : (nI (j + 1)).toInt = (j + 1 : Nat) := Int32.toInt_ofNat_of_lt (by omega)
        have t : (nI j).toInt = j := Int32.toInt_ofNat_of_lt (by omega)
        have o : (1 : Int32).toInt = 1 := rfl
        rw [sub_toInt (by omega) (by omega), this, t, o]; omega
      have s1 : sB f19 (16 * x) (tn t8) = sB f19 (16 * x) j + (f19 (16 * x + j)).toInt := by rw [ej, sB]
      rw [lf2_remove_9, if_neg c0, lf5_goes_46, if_neg c0, e18, Nat.add_sub_cancel, en, Int32.sub_zero, upd_self, upd_self, upd_self, hb, i32_min]
      by_cases c1 : v ≤ f19 (16 * x + j)
      · have c1' := i32_le.mp c1
        rw [if_pos c1, if_pos c1, Int32.sub_self]
        by_cases c2 : f19 (16 * x + j) - v = 0
        · have e2 : (f19 (16 * x + j)).toInt = v.toInt := by
            have := congrArg Int32.toInt c2
            rw [sub_toInt (by omega) (by omega), z_toInt] at this; omega
          rw [if_pos c2, if_pos c2, c2]
          refine rm_drop (f18' := upd f18 x (nI j)) ej (by omega) (by omega) hB0 (fun y hy => upd_ne _ _ hy) ?_
          have ez : v - f19 (16 * x + j) = 0 := by
            apply i32_ext
            rw [sub_toInt (by omega) (by omega), z_toInt]; omega
          rw [ez]
          have tj : tn (nI j) = j := tn_nI (by omega)
          refine rm_same j 0 _ (nI j) _ _ (upd_self _ _ _) (by rw [tj]) (by rw [tj]; omega) (by rw [z_toInt]; omega) (fun h => by rw [z_toInt] at h; omega) (fun k hk => ?_) ?_
          · rw [tj] at hk
            rw [upd_ne _ _ (by omega), upd_ne _ _ (by omega)]; exact h6 k (by omega)
          · rw [z_toInt]
            refine sB_nn _ (fun i hi => ?_)
            rw [tj] at hi
            rw [upd_ne _ _ (by omega)]; exact (h6 i (by omega)).2
        · rw [if_neg c2, if_neg c2]
          have e2 : (f19 (16 * x + j) - v).toInt = (f19 (16 * x + j)).toInt - v.toInt := sub_toInt (by omega) (by omega)
          have e3 : (f19 (16 * x + j) - v).toInt ≠ 0 := fun h => c2 (i32_ext (by rw [h, z_toInt]))
          refine rm_keep (f18' := upd f18 x (nI (j + 1))) ej hv0 c1' (fun k hk => (h6 k hk).2) (fun y hy => upd_ne _ _ hy) ?_
          have et : t8 = nI (j + 1) := by rw [h2, ej]
          have hq : ∀ k, k < tn t8 → upd b5 j (f19 (16 * x + j) - v) k = upd f19 (16 * x + j) (f19 (16 * x + j) - v) (16 * x + k) ∧ 0 < (upd f19 (16 * x + j) (f19 (16 * x + j) - v) (16 * x + k)).toInt := fun k hk => by
            by_cases ek : k = j
            · rw [ek, upd_self, upd_self]; exact ⟨rfl, by omega⟩
            · rw [upd_ne _ _ ek, upd_ne _ _ (by omega)]; exact h6 k hk
          refine rm_same j 0 _ t8 _ _ (by rw [upd_self, et]) h2 h3 (by rw [z_toInt]; omega) (fun h => by rw [z_toInt] at h; omega) hq ?_
          rw [z_toInt]
          exact sB_nn _ (fun i hi => (hq i hi).2)
      · have c1' : (f19 (16 * x + j)).toInt < v.toInt := by have := mt i32_le.mpr c1; omega
        rw [if_neg c1, if_neg c1, Int32.sub_self, if_pos rfl, if_pos rfl]
        refine rm_drop (f18' := upd f18 x (nI j)) ej (by omega) (by omega) hB0 (fun y hy => upd_ne _ _ hy) ?_
        have tj : tn (nI j) = j := tn_nI (by omega)
        have e0 : (v - f19 (16 * x + j)).toInt = v.toInt - (f19 (16 * x + j)).toInt := sub_toInt (by omega) (by omega)
        refine rm_same j _ _ (nI j) _ _ (upd_self _ _ _) (by rw [tj]) (by rw [tj]; omega) (by omega) (fun _ => tj) (fun k hk => ?_) ?_
        · rw [tj] at hk
          rw [upd_ne _ _ (by omega), upd_ne _ _ (by omega)]; exact h6 k (by omega)
        · rw [tj, sB_same (f := upd f19 (16 * x + j) 0) (g := f19) j (fun i hi => upd_ne _ _ (by omega))]
          omega
def s6 (f : Nat → Int32) : Int := (f 0).toInt + (f 1).toInt + (f 2).toInt + (f 3).toInt + (f 4).toInt + (f 5).toInt
theorem lt6 {k : Nat} (h : k < 6) : k = 0 ∨ k = 1 ∨ k = 2 ∨ k = 3 ∨ k = 4 ∨ k = 5 := by omega
theorem s6_upd {f : Nat → Int32} {k : Nat} {v : Int32} (h : k < 6) : s6 (upd f k v) = s6 f - (f k).toInt + v.toInt := by
  rcases lt6 h with rfl | rfl | rfl | rfl | rfl | rfl <;> simp [s6, upd] <;> omega
theorem s6_le {f : Nat → Int32} {k : Nat} (h0 : ∀ i, i < 6 → 0 ≤ (f i).toInt) (h : k < 6) : (f k).toInt ≤ s6 f := by
  have g0 := h0 0 (by omega); have g1 := h0 1 (by omega); have g2 := h0 2 (by omega); have g3 := h0 3 (by omega); have g4 := h0 4 (by omega); have g5 := h0 5 (by omega)
  rcases lt6 h with rfl | rfl | rfl | rfl | rfl | rfl <;> unfold s6 <;> omega
/-- an object of the class beside one of the reference -/
def RI (I : Nat → Nat → Nat → Int32) (a13 a14 a15 a16 a17 a18 a19 a20 a21 : Nat → Int32) (x : Nat) : Prop :=
  I x 1 0 = a13 x ∧ I x 2 0 = a14 x ∧ I x 3 0 = a16 x ∧ I x 4 0 = a17 x ∧ I x 8 0 = a18 x ∧ (∀ k, k < 4 → I x 0 k = a15 (4 * x + k)) ∧ (∀ k, k < tn (a18 x) → I x 5 k = a19 (16 * x + k) ∧ I x 6 k = a20 (16 * x + k) ∧ I x 7 k = a21 (16 * x + k))
def OKx (s0 : Int32) (a13 a14 a16 a17 a18 a19 a20 a21 : Nat → Int32) (x : Nat) : Prop :=
  (0 ≤ (a13 x).toInt ∧ (a13 x).toInt ≤ 5) ∧ (1 ≤ (a14 x).toInt ∧ (a14 x).toInt ≤ 1000) ∧ (0 ≤ (a16 x).toInt ∧ (a16 x).toInt ≤ s0.toInt + 400) ∧ (a17 x = 0 → s0.toInt ≤ (a16 x).toInt) ∧ (a17 x = 1 → (a16 x).toInt ≤ s0.toInt) ∧ a18 x = nI (tn (a18 x)) ∧ tn (a18 x) ≤ 16 ∧ (∀ k, k < tn (a18 x) → 0 < (a19 (16 * x + k)).toInt ∧ (0 ≤ (a20 (16 * x + k)).toInt ∧ (a20 (16 * x + k)).toInt ≤ 100) ∧ (0 ≤ (a21 (16 * x + k)).toInt ∧ (a21 (16 * x + k)).toInt ≤ 5)) ∧ (¬ a17 x = 2 → sB a19 (16 * x) (tn (a18 x)) = (a14 x).toInt)
def RSt (n : Nat) (u8 : Int32) (I : Nat → Nat → Nat → Int32) (s0 s1 : Int32) (a3 a4 a5 a6 a9 : Nat → Int32) (s10 s12 : Int32) (a13 a14 a15 a16 a17 a18 a19 a20 a21 : Nat → Int32) : Prop :=
  (s1 = nI (tn s1) ∧ 1 ≤ tn s1 ∧ tn s1 ≤ 10 ∧ ∀ i, i < tn s1 → (0 ≤ (a3 i).toInt ∧ (a3 i).toInt ≤ 100) ∧ (0 ≤ (a4 i).toInt ∧ (a4 i).toInt ≤ 20) ∧ (1 ≤ (a5 i).toInt ∧ (a5 i).toInt ≤ 64)) ∧
  (0 ≤ s0.toInt ∧ s0.toInt ≤ 100000) ∧
  ((∀ i, i < 6 → 0 ≤ (a6 i).toInt) ∧ 0 ≤ s10.toInt ∧ s6 a6 + hI a18 a19 a20 (tn s12) + s10.toInt ≤ 600000 ∧ u8 = Int32.ofInt (hI a18 a19 a20 (tn s12))) ∧
  (∀ i, i < 5 → 0 ≤ (a9 i).toInt ∧ (a9 i).toInt ≤ 1000) ∧
  (s12 = nI (tn s12) ∧ tn s12 ≤ n ∧ n ≤ 60) ∧
  (∀ x, x < tn s12 → RI I a13 a14 a15 a16 a17 a18 a19 a20 a21 x ∧ OKx s0 a13 a14 a16 a17 a18 a19 a20 a21 x)
theorem i64_le {a b : Int64} : a ≤ b ↔ a.toInt ≤ b.toInt := Int64.le_iff_toInt_le
theorem i64_lt {a b : Int64} : a < b ↔ a.toInt < b.toInt := Int64.lt_iff_toInt_lt
theorem i64_ext {a b : Int64} (h : a.toInt = b.toInt) : a = b := Int64.toInt_inj.mp h
theorem lg_0lt {a b : Int64} : 0 < lg_cmp a b ↔ b.toInt < a.toInt := by
  unfold lg_cmp
  by_cases c : a > b
  · rw [if_pos c]; have := i64_lt.mp c; simp [this]
  · have c' := mt i64_lt.mpr c
    rw [if_neg c]
    have : ¬ (0 : Int32) < (if a = b then 0 else -1) := by split <;> decide
    simp only [this, false_iff]; exact c'
theorem lg_0le {a b : Int64} : 0 ≤ lg_cmp a b ↔ b.toInt ≤ a.toInt := by
  unfold lg_cmp
  by_cases c : a > b
  · rw [if_pos c]; have := i64_lt.mp c; simp; omega
  · have c' := mt i64_lt.mpr c
    rw [if_neg c]
    by_cases c2 : a = b
    · rw [if_pos c2, c2]; simp
    · rw [if_neg c2]
      have : ¬ a.toInt = b.toInt := fun h => c2 (i64_ext h)
      have e : ¬ (0 : Int32) ≤ -1 := by decide
      simp only [e, false_iff]; omega
theorem wi_iff {p lo hi : Int32} : ¬ f4_within p lo hi = 0 ↔ lo.toInt ≤ p.toInt ∧ p.toInt ≤ hi.toInt := by
  unfold f4_within
  by_cases c : p < lo
  · rw [if_pos c]; have := i32_lt.mp c; simp; omega
  · have c' := mt i32_lt.mpr c
    rw [if_neg c]
    by_cases d : hi < p
    · rw [if_pos d]; have := i32_lt.mp d; simp; omega
    · have d' := mt i32_lt.mpr d
      rw [if_neg d]; simp; omega
theorem wi_in {p lo hi : Int32} {lo' hi' : Int64} (h1 : lo'.toInt = lo.toInt) (h2 : hi'.toInt = hi.toInt) : f4_within p lo hi = 0 ↔ f5_in p.toInt64 lo' hi' = 0 := by
  have a := wi_iff (p := p) (lo := lo) (hi := hi)
  have b := in_iff (x := p.toInt64) (lo := lo') (hi := hi')
  rw [h1, h2, Int32.toInt_toInt64, ← a] at b
  exact ⟨fun h => Classical.byContradiction fun c => (b.mp c) h, fun h => Classical.byContradiction fun c => (b.mpr c) h⟩
theorem na_iff {p : Int32} : f5_noAccount p = 0 ↔ ¬ f5_in p.toInt64 0 5 = 0 := by
  unfold f5_noAccount; split <;> simp [*]
theorem no_iff {s12 p : Int32} : f5_noObject s12 p = 0 ↔ ¬ f4_within p 0 (s12 - 1) = 0 := by
  rw [wi_in (lo' := 0) (hi' := (s12 - 1).toInt64) rfl (Int32.toInt_toInt64 _)]
  unfold f5_noObject; split <;> simp [*]
theorem ia_iff {p : Int32} : f4_isAccount p = 0 ↔ f5_in p.toInt64 0 5 = 0 := wi_in rfl rfl
theorem ino_iff {p : Int32} : f4_isNode p = 0 ↔ f5_in p.toInt64 0 4 = 0 := wi_in rfl rfl
theorem q_cap (a7 : Nat → Int32) (p1 p2 : Int32) : f4_cap a7 p1 p2 = f5_cap a7 p1 p2 := by
  unfold f4_cap f5_cap
  simp only [ia_iff, na_iff, wi_in (lo := 0) (hi := 5000) (lo' := 0) (hi' := 5000) rfl rfl]
  split <;> simp [*]
theorem q_weight (a9 : Nat → Int32) (p1 p2 : Int32) : f4_weight a9 p1 p2 = f5_weight a9 p1 p2 := by
  unfold f4_weight f5_weight
  simp only [ino_iff, wi_in (lo := 0) (hi := 1000) (lo' := 0) (hi' := 1000) rfl rfl]
theorem in_small {p : Int32} {b : Int64} (h : ¬ f5_in p.toInt64 0 b = 0) (B : Nat) (hb : b.toInt = B) : ∃ t : Nat, t ≤ B ∧ p = nI t := by
  obtain ⟨t, ⟨-, h2⟩, rfl⟩ := in_nat 0 B h rfl hb
  exact ⟨t, h2, rfl⟩
theorem q_coins (a6 a8 : Nat → Int32) (p1 p2 : Int32) : f4_coins a6 a8 p1 p2 = f5_coins a6 a8 p1 p2 := by
  unfold f4_coins f5_coins
  simp only [ia_iff, na_iff, ino_iff]
  by_cases c : f5_in p1.toInt64 0 1 = 0
  · have c0 : ¬ p1 = 0 := fun h => by rw [h] at c; exact absurd c (by decide)
    have c1 : ¬ p1 = 1 := fun h => by rw [h] at c; exact absurd c (by decide)
    simp [c, c0, c1]
  · have : p1 = 0 ∨ p1 = 1 := by
      obtain ⟨t, ht, rfl⟩ := in_small c 1 rfl
      have : t = 0 ∨ t = 1 := by omega
      rcases this with rfl | rfl
      · exact Or.inl rfl
      · exact Or.inr rfl
    rw [if_neg c]
    rcases this with rfl | rfl
    · rw [if_pos rfl, if_pos rfl]; split <;> simp [*]
    · rw [if_neg (show ¬ (1 : Int32) = 0 by decide), if_pos rfl, if_neg (show ¬ (1 : Int32) = 0 by decide)]
theorem q_priceAt {s1 : Int32} (a2 a3 a4 a5 : Nat → Int32) (p1 p2 : Int32) (h : 1 ≤ tn s1) : f4_priceAt a2 a3 a4 a5 s1 p1 p2 = f5_priceAt s1 a2 a3 a4 a5 p1 p2 := by
  unfold f4_priceAt f5_priceAt f0_priceOn f0_rentOn f0_leastOn f0_fromOn
  simp only [ed_same _ _ h, wi_in (lo := 0) (hi := 100000) (lo' := 0) (hi' := 100000) rfl rfl]
  by_cases c : f5_in p2.toInt64 0 3 = 0
  · have c0 : ¬ p2 = 0 := fun h => by rw [h] at c; exact absurd c (by decide)
    have c1 : ¬ p2 = 1 := fun h => by rw [h] at c; exact absurd c (by decide)
    have c2 : ¬ p2 = 2 := fun h => by rw [h] at c; exact absurd c (by decide)
    have c3 : ¬ p2 = 3 := fun h => by rw [h] at c; exact absurd c (by decide)
    simp [c, c0, c1, c2, c3]
  · have : p2 = 0 ∨ p2 = 1 ∨ p2 = 2 ∨ p2 = 3 := by
      obtain ⟨t, ht, rfl⟩ := in_small c 3 rfl
      have : t = 0 ∨ t = 1 ∨ t = 2 ∨ t = 3 := by omega
      rcases this with rfl | rfl | rfl | rfl
      · exact Or.inl rfl
      · exact Or.inr (Or.inl rfl)
      · exact Or.inr (Or.inr (Or.inl rfl))
      · exact Or.inr (Or.inr (Or.inr rfl))
    by_cases d : f5_in p1.toInt64 0 100000 = 0
    · rw [if_pos d, if_pos d]
    rw [if_neg d, if_neg d, if_neg c]
    rcases this with rfl | rfl | rfl | rfl
    · rw [if_pos rfl, if_pos rfl]
    · rw [if_neg (by decide), if_pos rfl, if_neg (by decide), if_pos rfl]
    · rw [if_neg (by decide), if_neg (by decide), if_pos rfl, if_neg (by decide), if_neg (by decide), if_pos rfl]
    · rw [if_neg (by decide), if_neg (by decide), if_neg (by decide), if_pos rfl, if_neg (by decide), if_neg (by decide), if_neg (by decide)]
theorem ch_same {s0 s1 : Int32} (a2 a5 : Nat → Int32) (p : Int32) (h : 1 ≤ tn s1) : f4_chargedSize a2 a5 s1 s0 p = f5_charged s0 s1 a2 a5 p := by
  unfold f4_chargedSize f5_charged f0_leastOn
  rw [ed_same _ _ h]
  generalize a5 _ = B
  by_cases c : p ≤ B
  · rw [if_pos c]
    split
    · rfl
    · rename_i d; have c' := i32_le.mp c; have d' := mt i32_lt.mpr d; exact i32_ext (by omega)
  · rw [if_neg c, if_neg (fun d => by have c' := mt i32_le.mpr c; have d' := i32_lt.mp d; omega)]
section
variable {n : Nat} {u8 : Int32} {I : Nat → Nat → Nat → Int32} {s0 s1 : Int32} {a2 a3 a4 a5 a6 a7 a8 a9 : Nat → Int32} {s10 s11 s12 : Int32} {a13 a14 a15 a16 a17 a18 a19 a20 a21 : Nat → Int32}
theorem RSt.find (h : RSt n u8 I s0 s1 a3 a4 a5 a6 a9 s10 s12 a13 a14 a15 a16 a17 a18 a19 a20 a21) {p : Int32} (hp : ¬ f4_within p 0 (s12 - 1) = 0) : ∃ x, x < tn s12 ∧ tn p = x ∧ p = nI x ∧ RI I a13 a14 a15 a16 a17 a18 a19 a20 a21 x ∧ OKx s0 a13 a14 a16 a17 a18 a19 a20 a21 x := by
  obtain ⟨-, -, -, -, ⟨h1, h2, h3⟩, h4⟩ := h
  obtain ⟨x, hx, rfl⟩ := fi_in hp h1 h2 h3
  exact ⟨x, hx, tn_nI (by omega), rfl, h4 x hx⟩
theorem RSt.lives (h : RSt n u8 I s0 s1 a3 a4 a5 a6 a9 s10 s12 a13 a14 a15 a16 a17 a18 a19 a20 a21) {p q : Int32} (hpq : (p = -1 ∧ q = -109) ∨ (p = q ∧ p ≠ -1 ∧ p ≠ -109)) : f4_liveSizes s12 I p = f5_liveSizes s12 a13 a14 a17 q :=
  lv_same hpq _ 0 0 (fun x hx => by
    obtain ⟨⟨r1, r2, r3, r4, -⟩, -⟩ := h.2.2.2.2.2 x (by omega)
    exact ⟨r1, r2, r4⟩)
theorem RSt.many (h : RSt n u8 I s0 s1 a3 a4 a5 a6 a9 s10 s12 a13 a14 a15 a16 a17 a18 a19 a20 a21) (p : Int32) : f4_countOf s12 I p = f5_manyOf s12 a17 p :=
  mn_same _ 0 0 (fun x hx => by
    obtain ⟨⟨r1, r2, r3, r4, -⟩, -⟩ := h.2.2.2.2.2 x (by omega)
    exact r4)
theorem RSt.caps (h : RSt n u8 I s0 s1 a3 a4 a5 a6 a9 s10 s12 a13 a14 a15 a16 a17 a18 a19 a20 a21) {o m : Int32} (ho : 0 ≤ o.toInt ∧ o.toInt ≤ 5) : f4_capsAllow a7 s12 I o m = 0 ↔ ¬ f5_isCapped a7 s12 a13 a14 a17 o m = 0 := by
  unfold f4_capsAllow f5_isCapped
  rw [h.lives (p := -1) (q := -109) (Or.inl ⟨rfl, rfl⟩), h.lives (p := o) (q := o) (Or.inr ⟨rfl, fun e => by rw [e] at ho; exact absurd ho (by decide), fun e => by rw [e] at ho; exact absurd ho (by decide)⟩)]
  split
  · simp
  · by_cases c : f5_liveSizes s12 a13 a14 a17 o + m ≤ a7 (tn o)
    · rw [if_pos c, if_neg (fun d => by have := i32_le.mp c; have := i32_lt.mp d; omega)]; simp
    · rw [if_neg c, if_pos (by have := mt i32_le.mpr c; exact i32_lt.mpr (by omega))]; simp
theorem RSt.digest (h : RSt n u8 I s0 s1 a3 a4 a5 a6 a9 s10 s12 a13 a14 a15 a16 a17 a18 a19 a20 a21) {x : Nat} (hx : x < tn s12) : f1_sumUp (I x 0) (I x 2 0) = f5_digestOf a14 a15 x := by
  obtain ⟨⟨r1, r2, r3, r4, r8, r0, -⟩, -⟩ := h.2.2.2.2.2 x hx
  unfold f1_sumUp f5_digestOf
  rw [r2, dg_same 4 0 (a14 x) (fun i hi => r0 i (by omega))]
theorem RSt.worth (h : RSt n u8 I s0 s1 a3 a4 a5 a6 a9 s10 s12 a13 a14 a15 a16 a17 a18 a19 a20 a21) {x : Nat} (hx : x < tn s12) : f2_worth (I x 5) (I x 6) (I x 8 0) = f5_heldFor a18 a19 a20 x := by
  obtain ⟨⟨r1, r2, r3, r4, r8, r0, r5⟩, -⟩ := h.2.2.2.2.2 x hx
  unfold f2_worth f5_heldFor
  rw [r8, wo_same _ 0 0 (fun i hi => ⟨(r5 i (by omega)).1, (r5 i (by omega)).2.1⟩)]
theorem q_digest (h : RSt n u8 I s0 s1 a3 a4 a5 a6 a9 s10 s12 a13 a14 a15 a16 a17 a18 a19 a20 a21) (p1 : Int32) : f4_digest s12 I p1 = f5_digest s12 a14 a15 p1 := by
  unfold f4_digest f5_digest
  simp only [no_iff]
  by_cases c : f4_within p1 0 (s12 - 1) = 0
  · simp [c]
  · obtain ⟨x, hx, e, -⟩ := h.find c
    rw [if_neg c, if_pos c, e, h.digest hx]
theorem q_object (h : RSt n u8 I s0 s1 a3 a4 a5 a6 a9 s10 s12 a13 a14 a15 a16 a17 a18 a19 a20 a21) (p1 p2 : Int32) : f4_object a2 a5 s1 s12 s0 I p1 p2 = f5_object s0 s1 a2 a5 s12 a13 a14 a16 a17 a18 a19 a20 p1 p2 := by
  unfold f4_object f5_object f1_sizeNow f5_sizeNow
  simp only [no_iff]
  by_cases c : f4_within p1 0 (s12 - 1) = 0
  · simp [c]
  · obtain ⟨x, hx, e, -, ⟨r1, r2, r3, r4, r8, r0, r5⟩, -⟩ := h.find c
    rw [if_neg c, if_pos c, e, h.worth hx, r1, r2, r3, r4, r8, ch_same _ _ _ h.1.2.1]
theorem q_word (h : RSt n u8 I s0 s1 a3 a4 a5 a6 a9 s10 s12 a13 a14 a15 a16 a17 a18 a19 a20 a21) (p1 p2 : Int32) : f4_word s12 I p1 p2 = f5_word s12 a15 a17 p1 p2 := by
  unfold f4_word f5_word
  simp only [no_iff]
  by_cases c : f4_within p1 0 (s12 - 1) = 0
  · simp [c]
  · obtain ⟨x, hx, e, -, ⟨r1, r2, r3, r4, r8, r0, r5⟩, -⟩ := h.find c
    rw [if_neg c, if_pos c, e, r4]
    simp only [wi_in (lo := 0) (hi := 3) (lo' := 0) (hi' := 3) rfl rfl]
    by_cases d : f5_in p2.toInt64 0 3 = 0
    · simp [d]
    · obtain ⟨t, ht, rfl⟩ := in_small d 3 rfl
      rw [if_neg d, if_neg d, tn_nI (by omega), r0 t (by omega)]
theorem q_layer (h : RSt n u8 I s0 s1 a3 a4 a5 a6 a9 s10 s12 a13 a14 a15 a16 a17 a18 a19 a20 a21) (p1 p2 p3 : Int32) : f4_layer s12 I p1 p2 p3 = f5_layer s12 a18 a19 a20 a21 p1 p2 p3 := by
  unfold f4_layer f5_layer f2_has
  simp only [no_iff]
  by_cases c : f4_within p1 0 (s12 - 1) = 0
  · simp [c]
  · obtain ⟨x, hx, e, -, ⟨r1, r2, r3, r4, r8, r0, r5⟩, k1, k2, k3, k4, k5, k6, k7, k8⟩ := h.find c
    rw [if_neg c, if_pos c, e, r8, ← k6]
    simp only [wi_in (lo := 0) (hi := 2) (lo' := 0) (hi' := 2) rfl rfl, wi_in (p := p2) (lo := 0) (hi := a18 x - 1) (lo' := 0) (hi' := (a18 x - 1).toInt64) rfl (Int32.toInt_toInt64 _)]
    by_cases d : f5_in p2.toInt64 0 (a18 x - 1).toInt64 = 0
    · simp [d]
    · have d' := mt (wi_in (p := p2) (lo := 0) (hi := a18 x - 1) (lo' := 0) (hi' := (a18 x - 1).toInt64) rfl (Int32.toInt_toInt64 _)).mp d
      obtain ⟨t, ht, rfl⟩ := fi_in d' k6 (Nat.le_refl _) (by omega)
      obtain ⟨g1, g2, g3⟩ := r5 t ht
      rw [if_neg d, if_neg d, tn_nI (by omega), g1, g2, g3]
theorem q_told (h : RSt n u8 I s0 s1 a3 a4 a5 a6 a9 s10 s12 a13 a14 a15 a16 a17 a18 a19 a20 a21) (p1 : Int32) : f4_told s1 a6 a8 u8 s10 s11 s12 s0 I p1 = f5_told s0 s1 a6 a8 s10 s11 s12 a13 a14 a17 a18 a19 a20 p1 := by
  unfold f4_told f5_told
  have hu : u8 = f5_held s12 a18 a19 a20 := by rw [held_hI]; exact h.2.2.1.2.2.2
  have hc : f3_allCoins a6 a8 u8 s10 = f5_allCoins a6 a8 s10 s12 a18 a19 a20 := by
    unfold f3_allCoins f5_allCoins f3_sumOf
    rw [sum35, sum12, sumv a8 5 0 (lf3_sumOf_4 a6 6 0 (f5_held s12 a18 a19 a20 + s10)), sumv a6 6 0 (f5_held s12 a18 a19 a20 + s10), hu]
    generalize lf3_sumOf_4 a8 5 0 0 = A
    generalize lf3_sumOf_4 a6 6 0 0 = B
    generalize f5_held s12 a18 a19 a20 = C
    grind
  rw [h.many, h.many, h.lives (p := -1) (q := -109) (Or.inl ⟨rfl, rfl⟩), hc, hu]
end
