theorem nd_of {A : Nat → Prop} : ∀ {ws : va_W}, va_D A ws → (ws.map (·.1)).Nodup
  | [], _ => by simp
  | a :: t, h => by
    rw [List.map_cons, List.nodup_cons]
    refine ⟨fun hm => ?_, nd_of (A := A) (ws := t) ⟨fun i j p q hi hj e => ?_, fun k q hk => h.2 (k + 1) q hk⟩⟩
    · obtain ⟨q, hq, e⟩ := List.mem_map.mp hm
      obtain ⟨j, hj⟩ := List.mem_iff_getElem?.mp hq
      have := h.1 0 (j + 1) a q rfl hj e.symm
      omega
    · have := h.1 (i + 1) (j + 1) p q hi hj e
      omega
theorem nd_inj : ∀ (ws : va_W), (ws.map (·.1)).Nodup → ∀ (i j : Nat) (p q : Nat × va_E), ws[i]? = some p → ws[j]? = some q → p.1 = q.1 → i = j
  | [], _, _, _, _, _, hi, _, _ => by simp at hi
  | _ :: _, _, 0, 0, _, _, _, _, _ => rfl
  | a :: t, h, 0, j + 1, p, q, hi, hj, e => by
    rw [List.map_cons, List.nodup_cons] at h
    cases hi
    exact absurd (List.mem_map.mpr ⟨q, List.mem_of_getElem? (show t[j]? = some q from hj), e.symm⟩) h.1
  | a :: t, h, i + 1, 0, p, q, hi, hj, e => by
    rw [List.map_cons, List.nodup_cons] at h
    cases hj
    exact absurd (List.mem_map.mpr ⟨p, List.mem_of_getElem? (show t[i]? = some p from hi), e⟩) h.1
  | a :: t, h, i + 1, j + 1, p, q, hi, hj, e => by
    rw [List.map_cons, List.nodup_cons] at h
    rw [nd_inj t h.2 i j p q hi hj e]
theorem of_nd {A : Nat → Prop} {ws : va_W} (h : (ws.map (·.1)).Nodup) (hA : ∀ q ∈ ws, A q.1) : va_D A ws := ⟨nd_inj ws h, fun _ q hk => hA q (List.mem_of_getElem? hk)⟩
theorem Wd.perm {D : va_G} {ty : List (ClassId × FieldType)} {A : Nat → Prop} {H0 : Heap} {s : State} {ws ws' : va_W} {H : Heap} {locs : List Loc} (hw : Wd D ty A H0 s ws H locs) (h : ws.Perm ws') : Wd D ty A H0 s ws' H locs := by
  obtain ⟨hK, hP, hD, hS, hA, hE⟩ := hw
  refine ⟨hK, fun k q hk => ?_, of_nd ((h.map _).nodup_iff.mp (nd_of hD)) (fun q hq => ?_), hS, hA, hE⟩
  · obtain ⟨k', hk'⟩ := List.mem_iff_getElem?.mp (h.mem_iff.mpr (List.mem_of_getElem? hk))
    exact hP k' q hk'
  · obtain ⟨k', hk'⟩ := List.mem_iff_getElem?.mp (h.mem_iff.mpr hq)
    exact hD.2 k' q hk'
theorem apL {ws Z : va_W} {k : Nat} {q : Nat × va_E} (h : ws[k]? = some q) : (ws ++ Z)[k]? = some q := by
  rw [List.getElem?_append_left (List.getElem?_eq_some_iff.mp h).1]; exact h
theorem apR {ws Z : va_W} {k : Nat} {q : Nat × va_E} (h : Z[k]? = some q) : (ws ++ Z)[ws.length + k]? = some q := by
  rw [List.getElem?_append_right (by omega), show ws.length + k - ws.length = k by omega]; exact h
theorem vaA_L {ws Z : va_W} {sz q : Nat} (h : va_A ws sz q) : va_A (ws ++ Z) sz q := by
  rcases h with ⟨k, e, hk⟩ | h
  · exact Or.inl ⟨k, e, apL hk⟩
  · exact Or.inr h
theorem z_out {B : Nat → Prop} {D : va_G} {cl : List vw_C} {ws Z : va_W} {H : Heap} (hD : va_D B (ws ++ Z)) (hP : va_P D cl (ws ++ Z) H) {j : Nat} {q : Nat × va_E} (hj : Z[j]? = some q) : ¬ va_A ws H.size q.1 ∧ q.1 < H.size := by
  have hlt := (hP _ q (apR hj)).lt
  refine ⟨fun h => ?_, hlt⟩
  rcases h with ⟨k, e, hk⟩ | h
  · have := hD.1 k (ws.length + j) (q.1, e) q (apL hk) (apR hj) rfl
    have := (List.getElem?_eq_some_iff.mp hk).1
    omega
  · omega
theorem fr_B {D : va_G} {ty : List (ClassId × FieldType)} {ws Z w1 : va_W} {U t : State} (qP : va_P D vwCl (ws ++ Z) U.heap) (qD : va_D (fun _ => True) (ws ++ Z)) (hB : cB D ty (va_A ws U.heap.size) w1 t) (hF : va_F (va_A ws U.heap.size) U t) : cB D ty (va_A (ws ++ Z) U.heap.size) (w1 ++ Z) t := by
  obtain ⟨hP1, hK1, hD1⟩ := hB
  refine ⟨hP1.app (fun k q hk => (qP _ q (apR hk)).kept (hF.2 q.1 (z_out qD qP hk).2 (z_out qD qP hk).1)), hK1, va_D.app (hD1.weaken (fun _ _ _ h => vaA_L h)) ⟨fun i j p q hi hj e => ?_, fun k q hk => Or.inl ⟨_, q.2, apR hk⟩⟩ (fun i j p q hi hj e => ?_)⟩
  · have := qD.1 _ _ p q (apR hi) (apR hj) e
    omega
  · exact (z_out qD qP hj).1 (e ▸ hD1.2 i p hi)
theorem fr_F {ws Z : va_W} {sz : Nat} {U t : State} (hF : va_F (va_A ws sz) U t) : va_F (va_A (ws ++ Z) sz) U t := ⟨hF.1, fun q h1 h2 => hF.2 q h1 (fun z => h2 (vaA_L z))⟩
theorem MetG.frame_i {l : Launch} {y : MethodName} {wy : List Cond} {rm : Room} {D : va_G} {ty : List (ClassId × FieldType)} {av : List Value} {ws : va_W} {post : Int32 → va_W → Prop} {mc ms : Nat} (h : MetG l y wy rm D ty av ws (va_Qi post) mc ms) (Z : va_W) : MetG l y wy rm D ty av (ws ++ Z) (va_Qi (fun r w => ∃ w1, post r w1 ∧ w = w1 ++ Z)) mc ms := by
  intro sz
  refine MetFree.mono (h sz) (fun a U hp => ?_) (fun _ _ _ _ _ h => h) (fun a U oo t hp hq => ?_)
  · obtain ⟨q0, q1, qP, qK, qD, qE⟩ := hp
    exact ⟨q0, q1, fun k q hk => qP k q (apL hk), qK, ⟨fun i j p q hi hj e => qD.1 i j p q (apL hi) (apL hj) e, fun _ _ _ => trivial⟩, qE⟩
  · obtain ⟨q0, rfl, qP, qK, qD, qE⟩ := hp
    obtain ⟨⟨⟨r, w1, e1, hpo, hB⟩, hF⟩, L, hL, hfr⟩ := hq
    exact ⟨⟨⟨r, w1 ++ Z, e1, ⟨w1, hpo, rfl⟩, fr_B qP qD hB hF⟩, fr_F hF⟩, L, hL, fun q hq => vaA_L (hfr q hq)⟩
theorem MetG.frame_l {l : Launch} {y : MethodName} {wy : List Cond} {rm : Room} {D : va_G} {ty : List (ClassId × FieldType)} {av : List Value} {ws : va_W} {post : Int64 → va_W → Prop} {mc ms : Nat} (h : MetG l y wy rm D ty av ws (va_Ql post) mc ms) (Z : va_W) : MetG l y wy rm D ty av (ws ++ Z) (va_Ql (fun r w => ∃ w1, post r w1 ∧ w = w1 ++ Z)) mc ms := by
  intro sz
  refine MetFree.mono (h sz) (fun a U hp => ?_) (fun _ _ _ _ _ h => h) (fun a U oo t hp hq => ?_)
  · obtain ⟨q0, q1, qP, qK, qD, qE⟩ := hp
    exact ⟨q0, q1, fun k q hk => qP k q (apL hk), qK, ⟨fun i j p q hi hj e => qD.1 i j p q (apL hi) (apL hj) e, fun _ _ _ => trivial⟩, qE⟩
  · obtain ⟨q0, rfl, qP, qK, qD, qE⟩ := hp
    obtain ⟨⟨⟨r, w1, e1, hpo, hB⟩, hF⟩, L, hL, hfr⟩ := hq
    exact ⟨⟨⟨r, w1 ++ Z, e1, ⟨w1, hpo, rfl⟩, fr_B qP qD hB hF⟩, fr_F hF⟩, L, hL, fun q hq => vaA_L (hfr q hq)⟩
theorem MetG.frame_v {l : Launch} {y : MethodName} {wy : List Cond} {rm : Room} {D : va_G} {ty : List (ClassId × FieldType)} {av : List Value} {ws : va_W} {post : va_W → Prop} {mc ms : Nat} (h : MetG l y wy rm D ty av ws (va_Qv post) mc ms) (Z : va_W) : MetG l y wy rm D ty av (ws ++ Z) (va_Qv (fun w => ∃ w1, post w1 ∧ w = w1 ++ Z)) mc ms := by
  intro sz
  refine MetFree.mono (h sz) (fun a U hp => ?_) (fun _ _ _ _ _ h => h) (fun a U oo t hp hq => ?_)
  · obtain ⟨q0, q1, qP, qK, qD, qE⟩ := hp
    exact ⟨q0, q1, fun k q hk => qP k q (apL hk), qK, ⟨fun i j p q hi hj e => qD.1 i j p q (apL hi) (apL hj) e, fun _ _ _ => trivial⟩, qE⟩
  · obtain ⟨q0, rfl, qP, qK, qD, qE⟩ := hp
    obtain ⟨⟨⟨w1, e1, hpo, hB⟩, hF⟩, L, hL, hfr⟩ := hq
    exact ⟨⟨⟨w1 ++ Z, e1, ⟨w1, hpo, rfl⟩, fr_B qP qD hB hF⟩, fr_F hF⟩, L, hL, fun q hq => vaA_L (hfr q hq)⟩
