/-! ===== the reference's cells behind the others ===== -/
def U9 (u : Nat → Nat) (h q1 q2 q3 q4 q5 q6 q7 : Nat) : Nat → Nat := fun i => if i < 105 then u i else if i = 105 then h else if i = 106 then q1 else if i = 107 then q2 else if i = 108 then q3 else if i = 109 then q4 else if i = 110 then q5 else if i = 111 then q6 else q7
def pl9 (i : Nat) : Nat := if i < 105 then 1 + i else if i = 105 then 0 else i
theorem sw_P {D : va_G} {cl : List vw_C} {a b : va_W} {H : Heap} (h : va_P D cl (a ++ b) H) : va_P D cl (b ++ a) H := va_P.app (P_r h) (P_l h)
theorem sw_D {A : Nat → Prop} {a b : va_W} (h : va_D A (a ++ b)) : va_D A (b ++ a) := va_D.app (D_r h) (D_l h) (fun i j x y hi hj e => D_x h j i y x hj hi e.symm)
/-- the references of a cell lie below 105 -/
def rfb (i : Nat) : Bool := match sh i with
  | .inl (_, fl) => fl.all (fun o => match o with
    | none => true
    | some j => decide (j < 105))
  | .inr (_, _, none) => true
  | .inr (_, n, some g) => (List.range n).all (fun j => decide (g j < 105))
theorem rfb_ok : ∀ i, i < 105 → rfb i = true := by
  intro i hi
  have h : (List.range 105).all rfb = true := by decide +kernel
  exact List.all_eq_true.mp h i (List.mem_range.mpr hi)
theorem fldL_cong {ad u : Nat → Nat} {f : Nat → Int} (e : ∀ j, j < 105 → ad j = u j) : ∀ (r : List (Option Nat)) (b : Nat), (r.all (fun o => match o with
    | none => true
    | some j => decide (j < 105))) = true → fldL ad f b r = fldL u f b r
  | [], _, _ => rfl
  | o :: r, b, h => by
    rw [List.all_cons, Bool.and_eq_true] at h
    simp only [fldL]
    rw [fldL_cong e r (b + 1) h.2]
    cases o with
    | none => rfl
    | some j =>
      have hj : j < 105 := of_decide_eq_true h.1
      show Value.ref (ad j) :: _ = Value.ref (u j) :: _
      rw [e j hj]
theorem cv_at {D : va_G} {cl : List vw_C} {ad u : Nat → Nat} {cA : Nat → ClassId} {f : Nat → Int} {H : Heap} (e : ∀ j, j < 105 → ad j = u j) {i : Nat} (hi : i < 105) (h : va_at D cl (u i, cellV u cA (sh i) f) H) : va_at D cl (ad i, cellV ad cA (sh i) f) H := by
  have hr := rfb_ok i hi
  unfold rfb at hr
  rw [e i hi]
  generalize sh i = S at h hr ⊢
  match S, h, hr with
  | .inl (c0, fl), h, hr =>
    show va_at D cl (u i, .inr (c0, fldL ad f 0 fl)) H
    rw [fldL_cong e fl 0 hr]
    exact h
  | .inr (t, n, none), h, _ => exact h
  | .inr (t, n, some g), h, hr =>
    show H[u i]? = some (vp_cell _ _)
    rw [← arr_ext (f := fun k => some (u (g k))) (g := fun k => some (ad (g k))) (fun j hj => by
      have := List.all_eq_true.mp hr j (List.mem_range.mpr hj)
      rw [e _ (of_decide_eq_true this)])]
    exact h
theorem ln9 (cA : Nat → ClassId) (u : Nat → Nat) : (wX8 cA u).length = 105 := by simp [wX8, wldn]
theorem wX8_at (cA : Nat → ClassId) (u : Nat → Nat) {i : Nat} (hi : i < 105) : (wX8 cA u)[i]? = some (u i, cellV u cA (sh i) (M0 i)) := by simp [wX8, wldn, hi]
def W9 (cA : Nat → ClassId) (u : Nat → Nat) (h q1 q2 q3 q4 q5 q6 q7 : Nat) : va_W := (((((((([(h, .inr (9, [.ref q1, .ref q2, .int (zI 0), .ref q3, .ref q4, .ref q5, .int (zI 0), .ref q6, .ref q7, .int (zI 0), .int (zI 0), .int (zI 0), .int (zI 0), .int (zI 0), .int (zI 0), .int (zI 0), .int (zI 0), .int (zI 0), .int (zI 0), .int (zI 0)]))] ++ wX8 cA u) ++ [(q1, .inl (cA 0, 35, .inl (fun _ => zI 0)))]) ++ [(q2, .inl (cA 0, 210, .inl (fun _ => zI 0)))]) ++ [(q3, .inl (cA 0, 70, .inl (fun _ => zI 0)))]) ++ [(q4, .inl (cA 0, 2, .inl (fun _ => zI 0)))]) ++ [(q5, .inl (cA 0, 80, .inl (fun _ => zI 0)))]) ++ [(q6, .inl (cA 0, 8, .inl (fun _ => zI 0)))]) ++ [(q7, .inl (cA 0, 8, .inl (fun _ => zI 0)))])
theorem ln9_0 (cA : Nat → ClassId) (u : Nat → Nat) (h q1 q2 q3 q4 q5 q6 q7 : Nat) : (([(h, .inr (9, [.ref q1, .ref q2, .int (zI 0), .ref q3, .ref q4, .ref q5, .int (zI 0), .ref q6, .ref q7, .int (zI 0), .int (zI 0), .int (zI 0), .int (zI 0), .int (zI 0), .int (zI 0), .int (zI 0), .int (zI 0), .int (zI 0), .int (zI 0), .int (zI 0)]))] ++ wX8 cA u) : va_W).length = 106 := by simp [ln9]
theorem ln9_1 (cA : Nat → ClassId) (u : Nat → Nat) (h q1 q2 q3 q4 q5 q6 q7 : Nat) : ((([(h, .inr (9, [.ref q1, .ref q2, .int (zI 0), .ref q3, .ref q4, .ref q5, .int (zI 0), .ref q6, .ref q7, .int (zI 0), .int (zI 0), .int (zI 0), .int (zI 0), .int (zI 0), .int (zI 0), .int (zI 0), .int (zI 0), .int (zI 0), .int (zI 0), .int (zI 0)]))] ++ wX8 cA u) ++ [(q1, .inl (cA 0, 35, .inl (fun _ => zI 0)))]) : va_W).length = 107 := by simp [ln9]
theorem ln9_2 (cA : Nat → ClassId) (u : Nat → Nat) (h q1 q2 q3 q4 q5 q6 q7 : Nat) : (((([(h, .inr (9, [.ref q1, .ref q2, .int (zI 0), .ref q3, .ref q4, .ref q5, .int (zI 0), .ref q6, .ref q7, .int (zI 0), .int (zI 0), .int (zI 0), .int (zI 0), .int (zI 0), .int (zI 0), .int (zI 0), .int (zI 0), .int (zI 0), .int (zI 0), .int (zI 0)]))] ++ wX8 cA u) ++ [(q1, .inl (cA 0, 35, .inl (fun _ => zI 0)))]) ++ [(q2, .inl (cA 0, 210, .inl (fun _ => zI 0)))]) : va_W).length = 108 := by simp [ln9]
theorem ln9_3 (cA : Nat → ClassId) (u : Nat → Nat) (h q1 q2 q3 q4 q5 q6 q7 : Nat) : ((((([(h, .inr (9, [.ref q1, .ref q2, .int (zI 0), .ref q3, .ref q4, .ref q5, .int (zI 0), .ref q6, .ref q7, .int (zI 0), .int (zI 0), .int (zI 0), .int (zI 0), .int (zI 0), .int (zI 0), .int (zI 0), .int (zI 0), .int (zI 0), .int (zI 0), .int (zI 0)]))] ++ wX8 cA u) ++ [(q1, .inl (cA 0, 35, .inl (fun _ => zI 0)))]) ++ [(q2, .inl (cA 0, 210, .inl (fun _ => zI 0)))]) ++ [(q3, .inl (cA 0, 70, .inl (fun _ => zI 0)))]) : va_W).length = 109 := by simp [ln9]
theorem ln9_4 (cA : Nat → ClassId) (u : Nat → Nat) (h q1 q2 q3 q4 q5 q6 q7 : Nat) : (((((([(h, .inr (9, [.ref q1, .ref q2, .int (zI 0), .ref q3, .ref q4, .ref q5, .int (zI 0), .ref q6, .ref q7, .int (zI 0), .int (zI 0), .int (zI 0), .int (zI 0), .int (zI 0), .int (zI 0), .int (zI 0), .int (zI 0), .int (zI 0), .int (zI 0), .int (zI 0)]))] ++ wX8 cA u) ++ [(q1, .inl (cA 0, 35, .inl (fun _ => zI 0)))]) ++ [(q2, .inl (cA 0, 210, .inl (fun _ => zI 0)))]) ++ [(q3, .inl (cA 0, 70, .inl (fun _ => zI 0)))]) ++ [(q4, .inl (cA 0, 2, .inl (fun _ => zI 0)))]) : va_W).length = 110 := by simp [ln9]
theorem ln9_5 (cA : Nat → ClassId) (u : Nat → Nat) (h q1 q2 q3 q4 q5 q6 q7 : Nat) : ((((((([(h, .inr (9, [.ref q1, .ref q2, .int (zI 0), .ref q3, .ref q4, .ref q5, .int (zI 0), .ref q6, .ref q7, .int (zI 0), .int (zI 0), .int (zI 0), .int (zI 0), .int (zI 0), .int (zI 0), .int (zI 0), .int (zI 0), .int (zI 0), .int (zI 0), .int (zI 0)]))] ++ wX8 cA u) ++ [(q1, .inl (cA 0, 35, .inl (fun _ => zI 0)))]) ++ [(q2, .inl (cA 0, 210, .inl (fun _ => zI 0)))]) ++ [(q3, .inl (cA 0, 70, .inl (fun _ => zI 0)))]) ++ [(q4, .inl (cA 0, 2, .inl (fun _ => zI 0)))]) ++ [(q5, .inl (cA 0, 80, .inl (fun _ => zI 0)))]) : va_W).length = 111 := by simp [ln9]
theorem ln9_6 (cA : Nat → ClassId) (u : Nat → Nat) (h q1 q2 q3 q4 q5 q6 q7 : Nat) : (((((((([(h, .inr (9, [.ref q1, .ref q2, .int (zI 0), .ref q3, .ref q4, .ref q5, .int (zI 0), .ref q6, .ref q7, .int (zI 0), .int (zI 0), .int (zI 0), .int (zI 0), .int (zI 0), .int (zI 0), .int (zI 0), .int (zI 0), .int (zI 0), .int (zI 0), .int (zI 0)]))] ++ wX8 cA u) ++ [(q1, .inl (cA 0, 35, .inl (fun _ => zI 0)))]) ++ [(q2, .inl (cA 0, 210, .inl (fun _ => zI 0)))]) ++ [(q3, .inl (cA 0, 70, .inl (fun _ => zI 0)))]) ++ [(q4, .inl (cA 0, 2, .inl (fun _ => zI 0)))]) ++ [(q5, .inl (cA 0, 80, .inl (fun _ => zI 0)))]) ++ [(q6, .inl (cA 0, 8, .inl (fun _ => zI 0)))]) : va_W).length = 112 := by simp [ln9]
theorem ln9_7 (cA : Nat → ClassId) (u : Nat → Nat) (h q1 q2 q3 q4 q5 q6 q7 : Nat) : ((((((((([(h, .inr (9, [.ref q1, .ref q2, .int (zI 0), .ref q3, .ref q4, .ref q5, .int (zI 0), .ref q6, .ref q7, .int (zI 0), .int (zI 0), .int (zI 0), .int (zI 0), .int (zI 0), .int (zI 0), .int (zI 0), .int (zI 0), .int (zI 0), .int (zI 0), .int (zI 0)]))] ++ wX8 cA u) ++ [(q1, .inl (cA 0, 35, .inl (fun _ => zI 0)))]) ++ [(q2, .inl (cA 0, 210, .inl (fun _ => zI 0)))]) ++ [(q3, .inl (cA 0, 70, .inl (fun _ => zI 0)))]) ++ [(q4, .inl (cA 0, 2, .inl (fun _ => zI 0)))]) ++ [(q5, .inl (cA 0, 80, .inl (fun _ => zI 0)))]) ++ [(q6, .inl (cA 0, 8, .inl (fun _ => zI 0)))]) ++ [(q7, .inl (cA 0, 8, .inl (fun _ => zI 0)))]) : va_W).length = 113 := by simp [ln9]
theorem at9_o (cA : Nat → ClassId) (u : Nat → Nat) (h q1 q2 q3 q4 q5 q6 q7 : Nat) : (W9 cA u h q1 q2 q3 q4 q5 q6 q7)[0]? = some (h, .inr (9, [.ref q1, .ref q2, .int (zI 0), .ref q3, .ref q4, .ref q5, .int (zI 0), .ref q6, .ref q7, .int (zI 0), .int (zI 0), .int (zI 0), .int (zI 0), .int (zI 0), .int (zI 0), .int (zI 0), .int (zI 0), .int (zI 0), .int (zI 0), .int (zI 0)])) := rfl
theorem at9_l (cA : Nat → ClassId) (u : Nat → Nat) (h q1 q2 q3 q4 q5 q6 q7 : Nat) {i : Nat} (hi : i < 105) : (W9 cA u h q1 q2 q3 q4 q5 q6 q7)[1 + i]? = some (u i, cellV u cA (sh i) (M0 i)) := by
  unfold W9
  refine (ap_l (by rw [ln9_6 cA u h q1 q2 q3 q4 q5 q6 q7]; omega)).trans ?_
  refine (ap_l (by rw [ln9_5 cA u h q1 q2 q3 q4 q5 q6 q7]; omega)).trans ?_
  refine (ap_l (by rw [ln9_4 cA u h q1 q2 q3 q4 q5 q6 q7]; omega)).trans ?_
  refine (ap_l (by rw [ln9_3 cA u h q1 q2 q3 q4 q5 q6 q7]; omega)).trans ?_
  refine (ap_l (by rw [ln9_2 cA u h q1 q2 q3 q4 q5 q6 q7]; omega)).trans ?_
  refine (ap_l (by rw [ln9_1 cA u h q1 q2 q3 q4 q5 q6 q7]; omega)).trans ?_
  refine (ap_l (by rw [ln9_0 cA u h q1 q2 q3 q4 q5 q6 q7]; omega)).trans ?_
  refine (ap_r (a := [(h, .inr (9, [.ref q1, .ref q2, .int (zI 0), .ref q3, .ref q4, .ref q5, .int (zI 0), .ref q6, .ref q7, .int (zI 0), .int (zI 0), .int (zI 0), .int (zI 0), .int (zI 0), .int (zI 0), .int (zI 0), .int (zI 0), .int (zI 0), .int (zI 0), .int (zI 0)]))]) i (by simp)).trans ?_
  exact wX8_at cA u hi
theorem at9_0 (cA : Nat → ClassId) (u : Nat → Nat) (h q1 q2 q3 q4 q5 q6 q7 : Nat) : (W9 cA u h q1 q2 q3 q4 q5 q6 q7)[106]? = some (q1, .inl (cA 0, 35, .inl (fun _ => zI 0))) := by
  unfold W9
  refine (ap_l (by rw [ln9_6 cA u h q1 q2 q3 q4 q5 q6 q7]; omega)).trans ?_
  refine (ap_l (by rw [ln9_5 cA u h q1 q2 q3 q4 q5 q6 q7]; omega)).trans ?_
  refine (ap_l (by rw [ln9_4 cA u h q1 q2 q3 q4 q5 q6 q7]; omega)).trans ?_
  refine (ap_l (by rw [ln9_3 cA u h q1 q2 q3 q4 q5 q6 q7]; omega)).trans ?_
  refine (ap_l (by rw [ln9_2 cA u h q1 q2 q3 q4 q5 q6 q7]; omega)).trans ?_
  refine (ap_l (by rw [ln9_1 cA u h q1 q2 q3 q4 q5 q6 q7]; omega)).trans ?_
  exact (ap_r 0 (by rw [ln9_0 cA u h q1 q2 q3 q4 q5 q6 q7])).trans rfl
theorem at9_1 (cA : Nat → ClassId) (u : Nat → Nat) (h q1 q2 q3 q4 q5 q6 q7 : Nat) : (W9 cA u h q1 q2 q3 q4 q5 q6 q7)[107]? = some (q2, .inl (cA 0, 210, .inl (fun _ => zI 0))) := by
  unfold W9
  refine (ap_l (by rw [ln9_6 cA u h q1 q2 q3 q4 q5 q6 q7]; omega)).trans ?_
  refine (ap_l (by rw [ln9_5 cA u h q1 q2 q3 q4 q5 q6 q7]; omega)).trans ?_
  refine (ap_l (by rw [ln9_4 cA u h q1 q2 q3 q4 q5 q6 q7]; omega)).trans ?_
  refine (ap_l (by rw [ln9_3 cA u h q1 q2 q3 q4 q5 q6 q7]; omega)).trans ?_
  refine (ap_l (by rw [ln9_2 cA u h q1 q2 q3 q4 q5 q6 q7]; omega)).trans ?_
  exact (ap_r 0 (by rw [ln9_1 cA u h q1 q2 q3 q4 q5 q6 q7])).trans rfl
theorem at9_2 (cA : Nat → ClassId) (u : Nat → Nat) (h q1 q2 q3 q4 q5 q6 q7 : Nat) : (W9 cA u h q1 q2 q3 q4 q5 q6 q7)[108]? = some (q3, .inl (cA 0, 70, .inl (fun _ => zI 0))) := by
  unfold W9
  refine (ap_l (by rw [ln9_6 cA u h q1 q2 q3 q4 q5 q6 q7]; omega)).trans ?_
  refine (ap_l (by rw [ln9_5 cA u h q1 q2 q3 q4 q5 q6 q7]; omega)).trans ?_
  refine (ap_l (by rw [ln9_4 cA u h q1 q2 q3 q4 q5 q6 q7]; omega)).trans ?_
  refine (ap_l (by rw [ln9_3 cA u h q1 q2 q3 q4 q5 q6 q7]; omega)).trans ?_
  exact (ap_r 0 (by rw [ln9_2 cA u h q1 q2 q3 q4 q5 q6 q7])).trans rfl
theorem at9_3 (cA : Nat → ClassId) (u : Nat → Nat) (h q1 q2 q3 q4 q5 q6 q7 : Nat) : (W9 cA u h q1 q2 q3 q4 q5 q6 q7)[109]? = some (q4, .inl (cA 0, 2, .inl (fun _ => zI 0))) := by
  unfold W9
  refine (ap_l (by rw [ln9_6 cA u h q1 q2 q3 q4 q5 q6 q7]; omega)).trans ?_
  refine (ap_l (by rw [ln9_5 cA u h q1 q2 q3 q4 q5 q6 q7]; omega)).trans ?_
  refine (ap_l (by rw [ln9_4 cA u h q1 q2 q3 q4 q5 q6 q7]; omega)).trans ?_
  exact (ap_r 0 (by rw [ln9_3 cA u h q1 q2 q3 q4 q5 q6 q7])).trans rfl
theorem at9_4 (cA : Nat → ClassId) (u : Nat → Nat) (h q1 q2 q3 q4 q5 q6 q7 : Nat) : (W9 cA u h q1 q2 q3 q4 q5 q6 q7)[110]? = some (q5, .inl (cA 0, 80, .inl (fun _ => zI 0))) := by
  unfold W9
  refine (ap_l (by rw [ln9_6 cA u h q1 q2 q3 q4 q5 q6 q7]; omega)).trans ?_
  refine (ap_l (by rw [ln9_5 cA u h q1 q2 q3 q4 q5 q6 q7]; omega)).trans ?_
  exact (ap_r 0 (by rw [ln9_4 cA u h q1 q2 q3 q4 q5 q6 q7])).trans rfl
theorem at9_5 (cA : Nat → ClassId) (u : Nat → Nat) (h q1 q2 q3 q4 q5 q6 q7 : Nat) : (W9 cA u h q1 q2 q3 q4 q5 q6 q7)[111]? = some (q6, .inl (cA 0, 8, .inl (fun _ => zI 0))) := by
  unfold W9
  refine (ap_l (by rw [ln9_6 cA u h q1 q2 q3 q4 q5 q6 q7]; omega)).trans ?_
  exact (ap_r 0 (by rw [ln9_5 cA u h q1 q2 q3 q4 q5 q6 q7])).trans rfl
theorem at9_6 (cA : Nat → ClassId) (u : Nat → Nat) (h q1 q2 q3 q4 q5 q6 q7 : Nat) : (W9 cA u h q1 q2 q3 q4 q5 q6 q7)[112]? = some (q7, .inl (cA 0, 8, .inl (fun _ => zI 0))) := by
  unfold W9
  exact (ap_r 0 (by rw [ln9_6 cA u h q1 q2 q3 q4 q5 q6 q7])).trans rfl
theorem e9 (u : Nat → Nat) (h q1 q2 q3 q4 q5 q6 q7 : Nat) : ∀ j, j < 105 → U9 u h q1 q2 q3 q4 q5 q6 q7 j = u j := fun j hj => if_pos hj
theorem P9 {D : va_G} {H : Heap} (cA : Nat → ClassId) (u : Nat → Nat) (h q1 q2 q3 q4 q5 q6 q7 : Nat) (hP : va_P D vwCl (W9 cA u h q1 q2 q3 q4 q5 q6 q7) H) : va_P D vwCl (wld (U9 u h q1 q2 q3 q4 q5 q6 q7) cA M0) H := fun k q hk => by
  obtain ⟨h1, rfl⟩ := wld_inv hk
  rcases Nat.lt_or_ge k 105 with g | g
  · exact cv_at (e9 u h q1 q2 q3 q4 q5 q6 q7) g (hP _ _ (at9_l cA u h q1 q2 q3 q4 q5 q6 q7 g))
  · rcases (show k = 105 ∨ k = 106 ∨ k = 107 ∨ k = 108 ∨ k = 109 ∨ k = 110 ∨ k = 111 ∨ k = 112 by omega) with e | e | e | e | e | e | e | e <;> subst e
    · exact hP 0 _ (at9_o cA u h q1 q2 q3 q4 q5 q6 q7)
    · exact hP 106 _ (at9_0 cA u h q1 q2 q3 q4 q5 q6 q7)
    · exact hP 107 _ (at9_1 cA u h q1 q2 q3 q4 q5 q6 q7)
    · exact hP 108 _ (at9_2 cA u h q1 q2 q3 q4 q5 q6 q7)
    · exact hP 109 _ (at9_3 cA u h q1 q2 q3 q4 q5 q6 q7)
    · exact hP 110 _ (at9_4 cA u h q1 q2 q3 q4 q5 q6 q7)
    · exact hP 111 _ (at9_5 cA u h q1 q2 q3 q4 q5 q6 q7)
    · exact hP 112 _ (at9_6 cA u h q1 q2 q3 q4 q5 q6 q7)
theorem ad9 (cA : Nat → ClassId) (u : Nat → Nat) (h q1 q2 q3 q4 q5 q6 q7 : Nat) {i : Nat} (hi : i < 113) : ∃ ee : va_E, (W9 cA u h q1 q2 q3 q4 q5 q6 q7)[pl9 i]? = some (U9 u h q1 q2 q3 q4 q5 q6 q7 i, ee) := by
  rcases Nat.lt_or_ge i 105 with g | g
  · rw [e9 u h q1 q2 q3 q4 q5 q6 q7 i g, show pl9 i = 1 + i from if_pos g]
    exact ⟨_, at9_l cA u h q1 q2 q3 q4 q5 q6 q7 g⟩
  · rcases (show i = 105 ∨ i = 106 ∨ i = 107 ∨ i = 108 ∨ i = 109 ∨ i = 110 ∨ i = 111 ∨ i = 112 by omega) with e | e | e | e | e | e | e | e <;> subst e
    · exact ⟨_, at9_o cA u h q1 q2 q3 q4 q5 q6 q7⟩
    · exact ⟨_, at9_0 cA u h q1 q2 q3 q4 q5 q6 q7⟩
    · exact ⟨_, at9_1 cA u h q1 q2 q3 q4 q5 q6 q7⟩
    · exact ⟨_, at9_2 cA u h q1 q2 q3 q4 q5 q6 q7⟩
    · exact ⟨_, at9_3 cA u h q1 q2 q3 q4 q5 q6 q7⟩
    · exact ⟨_, at9_4 cA u h q1 q2 q3 q4 q5 q6 q7⟩
    · exact ⟨_, at9_5 cA u h q1 q2 q3 q4 q5 q6 q7⟩
    · exact ⟨_, at9_6 cA u h q1 q2 q3 q4 q5 q6 q7⟩
theorem adok9 {A : Nat → Prop} (cA : Nat → ClassId) (u : Nat → Nat) (h q1 q2 q3 q4 q5 q6 q7 : Nat) (hD : va_D A (W9 cA u h q1 q2 q3 q4 q5 q6 q7)) : adok (U9 u h q1 q2 q3 q4 q5 q6 q7) ∧ ∀ i, i < 113 → A (U9 u h q1 q2 q3 q4 q5 q6 q7 i) := by
  refine ⟨fun i j hi hj e => ?_, fun i hi => ?_⟩
  · obtain ⟨e1, h1⟩ := ad9 cA u h q1 q2 q3 q4 q5 q6 q7 hi
    obtain ⟨e2, h2⟩ := ad9 cA u h q1 q2 q3 q4 q5 q6 q7 hj
    have := hD.1 _ _ _ _ h1 h2 e
    unfold pl9 at this
    split at this <;> split at this <;> (try split at this) <;> (try split at this) <;> omega
  · obtain ⟨e1, h1⟩ := ad9 cA u h q1 q2 q3 q4 q5 q6 q7 hi
    exact hD.2 _ _ h1
section LR3
variable {p : Program} {l : Launch} {e : Env} {R : Room} {s : State} {m : MethodId} {args : Array Value} {below : List Frame} {meth : Method} {c : Code} {Q : State → Prop} {cells slots : Nat}
variable {nL : Nat} {D : va_G} {A : Nat → Prop} {a b : va_W} {pc : Nat} {lv : List (Nat × Value)} {st : List Value}
theorem ll_swap (k : LL p l e R s m args below meth c nL D A cells slots Q (b ++ a) pc lv st) : LL p l e R s m args below meth c nL D A cells slots Q (a ++ b) pc lv st := fun H locs ls hP hD hS hl => k H locs ls (sw_P hP) (sw_D hD) hS hl
end LR3
def po9 (u : Nat → Nat) (h : Nat) (q : (Nat → Nat) × Mem) : Prop := adok q.1 ∧ (q.1 90 = u 90 ∧ q.1 105 = h) ∧ (eqA (30, (aR M0).2.1, (aR M0).2.2.1, 1, (fun _ => 1), (fun _ => 30)) (aR q.2) ∧ eqx M0 q.2 [105, 106, 111, 112] ∧ ∀ k : Nat, k ≠ 9 → q.2 105 k = M0 105 k)
