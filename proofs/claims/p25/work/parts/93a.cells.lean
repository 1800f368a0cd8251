/-! ===== the law's arrays behind the class's cells ===== -/
/-- the references of a cell lie below 105 -/
def rfb (i : Nat) : Bool := match sh i with
  | .inl (_, fl) => fl.all (fun o => match o with
    | none => true
    | some j => decide (j < 105))
  | .inr (_, _, none) => true
  | .inr (_, n, some g) => (List.range n).all (fun j => decide (g j < 105))
theorem rfb_ok : ∀ i, i < 105 → rfb i = true := by
  intro i hi
  have h : (List.range 105).all rfb = true := by decide +kernel
  exact List.all_eq_true.mp h i (List.mem_range.mpr hi)
theorem fldL_cong {ad u : Nat → Nat} {f : Nat → Int} (e : ∀ j, j < 105 → ad j = u j) : ∀ (r : List (Option Nat)) (b : Nat), (r.all (fun o => match o with
    | none => true
    | some j => decide (j < 105))) = true → fldL ad f b r = fldL u f b r
  | [], _, _ => rfl
  | o :: r, b, h => by
    rw [List.all_cons, Bool.and_eq_true] at h
    simp only [fldL]
    rw [fldL_cong e r (b + 1) h.2]
    cases o with
    | none => rfl
    | some j =>
      have hj : j < 105 := of_decide_eq_true h.1
      show Value.ref (ad j) :: _ = Value.ref (u j) :: _
      rw [e j hj]
theorem cv_at {D : va_G} {cl : List vw_C} {ad u : Nat → Nat} {cA : Nat → ClassId} {f : Nat → Int} {H : Heap} (e : ∀ j, j < 105 → ad j = u j) {i : Nat} (hi : i < 105) (h : va_at D cl (u i, cellV u cA (sh i) f) H) : va_at D cl (ad i, cellV ad cA (sh i) f) H := by
  have hr := rfb_ok i hi
  unfold rfb at hr
  rw [e i hi]
  generalize sh i = S at h hr ⊢
  match S, h, hr with
  | .inl (c0, fl), h, hr =>
    show va_at D cl (u i, .inr (c0, fldL ad f 0 fl)) H
    rw [fldL_cong e fl 0 hr]
    exact h
  | .inr (t, n, none), h, _ => exact h
  | .inr (t, n, some g), h, hr =>
    show H[u i]? = some (vp_cell _ _)
    rw [← arr_ext (f := fun k => some (u (g k))) (g := fun k => some (ad (g k))) (fun j hj => by
      have := List.all_eq_true.mp hr j (List.mem_range.mpr hj)
      rw [e _ (of_decide_eq_true this)])]
    exact h
theorem ln9 (cA : Nat → ClassId) (u : Nat → Nat) : (wX8 cA u).length = 105 := by simp [wX8, wldn]
theorem wX8_at (cA : Nat → ClassId) (u : Nat → Nat) {i : Nat} (hi : i < 105) : (wX8 cA u)[i]? = some (u i, cellV u cA (sh i) (M0 i)) := by simp [wX8, wldn, hi]
def UA (u : Nat → Nat) (q1 q2 q3 q4 q5 q6 q7 q8 : Nat) : Nat → Nat := fun i => if i < 105 then u i else if i = 105 then q1 else if i = 106 then q2 else if i = 107 then q3 else if i = 108 then q4 else if i = 109 then q5 else if i = 110 then q6 else if i = 111 then q7 else q8
def WA (cA : Nat → ClassId) (u : Nat → Nat) (q1 q2 q3 q4 q5 q6 q7 q8 : Nat) : va_W := ((((((((wX8 cA u ++ [(q1, .inl (cA 0, 3, .inl (fun _ => zI 0)))]) ++ [(q2, .inl (cA 0, 20, .inl (fun _ => zI 0)))]) ++ [(q3, .inl (cA 0, 8, .inl (fun _ => zI 0)))]) ++ [(q4, .inl (cA 0, 8, .inl (fun _ => zI 0)))]) ++ [(q5, .inl (cA 0, 2, .inl (fun _ => zI 0)))]) ++ [(q6, .inl (cA 0, 8, .inl (fun _ => zI 0)))]) ++ [(q7, .inl (cA 0, 8, .inl (fun _ => zI 0)))]) ++ [(q8, .inl (cA 0, 17, .inl (fun _ => zI 0)))])
theorem lnA_0 (cA : Nat → ClassId) (u : Nat → Nat) (q1 q2 q3 q4 q5 q6 q7 q8 : Nat) : (wX8 cA u : va_W).length = 105 := by simp [ln9]
theorem lnA_1 (cA : Nat → ClassId) (u : Nat → Nat) (q1 q2 q3 q4 q5 q6 q7 q8 : Nat) : ((wX8 cA u ++ [(q1, .inl (cA 0, 3, .inl (fun _ => zI 0)))]) : va_W).length = 106 := by simp [ln9]
theorem lnA_2 (cA : Nat → ClassId) (u : Nat → Nat) (q1 q2 q3 q4 q5 q6 q7 q8 : Nat) : (((wX8 cA u ++ [(q1, .inl (cA 0, 3, .inl (fun _ => zI 0)))]) ++ [(q2, .inl (cA 0, 20, .inl (fun _ => zI 0)))]) : va_W).length = 107 := by simp [ln9]
theorem lnA_3 (cA : Nat → ClassId) (u : Nat → Nat) (q1 q2 q3 q4 q5 q6 q7 q8 : Nat) : ((((wX8 cA u ++ [(q1, .inl (cA 0, 3, .inl (fun _ => zI 0)))]) ++ [(q2, .inl (cA 0, 20, .inl (fun _ => zI 0)))]) ++ [(q3, .inl (cA 0, 8, .inl (fun _ => zI 0)))]) : va_W).length = 108 := by simp [ln9]
theorem lnA_4 (cA : Nat → ClassId) (u : Nat → Nat) (q1 q2 q3 q4 q5 q6 q7 q8 : Nat) : (((((wX8 cA u ++ [(q1, .inl (cA 0, 3, .inl (fun _ => zI 0)))]) ++ [(q2, .inl (cA 0, 20, .inl (fun _ => zI 0)))]) ++ [(q3, .inl (cA 0, 8, .inl (fun _ => zI 0)))]) ++ [(q4, .inl (cA 0, 8, .inl (fun _ => zI 0)))]) : va_W).length = 109 := by simp [ln9]
theorem lnA_5 (cA : Nat → ClassId) (u : Nat → Nat) (q1 q2 q3 q4 q5 q6 q7 q8 : Nat) : ((((((wX8 cA u ++ [(q1, .inl (cA 0, 3, .inl (fun _ => zI 0)))]) ++ [(q2, .inl (cA 0, 20, .inl (fun _ => zI 0)))]) ++ [(q3, .inl (cA 0, 8, .inl (fun _ => zI 0)))]) ++ [(q4, .inl (cA 0, 8, .inl (fun _ => zI 0)))]) ++ [(q5, .inl (cA 0, 2, .inl (fun _ => zI 0)))]) : va_W).length = 110 := by simp [ln9]
theorem lnA_6 (cA : Nat → ClassId) (u : Nat → Nat) (q1 q2 q3 q4 q5 q6 q7 q8 : Nat) : (((((((wX8 cA u ++ [(q1, .inl (cA 0, 3, .inl (fun _ => zI 0)))]) ++ [(q2, .inl (cA 0, 20, .inl (fun _ => zI 0)))]) ++ [(q3, .inl (cA 0, 8, .inl (fun _ => zI 0)))]) ++ [(q4, .inl (cA 0, 8, .inl (fun _ => zI 0)))]) ++ [(q5, .inl (cA 0, 2, .inl (fun _ => zI 0)))]) ++ [(q6, .inl (cA 0, 8, .inl (fun _ => zI 0)))]) : va_W).length = 111 := by simp [ln9]
theorem lnA_7 (cA : Nat → ClassId) (u : Nat → Nat) (q1 q2 q3 q4 q5 q6 q7 q8 : Nat) : ((((((((wX8 cA u ++ [(q1, .inl (cA 0, 3, .inl (fun _ => zI 0)))]) ++ [(q2, .inl (cA 0, 20, .inl (fun _ => zI 0)))]) ++ [(q3, .inl (cA 0, 8, .inl (fun _ => zI 0)))]) ++ [(q4, .inl (cA 0, 8, .inl (fun _ => zI 0)))]) ++ [(q5, .inl (cA 0, 2, .inl (fun _ => zI 0)))]) ++ [(q6, .inl (cA 0, 8, .inl (fun _ => zI 0)))]) ++ [(q7, .inl (cA 0, 8, .inl (fun _ => zI 0)))]) : va_W).length = 112 := by simp [ln9]
theorem lnA_8 (cA : Nat → ClassId) (u : Nat → Nat) (q1 q2 q3 q4 q5 q6 q7 q8 : Nat) : (((((((((wX8 cA u ++ [(q1, .inl (cA 0, 3, .inl (fun _ => zI 0)))]) ++ [(q2, .inl (cA 0, 20, .inl (fun _ => zI 0)))]) ++ [(q3, .inl (cA 0, 8, .inl (fun _ => zI 0)))]) ++ [(q4, .inl (cA 0, 8, .inl (fun _ => zI 0)))]) ++ [(q5, .inl (cA 0, 2, .inl (fun _ => zI 0)))]) ++ [(q6, .inl (cA 0, 8, .inl (fun _ => zI 0)))]) ++ [(q7, .inl (cA 0, 8, .inl (fun _ => zI 0)))]) ++ [(q8, .inl (cA 0, 17, .inl (fun _ => zI 0)))]) : va_W).length = 113 := by simp [ln9]
theorem atA_l (cA : Nat → ClassId) (u : Nat → Nat) (q1 q2 q3 q4 q5 q6 q7 q8 : Nat) {i : Nat} (hi : i < 105) : (WA cA u q1 q2 q3 q4 q5 q6 q7 q8)[i]? = some (u i, cellV u cA (sh i) (M0 i)) := by
  unfold WA
  refine (ap_l (by rw [lnA_7 cA u q1 q2 q3 q4 q5 q6 q7 q8]; omega)).trans ?_
  refine (ap_l (by rw [lnA_6 cA u q1 q2 q3 q4 q5 q6 q7 q8]; omega)).trans ?_
  refine (ap_l (by rw [lnA_5 cA u q1 q2 q3 q4 q5 q6 q7 q8]; omega)).trans ?_
  refine (ap_l (by rw [lnA_4 cA u q1 q2 q3 q4 q5 q6 q7 q8]; omega)).trans ?_
  refine (ap_l (by rw [lnA_3 cA u q1 q2 q3 q4 q5 q6 q7 q8]; omega)).trans ?_
  refine (ap_l (by rw [lnA_2 cA u q1 q2 q3 q4 q5 q6 q7 q8]; omega)).trans ?_
  refine (ap_l (by rw [lnA_1 cA u q1 q2 q3 q4 q5 q6 q7 q8]; omega)).trans ?_
  refine (ap_l (by rw [lnA_0 cA u q1 q2 q3 q4 q5 q6 q7 q8]; omega)).trans ?_
  exact wX8_at cA u hi
theorem atA_0 (cA : Nat → ClassId) (u : Nat → Nat) (q1 q2 q3 q4 q5 q6 q7 q8 : Nat) : (WA cA u q1 q2 q3 q4 q5 q6 q7 q8)[105]? = some (q1, .inl (cA 0, 3, .inl (fun _ => zI 0))) := by
  unfold WA
  refine (ap_l (by rw [lnA_7 cA u q1 q2 q3 q4 q5 q6 q7 q8]; omega)).trans ?_
  refine (ap_l (by rw [lnA_6 cA u q1 q2 q3 q4 q5 q6 q7 q8]; omega)).trans ?_
  refine (ap_l (by rw [lnA_5 cA u q1 q2 q3 q4 q5 q6 q7 q8]; omega)).trans ?_
  refine (ap_l (by rw [lnA_4 cA u q1 q2 q3 q4 q5 q6 q7 q8]; omega)).trans ?_
  refine (ap_l (by rw [lnA_3 cA u q1 q2 q3 q4 q5 q6 q7 q8]; omega)).trans ?_
  refine (ap_l (by rw [lnA_2 cA u q1 q2 q3 q4 q5 q6 q7 q8]; omega)).trans ?_
  refine (ap_l (by rw [lnA_1 cA u q1 q2 q3 q4 q5 q6 q7 q8]; omega)).trans ?_
  exact (ap_r 0 (by rw [lnA_0 cA u q1 q2 q3 q4 q5 q6 q7 q8])).trans rfl
theorem atA_1 (cA : Nat → ClassId) (u : Nat → Nat) (q1 q2 q3 q4 q5 q6 q7 q8 : Nat) : (WA cA u q1 q2 q3 q4 q5 q6 q7 q8)[106]? = some (q2, .inl (cA 0, 20, .inl (fun _ => zI 0))) := by
  unfold WA
  refine (ap_l (by rw [lnA_7 cA u q1 q2 q3 q4 q5 q6 q7 q8]; omega)).trans ?_
  refine (ap_l (by rw [lnA_6 cA u q1 q2 q3 q4 q5 q6 q7 q8]; omega)).trans ?_
  refine (ap_l (by rw [lnA_5 cA u q1 q2 q3 q4 q5 q6 q7 q8]; omega)).trans ?_
  refine (ap_l (by rw [lnA_4 cA u q1 q2 q3 q4 q5 q6 q7 q8]; omega)).trans ?_
  refine (ap_l (by rw [lnA_3 cA u q1 q2 q3 q4 q5 q6 q7 q8]; omega)).trans ?_
  refine (ap_l (by rw [lnA_2 cA u q1 q2 q3 q4 q5 q6 q7 q8]; omega)).trans ?_
  exact (ap_r 0 (by rw [lnA_1 cA u q1 q2 q3 q4 q5 q6 q7 q8])).trans rfl
theorem atA_2 (cA : Nat → ClassId) (u : Nat → Nat) (q1 q2 q3 q4 q5 q6 q7 q8 : Nat) : (WA cA u q1 q2 q3 q4 q5 q6 q7 q8)[107]? = some (q3, .inl (cA 0, 8, .inl (fun _ => zI 0))) := by
  unfold WA
  refine (ap_l (by rw [lnA_7 cA u q1 q2 q3 q4 q5 q6 q7 q8]; omega)).trans ?_
  refine (ap_l (by rw [lnA_6 cA u q1 q2 q3 q4 q5 q6 q7 q8]; omega)).trans ?_
  refine (ap_l (by rw [lnA_5 cA u q1 q2 q3 q4 q5 q6 q7 q8]; omega)).trans ?_
  refine (ap_l (by rw [lnA_4 cA u q1 q2 q3 q4 q5 q6 q7 q8]; omega)).trans ?_
  refine (ap_l (by rw [lnA_3 cA u q1 q2 q3 q4 q5 q6 q7 q8]; omega)).trans ?_
  exact (ap_r 0 (by rw [lnA_2 cA u q1 q2 q3 q4 q5 q6 q7 q8])).trans rfl
theorem atA_3 (cA : Nat → ClassId) (u : Nat → Nat) (q1 q2 q3 q4 q5 q6 q7 q8 : Nat) : (WA cA u q1 q2 q3 q4 q5 q6 q7 q8)[108]? = some (q4, .inl (cA 0, 8, .inl (fun _ => zI 0))) := by
  unfold WA
  refine (ap_l (by rw [lnA_7 cA u q1 q2 q3 q4 q5 q6 q7 q8]; omega)).trans ?_
  refine (ap_l (by rw [lnA_6 cA u q1 q2 q3 q4 q5 q6 q7 q8]; omega)).trans ?_
  refine (ap_l (by rw [lnA_5 cA u q1 q2 q3 q4 q5 q6 q7 q8]; omega)).trans ?_
  refine (ap_l (by rw [lnA_4 cA u q1 q2 q3 q4 q5 q6 q7 q8]; omega)).trans ?_
  exact (ap_r 0 (by rw [lnA_3 cA u q1 q2 q3 q4 q5 q6 q7 q8])).trans rfl
theorem atA_4 (cA : Nat → ClassId) (u : Nat → Nat) (q1 q2 q3 q4 q5 q6 q7 q8 : Nat) : (WA cA u q1 q2 q3 q4 q5 q6 q7 q8)[109]? = some (q5, .inl (cA 0, 2, .inl (fun _ => zI 0))) := by
  unfold WA
  refine (ap_l (by rw [lnA_7 cA u q1 q2 q3 q4 q5 q6 q7 q8]; omega)).trans ?_
  refine (ap_l (by rw [lnA_6 cA u q1 q2 q3 q4 q5 q6 q7 q8]; omega)).trans ?_
  refine (ap_l (by rw [lnA_5 cA u q1 q2 q3 q4 q5 q6 q7 q8]; omega)).trans ?_
  exact (ap_r 0 (by rw [lnA_4 cA u q1 q2 q3 q4 q5 q6 q7 q8])).trans rfl
theorem atA_5 (cA : Nat → ClassId) (u : Nat → Nat) (q1 q2 q3 q4 q5 q6 q7 q8 : Nat) : (WA cA u q1 q2 q3 q4 q5 q6 q7 q8)[110]? = some (q6, .inl (cA 0, 8, .inl (fun _ => zI 0))) := by
  unfold WA
  refine (ap_l (by rw [lnA_7 cA u q1 q2 q3 q4 q5 q6 q7 q8]; omega)).trans ?_
  refine (ap_l (by rw [lnA_6 cA u q1 q2 q3 q4 q5 q6 q7 q8]; omega)).trans ?_
  exact (ap_r 0 (by rw [lnA_5 cA u q1 q2 q3 q4 q5 q6 q7 q8])).trans rfl
theorem atA_6 (cA : Nat → ClassId) (u : Nat → Nat) (q1 q2 q3 q4 q5 q6 q7 q8 : Nat) : (WA cA u q1 q2 q3 q4 q5 q6 q7 q8)[111]? = some (q7, .inl (cA 0, 8, .inl (fun _ => zI 0))) := by
  unfold WA
  refine (ap_l (by rw [lnA_7 cA u q1 q2 q3 q4 q5 q6 q7 q8]; omega)).trans ?_
  exact (ap_r 0 (by rw [lnA_6 cA u q1 q2 q3 q4 q5 q6 q7 q8])).trans rfl
theorem atA_7 (cA : Nat → ClassId) (u : Nat → Nat) (q1 q2 q3 q4 q5 q6 q7 q8 : Nat) : (WA cA u q1 q2 q3 q4 q5 q6 q7 q8)[112]? = some (q8, .inl (cA 0, 17, .inl (fun _ => zI 0))) := by
  unfold WA
  exact (ap_r 0 (by rw [lnA_7 cA u q1 q2 q3 q4 q5 q6 q7 q8])).trans rfl
theorem eA8 (u : Nat → Nat) (q1 q2 q3 q4 q5 q6 q7 q8 : Nat) : ∀ j, j < 105 → UA u q1 q2 q3 q4 q5 q6 q7 q8 j = u j := fun j hj => if_pos hj
theorem PA8 {D : va_G} {H : Heap} (cA : Nat → ClassId) (u : Nat → Nat) (q1 q2 q3 q4 q5 q6 q7 q8 : Nat) (hP : va_P D vwCl (WA cA u q1 q2 q3 q4 q5 q6 q7 q8) H) : va_P D vwCl (wld (UA u q1 q2 q3 q4 q5 q6 q7 q8) cA M0) H := fun k q hk => by
  obtain ⟨h1, rfl⟩ := wld_inv hk
  rcases Nat.lt_or_ge k 105 with g | g
  · exact cv_at (eA8 u q1 q2 q3 q4 q5 q6 q7 q8) g (hP _ _ (atA_l cA u q1 q2 q3 q4 q5 q6 q7 q8 g))
  · rcases (show k = 105 ∨ k = 106 ∨ k = 107 ∨ k = 108 ∨ k = 109 ∨ k = 110 ∨ k = 111 ∨ k = 112 by omega) with e | e | e | e | e | e | e | e <;> subst e
    · exact hP 105 _ (atA_0 cA u q1 q2 q3 q4 q5 q6 q7 q8)
    · exact hP 106 _ (atA_1 cA u q1 q2 q3 q4 q5 q6 q7 q8)
    · exact hP 107 _ (atA_2 cA u q1 q2 q3 q4 q5 q6 q7 q8)
    · exact hP 108 _ (atA_3 cA u q1 q2 q3 q4 q5 q6 q7 q8)
    · exact hP 109 _ (atA_4 cA u q1 q2 q3 q4 q5 q6 q7 q8)
    · exact hP 110 _ (atA_5 cA u q1 q2 q3 q4 q5 q6 q7 q8)
    · exact hP 111 _ (atA_6 cA u q1 q2 q3 q4 q5 q6 q7 q8)
    · exact hP 112 _ (atA_7 cA u q1 q2 q3 q4 q5 q6 q7 q8)
theorem adA8 (cA : Nat → ClassId) (u : Nat → Nat) (q1 q2 q3 q4 q5 q6 q7 q8 : Nat) {k : Nat} (hi : k < 113) : ∃ ee : va_E, (WA cA u q1 q2 q3 q4 q5 q6 q7 q8)[k]? = some (UA u q1 q2 q3 q4 q5 q6 q7 q8 k, ee) := by
  rcases Nat.lt_or_ge k 105 with g | g
  · rw [eA8 u q1 q2 q3 q4 q5 q6 q7 q8 k g]
    exact ⟨_, atA_l cA u q1 q2 q3 q4 q5 q6 q7 q8 g⟩
  · rcases (show k = 105 ∨ k = 106 ∨ k = 107 ∨ k = 108 ∨ k = 109 ∨ k = 110 ∨ k = 111 ∨ k = 112 by omega) with e | e | e | e | e | e | e | e <;> subst e
    · exact ⟨_, atA_0 cA u q1 q2 q3 q4 q5 q6 q7 q8⟩
    · exact ⟨_, atA_1 cA u q1 q2 q3 q4 q5 q6 q7 q8⟩
    · exact ⟨_, atA_2 cA u q1 q2 q3 q4 q5 q6 q7 q8⟩
    · exact ⟨_, atA_3 cA u q1 q2 q3 q4 q5 q6 q7 q8⟩
    · exact ⟨_, atA_4 cA u q1 q2 q3 q4 q5 q6 q7 q8⟩
    · exact ⟨_, atA_5 cA u q1 q2 q3 q4 q5 q6 q7 q8⟩
    · exact ⟨_, atA_6 cA u q1 q2 q3 q4 q5 q6 q7 q8⟩
    · exact ⟨_, atA_7 cA u q1 q2 q3 q4 q5 q6 q7 q8⟩
theorem adokA8 {A : Nat → Prop} (cA : Nat → ClassId) (u : Nat → Nat) (q1 q2 q3 q4 q5 q6 q7 q8 : Nat) (hD : va_D A (WA cA u q1 q2 q3 q4 q5 q6 q7 q8)) : adok (UA u q1 q2 q3 q4 q5 q6 q7 q8) ∧ ∀ i, i < 113 → A (UA u q1 q2 q3 q4 q5 q6 q7 q8 i) := by
  refine ⟨fun i j hi hj e => ?_, fun i hi => ?_⟩
  · obtain ⟨e1, h1⟩ := adA8 cA u q1 q2 q3 q4 q5 q6 q7 q8 hi
    obtain ⟨e2, h2⟩ := adA8 cA u q1 q2 q3 q4 q5 q6 q7 q8 hj
    exact hD.1 _ _ _ _ h1 h2 e
  · obtain ⟨e1, h1⟩ := adA8 cA u q1 q2 q3 q4 q5 q6 q7 q8 hi
    exact hD.2 _ _ h1
theorem RLL_0 {N : Mem} (hN : N = up2 (up2 (up2 (up2 M0 105 0 30) 105 2 1) 107 0 1) 108 0 30) : RLL N := by
  have el : ∀ a, a < 105 → N a = M0 a := fun a ha => by rw [hN, up2_n _ _ _ (by omega), up2_n _ _ _ (by omega), up2_n _ _ _ (by omega), up2_n _ _ _ (by omega)]
  have v0 : vC N 0 = vC M0 0 := vC_eq (fun a _ g => el a (by omega))
  have hv : eqA (vC M0 0) (30, 0, (fun _ _ => 0), 1, (fun _ => 1), (fun _ => 30)) := by
    refine ⟨rfl, rfl, fun c k hc hk => ?_, rfl, fun k hk => ?_⟩
    · have hk' : (k : Int) < 0 := hk
      omega
    · have hk' : (k : Int) < 1 := hk
      have : k = 0 := by omega
      subst this
      exact ⟨rfl, rfl⟩
  have hl : eqA (30, 0, (fun _ _ => 0), 1, (fun _ => 1), (fun _ => 30)) (vL N) := by
    refine ⟨?_, ?_, fun c k hc hk => ?_, ?_, fun k hk => ?_⟩
    · show (30 : Int) = N 105 0
      rw [hN]; rfl
    · show (0 : Int) = N 105 1
      rw [hN]; rfl
    · have hk' : (k : Int) < 0 := hk
      omega
    · show (1 : Int) = N 105 2
      rw [hN]; rfl
    · have hk' : (k : Int) < 1 := hk
      have : k = 0 := by omega
      subst this
      refine ⟨?_, ?_⟩
      · show (1 : Int) = N 107 0
        rw [hN]; rfl
      · show (30 : Int) = N 108 0
        rw [hN]; rfl
  have hw : WF (30, 0, (fun _ _ => 0), 1, (fun _ => 1), (fun _ => 30)) := by
    refine ⟨by decide, ⟨by decide, by decide, fun r hr => absurd hr (Nat.not_lt_zero r)⟩, fadd (fun _ => 0) 30 1, fun j => ?_, ⟨fun j _ => ?_, ?_⟩, ?_, one_F (by decide)⟩
    · rw [fadd_z]; split <;> omega
    · rw [fadd_z]; split <;> omega
    · have := (one_F (x := 30) (by decide)).1
      omega
    · exact gfo_1 (j := 30) (by decide) (by rw [fadd_z, if_pos (by decide)])
  refine ⟨by rw [v0]; exact eqA_tr hv hl, by rw [v0]; exact WF_eq (eqA_sy hv) hw, ?_⟩
  unfold HI
  rw [el 91 (by decide)]
  exact ⟨by decide, by decide⟩
