/-- at the start -/
theorem R_start {M : Mem} (h : eqA (30, (aR M0).2.1, (aR M0).2.2.1, 1, (fun _ => 1), (fun _ => 30)) (aR M)) (e : eqx M0 M [105, 106, 111, 112]) (e105 : ∀ k : Nat, k ≠ 9 → M 105 k = M0 105 k) : REL M := by
  have el : ∀ a, a < 105 → M a = M0 a := fun a ha => e a (by simp; omega)
  have e94 : M 94 = M0 94 := el 94 (by decide)
  have e95 : M 95 = M0 95 := el 95 (by decide)
  have e91 : M 91 = M0 91 := el 91 (by decide)
  have v0 : vC M 0 = vC M0 0 := vC_eq (fun a _ g => el a (by omega))
  have hv : eqA (vC M0 0) (30, (aR M0).2.1, (aR M0).2.2.1, 1, (fun _ => 1), (fun _ => 30)) := by
    refine ⟨rfl, rfl, fun c k hc hk => ?_, rfl, fun k hk => ?_⟩
    · have hk' : (k : Int) < 0 := hk
      omega
    · have hk' : (k : Int) < 1 := hk
      have : k = 0 := by omega
      subst this
      exact ⟨rfl, rfl⟩
  have hw : WF (30, (aR M0).2.1, (aR M0).2.2.1, 1, (fun _ => 1), (fun _ => 30)) := by
    refine ⟨by decide, ⟨by decide, by decide, fun r hr => absurd hr (Nat.not_lt_zero r)⟩, fadd (fun _ => 0) 30 1, fun j => ?_, ⟨fun j _ => ?_, ?_⟩, ?_, one_F (by decide)⟩
    · rw [fadd_z]; split <;> omega
    · rw [fadd_z]; split <;> omega
    · have := (one_F (x := 30) (by decide)).1
      omega
    · exact gfo_1 (j := 30) (by decide) (by rw [fadd_z, if_pos (by decide)])
  have h91 : M 91 2 = 0 := by rw [e91]; rfl
  have h911 : M 91 1 = 0 := by rw [e91]; rfl
  have h105 : M 105 2 = 0 := by rw [e105 2 (by decide)]; rfl
  have h6 : M 105 6 = 0 := by rw [e105 6 (by decide)]; rfl
  have h95 : M 95 2 = 0 := by rw [e95]; rfl
  refine ⟨⟨?_, ?_, ⟨by omega, by omega⟩, ⟨by omega, by omega⟩, by omega, fun i hi => by omega⟩, fun w hw2 => ?_, by omega, ⟨by omega, fun j hj => by omega⟩, fun j hj => by omega, 0, by rw [e95]; rfl⟩
  · rw [v0]
    exact eqA_tr hv h
  · rw [v0]
    exact WF_eq (eqA_sy hv) hw
  · have z94 : M 94 w = 0 := by rw [e94]; rfl
    have z109 : M 109 w = 0 := by rw [e 109 (by decide)]; rfl
    exact ⟨by omega, by omega, fun q => absurd z94 q⟩
