/-! ===== slots ===== -/
theorem R_save {M M1 M2 : Mem} {x z z' : Int} (h : REL M) (h1 : (¬ (0 ≤ x ∧ x < 2) → z = -2 ∧ M1 = M) ∧ (0 ≤ x ∧ x < 2 → z = M 0 2 ∧ ∃ Ma : Mem, cpG M Ma (x.toNat + 1) 0 ∧ M1 = up2 Ma 94 x.toNat 1)) (h2 : (¬ (0 ≤ x ∧ x < 2) → z' = -2 ∧ M2 = M1) ∧ (0 ≤ x ∧ x < 2 → z' = M1 106 0 ∧ eqx M1 M2 [108, 109] ∧ M2 109 = uz (M1 109) x.toNat 1 ∧ ∀ j : Nat, M2 108 j = if 35 * x ≤ (j : Int) ∧ (j : Int) < 35 * x + 35 then M1 106 ((j : Int) - 35 * x).toNat else M1 108 j)) : z = z' ∧ REL M2 := by
  by_cases q : 0 ≤ x ∧ x < 2
  · obtain ⟨p1, Ma, p2, p3⟩ := h1.2 q
    obtain ⟨q1, q2, q3, q4⟩ := h2.2 q
    have hr := h
    obtain ⟨s, b, c1, c2, c3, c4⟩ := hr
    have ea : ∀ a, (a < 9 * (x.toNat + 1) ∨ 9 * (x.toNat + 1) + 9 ≤ a) → a ≠ 94 → M1 a = M a := fun a g1 g2 => by
      rw [p3, up2_n _ _ _ g2]
      exact p2.1 a g1
    have e94 : M1 94 = uz (M 94) x.toNat 1 := by
      rw [p3]
      show uz (Ma 94) x.toNat 1 = _
      rw [p2.1 94 (by omega)]
    have eb : ∀ a, a ≠ 108 → a ≠ 109 → M2 a = M1 a := fun a g1 g2 => q2 a (by simp; omega)
    have hw := s.2.1
    have w5 : (vC M 0).2.1 ≤ 5 := by have := hw.2.1.1; have := hw.2.1.2.1; omega
    have w6 : (vC M 0).2.2.2.1 ≤ 6 := (WFs_pos hw.2.2).2
    have ev : eqA (vC M 0) (vC Ma (x.toNat + 1)) := vC_cp p2 w5 w6
    have ev1 : vC M1 (x.toNat + 1) = vC Ma (x.toNat + 1) := vC_eq (fun a g1 g2 => by rw [p3, up2_n _ _ _ (by omega)])
    have ev2 : vC M2 (x.toNat + 1) = vC M1 (x.toNat + 1) := vC_eq (fun a g1 g2 => eb a (by omega) (by omega))
    have e106 : M1 106 = M 106 := ea 106 (by omega) (by decide)
    have hp := s.1.1
    refine ⟨?_, ?_, ?_, ?_⟩
    · rw [p1, q1, e106]
      exact hp
    · -- the state and the history
      have hlow : ∀ a, (a < 9 ∨ (27 ≤ a ∧ a ≠ 94 ∧ a ≠ 108 ∧ a ≠ 109)) → M2 a = M a := fun a g => by
        rw [eb a (by omega) (by omega)]
        exact ea a (by omega) (by omega)
      have v0 : vC M2 0 = vC M 0 := vC_eq (fun a _ g => hlow a (by omega))
      have vh : hvC M2 = hvC M := funext fun i => by
        have e : hC M2 i = hC M i := by unfold hC; rw [hlow 91 (by omega)]
        have hg : 3 ≤ hC M i ∧ hC M i < 10 := by unfold hC; omega
        unfold hvC
        rw [e]
        exact vC_eq (fun a g1 g2 => hlow a (by omega))
      have er : hvR M2 = hvR M := hvR_eq (hlow 107 (by omega)) (by rw [hlow 105 (by omega)])
      unfold STH HI HRi
      rw [v0, vh, er, aR_eq (hlow 106 (by omega)), hlow 91 (by omega), hlow 105 (by omega)]
      exact s
    · intro w hw2
      have e94' : M2 94 = uz (M 94) x.toNat 1 := by rw [eb 94 (by decide) (by decide)]; exact e94
      have e109' : M2 109 = uz (M 109) x.toNat 1 := by rw [q3, ea 109 (by omega) (by decide)]
      rw [e94', e109']
      obtain ⟨b1, b2, b3⟩ := b w hw2
      by_cases g : w = x.toNat
      · subst g
        rw [uz_s, uz_s]
        refine ⟨by decide, rfl, fun _ => ?_⟩
        rw [ev2, ev1]
        refine ⟨eqA_tr (eqA_sy ev) (eqA_tr s.1 (eqA_tr (aR_v M) ?_)), WF_eq ev hw⟩
        refine vR_sh (fun t ht => ?_) (WF_eq (aR_v M) (WF_eq s.1 hw))
        rw [q4 (35 * x.toNat + t), if_pos (by omega), e106]
        exact congrArg (M 106) (by omega)
      · rw [uz_n _ _ g, uz_n _ _ g]
        refine ⟨b1, b2, fun g2 => ?_⟩
        obtain ⟨k1, k2⟩ := b3 g2
        have ew : vC M2 (w + 1) = vC M (w + 1) := vC_eq (fun a g3 g4 => by rw [eb a (by omega) (by omega)]; exact ea a (by omega) (by omega))
        rw [ew]
        refine ⟨eqA_tr k1 (vR_sh (fun t ht => ?_) (WF_eq k1 k2)), k2⟩
        rw [q4 (35 * w + t), if_neg (by omega), ea 108 (by omega) (by decide)]
    · have e95 : M2 95 = M 95 := by rw [eb 95 (by decide) (by decide)]; exact ea 95 (by omega) (by decide)
      have e105 : M2 105 = M 105 := by rw [eb 105 (by decide) (by decide)]; exact ea 105 (by omega) (by decide)
      refine TXT_eq ⟨c1, c2, c3, c4⟩ (by rw [e95]) (by rw [e95]; exact c4) ?_ ?_ (by rw [e105])
      · rw [eb 96 (by decide) (by decide)]
        exact ea 96 (by omega) (by decide)
      · rw [eb 110 (by decide) (by decide)]
        exact ea 110 (by omega) (by decide)
  · obtain ⟨p1, p2⟩ := h1.1 q
    obtain ⟨q1, q2⟩ := h2.1 q
    subst p2
    subst q2
    exact ⟨by omega, h⟩
theorem rest_c {M : Mem} {x : Int} (h : REL M) : (0 ≤ x → x < 2 → M 94 x.toNat ≠ 0 → WF (vC M (x.toNat + 1))) ∧ ∀ k, k < 2 → 0 ≤ M 94 k ∧ M 94 k ≤ 1 := ⟨fun g1 g2 g3 => ((h.2.1 x.toNat (by omega)).2.2 g3).2, fun k hk => (h.2.1 k hk).1⟩
theorem rest_r {M M1 : Mem} {x : Int} (h : REL M) (e : ∀ a, 105 ≤ a → M1 a = M a) : (0 ≤ x → x < 2 → M1 109 x.toNat ≠ 0 → WF (vR (M1 108) (35 * x.toNat))) ∧ ∀ k, k < 2 → 0 ≤ M1 109 k ∧ M1 109 k ≤ 1 := by
  refine ⟨fun g1 g2 g3 => ?_, fun k hk => ?_⟩
  · obtain ⟨b1, b2, b3⟩ := h.2.1 x.toNat (by omega)
    rw [e 109 (by decide), b2] at g3
    rw [e 108 (by decide)]
    obtain ⟨k1, k2⟩ := b3 g3
    exact WF_eq k1 k2
  · obtain ⟨b1, b2, b3⟩ := h.2.1 k hk
    rw [e 109 (by decide), b2]
    exact b1
theorem rest_e {M M1 : Mem} {x z : Int} (h1 : (¬ (0 ≤ x ∧ x < 2) → z = -2 ∧ M1 = M) ∧ (0 ≤ x ∧ x < 2 → (M 94 x.toNat = 0 → z = -5 ∧ M1 = M) ∧ (M 94 x.toNat ≠ 0 → cChg (opC (vC M (x.toNat + 1))) (M 95 2) M z M1 ∧ M1 95 = M 95))) : ∀ a, 105 ≤ a → M1 a = M a := fun a ha => by
  by_cases q : 0 ≤ x ∧ x < 2
  · by_cases w : M 94 x.toNat = 0
    · rw [((h1.2 q).1 w).2]
    · exact ((h1.2 q).2 w).1.2.2.2.2.1 a (by omega)
  · rw [(h1.1 q).2]
theorem R_rest {M M1 M2 : Mem} {x z z' : Int} (h : REL M) (h1 : (¬ (0 ≤ x ∧ x < 2) → z = -2 ∧ M1 = M) ∧ (0 ≤ x ∧ x < 2 → (M 94 x.toNat = 0 → z = -5 ∧ M1 = M) ∧ (M 94 x.toNat ≠ 0 → cChg (opC (vC M (x.toNat + 1))) (M 95 2) M z M1 ∧ M1 95 = M 95))) (h2 : (¬ (0 ≤ x ∧ x < 2) → z' = -2 ∧ M2 = M1) ∧ (0 ≤ x ∧ x < 2 → (M1 109 x.toNat = 0 → z' = -5 ∧ M2 = M1) ∧ (M1 109 x.toNat ≠ 0 → rChg (opC (vR (M1 108) (35 * x.toNat))) (M1 105 6) M1 z' M2))) : z = z' ∧ REL M2 := by
  have e := rest_e h1
  by_cases q : 0 ≤ x ∧ x < 2
  · obtain ⟨b1, b2, b3⟩ := h.2.1 x.toNat (by omega)
    by_cases w : M 94 x.toNat = 0
    · obtain ⟨p1, p2⟩ := (h1.2 q).1 w
      subst p2
      obtain ⟨q1, q2⟩ := (h2.2 q).1 (by rw [b2]; exact w)
      subst q2
      exact ⟨by omega, h⟩
    · obtain ⟨k1, k2⟩ := b3 w
      have p := (h1.2 q).2 w
      have r := (h2.2 q).2 (by rw [e 109 (by decide), b2]; exact w)
      rw [e 108 (by decide)] at r
      exact R_chg h (fun a' b' r r' g1 g2 => det_C k1 k2 g1 g2) p r
  · obtain ⟨p1, p2⟩ := h1.1 q
    obtain ⟨q1, q2⟩ := h2.1 q
    subst p2
    subst q2
    exact ⟨by omega, h⟩
