/-! ===== each call: the same answer, and both sides agree again ===== -/
theorem R_chg {M M1 M2 : Mem} {opc opr : AS → Int → AS → Prop} {z z' : Int} (h : REL M) (det : ∀ (a' b' : AS) (r r' : Int), opc (vC M 0) r a' → opr (aR M) r' b' → r = r' ∧ eqA a' b' ∧ WF a') (h1 : cChg opc (M 95 2) M z M1 ∧ M1 95 = M 95) (h2 : rChg opr (M1 105 6) M1 z' M2) : z = z' ∧ REL M2 := by
  have c := h.2.2
  have e6 : M1 105 6 = M 95 2 := by rw [h1.1.2.2.2.2.1 105 (by omega)]; exact c.1.symm
  rw [e6] at h2
  exact REL_chg h det h1.1 (by rw [h1.2]; exact c.2.2.2) h2 ⟨c.2.1.1.1, Int.le_refl _⟩
theorem R_q {M M1 M2 : Mem} (h : REL M) (e1 : eqx M M1 [100, 101, 102, 103, 104]) (k : KQ M1 M2) : REL M2 := by
  have e : ∀ a, (a < 100 ∨ (106 ≤ a ∧ a ≤ 110)) → M2 a = M a := fun a ha => by
    rw [k.1 a (by simp; omega), e1 a (by simp; omega)]
  have e105 : M1 105 = M 105 := e1 105 (by decide)
  refine REL_eq h (fun a ha => e a (by omega)) (by rw [k.2.1, e105]) (by rw [k.2.2, e105]) (by rw [e 95 (by omega)]) ?_
  rw [e 95 (by omega)]
  exact h.2.2.2.2.2
theorem q_RW {M M1 : Mem} (h : REL M) (e1 : eqx M M1 [100, 101, 102, 103, 104]) : RW M1 ∧ aR M1 = aR M ∧ M1 105 = M 105 := ⟨RW_of h (fun a ha => e1 a (by simp; omega)), aR_eq (e1 106 (by decide)), e1 105 (by decide)⟩
theorem c_RW {M M1 : Mem} {op : AS → Int → AS → Prop} {ln z : Int} (h : REL M) (h1 : cChg op ln M z M1) : RW M1 := RW_of h (fun a ha => h1.2.2.2.2.1 a (by omega))
theorem R_wipe {M : Mem} (h : REL M) : M 95 2 = (up2 M 95 2 0) 105 6 ∧ REL (up2 (up2 M 95 2 0) 105 6 0) := by
  obtain ⟨s, b, c1, c2, c3, c4⟩ := h
  refine ⟨by rw [up2_n _ _ _ (by decide)]; exact c1, STH_eq s (fun a ha => ?_) ?_ ?_ ?_ ?_, SLT_eq b (fun a q1 q2 => ?_) ?_ ?_ ?_, ?_, ⟨?_, fun j hj => ?_⟩, fun j hj => ?_, ?_⟩
  · rw [up2_n _ _ _ (by omega), up2_n _ _ _ (by omega)]
  · rw [up2_n _ _ _ (by decide), up2_n _ _ _ (by decide)]
  · rw [up2_n _ _ _ (by decide), up2_n _ _ _ (by decide)]
  · rw [up2_n _ _ _ (by decide), up2_n _ _ _ (by decide)]
  · rw [up2_m _ _ _ (by decide), up2_n _ _ _ (by decide)]
  · rw [up2_n _ _ _ (by omega), up2_n _ _ _ (by omega)]
  · rw [up2_n _ _ _ (by decide), up2_n _ _ _ (by decide)]
  · rw [up2_n _ _ _ (by decide), up2_n _ _ _ (by decide)]
  · rw [up2_n _ _ _ (by decide), up2_n _ _ _ (by decide)]
  · rw [up2_s, up2_n _ _ _ (by decide), up2_s]
  · rw [up2_n _ _ _ (by decide), up2_s]
    decide
  · rw [up2_n _ _ _ (by decide), up2_s] at hj
    omega
  · rw [up2_n _ _ _ (by decide), up2_s] at hj
    omega
  · rw [up2_n _ _ _ (by decide), up2_m _ _ _ (by decide)]
    exact c4
theorem R_put {M M1 M2 : Mem} {u : Nat} {z z' : Int} (h : REL M) (h1 : putOf u (M 95 2) (M 96) z (M1 95 2) (M1 96) ∧ eqx M M1 [95, 96] ∧ ∀ k : Nat, k ≠ 2 → M1 95 k = M 95 k) (h2 : putOf u (M1 105 6) (M1 110) z' (M2 105 6) (M2 110) ∧ eqx M1 M2 [105, 110] ∧ ∀ k : Nat, k ≠ 6 → M2 105 k = M1 105 k) : z = z' ∧ REL M2 := by
  obtain ⟨s, b, c1, c2, c3, c4⟩ := h
  obtain ⟨p1, p2, p3⟩ := h1
  obtain ⟨q1, q2, q3⟩ := h2
  have e105 : M1 105 = M 105 := p2 105 (by decide)
  have e110 : M1 110 = M 110 := p2 110 (by decide)
  rw [e105, e110, ← c1] at q1
  obtain ⟨d1, d2, d3, d4, d5⟩ := det_put c2.1 c2.2 c3 p1 q1
  have e95 : M2 95 = M1 95 := q2 95 (by decide)
  have e96 : M2 96 = M1 96 := q2 96 (by decide)
  have e : ∀ a, a ≠ 95 → a ≠ 96 → a ≠ 105 → a ≠ 110 → M2 a = M a := fun a g1 g2 g3 g4 => by
    rw [q2 a (by simp; omega), p2 a (by simp; omega)]
  refine ⟨d1, STH_eq s (fun a ha => e a (by omega) (by omega) (by omega) (by omega)) (e 91 (by decide) (by decide) (by decide) (by decide)) (e 106 (by decide) (by decide) (by decide) (by decide)) (e 107 (by decide) (by decide) (by decide) (by decide)) (by rw [q3 2 (by decide), e105]), SLT_eq b (fun a g1 g2 => e a (by omega) (by omega) (by omega) (by omega)) (e 94 (by decide) (by decide) (by decide) (by decide)) (e 108 (by decide) (by decide) (by decide) (by decide)) (e 109 (by decide) (by decide) (by decide) (by decide)), ?_, ⟨?_, fun j hj => ?_⟩, fun j hj => ?_, ?_⟩
  · rw [e95]
    exact d2
  · rw [e95]
    exact d3
  · rw [e95] at hj
    rw [e96]
    exact d4 j hj
  · rw [e95] at hj
    rw [e96]
    exact d5 j hj
  · rw [e95, p3 5 (by decide)]
    exact c4
theorem put_len {M M1 : Mem} (h : REL M) (e : eqx M M1 [95, 96]) : 0 ≤ M1 105 6 ∧ M1 105 6 ≤ 80 := by
  have c := h.2.2
  rw [e 105 (by decide), ← c.1]
  exact c.2.1.1
theorem R_fault {M M1 M2 : Mem} (h : REL M) (h1 : PE M M1) (h5 : ∃ t : Nat, M1 95 5 = (t : Int)) (k : KQ M1 M2) : REL M2 := by
  have e : ∀ a, (a < 95 ∨ a = 96 ∨ (106 ≤ a ∧ a ≤ 110)) → M2 a = M a := fun a ha => by
    rw [k.1 a (by simp; omega), h1.1 a (by simp; omega)]
  have e105 : M1 105 = M 105 := h1.1 105 (by decide)
  have e95 : M2 95 = M1 95 := k.1 95 (by decide)
  exact REL_eq h (fun a ha => e a (by omega)) (by rw [k.2.1, e105]) (by rw [k.2.2, e105]) (by rw [e95]; exact h1.2) (by rw [e95]; exact h5)
theorem R_carry {M M1 M2 : Mem} {z z' : Int} (h : REL M) (h1 : (FT (cC M) (M 95 2).toNat 80 0 ≠ -6 → z = -3 ∧ PE M M1 ∧ ∃ t : Nat, M1 95 5 = (t : Int)) ∧ (FT (cC M) (M 95 2).toNat 80 0 = -6 → cChg (fun a z a1 => OT (cC M) (M 95 2).toNat 80 0 a 0 z a1) 0 M z M1 ∧ ∃ t : Nat, M1 95 5 = (t : Int))) (h2 : (FT (cC M) (M 95 2).toNat 80 0 ≠ -6 → z' = -3 ∧ KQ M1 M2) ∧ (FT (cC M) (M 95 2).toNat 80 0 = -6 → rChg (fun a z a1 => OT (cC M) (M 95 2).toNat 80 0 a 0 z a1) 0 M1 z' M2)) : z = z' ∧ REL M2 := by
  by_cases q : FT (cC M) (M 95 2).toNat 80 0 = -6
  · obtain ⟨p1, p2⟩ := h1.2 q
    have hl := h.2.2.2.1.1
    refine REL_chg h (fun a' b' r r' g1 g2 => ?_) p1 p2 (h2.2 q) ⟨Int.le_refl _, hl.1⟩
    exact det_OT (cC_n h.2.2.2.1) q (Nat.zero_le _) h.1.1 h.1.2.1 g1 g2
  · obtain ⟨p1, p2, p3⟩ := h1.1 q
    obtain ⟨q1, q2⟩ := h2.1 q
    exact ⟨by omega, R_fault h p2 p3 q2⟩
theorem carry_pre {M M1 : Mem} {z : Int} (h : REL M) (h1 : (FT (cC M) (M 95 2).toNat 80 0 ≠ -6 → z = -3 ∧ PE M M1 ∧ ∃ t : Nat, M1 95 5 = (t : Int)) ∧ (FT (cC M) (M 95 2).toNat 80 0 = -6 → cChg (fun a z a1 => OT (cC M) (M 95 2).toNat 80 0 a 0 z a1) 0 M z M1 ∧ ∃ t : Nat, M1 95 5 = (t : Int))) : RS0 M1 (cC M) (M 95 2).toNat ∧ RW M1 := by
  have e : ∀ a, 105 ≤ a → M1 a = M a := fun a ha => by
    by_cases q : FT (cC M) (M 95 2).toNat 80 0 = -6
    · exact (h1.2 q).1.2.2.2.2.1 a (by omega)
    · exact (h1.1 q).2.1.1 a (by simp; omega)
  exact ⟨RS0_of h.2.2 (e 110 (by decide)) (by rw [e 105 (by decide)]), RW_of h e⟩
theorem R_undo {M M1 M2 : Mem} {z z' : Int} (h : REL M) (h5 : ∃ t : Nat, M1 95 5 = (t : Int)) (h1 : (M 91 2 = 0 → z = -5 ∧ M1 = M) ∧ (0 < M 91 2 → z = M1 91 2 ∧ POP (M 91 2) (hvC M) (vC M1 0) (M1 91 2) (hvC M1) ∧ HI M1 ∧ KP (M 95 2) M M1)) (h2 : (M1 105 2 = 0 → z' = -5 ∧ M2 = M1) ∧ (0 < M1 105 2 → z' = M2 105 2 ∧ POP (M1 105 2) (hvR M1) (aR M2) (M2 105 2) (hvR M2) ∧ HRi M2 ∧ KR (M1 105 6) M1 M2)) : z = z' ∧ REL M2 := by
  have hk := h.1.2.2.2.2.1
  have hb := h.1.2.2.1.2
  rcases (show M 91 2 = 0 ∨ 0 < M 91 2 by omega) with q | q
  · obtain ⟨p1, p2⟩ := h1.1 q
    subst p2
    obtain ⟨q1, q2⟩ := h2.1 (by rw [← hk]; exact q)
    subst q2
    exact ⟨by omega, h⟩
  · obtain ⟨p1, p2⟩ := h1.2 q
    have e : M1 105 2 = M 105 2 := by rw [p2.2.2.1 105 (by omega)]
    obtain ⟨q1, q2⟩ := h2.2 (by rw [e, ← hk]; exact q)
    obtain ⟨g1, g2⟩ := REL_pop h q p2 h5 q2
    exact ⟨by omega, g2⟩
