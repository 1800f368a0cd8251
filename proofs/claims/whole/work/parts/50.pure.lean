/-! ===== both sides agree ===== -/
def STH (M : Mem) : Prop := eqA (vC M 0) (aR M) ∧ WF (vC M 0) ∧ HI M ∧ HRi M ∧ M 91 2 = M 105 2 ∧ ∀ i : Nat, (i : Int) < M 91 2 → eqA (hvC M i) (hvR M i) ∧ WF (hvC M i)
def SLT (M : Mem) : Prop := ∀ w : Nat, w < 2 → (0 ≤ M 94 w ∧ M 94 w ≤ 1) ∧ M 109 w = M 94 w ∧ (M 94 w ≠ 0 → eqA (vC M (w + 1)) (vR (M 108) (35 * w)) ∧ WF (vC M (w + 1)))
def TXT (M : Mem) : Prop := M 95 2 = M 105 6 ∧ PW M ∧ (∀ j : Nat, (j : Int) < M 95 2 → M 96 j = M 110 j) ∧ ∃ t : Nat, M 95 5 = (t : Int)
def REL (M : Mem) : Prop := STH M ∧ SLT M ∧ TXT M
theorem hvC_eq {M N : Mem} (h : ∀ a, a < 90 → N a = M a) (h91 : N 91 = M 91) : hvC N = hvC M := funext fun i => by
  have e : hC N i = hC M i := by unfold hC; rw [h91]
  have hlt : hC M i < 10 := by unfold hC; omega
  unfold hvC
  rw [e]
  exact vC_eq (fun a q1 q2 => h a (by omega))
theorem STH_eq {M N : Mem} (h : STH M) (h1 : ∀ a, a < 90 → N a = M a) (h91 : N 91 = M 91) (h106 : N 106 = M 106) (h107 : N 107 = M 107) (h2 : N 105 2 = M 105 2) : STH N := by
  have e1 : vC N 0 = vC M 0 := vC_eq (fun a _ q => h1 a (by omega))
  have e2 := aR_eq h106
  have e3 := hvC_eq h1 h91
  have e4 := hvR_eq h107 h2
  unfold STH HI HRi
  rw [e1, e2, e3, e4, h91, h2]
  exact h
theorem SLT_eq {M N : Mem} (h : SLT M) (h1 : ∀ a, 9 ≤ a → a < 27 → N a = M a) (h94 : N 94 = M 94) (h108 : N 108 = M 108) (h109 : N 109 = M 109) : SLT N := fun w hw => by
  have e : vC N (w + 1) = vC M (w + 1) := vC_eq (fun a q1 q2 => h1 a (by omega) (by omega))
  rw [e, h94, h108, h109]
  exact h w hw
theorem TXT_eq {M N : Mem} (h : TXT M) (h2 : N 95 2 = M 95 2) (h5 : ∃ t : Nat, N 95 5 = (t : Int)) (h96 : N 96 = M 96) (h110 : N 110 = M 110) (h6 : N 105 6 = M 105 6) : TXT N := by
  obtain ⟨a1, a2, a3, a4⟩ := h
  refine ⟨by rw [h2, h6]; exact a1, ?_, fun j hj => ?_, h5⟩
  · unfold PW
    rw [h2, h96]
    exact a2
  · rw [h96, h110]
    exact a3 j (by rw [← h2]; exact hj)
theorem REL_eq {M N : Mem} (h : REL M) (h1 : ∀ a, (a < 90 ∨ a = 91 ∨ a = 94 ∨ a = 96 ∨ (106 ≤ a ∧ a ≤ 110)) → N a = M a) (h2 : N 105 2 = M 105 2) (h6 : N 105 6 = M 105 6) (h95 : N 95 2 = M 95 2) (h5 : ∃ t : Nat, N 95 5 = (t : Int)) : REL N :=
  ⟨STH_eq h.1 (fun a q => h1 a (Or.inl q)) (h1 91 (by omega)) (h1 106 (by omega)) (h1 107 (by omega)) h2, SLT_eq h.2.1 (fun a q1 q2 => h1 a (by omega)) (h1 94 (by omega)) (h1 108 (by omega)) (h1 109 (by omega)), TXT_eq h.2.2 h95 h5 (h1 96 (by omega)) (h1 110 (by omega)) h6⟩
theorem STH_RW {M : Mem} (h : STH M) : RW M := by
  obtain ⟨h1, h2, h3, h4, h5, h6⟩ := h
  refine ⟨WF_eq h1 h2, h4, fun i hi => ?_⟩
  have q := h6 i (by rw [h5]; exact hi)
  exact WF_eq q.1 q.2
/-- behind the class's call the reference stands as it stood -/
theorem RW_of {M N : Mem} (h : REL M) (e : ∀ a, 105 ≤ a → N a = M a) : RW N := by
  have q := STH_RW h.1
  have e2 := aR_eq (e 106 (by decide))
  have e4 := hvR_eq (e 107 (by decide)) (show N 105 2 = M 105 2 by rw [e 105 (by decide)])
  unfold RW HRi
  rw [e2, e4, e 105 (by decide)]
  exact q
theorem RS0_of {M N : Mem} (h : TXT M) (e110 : N 110 = M 110) (e6 : N 105 6 = M 105 6) : RS0 N (cC M) (M 95 2).toNat := by
  obtain ⟨a1, a2, a3, a4⟩ := h
  have a0 := a2.1
  have hc : ∀ j : Nat, (j : Int) < M 95 2 → 33 ≤ M 110 j ∧ M 110 j ≤ 126 := fun j hj => by
    rw [← a3 j hj]
    exact a2.2 j hj
  refine ⟨funext fun i => ?_, ⟨by rw [e6]; omega, fun j hj => ?_⟩, by rw [e6]; omega⟩
  · unfold rC cC
    rw [e110, e6, ← a1]
    by_cases q : (i : Int) < M 95 2
    · rw [if_pos q, if_pos q, a3 i q]
    · rw [if_neg q, if_neg q]
  · rw [e110]
    exact hc j (by rw [e6] at hj; omega)
theorem PW_le {M N : Mem} (h : PW M) (h96 : N 96 = M 96) (h2 : 0 ≤ N 95 2 ∧ N 95 2 ≤ M 95 2) : PW N := by
  have := h.1
  exact ⟨by omega, fun j hj => by rw [h96]; exact h.2 j (by omega)⟩
/-- a change on both sides -/
theorem REL_chg {M M1 M2 : Mem} {opc opr : AS → Int → AS → Prop} {ln z z' : Int} (h : REL M) (det : ∀ (a' b' : AS) (r r' : Int), opc (vC M 0) r a' → opr (aR M) r' b' → r = r' ∧ eqA a' b' ∧ WF a') (h1 : cChg opc ln M z M1) (h5 : ∃ t : Nat, M1 95 5 = (t : Int)) (h2 : rChg opr ln M1 z' M2) (hln : 0 ≤ ln ∧ ln ≤ M 95 2) : z = z' ∧ REL M2 := by
  obtain ⟨⟨a1, a2, a3, a4, a5, a6⟩, b, c1, c2, c3, c4⟩ := h
  obtain ⟨p1, p2, p3, p4, p5, p6⟩ := h1
  obtain ⟨q1, q2, q3, q4, q5, q6⟩ := h2
  have eA : aR M1 = aR M := aR_eq (p5 106 (by omega))
  have eH : hvR M1 = hvR M := hvR_eq (p5 107 (by omega)) (by rw [p5 105 (by omega)])
  have ek : M1 105 2 = M 105 2 := by rw [p5 105 (by omega)]
  rw [eA] at q1 q3
  rw [eH, ek] at q2 q3
  obtain ⟨d1, d2, d3⟩ := det _ _ _ _ p1 q1
  have v0 : vC M2 0 = vC M1 0 := vC_eq (fun a _ w => q5 a (by omega))
  have vh : hvC M2 = hvC M1 := hvC_eq (fun a w => q5 a (by omega)) (q5 91 (by omega))
  have e91 : M2 91 = M1 91 := q5 91 (by omega)
  have e95 : M2 95 = M1 95 := q5 95 (by omega)
  have e96 : M2 96 = M 96 := (q5 96 (by omega)).trans (p5 96 (by omega))
  have e110 : M2 110 = M 110 := (q5 110 (by omega)).trans (p5 110 (by omega))
  refine ⟨d1, ⟨by rw [v0]; exact d2, by rw [v0]; exact d3, by unfold HI; rw [e91]; exact p4, q4, ?_, ?_⟩, ?_, ?_⟩
  · rw [e91]
    rcases Int.lt_or_le z 0 with w | w
    · rw [(p2 w).1, (q2 (by omega)).1]
      exact a5
    · rw [(p3 w).1, (q3 (by omega)).1, a5]
  · rw [vh, e91]
    intro i hi
    rcases Int.lt_or_le z 0 with w | w
    · obtain ⟨s1, s2⟩ := p2 w
      obtain ⟨t1, t2⟩ := q2 (by omega)
      rw [s1] at hi
      obtain ⟨g1, g2⟩ := a6 i hi
      exact ⟨eqA_tr (eqA_sy (s2 i hi)) (eqA_tr g1 (t2 i (by omega))), WF_eq (s2 i hi) g2⟩
    · obtain ⟨s1, s2, s3⟩ := p3 w
      obtain ⟨t1, t2, t3⟩ := q3 (by omega)
      cases i with
      | zero => exact ⟨eqA_tr (eqA_sy s2) (eqA_tr a1 t2), WF_eq s2 a2⟩
      | succ i =>
        have hk : (i : Int) < M 91 2 := by
          rw [s1] at hi
          split at hi <;> omega
        obtain ⟨g1, g2⟩ := a6 i hk
        have u1 := s3 i (by omega)
        have u2 := t3 i (by rw [t1, ← a5, ← s1]; omega)
        exact ⟨eqA_tr (eqA_sy u1) (eqA_tr g1 u2), WF_eq u1 g2⟩
  · exact SLT_eq b (fun a w1 w2 => (q5 a (by omega)).trans (p5 a (by omega))) ((q5 94 (by omega)).trans (p5 94 (by omega))) ((q5 108 (by omega)).trans (p5 108 (by omega))) ((q5 109 (by omega)).trans (p5 109 (by omega)))
  · refine ⟨by rw [e95, p6, q6], PW_le c2 e96 (by rw [e95, p6]; exact hln), fun j hj => ?_, by rw [e95]; exact h5⟩
    rw [e95, p6] at hj
    rw [e96, e110]
    exact c3 j (by omega)
/-- the latest record is taken back on both sides -/
theorem REL_pop {M M1 M2 : Mem} (h : REL M) (hk : 0 < M 91 2) (h1 : POP (M 91 2) (hvC M) (vC M1 0) (M1 91 2) (hvC M1) ∧ HI M1 ∧ KP (M 95 2) M M1) (h5 : ∃ t : Nat, M1 95 5 = (t : Int)) (h2 : POP (M1 105 2) (hvR M1) (aR M2) (M2 105 2) (hvR M2) ∧ HRi M2 ∧ KR (M1 105 6) M1 M2) : M1 91 2 = M2 105 2 ∧ REL M2 := by
  obtain ⟨⟨a1, a2, a3, a4, a5, a6⟩, b, c1, c2, c3, c4⟩ := h
  obtain ⟨⟨p1, p2, p3⟩, p4, p5, p6⟩ := h1
  obtain ⟨⟨q1, q2, q3⟩, q4, q5, q6⟩ := h2
  have eH : hvR M1 = hvR M := hvR_eq (p5 107 (by omega)) (by rw [p5 105 (by omega)])
  have ek : M1 105 2 = M 105 2 := by rw [p5 105 (by omega)]
  have e6 : M1 105 6 = M 105 6 := by rw [p5 105 (by omega)]
  rw [eH] at q2 q3
  rw [ek] at q1
  have v0 : vC M2 0 = vC M1 0 := vC_eq (fun a _ w => q5 a (by omega))
  have vh : hvC M2 = hvC M1 := hvC_eq (fun a w => q5 a (by omega)) (q5 91 (by omega))
  have e91 : M2 91 = M1 91 := q5 91 (by omega)
  have e95 : M2 95 = M1 95 := q5 95 (by omega)
  have e96 : M2 96 = M 96 := (q5 96 (by omega)).trans (p5 96 (by omega))
  have e110 : M2 110 = M 110 := (q5 110 (by omega)).trans (p5 110 (by omega))
  have hz : M1 91 2 = M2 105 2 := by rw [p1, q1, a5]
  obtain ⟨g1, g2⟩ := a6 0 hk
  refine ⟨hz, ⟨by rw [v0]; exact eqA_tr (eqA_sy p2) (eqA_tr g1 q2), by rw [v0]; exact WF_eq p2 g2, by unfold HI; rw [e91]; exact p4, q4, by rw [e91]; exact hz, ?_⟩, ?_, ?_⟩
  · rw [vh, e91]
    intro i hi
    have hi' : ((i + 1 : Nat) : Int) < M 91 2 := by omega
    obtain ⟨u1, u2⟩ := a6 (i + 1) hi'
    have s1 := p3 i hi
    have s2 := q3 i (by rw [← hz]; exact hi)
    exact ⟨eqA_tr (eqA_sy s1) (eqA_tr u1 s2), WF_eq s1 u2⟩
  · exact SLT_eq b (fun a w1 w2 => (q5 a (by omega)).trans (p5 a (by omega))) ((q5 94 (by omega)).trans (p5 94 (by omega))) ((q5 108 (by omega)).trans (p5 108 (by omega))) ((q5 109 (by omega)).trans (p5 109 (by omega)))
  · refine ⟨by rw [e95, p6, q6, e6]; exact c1, PW_le c2 e96 (by rw [e95, p6]; have := c2.1; omega), fun j hj => ?_, by rw [e95]; exact h5⟩
    rw [e95, p6] at hj
    rw [e96, e110]
    exact c3 j hj
