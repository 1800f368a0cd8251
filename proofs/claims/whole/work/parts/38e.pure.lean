/-! ===== the class's reader ===== -/
def cC (M : Mem) : Nat → Int := fun i => if (i : Int) < M 95 2 then M 96 i else 0
def PW (M : Mem) : Prop := (0 ≤ M 95 2 ∧ M 95 2 ≤ 80) ∧ ∀ j : Nat, (j : Int) < M 95 2 → 33 ≤ M 96 j ∧ M 96 j ≤ 126
theorem cC_b {M : Mem} (h : PW M) (j : Nat) : 0 ≤ cC M j ∧ cC M j ≤ 126 := by
  unfold cC
  split
  · next q =>
    have := h.2 j q
    omega
  · omega
theorem cC_n {M : Mem} (h : PW M) : ∀ j, (M 95 2).toNat ≤ j → cC M j = 0 := fun j hj => by
  have := h.1
  unfold cC
  rw [if_neg (by omega)]
def PE (M N : Mem) : Prop := eqx M N [95, 97] ∧ N 95 2 = M 95 2
theorem PE_rf (M : Mem) : PE M M := ⟨eqx_rf _ _, rfl⟩
theorem PE_tr {M N K : Mem} (h : PE M N) (g : PE N K) : PE M K := ⟨eqx_tr h.1 g.1, by rw [g.2, h.2]⟩
theorem PE_up {M N : Mem} {k : Nat} {x : Int} (hk : k ≠ 2) (h : PE M N) : PE M (up2 N 95 k x) := ⟨eqx_up _ _ h.1 (by decide), by rw [up2_m _ _ _ (fun q => hk q.symm)]; exact h.2⟩
theorem PE_u7 {M N : Mem} {k : Nat} {x : Int} (h : PE M N) : PE M (up2 N 97 k x) := ⟨eqx_up _ _ h.1 (by decide), by rw [up2_n _ _ _ (by decide)]; exact h.2⟩
theorem PE_c {M N : Mem} (h : PE M N) : cC N = cC M := by
  unfold cC
  rw [h.2, h.1 96 (by decide)]
theorem PE_W {M N : Mem} (h : PE M N) (hw : PW M) : PW N := by
  unfold PW
  rw [h.2, h.1 96 (by decide)]
  exact hw
def PS (M M1 : Mem) (j t : Nat) (g : Nat → Int) : Prop := (PE M M1 ∧ M1 95 4 = M 95 4) ∧ M1 95 3 = (j : Int) ∧ M1 95 5 = (t : Int) ∧ M1 97 = g
theorem PS_rf {M : Mem} {i t : Nat} (h3 : M 95 3 = (i : Int)) (h5 : M 95 5 = (t : Int)) : PS M M i t (M 97) := ⟨⟨PE_rf M, rfl⟩, h3, h5, rfl⟩
theorem PS_tr {M M1 M2 : Mem} {j t j2 t2 : Nat} {g g2 : Nat → Int} (h : PS M M1 j t g) (h2 : PS M1 M2 j2 t2 g2) : PS M M2 j2 t2 g2 := ⟨⟨PE_tr h.1.1 h2.1.1, by rw [h2.1.2, h.1.2]⟩, h2.2⟩
theorem PS_c {M M1 : Mem} {j t : Nat} {g : Nat → Int} (h : PS M M1 j t g) : cC M1 = cC M := PE_c h.1.1
theorem PS_W {M M1 : Mem} {j t : Nat} {g : Nat → Int} (h : PS M M1 j t g) (hw : PW M) : PW M1 := PE_W h.1.1 hw
theorem PS_at {M : Mem} {j t : Nat} {x : Int} (h5 : M 95 5 = (t : Int)) (hx : x = (j : Int)) : PS M (up2 M 95 3 x) j t (M 97) := ⟨⟨PE_up (by decide) (PE_rf M), by rw [up2_m _ _ _ (by decide)]⟩, by rw [up2_s]; exact hx, by rw [up2_m _ _ _ (by decide)]; exact h5, by rw [up2_n _ _ _ (by decide)]⟩
theorem PS_3 {M M1 : Mem} {j t : Nat} {v : Int} (h : M1 = up2 (up2 (up2 M 95 3 (j : Int)) 97 t v) 95 5 ((t : Int) + 1)) : PS M M1 j (t + 1) (uz (M 97) t v) := by
  rw [h]
  refine ⟨⟨PE_up (by decide) (PE_u7 (PE_up (by decide) (PE_rf M))), ?_⟩, ?_, ?_, ?_⟩
  · rw [up2_m _ _ _ (by decide), up2_n _ _ _ (by decide), up2_m _ _ _ (by decide)]
  · rw [up2_m _ _ _ (by decide), up2_n _ _ _ (by decide), up2_s]
  · rw [up2_s]
    rfl
  · rfl
/-- the numbers that were read -/
def TN (M1 : Mem) (r : TR) : Prop := ∃ t : Nat, M1 95 5 = (t : Int) ∧ t ≤ 12 ∧ (∀ k : Nat, k < 12 → (if k < t then M1 97 k else 0) = r.2.2.2.1 k) ∧ (r.2.2.1 = 115 → t = 2 * r.2.2.2.2)
def TQ (M M1 : Mem) (r : TR) (z : Int) : Prop := z = (if r.1 = true then 1 else 0) ∧ (PE M M1 ∧ M1 95 4 = M 95 4) ∧ M1 95 3 = (r.2.1 : Int) ∧ (∃ t : Nat, M1 95 5 = (t : Int)) ∧ (r.1 = true → TN M1 r)
theorem TQ_bad {M M1 : Mem} {j t : Nat} {g : Nat → Int} (h : PS M M1 j t g) : TQ M M1 (bad j) 0 := ⟨rfl, h.1, h.2.1, ⟨t, h.2.2.1⟩, fun q => by cases q⟩
theorem TQ_ok {M M1 : Mem} {j t c : Nat} {g f : Nat → Int} {l : Int} (h : PS M M1 j t g) (ht : t ≤ 12) (hf : ∀ k : Nat, k < 12 → (if k < t then g k else 0) = f k) (hl : l = 115 → t = 2 * c) : TQ M M1 (true, j, l, f, c) 1 := ⟨rfl, h.1, h.2.1, ⟨t, h.2.2.1⟩, fun _ => ⟨t, h.2.2.1, ht, fun k hk => by rw [h.2.2.2]; exact hf k hk, hl⟩⟩
/-- behind the reading of an order -/
def RQ (M M1 : Mem) (r : TR) (z : Int) : Prop := z = (if r.1 = true then 1 else 0) ∧ PE M M1 ∧ M1 95 3 = (r.2.1 : Int) ∧ (∃ t : Nat, M1 95 5 = (t : Int)) ∧ (r.1 = true → M1 95 4 = r.2.2.1 ∧ TN M1 r)
theorem RQ_of {M N M1 : Mem} {r : TR} {z : Int} (h : PE M N) (h4 : r.1 = true → N 95 4 = r.2.2.1) (g : TQ N M1 r z) : RQ M M1 r z := ⟨g.1, PE_tr h g.2.1.1, g.2.2.1, g.2.2.2.1, fun q => ⟨by rw [g.2.1.2]; exact h4 q, g.2.2.2.2 q⟩⟩
theorem RO_114 {C : Nat → Int} {i : Nat} (h : C i = 114) : RO C i = HR C (i + 1) := by
  unfold RO
  rw [if_pos h]
theorem RO_45 {C : Nat → Int} {i : Nat} (h : C i = 45) : RO C i = if 48 ≤ C (i + 1) ∧ C (i + 1) ≤ 52 then (true, i + 1 + 1, 45, q1 (C (i + 1) - 48), 0) else bad (i + 1) := by
  unfold RO
  rw [if_neg (by omega), if_pos h]
theorem RO_112 {C : Nat → Int} {i : Nat} (h : C i = 112) : RO C i = if (num C (i + 1)).1 < 0 then bad (num C (i + 1)).2 else (true, (num C (i + 1)).2, 112, q1 (num C (i + 1)).1, 0) := by
  unfold RO
  rw [if_neg (by omega), if_neg (by omega), if_pos h]
theorem RO_115 {C : Nat → Int} {i : Nat} (h : C i = 115) : RO C i = PR C 6 (i + 1) (fun _ => 0) 0 := by
  unfold RO
  rw [if_neg (by omega), if_neg (by omega), if_neg (by omega), if_pos h]
theorem RO_98 {C : Nat → Int} {i : Nat} (h : C i = 98) : RO C i = (true, i + 1, 98, (fun _ => 0), 0) := by
  unfold RO
  rw [if_neg (by omega), if_neg (by omega), if_neg (by omega), if_neg (by omega), if_pos h]
theorem RO_no {C : Nat → Int} {i : Nat} (h1 : C i ≠ 114) (h2 : C i ≠ 45) (h3 : C i ≠ 112) (h4 : C i ≠ 115) (h5 : C i ≠ 98) : RO C i = bad i := by
  unfold RO
  rw [if_neg h1, if_neg h2, if_neg h3, if_neg h4, if_neg h5]
theorem HR_l {C : Nat → Int} {i : Nat} (h : (HR C i).1 = true) : (HR C i).2.2.1 = 114 := by
  unfold HR HR1 at *
  split at h
  · cases h
  · next z1 =>
    rw [if_neg z1]
    split at h
    · next z2 =>
      rw [if_pos z2]
      unfold HR2 at *
      split at h
      · cases h
      · next z3 =>
        rw [if_neg z3]
        split at h
        · next z4 =>
          rw [if_pos z4]
          unfold HR3 at *
          split at h
          · cases h
          · next z5 =>
            rw [if_neg z5]
            split at h
            · next z6 =>
              rw [if_pos z6]
              unfold HR4 at *
              by_cases z7 : (num C (if C ((num C ((num C ((num C i).2 + 1)).2 + 1)).2 + 1) = 45 then (num C ((num C ((num C i).2 + 1)).2 + 1)).2 + 1 + 1 else (num C ((num C ((num C i).2 + 1)).2 + 1)).2 + 1)).1 < 0
              · rw [if_pos z7] at h
                cases h
              · rw [if_neg z7]
            · next z6 =>
              rw [if_neg z6]
        · cases h
    · cases h
theorem PR_l {C : Nat → Int} : ∀ {m i : Nat} {f : Nat → Int} {c : Nat}, (PR C m i f c).1 = true → (PR C m i f c).2.2.1 = 115
  | 0, i, f, c, _ => rfl
  | m + 1, i, f, c, h => by
    have e : PR C (m + 1) i f c = if (num C i).1 < 0 then bad (num C i).2 else if C (num C i).2 = 64 then (if (num C ((num C i).2 + 1)).1 < 0 then bad (num C ((num C i).2 + 1)).2 else if m ≠ 0 ∧ C (num C ((num C i).2 + 1)).2 = 44 then PR C m ((num C ((num C i).2 + 1)).2 + 1) (pf C i f c) (c + 1) else (true, (num C ((num C i).2 + 1)).2, 115, pf C i f c, c + 1)) else bad (num C i).2 := rfl
    rw [e] at h ⊢
    by_cases z1 : (num C i).1 < 0
    · rw [if_pos z1] at h
      cases h
    · rw [if_neg z1] at h ⊢
      by_cases z2 : C (num C i).2 = 64
      · rw [if_pos z2] at h ⊢
        by_cases z3 : (num C ((num C i).2 + 1)).1 < 0
        · rw [if_pos z3] at h
          cases h
        · rw [if_neg z3] at h ⊢
          by_cases z4 : m ≠ 0 ∧ C (num C ((num C i).2 + 1)).2 = 44
          · rw [if_pos z4] at h ⊢
            exact PR_l h
          · rw [if_neg z4]
      · rw [if_neg z2] at h
        cases h
/-- a step of the search for a fault, by the class: from its place j behind k orders -/
def FI (C : Nat → Int) (n k j : Nat) (W : Int) : Prop := (k = 0 ∧ j = 0 ∧ W = FT C n 80 0) ∨ (0 < k ∧ 0 < j ∧ j < n ∧ W = if C j = 59 then FT C n (80 - k) (j + 1) else (j : Int))
def NX (C : Nat → Int) (j : Nat) (M M1 : Mem) (z : Int) : Prop := (0 < j ∧ C j ≠ 59 → z = 0 ∧ PE M M1 ∧ M1 95 3 = (j : Int) ∧ ∃ t : Nat, M1 95 5 = (t : Int)) ∧ (¬ (0 < j ∧ C j ≠ 59) → RQ M M1 (RO C (if 0 < j then j + 1 else j)) z)
theorem FI_step {C : Nat → Int} {n k j : Nat} {W : Int} {M M1 : Mem} {z : Int} (hn : ∀ j, n ≤ j → C j = 0) (hk : k < 80) (hjk : 2 * k ≤ j + 1) (h : FI C n k j W) (g : NX C j M M1 z) : PE M M1 ∧ (∃ t : Nat, M1 95 5 = (t : Int)) ∧ ∃ j1 : Nat, M1 95 3 = (j1 : Int) ∧ j1 ≤ n ∧ ((z = 0 ∧ W = (j1 : Int)) ∨ (z = 1 ∧ (n ≤ j1 → W = -6) ∧ (¬ n ≤ j1 → FI C n (k + 1) j1 W) ∧ 2 * (k + 1) ≤ j1 + 1)) := by
  rcases h with ⟨h1, h2, h3⟩ | ⟨h1, h2, h3, h4⟩
  · have q := g.2 (by omega)
    rw [if_neg (by omega), h2] at q
    obtain ⟨q1, q2, q3, q4, q5⟩ := q
    refine ⟨q2, q4, (RO C 0).2.1, q3, (RO_W (C := C) (n := n) (i := 0) hn (by omega)).1.1.2, ?_⟩
    have e : FT C n 80 0 = if (RO C 0).1 = true then (if n ≤ (RO C 0).2.1 then -6 else if C (RO C 0).2.1 = 59 then FT C n 79 ((RO C 0).2.1 + 1) else ((RO C 0).2.1 : Int)) else ((RO C 0).2.1 : Int) := rfl
    rw [e] at h3
    have hw := RO_W (C := C) (n := n) (i := 0) hn (by omega)
    by_cases ok : (RO C 0).1 = true
    · rw [if_pos ok] at h3 q1
      have hp := hw.2 ok
      refine Or.inr ⟨q1, fun w => ?_, fun w => ?_, by omega⟩
      · rw [if_pos w] at h3
        exact h3
      · rw [if_neg w] at h3
        refine Or.inr ⟨by omega, hp, by omega, ?_⟩
        rw [h1]
        exact h3
    · rw [if_neg ok] at h3 q1
      exact Or.inl ⟨q1, h3⟩
  · by_cases c : C j = 59
    · have q := g.2 (by omega)
      rw [if_pos h2] at q
      obtain ⟨q1, q2, q3, q4, q5⟩ := q
      refine ⟨q2, q4, (RO C (j + 1)).2.1, q3, (RO_W (C := C) (n := n) (i := j + 1) hn (by omega)).1.1.2, ?_⟩
      rw [if_pos c] at h4
      have e : FT C n (80 - k) (j + 1) = if (RO C (j + 1)).1 = true then (if n ≤ (RO C (j + 1)).2.1 then -6 else if C (RO C (j + 1)).2.1 = 59 then FT C n (79 - k) ((RO C (j + 1)).2.1 + 1) else ((RO C (j + 1)).2.1 : Int)) else ((RO C (j + 1)).2.1 : Int) := by
        rw [show 80 - k = (79 - k) + 1 by omega]
        rfl
      rw [e] at h4
      have hw := RO_W (C := C) (n := n) (i := j + 1) hn (by omega)
      by_cases ok : (RO C (j + 1)).1 = true
      · rw [if_pos ok] at h4 q1
        have hp := hw.2 ok
        refine Or.inr ⟨q1, fun w => ?_, fun w => ?_, by omega⟩
        · rw [if_pos w] at h4
          exact h4
        · rw [if_neg w] at h4
          refine Or.inr ⟨by omega, by omega, by omega, ?_⟩
          rw [show 80 - (k + 1) = 79 - k by omega]
          exact h4
      · rw [if_neg ok] at h4 q1
        exact Or.inl ⟨q1, h4⟩
    · have q := g.1 ⟨h2, c⟩
      rw [if_neg c] at h4
      exact ⟨q.2.1, q.2.2.2, j, q.2.2.1, by omega, Or.inl ⟨q.1, h4⟩⟩
