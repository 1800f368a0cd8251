theorem PR_u {C : Nat → Int} {k j : Nat} {f : Nat → Int} (hk : k < 6) : PR C (6 - k) j f k = if (num C j).1 < 0 then bad (num C j).2 else if C (num C j).2 = 64 then (if (num C ((num C j).2 + 1)).1 < 0 then bad (num C ((num C j).2 + 1)).2 else if 5 - k ≠ 0 ∧ C (num C ((num C j).2 + 1)).2 = 44 then PR C (5 - k) ((num C ((num C j).2 + 1)).2 + 1) (pf C j f k) (k + 1) else (true, (num C ((num C j).2 + 1)).2, 115, pf C j f k, k + 1)) else bad (num C j).2 := by
  rw [show 6 - k = (5 - k) + 1 by omega]
  rfl
/-- obeying, by the class: at its place j behind k orders -/
def CI (C : Nat → Int) (n k j : Nat) (cur a0 : AS) : Prop := (k = 0 ∧ j = 0 ∧ cur = a0) ∨ (0 < k ∧ 0 < j ∧ n ≤ j ∧ ∀ (z : Int) (a' : AS), z = (k : Int) ∧ eqA cur a' → OT C n 80 0 a0 0 z a') ∨ (0 < k ∧ 0 < j ∧ j < n ∧ C j = 59 ∧ FT C n (80 - k) (j + 1) = -6 ∧ ∀ (z : Int) (a' : AS), OT C n (80 - k) (j + 1) cur (k : Int) z a' → OT C n 80 0 a0 0 z a')
theorem CI_step {C : Nat → Int} {n k j : Nat} {cur a0 : AS} (hn : ∀ j, n ≤ j → C j = 0) (hF : FT C n 80 0 = -6) (hk : k < 80) (hjk : 2 * k ≤ j + 1) (hjn : j ≤ n) (h : CI C n k j cur a0) (hne : ¬ (0 < j ∧ n ≤ j)) : ¬ (0 < j ∧ C j ≠ 59) ∧ (RO C (if 0 < j then j + 1 else j)).1 = true ∧ TRW n (if 0 < j then j + 1 else j) (RO C (if 0 < j then j + 1 else j)) ∧ 2 * (k + 1) ≤ (RO C (if 0 < j then j + 1 else j)).2.1 + 1 ∧ ∀ (y : Int) (c1 : AS), opO (RO C (if 0 < j then j + 1 else j)) cur y c1 → (y < 0 → OT C n 80 0 a0 0 (k : Int) c1) ∧ (0 ≤ y → CI C n (k + 1) (RO C (if 0 < j then j + 1 else j)).2.1 c1 a0) := by
  rcases h with ⟨h1, h2, h3⟩ | ⟨h1, h2, h3, h4⟩ | ⟨h1, h2, h3, h4, h5, h6⟩
  · rw [if_neg (show ¬ 0 < j by omega), h2]
    have hw := RO_W (C := C) (n := n) (i := 0) hn (by omega)
    obtain ⟨f1, f2⟩ := FT_s (m := 79) hF
    have hp := hw.2 f1
    refine ⟨by omega, f1, hw.1, by omega, fun y c1 ho => ⟨fun q => ?_, fun q => ?_⟩⟩
    · rw [h3] at ho
      refine ⟨y, c1, ho, fun _ => ⟨by omega, eqA_rf _⟩, fun w => absurd w (by omega)⟩
    · rw [h3] at ho
      by_cases g : n ≤ (RO C 0).2.1
      · refine Or.inr (Or.inl ⟨by omega, hp, g, fun z a' hz => ?_⟩)
        exact ⟨y, c1, ho, fun w => absurd w (by omega), fun _ => ⟨fun _ => ⟨by have := hz.1; omega, hz.2⟩, fun w => absurd g w⟩⟩
      · refine Or.inr (Or.inr ⟨by omega, hp, by omega, (f2 g).1, ?_, fun z a' hz => ?_⟩)
        · rw [h1]
          exact (f2 g).2
        · refine ⟨y, c1, ho, fun w => absurd w (by omega), fun _ => ⟨fun w => absurd w g, fun _ => ?_⟩⟩
          rw [h1] at hz
          exact hz
  · exact absurd ⟨h2, h3⟩ hne
  · rw [if_pos h2]
    have hw := RO_W (C := C) (n := n) (i := j + 1) hn (by omega)
    rw [show 80 - k = (79 - k) + 1 by omega] at h5 h6
    obtain ⟨f1, f2⟩ := FT_s h5
    have hp := hw.2 f1
    refine ⟨fun q => q.2 h4, f1, hw.1, by omega, fun y c1 ho => ⟨fun q => ?_, fun q => ?_⟩⟩
    · exact h6 _ _ ⟨y, c1, ho, fun _ => ⟨rfl, eqA_rf _⟩, fun w => absurd w (by omega)⟩
    · by_cases g : n ≤ (RO C (j + 1)).2.1
      · refine Or.inr (Or.inl ⟨by omega, by omega, g, fun z a' hz => ?_⟩)
        exact h6 _ _ ⟨y, c1, ho, fun w => absurd w (by omega), fun _ => ⟨fun _ => ⟨by have := hz.1; omega, hz.2⟩, fun w => absurd g w⟩⟩
      · refine Or.inr (Or.inr ⟨by omega, by omega, by omega, (f2 g).1, ?_, fun z a' hz => ?_⟩)
        · rw [show 80 - (k + 1) = 79 - k by omega]
          exact (f2 g).2
        · rw [show 80 - (k + 1) = 79 - k by omega, show ((k + 1 : Nat) : Int) = (k : Int) + 1 by omega] at hz
          exact h6 _ _ ⟨y, c1, ho, fun w => absurd w (by omega), fun _ => ⟨fun w => absurd w g, fun _ => hz⟩⟩
theorem CI_end {C : Nat → Int} {n k j : Nat} {cur a0 : AS} (hn : ∀ j, n ≤ j → C j = 0) (hF : FT C n 80 0 = -6) (h : CI C n k j cur a0) (hj : n ≤ j) : OT C n 80 0 a0 0 (k : Int) cur := by
  rcases h with ⟨h1, h2, h3⟩ | ⟨h1, h2, h3, h4⟩ | ⟨h1, h2, h3, h4, h5, h6⟩
  · exfalso
    have hw := RO_W (C := C) (n := n) (i := 0) hn (by omega)
    obtain ⟨f1, f2⟩ := FT_s (m := 79) hF
    have hp := hw.2 f1
    have := hw.1.1
    omega
  · exact h4 _ _ ⟨rfl, eqA_rf _⟩
  · omega
theorem cChg_PE {op : AS → Int → AS → Prop} {ln z : Int} {M N M1 : Mem} (h : eqx M N [95, 97]) (g : cChg op ln N z M1) : cChg op ln M z M1 := by
  obtain ⟨g1, g2, g3, g4, g5⟩ := g
  have ev : ∀ j, j < 10 → vC N j = vC M j := fun j hj => vC_eq (fun a q1 q2 => h a (by simp; omega))
  have e91 : N 91 = M 91 := h 91 (by decide)
  have ehc : ∀ i, hC N i = hC M i := fun i => by unfold hC; rw [e91]
  have ehv : ∀ i, (M 91 1).toNat ≤ 6 ∨ True → hC M i < 10 → hvC N i = hvC M i := fun i _ hi => by
    unfold hvC
    rw [ehc i]
    exact ev _ hi
  have hlt : ∀ i, hC M i < 10 := fun i => by
    unfold hC
    omega
  have ehv2 : hvC N = hvC M := funext fun i => ehv i (Or.inr trivial) (hlt i)
  rw [ev 0 (by decide)] at g1 g3
  rw [ehv2, e91] at g2 g3
  exact ⟨g1, g2, g3, g4, fun a ha => by rw [g5.1 a ha]; exact h a (by simp; omega), g5.2⟩
theorem FT_b {C : Nat → Int} {n : Nat} (hn : ∀ j, n ≤ j → C j = 0) : ∀ {m i : Nat}, i ≤ n → -6 ≤ FT C n m i ∧ FT C n m i ≤ (n : Int)
  | 0, i, hi => by
    show -6 ≤ (i : Int) ∧ (i : Int) ≤ (n : Int)
    omega
  | m + 1, i, hi => by
    have e : FT C n (m + 1) i = if (RO C i).1 = true then (if n ≤ (RO C i).2.1 then -6 else if C (RO C i).2.1 = 59 then FT C n m ((RO C i).2.1 + 1) else ((RO C i).2.1 : Int)) else ((RO C i).2.1 : Int) := rfl
    have hw := (RO_W (C := C) hn hi).1.1
    rw [e]
    by_cases q : (RO C i).1 = true
    · rw [if_pos q]
      by_cases w : n ≤ (RO C i).2.1
      · rw [if_pos w]
        omega
      · rw [if_neg w]
        by_cases g : C (RO C i).2.1 = 59
        · rw [if_pos g]
          exact FT_b hn (by omega)
        · rw [if_neg g]
          omega
    · rw [if_neg q]
      omega
