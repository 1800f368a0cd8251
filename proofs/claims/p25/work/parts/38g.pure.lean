/-! ===== the best split: one outcome ===== -/
theorem det_B {a b a' b' : AS} {r r' : Int} (h : eqA a b) (g1 : WF a) (h1 : opB a r a') (h2 : opB b r' b') : r = r' ∧ eqA a' b' ∧ WF a' := by
  obtain ⟨lo, hi, k1, k2⟩ := h1
  obtain ⟨lo', hi', l1, l2⟩ := h2
  rw [← h.1] at l1 l2
  have hv := vA_eq h g1.2.1.1
  have hp := g1.1
  obtain ⟨u1, u2⟩ := isB_uniq k1 l1 (fun y _ _ => hv y) (by omega)
  rw [← u1, ← u2] at l2
  have hr := okS_rng k1.1 (show 0 ≤ a.1 ∧ a.1 ≤ 100 by omega)
  have hw := w_pos k1.1
  have hb := fun j => bstF_b k1.1 (show 0 ≤ a.1 ∧ a.1 ≤ 100 by omega) j
  have b1 := wLo_b k1.1 (show 0 ≤ a.1 ∧ a.1 ≤ 100 by omega)
  have b2 := wHi_b k1.1 (show 0 ≤ a.1 ∧ a.1 ≤ 100 by omega)
  have hx : ∃ j0, j0 < 101 ∧ 0 < bstF a.1 lo hi j0 := by
    rcases Int.lt_or_le 0 (wLo a.1 lo hi) with q | q
    · refine ⟨lo.toNat, by omega, ?_⟩
      show 0 < 0 + (if ((lo.toNat : Nat) : Int) = lo then wLo a.1 lo hi else 0) + (if ((lo.toNat : Nat) : Int) = hi then wHi a.1 lo hi else 0)
      rw [if_pos (by omega)]
      split <;> omega
    · refine ⟨hi.toNat, by omega, ?_⟩
      show 0 < 0 + (if ((hi.toNat : Nat) : Int) = lo then wLo a.1 lo hi else 0) + (if ((hi.toNat : Nat) : Int) = hi then wHi a.1 lo hi else 0)
      rw [if_pos (show ((hi.toNat : Nat) : Int) = hi by omega)]
      split <;> omega
  obtain ⟨j0, hj, h0⟩ := hx
  exact det_F (fun _ _ => rfl) (fun j => (hb j).1) hj h0 h g1 k2 l2
