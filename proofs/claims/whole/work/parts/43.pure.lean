/-! ===== the reference's state, its history ===== -/
def aR (M : Mem) : AS := (M 106 0, M 106 1, (fun c k => if c = 0 then M 106 (3 + 4 * k) else if c = 1 then M 106 (4 + 4 * k) else if c = 2 then M 106 (5 + 4 * k) else M 106 (6 + 4 * k)), M 106 2, (fun k => M 106 (23 + k)), fun k => M 106 (29 + k))
theorem aR_v (M : Mem) : eqA (aR M) (vR (M 106) 0) := by
  refine ⟨rfl, rfl, fun c k hc _ => ?_, rfl, fun k _ => ⟨?_, ?_⟩⟩
  · rcases (show c = 0 ∨ c = 1 ∨ c = 2 ∨ c = 3 by omega) with q | q | q | q <;> subst q
    · exact congrArg (M 106) (show 3 + 4 * k = 0 + (3 + 4 * k + 0) by omega)
    · exact congrArg (M 106) (show 4 + 4 * k = 0 + (3 + 4 * k + 1) by omega)
    · exact congrArg (M 106) (show 5 + 4 * k = 0 + (3 + 4 * k + 2) by omega)
    · exact congrArg (M 106) (show 6 + 4 * k = 0 + (3 + 4 * k + 3) by omega)
  · exact congrArg (M 106) (show 23 + k = 0 + (23 + k) by omega)
  · exact congrArg (M 106) (show 29 + k = 0 + (29 + k) by omega)
theorem aR_eq {M M1 : Mem} (h : M1 106 = M 106) : aR M1 = aR M := by
  unfold aR
  rw [h]
theorem vR_sh {f g : Nat → Int} {o o2 : Nat} (h : ∀ t, t < 35 → f (o + t) = g (o2 + t)) (hw : WF (vR f o)) : eqA (vR f o) (vR g o2) := by
  have h5 : (vR f o).2.1 ≤ 5 := by
    have q1 := hw.2.1.2.1
    have q2 := hw.2.1.1
    omega
  have h6 := (WFs_pos hw.2.2).2
  refine ⟨h 0 (by decide), h 1 (by decide), fun c k hc hk => ?_, h 2 (by decide), fun k hk => ⟨?_, ?_⟩⟩
  · exact h (3 + 4 * k + c) (by omega)
  · exact h (23 + k) (by omega)
  · exact h (29 + k) (by omega)
def HRi (M : Mem) : Prop := 0 ≤ M 105 2 ∧ M 105 2 ≤ 6
/-- the reference's state and history are well-formed -/
def RW (M : Mem) : Prop := WF (aR M) ∧ HRi M ∧ ∀ i : Nat, (i : Int) < M 105 2 → WF (hvR M i)
theorem rec_of {M M1 : Mem} (hw : RW M) (h107 : ∀ j, j < 210 → M1 107 j = if M 105 2 = 6 then (if j < 175 then M 107 (j + 35) else M 106 (j - 175)) else (if 35 * (M 105 2).toNat ≤ j ∧ j < 35 * (M 105 2).toNat + 35 then M 106 (j - 35 * (M 105 2).toNat) else M 107 j)) (h2 : M1 105 2 = if M 105 2 < 6 then M 105 2 + 1 else 6) : PUSH (M 105 2) (hvR M) (aR M) (M1 105 2) (hvR M1) ∧ HRi M1 := by
  obtain ⟨hw1, ⟨hk1, hk2⟩, hw2⟩ := hw
  have hwv : WF (vR (M 106) 0) := WF_eq (aR_v M) hw1
  have e0 : M1 105 2 = if M 105 2 + 1 < 6 then M 105 2 + 1 else 6 := by
    rw [h2]
    split <;> split <;> omega
  refine ⟨⟨e0, ?_, fun i hi => ?_⟩, ?_⟩
  · refine eqA_tr (aR_v M) ?_
    show eqA (vR (M 106) 0) (vR (M1 107) (35 * ((M1 105 2).toNat - 1 - 0)))
    refine vR_sh (fun t ht => ?_) hwv
    rw [h2]
    by_cases q : M 105 2 = 6
    · rw [if_neg (by omega), h107 _ (by omega), if_pos q, if_neg (by omega)]
      exact congrArg (M 106) (by omega)
    · rw [if_pos (by omega), h107 _ (by omega), if_neg q, if_pos (by omega)]
      exact congrArg (M 106) (by omega)
  · have hik : (i : Int) < M 105 2 := by
      rw [h2] at hi
      split at hi <;> omega
    show eqA (vR (M 107) (35 * ((M 105 2).toNat - 1 - i))) (vR (M1 107) (35 * ((M1 105 2).toNat - 1 - (i + 1))))
    refine vR_sh (fun t ht => ?_) (hw2 i hik)
    rw [h2] at hi ⊢
    by_cases q : M 105 2 = 6
    · rw [if_neg (by omega)] at hi ⊢
      rw [h107 _ (by omega), if_pos q, if_pos (by omega)]
      exact congrArg (M 107) (by omega)
    · rw [if_pos (by omega)] at hi ⊢
      rw [h107 _ (by omega), if_neg q, if_neg (by omega)]
      exact congrArg (M 107) (by omega)
  · unfold HRi
    rw [h2]
    split <;> omega
def KR (ln : Int) (M M1 : Mem) : Prop := (∀ a, (a < 105 ∨ (108 ≤ a ∧ a ≤ 110)) → M1 a = M a) ∧ M1 105 6 = ln
/-- a change of the reference, by an order on its state -/
def rChg (op : AS → Int → AS → Prop) (ln : Int) (M : Mem) (z : Int) (M1 : Mem) : Prop := op (aR M) z (aR M1) ∧ (z < 0 → SAMEH (M 105 2) (hvR M) (M1 105 2) (hvR M1)) ∧ (0 ≤ z → PUSH (M 105 2) (hvR M) (aR M) (M1 105 2) (hvR M1)) ∧ HRi M1 ∧ KR ln M M1
theorem hvR_eq {M M1 : Mem} (h : M1 107 = M 107) (h2 : M1 105 2 = M 105 2) : hvR M1 = hvR M := by
  unfold hvR
  rw [h, h2]
theorem rChg_no {op : AS → Int → AS → Prop} {M M1 : Mem} {z : Int} (hH : HRi M) (hz : z < 0) (ho : op (aR M) z (aR M)) (hE : eqx M M1 [105, 111, 112]) (h2 : M1 105 2 = M 105 2) (h6 : M1 105 6 = M 105 6) : rChg op (M 105 6) M z M1 := by
  have e1 := hvR_eq (hE 107 (by decide)) h2
  have e2 := aR_eq (hE 106 (by decide))
  refine ⟨by rw [e2]; exact ho, fun _ => ⟨h2, fun i _ => by rw [e1]; exact eqA_rf _⟩, fun q => absurd q (by omega), by unfold HRi; rw [h2]; exact hH, fun a ha => hE a (by simp; omega), h6⟩
theorem rChg_yes {op : AS → Int → AS → Prop} {ln : Int} {M Mr M1 : Mem} {z : Int} (hp : PUSH (M 105 2) (hvR M) (aR M) (Mr 105 2) (hvR Mr)) (hH : HRi Mr) (hE : eqx M Mr [105, 107]) (hE2 : eqx Mr M1 [105, 106, 111, 112]) (h2 : M1 105 2 = Mr 105 2) (h6 : M1 105 6 = ln) (hz : 0 ≤ z) (ho : op (aR M) z (aR M1)) : rChg op ln M z M1 := by
  have e1 := hvR_eq (hE2 107 (by decide)) h2
  exact ⟨ho, fun q => absurd q (by omega), fun _ => by rw [e1, h2]; exact hp, by unfold HRi; rw [h2]; exact hH, fun a ha => by rw [hE2 a (by simp; omega)]; exact hE a (by simp; omega), h6⟩
theorem rChg_pre {op : AS → Int → AS → Prop} {ln : Int} {M N M1 : Mem} {z : Int} (hE : eqx M N [105, 111, 112]) (h2 : N 105 2 = M 105 2) (g : rChg op ln N z M1) : rChg op ln M z M1 := by
  have e1 := hvR_eq (hE 107 (by decide)) h2
  have e2 := aR_eq (hE 106 (by decide))
  obtain ⟨g1, g2, g3, g4, g5⟩ := g
  rw [e2] at g1 g3
  rw [e1, h2] at g2 g3
  exact ⟨g1, g2, g3, g4, fun a ha => by rw [g5.1 a ha]; exact hE a (by simp; omega), g5.2⟩
theorem RW_pre {M N : Mem} (hE : eqx M N [105, 111, 112]) (h2 : N 105 2 = M 105 2) (h : RW M) : RW N := by
  have e1 := hvR_eq (hE 107 (by decide)) h2
  have e2 := aR_eq (hE 106 (by decide))
  unfold RW HRi
  rw [e1, e2, h2]
  exact h
theorem SplitOf_0 {w p : Nat → Int} : SplitOf (fun _ => 0) 0 w p := by
  have h0 : ∀ k, cnt (fun _ => 0) k = 0 := fun k => by
    induction k with
    | zero => rfl
    | succ k ih => simp only [cnt, ih]; rfl
  exact ⟨(h0 101).symm, fun i hi => absurd hi (by omega)⟩
/-- the split is given to the state -/
theorem gives_A {M M1 : Mem} (h : ∀ j : Nat, M1 106 j = if j = 2 then M 105 9 else if 23 ≤ j ∧ j < 23 + 6 then (if ((j - 23 : Nat) : Int) < M 105 9 then M 111 (j - 23) else 0) else if 29 ≤ j ∧ j < 29 + 6 then (if ((j - 29 : Nat) : Int) < M 105 9 then M 112 (j - 29) else 0) else M 106 j) (hn : M 106 1 ≤ 5) (hm : M 105 9 ≤ 6) : eqA ((aR M).1, (aR M).2.1, (aR M).2.2.1, M 105 9, M 111, M 112) (aR M1) := by
  have hr : ∀ j, j ≠ 2 → j < 23 → M1 106 j = M 106 j := fun j h1 h2 => by
    rw [h, if_neg h1, if_neg (by omega), if_neg (by omega)]
  refine ⟨(hr 0 (by decide) (by decide)).symm, (hr 1 (by decide) (by decide)).symm, fun c k hc hk => ?_, ?_, fun k hk => ⟨?_, ?_⟩⟩
  · have hk' : (k : Int) < M 106 1 := hk
    rcases (show c = 0 ∨ c = 1 ∨ c = 2 ∨ c = 3 by omega) with q | q | q | q <;> subst q
    · exact (hr (3 + 4 * k) (by omega) (by omega)).symm
    · exact (hr (4 + 4 * k) (by omega) (by omega)).symm
    · exact (hr (5 + 4 * k) (by omega) (by omega)).symm
    · exact (hr (6 + 4 * k) (by omega) (by omega)).symm
  · show M 105 9 = M1 106 2
    rw [h, if_pos rfl]
  · have hk' : (k : Int) < M 105 9 := hk
    show M 111 k = M1 106 (23 + k)
    rw [h, if_neg (by omega), if_pos (by omega), show 23 + k - 23 = k by omega, if_pos hk']
  · have hk' : (k : Int) < M 105 9 := hk
    show M 112 k = M1 106 (29 + k)
    rw [h, if_neg (by omega), if_neg (by omega), if_pos (by omega), show 29 + k - 29 = k by omega, if_pos hk']
theorem hir_of {M M1 : Mem} {a b u v : Int} {n : Nat} (hn : (n : Int) = M 106 1) (h5 : n < 5) (h : M1 106 = uz (uz (uz (uz (uz (M 106) (3 + 4 * n) a) (4 + 4 * n) b) (5 + 4 * n) u) (6 + 4 * n) v) 1 (M 106 1 + 1)) : eqA (admA (aR M) a b u v) (aR M1) := by
  have hm : ∀ j, M1 106 j = if j = 1 then M 106 1 + 1 else if j = 6 + 4 * n then v else if j = 5 + 4 * n then u else if j = 4 + 4 * n then b else if j = 3 + 4 * n then a else M 106 j := fun j => by
    rw [h]
    rfl
  refine ⟨?_, ?_, fun c k hc hk => ?_, ?_, fun k hk => ⟨?_, ?_⟩⟩
  · show M 106 0 = M1 106 0
    rw [hm, if_neg (by omega), if_neg (by omega), if_neg (by omega), if_neg (by omega), if_neg (by omega)]
  · show M 106 1 + 1 = M1 106 1
    rw [hm, if_pos rfl]
  · have hk' : (k : Int) < M 106 1 + 1 := hk
    show (if (k : Int) = M 106 1 then (if c = 0 then a else if c = 1 then b else if c = 2 then u else v) else (aR M).2.2.1 c k) = _
    by_cases q : k = n
    · rw [if_pos (by omega), q]
      rcases (show c = 0 ∨ c = 1 ∨ c = 2 ∨ c = 3 by omega) with w | w | w | w <;> subst w
      · show a = M1 106 (3 + 4 * n)
        rw [hm, if_neg (by omega), if_neg (by omega), if_neg (by omega), if_neg (by omega), if_pos rfl]
      · show b = M1 106 (4 + 4 * n)
        rw [hm, if_neg (by omega), if_neg (by omega), if_neg (by omega), if_pos rfl]
      · show u = M1 106 (5 + 4 * n)
        rw [hm, if_neg (by omega), if_neg (by omega), if_pos rfl]
      · show v = M1 106 (6 + 4 * n)
        rw [hm, if_neg (by omega), if_pos rfl]
    · rw [if_neg (by omega)]
      rcases (show c = 0 ∨ c = 1 ∨ c = 2 ∨ c = 3 by omega) with w | w | w | w <;> subst w
      · show M 106 (3 + 4 * k) = M1 106 (3 + 4 * k)
        rw [hm, if_neg (by omega), if_neg (by omega), if_neg (by omega), if_neg (by omega), if_neg (by omega)]
      · show M 106 (4 + 4 * k) = M1 106 (4 + 4 * k)
        rw [hm, if_neg (by omega), if_neg (by omega), if_neg (by omega), if_neg (by omega), if_neg (by omega)]
      · show M 106 (5 + 4 * k) = M1 106 (5 + 4 * k)
        rw [hm, if_neg (by omega), if_neg (by omega), if_neg (by omega), if_neg (by omega), if_neg (by omega)]
      · show M 106 (6 + 4 * k) = M1 106 (6 + 4 * k)
        rw [hm, if_neg (by omega), if_neg (by omega), if_neg (by omega), if_neg (by omega), if_neg (by omega)]
  · show M 106 2 = M1 106 2
    rw [hm, if_neg (by omega), if_neg (by omega), if_neg (by omega), if_neg (by omega), if_neg (by omega)]
  · show M 106 (23 + k) = M1 106 (23 + k)
    rw [hm, if_neg (by omega), if_neg (by omega), if_neg (by omega), if_neg (by omega), if_neg (by omega)]
  · show M 106 (29 + k) = M1 106 (29 + k)
    rw [hm, if_neg (by omega), if_neg (by omega), if_neg (by omega), if_neg (by omega), if_neg (by omega)]
theorem dis_of {M M1 : Mem} {r : Int} (hr : 0 ≤ r ∧ r < M 106 1) (h5 : M 106 1 ≤ 5) (h : ∀ j : Nat, M1 106 j = if j = 1 then M 106 1 - 1 else if 3 + 4 * r ≤ (j : Int) ∧ (j : Int) < 3 + 4 * (M 106 1 - 1) then M 106 (j + 4) else M 106 j) : eqA (disA (aR M) r) (aR M1) := by
  refine ⟨?_, ?_, fun c k hc hk => ?_, ?_, fun k hk => ⟨?_, ?_⟩⟩
  · show M 106 0 = M1 106 0
    rw [h, if_neg (by omega), if_neg (by omega)]
  · show M 106 1 - 1 = M1 106 1
    rw [h, if_pos rfl]
  · have hk' : (k : Int) < M 106 1 - 1 := hk
    have key : ∀ b : Nat, 3 ≤ b → b < 7 → M 106 (b + 4 * (if (k : Int) < r then k else k + 1)) = M1 106 (b + 4 * k) := fun b b3 b7 => by
      rw [h, if_neg (show ¬ b + 4 * k = 1 by omega)]
      by_cases q : (k : Int) < r
      · rw [if_pos q, if_neg (show ¬ (3 + 4 * r ≤ ((b + 4 * k : Nat) : Int) ∧ ((b + 4 * k : Nat) : Int) < 3 + 4 * (M 106 1 - 1)) by omega)]
      · rw [if_neg q, if_pos (show 3 + 4 * r ≤ ((b + 4 * k : Nat) : Int) ∧ ((b + 4 * k : Nat) : Int) < 3 + 4 * (M 106 1 - 1) by omega)]
        exact congrArg (M 106) (by omega)
    show (aR M).2.2.1 c (if (k : Int) < r then k else k + 1) = _
    rcases (show c = 0 ∨ c = 1 ∨ c = 2 ∨ c = 3 by omega) with w | w | w | w <;> subst w
    · exact key 3 (by decide) (by decide)
    · exact key 4 (by decide) (by decide)
    · exact key 5 (by decide) (by decide)
    · exact key 6 (by decide) (by decide)
  · show M 106 2 = M1 106 2
    rw [h, if_neg (by omega), if_neg (by omega)]
  · show M 106 (23 + k) = M1 106 (23 + k)
    rw [h, if_neg (by omega), if_neg (by omega)]
  · show M 106 (29 + k) = M1 106 (29 + k)
    rw [h, if_neg (by omega), if_neg (by omega)]
/-- the best split has no common divisor, and is no problem -/
theorem gcd_div1 {a b : Int} (h : 0 < (Int.gcd a b : Int)) : Int.gcd (a.tdiv (Int.gcd a b : Int)) (b.tdiv (Int.gcd a b : Int)) = 1 := by
  have e1 : (Int.gcd a b : Int) * a.tdiv (Int.gcd a b : Int) = a := Int.mul_tdiv_cancel' (Int.gcd_dvd_left a b)
  have e2 : (Int.gcd a b : Int) * b.tdiv (Int.gcd a b : Int) = b := Int.mul_tdiv_cancel' (Int.gcd_dvd_right a b)
  have h3 : Int.gcd a b = (Int.gcd a b) * Int.gcd (a.tdiv (Int.gcd a b : Int)) (b.tdiv (Int.gcd a b : Int)) := by
    have := Int.gcd_mul_left (Int.gcd a b : Int) (a.tdiv (Int.gcd a b : Int)) (b.tdiv (Int.gcd a b : Int))
    rw [e1, e2, Int.natAbs_natCast] at this
    exact this
  have h4 : Int.gcd a b * 1 = (Int.gcd a b) * Int.gcd (a.tdiv (Int.gcd a b : Int)) (b.tdiv (Int.gcd a b : Int)) := by rw [Nat.mul_one]; exact h3
  exact (Nat.eq_of_mul_eq_mul_left (by omega) h4).symm
theorem bst_gfo {x lo hi : Int} (h : okS x lo hi) (hx : 0 ≤ x ∧ x ≤ 100) : gfo (bstF x lo hi) 101 = 1 := by
  have hr := okS_rng h hx
  have hb : ∀ j : Nat, bstF x lo hi j = (if (j : Int) = lo then wLo x lo hi else 0) + (if (j : Int) = hi then wHi x lo hi else 0) := fun j => by
    show 0 + (if (j : Int) = lo then wLo x lo hi else 0) + (if (j : Int) = hi then wHi x lo hi else 0) = _
    omega
  rcases h with ⟨h1, h2⟩ | ⟨h1, h2⟩
  · refine gfo_1 (j := x.toNat) (by omega) ?_
    rw [hb, if_pos (by omega), if_pos (by omega)]
    unfold wLo wHi
    rw [if_pos (by omega), if_pos (by omega)]
    rfl
  · have hne : ¬ lo = hi := by omega
    have e1 : bstF x lo hi lo.toNat = wLo x lo hi := by rw [hb, if_pos (by omega), if_neg (by omega)]; omega
    have e2 : bstF x lo hi hi.toNat = wHi x lo hi := by rw [hb, if_neg (by omega), if_pos (by omega)]; omega
    have d1 : gfo (bstF x lo hi) 101 ∣ wLo x lo hi := by rw [← e1]; exact gfo_dvd (by omega)
    have d2 : gfo (bstF x lo hi) 101 ∣ wHi x lo hi := by rw [← e2]; exact gfo_dvd (by omega)
    unfold wLo at d1
    unfold wHi at d2
    rw [if_neg hne] at d1 d2
    have hg := Int.gcd_pos_of_ne_zero_left (x - lo) (show hi - x ≠ 0 by omega)
    have h1 := gcd_div1 (a := hi - x) (b := x - lo) (by omega)
    have d3 := Int.dvd_coe_gcd d1 d2
    rw [h1] at d3
    have n0 := gfo_nn (bstF x lo hi) 101
    have n1 := Int.le_of_dvd (by decide) d3
    rcases (show gfo (bstF x lo hi) 101 = 0 ∨ gfo (bstF x lo hi) 101 = 1 by omega) with q | q
    · rw [q] at d3
      have := Int.zero_dvd.mp d3
      omega
    · exact q
theorem cnt_le2 {x lo hi : Int} : ∀ k : Nat, cnt (bstF x lo hi) k ≤ (if lo < (k : Int) then 1 else 0) + (if hi < (k : Int) then 1 else 0) + (if lo < 0 then 0 else 0)
  | 0 => by
    show (0 : Int) ≤ _
    split <;> split <;> split <;> omega
  | k + 1 => by
    have ih := cnt_le2 (x := x) (lo := lo) (hi := hi) k
    have e : cnt (bstF x lo hi) (k + 1) = cnt (bstF x lo hi) k + if 0 < bstF x lo hi k then 1 else 0 := rfl
    have hb : bstF x lo hi k = (if (k : Int) = lo then wLo x lo hi else 0) + (if (k : Int) = hi then wHi x lo hi else 0) := by
      show 0 + (if (k : Int) = lo then wLo x lo hi else 0) + (if (k : Int) = hi then wHi x lo hi else 0) = _
      omega
    rw [e, hb]
    by_cases q1 : (k : Int) = lo
    · rw [if_pos q1]
      by_cases q2 : (k : Int) = hi
      · rw [if_pos q2]
        split at ih <;> split at ih <;> (repeat' split) <;> omega
      · rw [if_neg q2]
        split at ih <;> split at ih <;> (repeat' split) <;> omega
    · rw [if_neg q1]
      by_cases q2 : (k : Int) = hi
      · rw [if_pos q2]
        split at ih <;> split at ih <;> (repeat' split) <;> omega
      · rw [if_neg q2]
        split at ih <;> split at ih <;> (repeat' split) <;> omega
theorem bst_red {x lo hi : Int} (h : okS x lo hi) (hx : 0 ≤ x ∧ x ≤ 100) : (∀ j, red (bstF x lo hi) j = bstF x lo hi j) ∧ okF (red (bstF x lo hi)) := by
  have hg := bst_gfo h hx
  have e : ∀ j, red (bstF x lo hi) j = bstF x lo hi j := fun j => by
    unfold red
    rw [hg, Int.tdiv_one]
  refine ⟨e, fun j hj => ?_, ?_⟩
  · rw [e j]
    have := bstF_b h hx j
    omega
  · rw [cnt_cong (fun j _ => e j)]
    have := cnt_le2 (x := x) (lo := lo) (hi := hi) 101
    split at this <;> split at this <;> split at this <;> omega
/-- a sum over the parts is a sum over all posteriors -/
theorem SM_of {F : Nat → Int} {m x : Int} {W Q : Nat → Int} (h : SplitOf F m W Q) (hF : ∀ j, 0 ≤ F j) : ∀ n : Nat, n ≤ 101 → sm (fun j => F j * ((j : Int) - x)) n = sm (fun k => W k * (Q k - x)) (cnt F n).toNat
  | 0, _ => rfl
  | n + 1, hn => by
    have ih := SM_of (x := x) h hF n (by omega)
    have e : cnt F (n + 1) = cnt F n + if 0 < F n then 1 else 0 := rfl
    have c0 := (cnt_b F n).1
    show sm (fun j => F j * ((j : Int) - x)) n + F n * ((n : Int) - x) = _
    rw [ih, e]
    by_cases q : 0 < F n
    · rw [if_pos q, show (cnt F n + 1).toNat = (cnt F n).toNat + 1 by omega]
      show _ = sm (fun k => W k * (Q k - x)) (cnt F n).toNat + W (cnt F n).toNat * (Q (cnt F n).toNat - x)
      have c1 := cnt_lt (F := F) (show n < 101 by omega) q
      have hm := h.1
      obtain ⟨p1, p2, p3, p4⟩ := h.2 (cnt F n).toNat (by omega)
      have hp : (Q (cnt F n).toNat).toNat = n := by
        rcases Nat.lt_trichotomy (Q (cnt F n).toNat).toNat n with w | w | w
        · have := cnt_lt (F := F) w (by rw [← p2]; exact p3)
          omega
        · exact w
        · have := cnt_lt (F := F) w q
          omega
      rw [p2, hp, show Q (cnt F n).toNat = (n : Int) by omega]
    · have : F n = 0 := by have := hF n; omega
      rw [if_neg q, this, Int.zero_mul, Int.add_zero, Int.add_zero]
/-- nothing changes but what is computed with -/
def KQ (M M1 : Mem) : Prop := eqx M M1 [105, 111, 112] ∧ M1 105 2 = M 105 2 ∧ M1 105 6 = M 105 6
theorem KQ_rf (M : Mem) : KQ M M := ⟨eqx_rf _ _, rfl, rfl⟩
theorem KQ_up {M N : Mem} {k : Nat} {x : Int} (h2 : k ≠ 2) (h6 : k ≠ 6) (h : KQ M N) : KQ M (up2 N 105 k x) := ⟨eqx_up _ _ h.1 (by decide), by rw [up2_m _ _ _ (fun q => h2 q.symm)]; exact h.2.1, by rw [up2_m _ _ _ (fun q => h6 q.symm)]; exact h.2.2⟩
