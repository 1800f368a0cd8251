/-! ===== the reference's words ===== -/
theorem shl2 : ∀ k : Nat, k < 6 → zI 1 <<< (zI (k : Int) &&& 31) = zI ((2 ^ k : Nat) : Int) := by decide
theorem bit1 (s : Int) (hs : 0 ≤ s ∧ s < 32) (r : Nat) (hr : r < 5) : (zI s >>> (zI (r : Int) &&& 31)) = zI (s / ((2 ^ r : Nat) : Int)) := by
  have h : ∀ r : Nat, r < 5 → ∀ j : Nat, j < 32 → (zI (j : Int) >>> (zI (r : Int) &&& 31)) = zI ((j : Int) / ((2 ^ r : Nat) : Int)) := by decide
  have h2 := h r hr s.toNat (by omega)
  rw [show ((s.toNat : Nat) : Int) = s by omega] at h2
  exact h2
theorem bit2 (s : Int) (hs : 0 ≤ s ∧ s < 32) : (zI s &&& zI 1) = zI (s % 2) := by
  have h : ∀ j : Nat, j < 32 → (zI (j : Int) &&& zI 1) = zI ((j : Int) % 2) := by decide
  have h2 := h s.toNat (by omega)
  rw [show ((s.toNat : Nat) : Int) = s by omega] at h2
  exact h2
theorem mk_q {L G : Nat → Int} {x : Int} {r : Nat} : ∀ {n : Nat}, r < n → ∃ q : Int, mk L G x n = mk L G x r + (if ac L G x r then 1 else 0) * ((2 ^ r : Nat) : Int) + 2 * ((2 ^ r : Nat) : Int) * q
  | n + 1, h => by
    have e : mk L G x (n + 1) = mk L G x n + (if ac L G x n then ((2 ^ n : Nat) : Int) else 0) := rfl
    rcases Nat.lt_or_ge r n with z | z
    · obtain ⟨q, hq⟩ := mk_q z
      by_cases w : ac L G x n
      · refine ⟨q + ((2 ^ (n - r - 1) : Nat) : Int), ?_⟩
        have e2 : ((2 ^ n : Nat) : Int) = 2 * ((2 ^ r : Nat) : Int) * ((2 ^ (n - r - 1) : Nat) : Int) := by
          have : 2 ^ n = 2 * 2 ^ r * 2 ^ (n - r - 1) := by
            rw [Nat.mul_comm 2, ← Nat.pow_succ, ← Nat.pow_add]
            congr 1
            omega
          rw [this, Int.natCast_mul, Int.natCast_mul]
          rfl
        rw [e, hq, if_pos w, e2, Int.mul_add]
        omega
      · exact ⟨q, by rw [e, hq, if_neg w]; omega⟩
    · have : r = n := by omega
      subst this
      refine ⟨0, ?_⟩
      rw [e]
      split <;> simp
theorem mk_bit {L G : Nat → Int} {x : Int} {r n : Nat} (h : r < n) : mk L G x n / ((2 ^ r : Nat) : Int) % 2 = if ac L G x r then 1 else 0 := by
  obtain ⟨q, hq⟩ := mk_q (L := L) (G := G) (x := x) h
  have hb := mk_b (L := L) (G := G) (x := x) r
  have hp : (0 : Int) < ((2 ^ r : Nat) : Int) := by
    have := Nat.two_pow_pos r
    omega
  generalize ((2 ^ r : Nat) : Int) = P at *
  have e : mk L G x n = mk L G x r + ((if ac L G x r then 1 else 0) + 2 * q) * P := by
    rw [hq, Int.add_mul]
    have : 2 * P * q = 2 * q * P := by rw [Int.mul_assoc, Int.mul_comm P q, ← Int.mul_assoc]
    omega
  rw [e, Int.add_mul_ediv_right _ _ (by omega), Int.ediv_eq_zero_of_lt hb.1 hb.2]
  split <;> omega
theorem mk_all {L G : Nat → Int} {x : Int} : ∀ n : Nat, mk L G x n = ((2 ^ n : Nat) : Int) - 1 ↔ alla L G x n = true
  | 0 => by simp [mk, sm, alla]
  | n + 1 => by
    have e : mk L G x (n + 1) = mk L G x n + (if ac L G x n then ((2 ^ n : Nat) : Int) else 0) := rfl
    have ih := mk_all (L := L) (G := G) (x := x) n
    have hb := mk_b (L := L) (G := G) (x := x) n
    have ep : ((2 ^ (n + 1) : Nat) : Int) = 2 * ((2 ^ n : Nat) : Int) := by rw [Nat.pow_succ, Int.natCast_mul]; omega
    rw [e, ep]
    by_cases w : ac L G x n
    · rw [if_pos w]
      simp only [alla, w, decide_true, Bool.and_true]
      rw [← ih]
      omega
    · rw [if_neg w]
      simp only [alla, w, decide_false, Bool.and_false]
      constructor
      · intro q
        omega
      · intro q
        cases q
theorem up_pair {M : Mem} {i a b : Nat} {x y x' y' : Int} (hab : a ≠ b) : up2 (up2 (up2 (up2 M i a x) i b y) i a x') i b y' = up2 (up2 M i a x') i b y' := by
  unfold up2
  simp only [stc_stc, stc_s]
  refine stc_eq fun k => ?_
  unfold uz
  by_cases h1 : k = b
  · rw [if_pos h1, if_pos h1]
  · rw [if_neg h1, if_neg h1]
    by_cases h2 : k = a <;> simp [h1, h2]
    intro q
    exact absurd q hab
/-- Euclid without a bound -/
theorem gcd_end {x y : Int} (hx : 0 ≤ x) (hy : y = 0) : x = (Int.gcd x y : Int) := by
  rw [hy, Int.gcd_zero_right]
  omega
/-- the search for the best split: a is the best value so far, over b; what has been looked at satisfies P -/
def BestIn (v : Int → Int) (x lo hi : Int) (P : Int → Int → Prop) : Prop := okS x lo hi ∧ ∀ lo' hi' : Int, okS x lo' hi' → P lo' hi' → sN v x lo' hi' * sD lo hi ≤ sN v x lo hi * sD lo' hi' ∧ (sN v x lo' hi' * sD lo hi = sN v x lo hi * sD lo' hi' → lo < lo' ∨ (lo = lo' ∧ hi ≤ hi'))
theorem sD_pos {x lo hi : Int} (h : okS x lo hi) : 0 < sD lo hi := by
  unfold sD
  rcases h with ⟨q1, q2⟩ | ⟨q1, q2⟩ <;> split <;> omega
theorem BestIn_0 {v : Int → Int} {x : Int} : BestIn v x x x (fun lo hi => lo = x ∧ hi = x) := by
  refine ⟨Or.inl ⟨rfl, rfl⟩, fun lo' hi' _ h => ?_⟩
  rw [h.1, h.2]
  exact ⟨Int.le_refl _, fun _ => Or.inr ⟨rfl, Int.le_refl _⟩⟩
theorem BestIn_w {v : Int → Int} {x lo hi : Int} {P P' : Int → Int → Prop} (h : BestIn v x lo hi P) (hp : ∀ a b, okS x a b → P' a b → P a b) : BestIn v x lo hi P' := ⟨h.1, fun a b hk hq => h.2 a b hk (hp a b hk hq)⟩
/-- another split, that is looked at behind all others, and is the better one where they are even -/
theorem BestIn_yes {v : Int → Int} {x lo hi l h2 : Int} {P : Int → Int → Prop} (h : BestIn v x lo hi P) (hk : okS x l h2) (hb : sN v x lo hi * sD l h2 ≤ sN v x l h2 * sD lo hi) (hP : ∀ a b, okS x a b → P a b → l < a ∨ (l = a ∧ h2 ≤ b)) : BestIn v x l h2 (fun a b => P a b ∨ (a = l ∧ b = h2)) := by
  refine ⟨hk, fun a b ha hq => ?_⟩
  rcases hq with hq | ⟨rfl, rfl⟩
  · obtain ⟨g1, g2⟩ := h.2 a b ha hq
    have p1 := sD_pos h.1
    have p2 := sD_pos hk
    have p3 := sD_pos ha
    refine ⟨?_, fun _ => hP a b ha hq⟩
    have e1 : sN v x a b * sD l h2 * sD lo hi = sN v x a b * sD lo hi * sD l h2 := by grind
    have e2 : sN v x l h2 * sD a b * sD lo hi = sN v x l h2 * sD lo hi * sD a b := by grind
    have i1 := Int.mul_le_mul_of_nonneg_right g1 (show 0 ≤ sD l h2 by omega)
    have i2 := Int.mul_le_mul_of_nonneg_right hb (show 0 ≤ sD a b by omega)
    have e3 : sN v x lo hi * sD a b * sD l h2 = sN v x lo hi * sD l h2 * sD a b := by grind
    exact le_of_mul p1 (by rw [e1, e2]; omega)
  · exact ⟨Int.le_refl _, fun _ => Or.inr ⟨rfl, Int.le_refl _⟩⟩
theorem BestIn_no {v : Int → Int} {x lo hi l h2 : Int} {P : Int → Int → Prop} (h : BestIn v x lo hi P) (hb : sN v x l h2 * sD lo hi < sN v x lo hi * sD l h2) : BestIn v x lo hi (fun a b => P a b ∨ (a = l ∧ b = h2)) := by
  refine ⟨h.1, fun a b ha hq => ?_⟩
  rcases hq with hq | ⟨rfl, rfl⟩
  · exact h.2 a b ha hq
  · exact ⟨Int.le_of_lt hb, fun q => by omega⟩
theorem up2_up2 {M : Mem} {i k : Nat} {x y : Int} : up2 (up2 M i k x) i k y = up2 M i k y := by
  unfold up2
  rw [stc_stc, stc_s]
  refine stc_eq fun j => ?_
  unfold uz
  by_cases h : j = k <;> simp [h]
theorem or0 (x : Int) : zI x ||| zI 0 = zI x := by
  show zI x ||| 0 = zI x
  simp
theorem sN_b {v : Int → Int} {x lo hi : Int} (hv : ∀ y : Int, -495 ≤ v y ∧ v y ≤ 990) (hx : 0 ≤ x ∧ x ≤ 100) (h : okS x lo hi) : -198000 ≤ sN v x lo hi ∧ sN v x lo hi ≤ 198000 := by
  have h1 := hv x
  have h2 := hv lo
  have h3 := hv hi
  unfold sN
  rcases h with h | h
  · rw [if_pos (by omega)]
    omega
  · rw [if_neg (by omega)]
    have m1 := mulS (a := hi - x) (A := 100) (b := v lo) (B := 990) (by omega) (by omega)
    have m2 := mulS (a := x - lo) (A := 100) (b := v hi) (B := 990) (by omega) (by omega)
    omega
theorem sD_b {x lo hi : Int} (hx : 0 ≤ x ∧ x ≤ 100) (h : okS x lo hi) : sD lo hi ≤ 100 := by
  unfold sD
  rcases h with h | h <;> split <;> omega
