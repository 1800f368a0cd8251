/-! ===== best splits as functions; gains ===== -/
theorem bstF_b {x lo hi : Int} (h : okS x lo hi) (hx : 0 ≤ x ∧ x ≤ 100) (j : Nat) : 0 ≤ bstF x lo hi j ∧ bstF x lo hi j ≤ 200 := by
  have h1 := wLo_b h hx
  have h2 := wHi_b h hx
  show 0 ≤ 0 + (if (j : Int) = lo then wLo x lo hi else 0) + (if (j : Int) = hi then wHi x lo hi else 0) ∧ 0 + (if (j : Int) = lo then wLo x lo hi else 0) + (if (j : Int) = hi then wHi x lo hi else 0) ≤ 200
  split <;> split <;> omega
theorem bst_uz {Z : Nat → Int} {x lo hi : Int} (hz : ∀ j, j < 101 → Z j = 0) (hlo : 0 ≤ lo) (hhi : 0 ≤ hi) {j : Nat} (hj : j < 101) : uz (uz Z lo.toNat (Z lo.toNat + wLo x lo hi)) hi.toNat (uz Z lo.toNat (Z lo.toNat + wLo x lo hi) hi.toNat + wHi x lo hi) j = bstF x lo hi j := by
  rw [uzadd, uzadd, hz j hj]
  simp only [iff_nat (j := j) hlo, iff_nat (j := j) hhi]
  rfl
/-- the value of a split of weights, above and below the line -/
def eN (v : Int → Int) (x lo hi : Int) : Int := wLo x lo hi * v lo + wHi x lo hi * v hi
def eD (x lo hi : Int) : Int := wLo x lo hi + wHi x lo hi
theorem fr_scale {a b g : Int} (hg : 0 < g) (hb : 0 < b) : frA (g * a) (g * b) = frA a b ∧ frB (g * a) (g * b) = frB a b := by
  unfold frA frB
  have e : (Int.gcd (g * a) (g * b) : Int) = g * (Int.gcd a b : Int) := by
    rw [Int.gcd_mul_left, Int.natCast_mul]
    congr 1
    omega
  rw [e]
  exact ⟨Int.mul_tdiv_mul_of_pos _ _ hg, Int.mul_tdiv_mul_of_pos _ _ hg⟩
/-- the same fraction, with the weights as they are and divided -/
theorem fr_env {v : Int → Int} {x lo hi : Int} (h : okS x lo hi) : frA (eN v x lo hi) (eD x lo hi) = frA (sN v x lo hi) (sD lo hi) ∧ frB (eN v x lo hi) (eD x lo hi) = frB (sN v x lo hi) (sD lo hi) := by
  have hp := w_pos h
  rcases h with ⟨h1, h2⟩ | ⟨h1, h2⟩
  · have e : lo = hi := by omega
    unfold eN eD sN sD wLo wHi
    rw [if_pos e, if_pos e, if_pos e, if_pos e, h1]
    simp
  · have ne : lo ≠ hi := by omega
    have g1 : 0 < (Int.gcd (hi - x) (x - lo) : Int) := by
      have := Int.gcd_pos_of_ne_zero_left (x - lo) (show hi - x ≠ 0 by omega)
      omega
    have d1 := Int.tdiv_mul_cancel (Int.gcd_dvd_left (hi - x) (x - lo))
    have d2 := Int.tdiv_mul_cancel (Int.gcd_dvd_right (hi - x) (x - lo))
    have e1 : sN v x lo hi = (Int.gcd (hi - x) (x - lo) : Int) * eN v x lo hi := by
      unfold sN eN wLo wHi
      rw [if_neg ne, if_neg ne, if_neg ne]
      generalize (Int.gcd (hi - x) (x - lo) : Int) = g at *
      generalize (hi - x).tdiv g = p at *
      generalize (x - lo).tdiv g = q at *
      rw [← d1, ← d2]
      grind
    have e2 : sD lo hi = (Int.gcd (hi - x) (x - lo) : Int) * eD x lo hi := by
      unfold sD eD wLo wHi
      rw [if_neg ne, if_neg ne, if_neg ne]
      generalize (Int.gcd (hi - x) (x - lo) : Int) = g at *
      generalize (hi - x).tdiv g = p at *
      generalize (x - lo).tdiv g = q at *
      have : hi - lo = (hi - x) + (x - lo) := by omega
      rw [this, ← d1, ← d2]
      grind
    rw [e1, e2]
    have := fr_scale (a := eN v x lo hi) (b := eD x lo hi) g1 hp
    exact ⟨this.1.symm, this.2.symm⟩
theorem fr_b {a b A : Int} (ha : -A ≤ a ∧ a ≤ A) (hb : 0 < b) : (-A ≤ frA a b ∧ frA a b ≤ A) ∧ 0 < frB a b ∧ frB a b ≤ b ∧ frA a b * b = a * frB a b := by
  have g1 := fr_g (a := a) hb
  have d1 := Int.tdiv_mul_cancel (Int.gcd_dvd_left a b)
  have d2 := Int.tdiv_mul_cancel (Int.gcd_dvd_right a b)
  unfold frA frB
  generalize (Int.gcd a b : Int) = g at *
  have k1 : 0 < b.tdiv g := by
    rcases Int.lt_or_le 0 (b.tdiv g) with q | q
    · exact q
    · have := Int.mul_nonneg (show 0 ≤ -(b.tdiv g) by omega) (show 0 ≤ g by omega)
      rw [Int.neg_mul] at this
      omega
  have k2 : b.tdiv g ≤ b := by
    have := Int.mul_le_mul_of_nonneg_left g1 (show 0 ≤ b.tdiv g by omega)
    omega
  refine ⟨?_, k1, k2, ?_⟩
  · generalize a.tdiv g = q at *
    rcases Int.lt_or_le q 0 with z | z
    · have := Int.mul_le_mul_of_nonneg_left g1 (show 0 ≤ -q by omega)
      rw [Int.neg_mul, Int.neg_mul, Int.mul_one] at this
      omega
    · have := Int.mul_le_mul_of_nonneg_left g1 z
      omega
  · have : a.tdiv g * b = a.tdiv g * (b.tdiv g * g) := by rw [d2]
    rw [this]
    have : a * b.tdiv g = a.tdiv g * g * b.tdiv g := by rw [d1]
    rw [this]
    grind
/-- what the best split gains over the value at x itself: above the line, of eD below it -/
def gN (v : Int → Int) (x lo hi : Int) : Int := eN v x lo hi - eD x lo hi * v x
theorem gN_nn {v : Int → Int} {x lo hi : Int} (h : isB v x lo hi) : 0 ≤ gN v x lo hi := by
  have hp := w_pos h.1
  have h1 := (h.2 x x (Or.inl ⟨rfl, rfl⟩)).1
  have e1 : sN v x x x = v x := by unfold sN; rw [if_pos rfl]
  have e2 : sD x x = 1 := by unfold sD; rw [if_pos rfl]
  rw [e1, e2, Int.mul_one] at h1
  have hd := sD_pos h.1
  -- sN over sD is eN over eD
  have key : sN v x lo hi * eD x lo hi = eN v x lo hi * sD lo hi := by
    rcases h.1 with ⟨q1, q2⟩ | ⟨q1, q2⟩
    · have e : lo = hi := by omega
      unfold eN eD sN sD wLo wHi
      rw [if_pos e, if_pos e, if_pos e, if_pos e, q1]
      simp
    · have ne : lo ≠ hi := by omega
      have d1 := Int.tdiv_mul_cancel (Int.gcd_dvd_left (hi - x) (x - lo))
      have d2 := Int.tdiv_mul_cancel (Int.gcd_dvd_right (hi - x) (x - lo))
      unfold eN eD sN sD wLo wHi
      rw [if_neg ne, if_neg ne, if_neg ne, if_neg ne]
      generalize (Int.gcd (hi - x) (x - lo) : Int) = g at *
      generalize (hi - x).tdiv g = p at *
      generalize (x - lo).tdiv g = q at *
      have e3 : hi - lo = (hi - x) + (x - lo) := by omega
      rw [e3, ← d1, ← d2]
      grind
  unfold gN
  have h3 : v x * sD lo hi * eD x lo hi ≤ sN v x lo hi * eD x lo hi := Int.mul_le_mul_of_nonneg_right h1 (by unfold eD; omega)
  rw [key] at h3
  have h4 : (eD x lo hi * v x) * sD lo hi ≤ eN v x lo hi * sD lo hi := by
    have : eD x lo hi * v x * sD lo hi = v x * sD lo hi * eD x lo hi := by grind
    omega
  have := le_of_mul hd h4
  omega
theorem eN_b {v : Int → Int} {x lo hi : Int} (hv : ∀ y : Int, -495 ≤ v y ∧ v y ≤ 990) (hx : 0 ≤ x ∧ x ≤ 100) (h : okS x lo hi) : (-198000 ≤ eN v x lo hi ∧ eN v x lo hi ≤ 198000) ∧ (0 < eD x lo hi ∧ eD x lo hi ≤ 200) ∧ (-396000 ≤ gN v x lo hi ∧ gN v x lo hi ≤ 396000) := by
  have h1 := wLo_b h hx
  have h2 := wHi_b h hx
  have h3 := w_pos h
  have v1 := hv lo
  have v2 := hv hi
  have v3 := hv x
  have m1 := mulS (a := wLo x lo hi) (A := 100) (b := v lo) (B := 990) h1 (by omega)
  have m2 := mulS (a := wHi x lo hi) (A := 100) (b := v hi) (B := 990) h2 (by omega)
  have m3 := mulS (a := wLo x lo hi + wHi x lo hi) (A := 200) (b := v x) (B := 990) (by omega) (by omega)
  unfold gN eN eD
  exact ⟨by omega, by omega, by omega⟩
/-- the prior y of the greatest gain, the lowest one: of the gain a over b -/
def MG (v : Int → Int) (y a b : Int) : Prop := (1 ≤ y ∧ y ≤ 99) ∧ (∃ lo hi, isB v y lo hi ∧ a = frA (gN v y lo hi) (eD y lo hi) ∧ b = frB (gN v y lo hi) (eD y lo hi)) ∧ ∀ z lo hi : Int, 1 ≤ z → z ≤ 99 → isB v z lo hi → gN v z lo hi * b ≤ a * eD z lo hi ∧ (z < y → gN v z lo hi * b < a * eD z lo hi)
theorem MG_uniq {v u : Int → Int} {y a b y' a' b' : Int} (hv : ∀ y : Int, -495 ≤ v y ∧ v y ≤ 990) (h : MG v y a b) (g : MG u y' a' b') (e : ∀ z, 0 ≤ z → z ≤ 100 → v z = u z) : y = y' ∧ a = a' ∧ b = b' := by
  obtain ⟨h1, ⟨lo, hi, h2, h3, h4⟩, h5⟩ := h
  obtain ⟨g1, ⟨lo', hi', g2, g3, g4⟩, g5⟩ := g
  have eg : ∀ z lo hi, 0 ≤ z → z ≤ 100 → okS z lo hi → gN u z lo hi = gN v z lo hi := fun z lo hi q1 q2 q3 => by
    have := okS_rng q3 ⟨q1, q2⟩
    unfold gN eN
    rw [e lo (by omega) (by omega), e hi (by omega) (by omega), e z q1 q2]
  have b1 := isB_cong h2 e (by omega)
  have b2 := isB_cong g2 (fun z q1 q2 => (e z q1 q2).symm) (by omega)
  have k1 := g5 y lo hi h1.1 h1.2 b1
  have k2 := h5 y' lo' hi' g1.1 g1.2 b2
  rw [eg y lo hi (by omega) (by omega) h2.1] at k1
  rw [eg y' lo' hi' (by omega) (by omega) g2.1] at g3 g4
  have n1 := eN_b hv (x := y) (by omega) h2.1
  have n2 := eN_b hv (x := y') (by omega) b2.1
  have f1 := fr_b (a := gN v y lo hi) (b := eD y lo hi) (A := 396000) (by omega) n1.2.1.1
  have f2 := fr_b (a := gN v y' lo' hi') (b := eD y' lo' hi') (A := 396000) (by omega) n2.2.1.1
  rw [← h3, ← h4] at f1
  rw [← g3, ← g4] at f2
  have c1 : gN v y lo hi * b' ≤ a' * eD y lo hi ↔ a * b' ≤ a' * b := by
    constructor
    · intro q
      have q1 := Int.mul_le_mul_of_nonneg_right q (show 0 ≤ b by omega)
      have z1 : gN v y lo hi * b' * b = a * b' * eD y lo hi := by
        have : gN v y lo hi * b' * b = (gN v y lo hi * b) * b' := by grind
        rw [this, ← f1.2.2.2]
        grind
      have z2 : a' * eD y lo hi * b = a' * b * eD y lo hi := by grind
      rw [z1, z2] at q1
      exact le_of_mul n1.2.1.1 q1
    · intro q
      have q1 := Int.mul_le_mul_of_nonneg_right q (show 0 ≤ eD y lo hi by omega)
      have z1 : gN v y lo hi * b' * b = a * b' * eD y lo hi := by
        have : gN v y lo hi * b' * b = (gN v y lo hi * b) * b' := by grind
        rw [this, ← f1.2.2.2]
        grind
      have z2 : a' * eD y lo hi * b = a' * b * eD y lo hi := by grind
      rw [← z1, ← z2] at q1
      exact le_of_mul (show 0 < b by omega) q1
  have c2 : gN v y' lo' hi' * b ≤ a * eD y' lo' hi' ↔ a' * b ≤ a * b' := by
    constructor
    · intro q
      have q1 := Int.mul_le_mul_of_nonneg_right q (show 0 ≤ b' by omega)
      have z1 : gN v y' lo' hi' * b * b' = a' * b * eD y' lo' hi' := by
        have : gN v y' lo' hi' * b * b' = (gN v y' lo' hi' * b') * b := by grind
        rw [this, ← f2.2.2.2]
        grind
      have z2 : a * eD y' lo' hi' * b' = a * b' * eD y' lo' hi' := by grind
      rw [z1, z2] at q1
      exact le_of_mul n2.2.1.1 q1
    · intro q
      have q1 := Int.mul_le_mul_of_nonneg_right q (show 0 ≤ eD y' lo' hi' by omega)
      have z1 : gN v y' lo' hi' * b * b' = a' * b * eD y' lo' hi' := by
        have : gN v y' lo' hi' * b * b' = (gN v y' lo' hi' * b') * b := by grind
        rw [this, ← f2.2.2.2]
        grind
      have z2 : a * eD y' lo' hi' * b' = a * b' * eD y' lo' hi' := by grind
      rw [← z1, ← z2] at q1
      exact le_of_mul (show 0 < b' by omega) q1
  have p1 := c1.mp k1.1
  have p2 := c2.mp k2.1
  have hy : y = y' := by
    rcases (show y < y' ∨ y = y' ∨ y' < y by omega) with q | q | q
    · exfalso
      have w := k1.2 q
      have := c1
      have nn : ¬ (a' * eD y lo hi ≤ gN v y lo hi * b') := by omega
      apply nn
      have q1 := Int.mul_le_mul_of_nonneg_right p2 (show 0 ≤ eD y lo hi by omega)
      have z1 : gN v y lo hi * b' * b = a * b' * eD y lo hi := by
        have : gN v y lo hi * b' * b = (gN v y lo hi * b) * b' := by grind
        rw [this, ← f1.2.2.2]
        grind
      have z2 : a' * eD y lo hi * b = a' * b * eD y lo hi := by grind
      rw [← z1, ← z2] at q1
      exact le_of_mul (show 0 < b by omega) q1
    · exact q
    · exfalso
      have w := k2.2 q
      have nn : ¬ (a * eD y' lo' hi' ≤ gN v y' lo' hi' * b) := by omega
      apply nn
      have q1 := Int.mul_le_mul_of_nonneg_right p1 (show 0 ≤ eD y' lo' hi' by omega)
      have z1 : gN v y' lo' hi' * b * b' = a' * b * eD y' lo' hi' := by
        have : gN v y' lo' hi' * b * b' = (gN v y' lo' hi' * b') * b := by grind
        rw [this, ← f2.2.2.2]
        grind
      have z2 : a * eD y' lo' hi' * b' = a * b' * eD y' lo' hi' := by grind
      rw [← z1, ← z2] at q1
      exact le_of_mul (show 0 < b' by omega) q1
  subst hy
  obtain ⟨l1, l2⟩ := isB_uniq h2 g2 e (by omega)
  subst l1
  subst l2
  exact ⟨rfl, by rw [h3, g3], by rw [h4, g4]⟩
theorem red_red {F : Nat → Int} (hF : ∀ j, j < 101 → 0 ≤ F j) {j : Nat} (hj : j < 101) : red (red F) j = red F j := by
  by_cases h0 : ∃ j0, j0 < 101 ∧ 0 < F j0
  · obtain ⟨j0, h1, h2⟩ := h0
    have e : ∀ j, j < 101 → F j = (fun j => if j < 101 then F j else 0) j := fun j hj => (if_pos hj).symm
    have g : gfo (red F) 101 = 1 := by
      have := red_gfo (F := fun j => if j < 101 then F j else 0) (fun j => by
        split
        · next h => exact hF j h
        · exact Int.le_refl _) h1 (by rw [if_pos h1]; exact h2)
      rw [← this]
      exact gfo_cong (fun j hj => red_cong e hj)
    show (red F j).tdiv (gfo (red F) 101) = red F j
    rw [g, Int.tdiv_one]
  · have z : F j = 0 := by
      have := hF j hj
      rcases Int.lt_or_le 0 (F j) with q | q
      · exact absurd ⟨j, hj, q⟩ h0
      · omega
    have : red F j = 0 := by unfold red; rw [z]; exact Int.zero_tdiv _
    show (red F j).tdiv (gfo (red F) 101) = red F j
    rw [this]
    exact Int.zero_tdiv _
theorem opF_red {F G : Nat → Int} {a a' : AS} {r : Int} (e : ∀ j, j < 101 → red F j = red G j) (h : opF F a r a') : opF G a r a' := by
  have ek : okF (red F) ↔ okF (red G) := okF_cong e
  refine ⟨fun q => h.1 (fun w => q (ek.mp w)), fun q => ?_⟩
  obtain ⟨m, W, Q, s1, s2⟩ := h.2 (ek.mpr q)
  exact ⟨m, W, Q, SplitOf_cong s1 e, s2⟩
