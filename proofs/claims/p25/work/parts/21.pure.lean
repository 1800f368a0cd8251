/-! ===== gcd, fractions, sums ===== -/
theorem gcdS {x y : Int} (hx : 0 ≤ x) (hy : 0 < y) : Int.gcd y (x.tmod y) = Int.gcd x y := by
  obtain ⟨a, rfl⟩ := Int.eq_ofNat_of_zero_le hx
  obtain ⟨b, rfl⟩ := Int.eq_ofNat_of_zero_le (Int.le_of_lt hy)
  rw [← Int.ofNat_tmod, Int.gcd_natCast_natCast, Int.gcd_natCast_natCast, Nat.gcd_comm a b, Nat.gcd_rec b a, Nat.gcd_comm]
theorem gcdM {x y : Int} (hx : 0 ≤ x) (hy : 0 < y) : 0 ≤ x.tmod y ∧ x.tmod y < y ∧ x.tmod y ≤ x := by
  rw [Int.tmod_eq_emod_of_nonneg hx]
  refine ⟨Int.emod_nonneg _ (by omega), Int.emod_lt_of_pos _ hy, ?_⟩
  have h1 := Int.emod_add_mul_ediv x y
  have h2 : 0 ≤ y * (x / y) := Int.mul_nonneg (by omega) (Int.ediv_nonneg hx (by omega))
  omega
theorem gcdP {x y : Int} (hx : 0 ≤ x) (hy : 0 < y) (h : y ≤ x) : 2 * (y * x.tmod y) ≤ x * y := by
  have h1 := gcdM hx hy
  have h2 : 2 * x.tmod y ≤ x := by
    rw [Int.tmod_eq_emod_of_nonneg hx] at h1 ⊢
    have h3 := Int.emod_add_mul_ediv x y
    have h4 : 1 ≤ x / y := by
      rw [Int.le_ediv_iff_mul_le hy]
      omega
    have h5 : y * 1 ≤ y * (x / y) := Int.mul_le_mul_of_nonneg_left h4 (by omega)
    omega
  have h6 : y * (2 * x.tmod y) ≤ y * x := Int.mul_le_mul_of_nonneg_left h2 (by omega)
  have e1 : y * (2 * x.tmod y) = 2 * (y * x.tmod y) := by rw [Int.mul_left_comm]
  rw [e1, Int.mul_comm y x] at h6
  exact h6
/-- Euclid's steps: after k of them, with x and y in hand -/
def GI (a b : Int) (k : Nat) (x y : Int) : Prop := 0 ≤ x ∧ 0 ≤ y ∧ x ≤ 1073741824 ∧ y ≤ 1073741824 ∧ Int.gcd x y = Int.gcd a b ∧ ((2 ^ k : Nat) : Int) * (x * y) ≤ 2305843009213693952 ∧ (k = 0 → x * y ≤ 1152921504606846976) ∧ (0 < k → y ≤ x)
theorem GI_0 {a b x y : Int} (ha : -1073741824 ≤ a ∧ a ≤ 1073741824) (hb : -1073741824 ≤ b ∧ b ≤ 1073741824) (hx : x = if 0 ≤ a then a else -a) (hy : y = if 0 ≤ b then b else -b) : GI a b 0 x y := by
  have h1 : 0 ≤ x ∧ x ≤ 1073741824 := by rw [hx]; split <;> omega
  have h2 : 0 ≤ y ∧ y ≤ 1073741824 := by rw [hy]; split <;> omega
  have h3 := (mulB h1 h2).2
  have e1 : Int.gcd x y = Int.gcd a b := by
    rw [hx, hy]
    split <;> split <;> simp
  exact ⟨h1.1, h2.1, h1.2, h2.2, e1, by simp; omega, fun _ => by omega, fun h => absurd h (by omega)⟩
theorem GI_s {a b : Int} {k : Nat} {x y : Int} (h : GI a b k x y) (hy : 0 < y) : GI a b (k + 1) y (x.tmod y) := by
  obtain ⟨h1, h2, h3, h4, h5, h6, h7, h8⟩ := h
  have m := gcdM h1 hy
  refine ⟨h2, m.1, h4, by omega, by rw [gcdS h1 hy, h5], ?_, fun q => absurd q (by omega), fun _ => by omega⟩
  have e : ((2 ^ (k + 1) : Nat) : Int) * (y * x.tmod y) = ((2 ^ k : Nat) : Int) * (2 * (y * x.tmod y)) := by
    rw [Nat.pow_succ, Int.natCast_mul, Int.mul_assoc]; rfl
  rw [e]
  rcases Nat.eq_zero_or_pos k with q | q
  · subst q
    have p1 : y * x.tmod y ≤ y * x := Int.mul_le_mul_of_nonneg_left m.2.2 (by omega)
    have p2 := h7 rfl
    rw [Int.mul_comm y x] at p1
    simp
    omega
  · have p1 := gcdP h1 hy (h8 q)
    have p2 : ((2 ^ k : Nat) : Int) * (2 * (y * x.tmod y)) ≤ ((2 ^ k : Nat) : Int) * (x * y) := Int.mul_le_mul_of_nonneg_left p1 (Int.natCast_nonneg _)
    omega
theorem GI_e {a b : Int} {k : Nat} {x y : Int} (h : GI a b k x y) (he : y ≤ 0 ∨ 64 ≤ k) : x = (Int.gcd a b : Int) := by
  obtain ⟨h1, h2, h3, h4, h5, h6, h7, h8⟩ := h
  have hy : y = 0 := by
    rcases he with q | q
    · omega
    · have p0 : 0 ≤ x * y := Int.mul_nonneg h1 h2
      have p1 : (2 ^ 64 : Nat) ≤ 2 ^ k := Nat.pow_le_pow_right (by decide) q
      have p2 : ((2 ^ 64 : Nat) : Int) * (x * y) ≤ ((2 ^ k : Nat) : Int) * (x * y) := Int.mul_le_mul_of_nonneg_right (Int.ofNat_le.mpr p1) p0
      have p3 : x * y = 0 := by
        have : ((2 ^ 64 : Nat) : Int) = 18446744073709551616 := by decide
        rw [this] at p2
        omega
      rcases Int.mul_eq_zero.mp p3 with q2 | q2
      · have := h8 (by omega); omega
      · exact q2
  subst hy
  rw [← h5, Int.gcd_zero_right]
  omega
def gfo (F : Nat → Int) : Nat → Int
  | 0 => 0
  | n + 1 => (Int.gcd (F n) (gfo F n) : Int)
theorem gfo_b {F : Nat → Int} {B : Int} (hB : 0 ≤ B) : ∀ {n : Nat}, (∀ k, k < n → 0 ≤ F k ∧ F k ≤ B) → 0 ≤ gfo F n ∧ gfo F n ≤ B
  | 0, _ => ⟨Int.le_refl _, hB⟩
  | n + 1, h => by
    have ih := gfo_b hB (n := n) (fun k hk => h k (by omega))
    have h1 := h n (by omega)
    refine ⟨Int.natCast_nonneg _, ?_⟩
    show (Int.gcd (F n) (gfo F n) : Int) ≤ B
    by_cases q : F n = 0
    · rw [q, Int.gcd_comm, Int.gcd_zero_right]
      omega
    · have h2 := Int.le_of_dvd (show 0 < F n by omega) (Int.gcd_dvd_left (F n) (gfo F n))
      omega
theorem gfo_dvd {F : Nat → Int} : ∀ {n k : Nat}, k < n → gfo F n ∣ F k
  | n + 1, k, h => by
    show (Int.gcd (F n) (gfo F n) : Int) ∣ F k
    rcases Nat.lt_or_ge k n with q | q
    · exact Int.dvd_trans (Int.gcd_dvd_right _ _) (gfo_dvd q)
    · have : k = n := by omega
      subst this
      exact Int.gcd_dvd_left _ _
theorem gfo_great {F : Nat → Int} {d : Int} : ∀ {n : Nat}, (∀ k, k < n → d ∣ F k) → d ∣ gfo F n
  | 0, _ => Int.dvd_zero d
  | n + 1, h => Int.dvd_coe_gcd (h n (by omega)) (gfo_great (fun k hk => h k (by omega)))
theorem gfo_cong {F G : Nat → Int} : ∀ {n : Nat}, (∀ k, k < n → F k = G k) → gfo F n = gfo G n
  | 0, _ => rfl
  | n + 1, h => by
    show (Int.gcd (F n) (gfo F n) : Int) = (Int.gcd (G n) (gfo G n) : Int)
    rw [h n (by omega), gfo_cong (fun k hk => h k (by omega))]
/-- how many are above 0 -/
def cnt (F : Nat → Int) : Nat → Int
  | 0 => 0
  | n + 1 => cnt F n + (if 0 < F n then 1 else 0)
theorem cnt_b (F : Nat → Int) : ∀ n : Nat, 0 ≤ cnt F n ∧ cnt F n ≤ (n : Int)
  | 0 => by simp [cnt]
  | n + 1 => by
    have h := cnt_b F n
    simp only [cnt]
    split <;> omega
theorem cnt_cong {F G : Nat → Int} : ∀ {n : Nat}, (∀ k, k < n → F k = G k) → cnt F n = cnt G n
  | 0, _ => rfl
  | n + 1, h => by
    simp only [cnt]
    rw [h n (by omega), cnt_cong (fun k hk => h k (by omega))]
theorem cnt_mono (F : Nat → Int) {m n : Nat} (h : m ≤ n) : cnt F m ≤ cnt F n := by
  induction n with
  | zero => have : m = 0 := by omega
            subst this; exact Int.le_refl _
  | succ n ih =>
    rcases Nat.lt_or_ge m (n + 1) with q | q
    · have := ih (by omega)
      simp only [cnt]
      split <;> omega
    · have : m = n + 1 := by omega
      subst this; exact Int.le_refl _
def zL (z : Int) : Int64 := Int64.ofInt z
theorem zL_mul (a b : Int) : zL a * zL b = zL (a * b) := (Int64.ofInt_mul a b).symm
theorem zI_L {a : Int} (h : -2147483648 ≤ a ∧ a ≤ 2147483647) : (zI a).toInt64 = zL a := by
  refine Int64.toInt_inj.mp ?_
  rw [Int32.toInt_toInt64, zI_T h]
  exact (Int64.toInt_ofInt_of_le (by omega) (by omega)).symm
theorem zL_T {z : Int} (h : -9223372036854775808 ≤ z ∧ z ≤ 9223372036854775807) : (zL z).toInt = z := Int64.toInt_ofInt_of_le (by omega) (by omega)
theorem zL_cmp {a b : Int} (ha : -9223372036854775808 ≤ a ∧ a ≤ 9223372036854775807) (hb : -9223372036854775808 ≤ b ∧ b ≤ 9223372036854775807) : lg_cmp (zL a) (zL b) = zI (if b < a then 1 else if a = b then 0 else -1) := by
  unfold lg_cmp
  simp only [gt_iff_lt, Int64.lt_iff_toInt_lt, ← Int64.toInt_inj, zL_T ha, zL_T hb]
  split
  · rfl
  · split <;> rfl
/-- the number above the line, and below it, in lowest terms -/
def frA (a b : Int) : Int := a.tdiv (Int.gcd a b : Int)
def frB (a b : Int) : Int := b.tdiv (Int.gcd a b : Int)
theorem fr_g {a b : Int} (hb : 0 < b) : 1 ≤ (Int.gcd a b : Int) := by
  have := Int.gcd_pos_of_ne_zero_right a (show b ≠ 0 by omega)
  omega
