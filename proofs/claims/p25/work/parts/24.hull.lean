/-! ===== the least concave function above the values, and the best split ===== -/
theorem mulSS {a b A B : Int} (ha : -A ≤ a ∧ a ≤ A) (hb : -B ≤ b ∧ b ≤ B) : -(A * B) ≤ a * b ∧ a * b ≤ A * B := by
  rcases Int.lt_or_le a 0 with q | q
  · have := mulS (a := -a) (A := A) (b := b) (B := B) (by omega) hb
    rw [Int.neg_mul] at this
    omega
  · exact mulS (by omega) hb
def hgt (v : Int → Int) (l m r : Int) : Int := (v m - v l) * (r - l) - (v r - v l) * (m - l)
theorem hgt_l (v : Int → Int) (l r : Int) : hgt v l l r = 0 := by unfold hgt; simp
theorem hgt_r (v : Int → Int) (l r : Int) : hgt v l r r = 0 := by unfold hgt; simp
theorem le0_of {a b : Int} (ha : 0 < a) (h : a * b ≤ 0) : b ≤ 0 := by
  rcases Int.lt_or_le 0 b with q | q
  · have := Int.mul_pos ha q; omega
  · exact q
theorem lt_of_mul {a b c : Int} (ha : 0 < a) (h : a * b < a * c) : b < c := by
  rcases Int.lt_or_le b c with q | q
  · exact q
  · have := Int.mul_le_mul_of_nonneg_left q (show 0 ≤ a by omega); omega
theorem hgt_T1 {v : Int → Int} {a b p x : Int} (h1 : a < b) (h2 : b < p) (h3 : a ≤ x) (h5 : hgt v a x b ≤ 0) (h6 : hgt v a b p ≤ 0) : hgt v a x p ≤ 0 := by
  have e : (b - a) * hgt v a x p = (p - a) * hgt v a x b + (x - a) * hgt v a b p := by unfold hgt; grind
  have i1 : 0 ≤ (p - a) * (-hgt v a x b) := Int.mul_nonneg (by omega) (by omega)
  have i2 : 0 ≤ (x - a) * (-hgt v a b p) := Int.mul_nonneg (by omega) (by omega)
  rw [Int.mul_neg] at i1 i2
  exact le0_of (show 0 < b - a by omega) (by omega)
theorem hgt_T2 {v : Int → Int} {a b p x : Int} (h1 : a < b) (h2 : b < p) (h4 : x ≤ p) (h5 : hgt v b x p ≤ 0) (h6 : hgt v a b p ≤ 0) : hgt v a x p ≤ 0 := by
  have e : (p - b) * hgt v a x p = (p - a) * hgt v b x p + (p - x) * hgt v a b p := by unfold hgt; grind
  have i1 : 0 ≤ (p - a) * (-hgt v b x p) := Int.mul_nonneg (by omega) (by omega)
  have i2 : 0 ≤ (p - x) * (-hgt v a b p) := Int.mul_nonneg (by omega) (by omega)
  rw [Int.mul_neg] at i1 i2
  exact le0_of (show 0 < p - b by omega) (by omega)
/-- the corners c, n of them, of the values up to p -/
def Hull (v : Int → Int) (c : Nat → Int) (n : Nat) (p : Int) : Prop := (1 ≤ n ∧ (n : Int) ≤ p + 1) ∧ c 0 = 0 ∧ c (n - 1) = p ∧ (∀ i, i + 1 < n → c i < c (i + 1)) ∧ (∀ i, i + 2 < n → 0 < hgt v (c i) (c (i + 1)) (c (i + 2))) ∧ ∀ (i : Nat) (x : Int), i + 1 < n → c i ≤ x → x ≤ c (i + 1) → hgt v (c i) x (c (i + 1)) ≤ 0
/-- while corners are taken off ahead of p -/
def HullP (v : Int → Int) (c : Nat → Int) (n : Nat) (p : Int) : Prop := (1 ≤ n ∧ (n : Int) ≤ p) ∧ c 0 = 0 ∧ c (n - 1) < p ∧ (∀ i, i + 1 < n → c i < c (i + 1)) ∧ (∀ i, i + 2 < n → 0 < hgt v (c i) (c (i + 1)) (c (i + 2))) ∧ (∀ (i : Nat) (x : Int), i + 1 < n → c i ≤ x → x ≤ c (i + 1) → hgt v (c i) x (c (i + 1)) ≤ 0) ∧ ∀ x : Int, c (n - 1) ≤ x → x ≤ p → hgt v (c (n - 1)) x p ≤ 0
theorem Hull_P {v : Int → Int} {c : Nat → Int} {n : Nat} {p : Int} (h : Hull v c n p) : HullP v c n (p + 1) := by
  obtain ⟨h1, h2, h3, h4, h5, h6⟩ := h
  refine ⟨h1, h2, by omega, h4, h5, h6, fun x hx hx2 => ?_⟩
  rcases (show x = c (n - 1) ∨ x = p + 1 by omega) with q | q
  · rw [q, hgt_l]; exact Int.le_refl _
  · rw [q, hgt_r]; exact Int.le_refl _
theorem HullP_pop {v : Int → Int} {c : Nat → Int} {n : Nat} {p : Int} (h : HullP v c n p) (hn : 1 < n) (hp : hgt v (c (n - 2)) (c (n - 1)) p ≤ 0) : HullP v c (n - 1) p := by
  obtain ⟨h1, h2, h3, h4, h5, h6, h7⟩ := h
  have e : n - 1 - 1 = n - 2 := by omega
  have hl := h4 (n - 2) (by omega)
  rw [show n - 2 + 1 = n - 1 by omega] at hl
  refine ⟨by omega, h2, by rw [e]; omega, fun i hi => h4 i (by omega), fun i hi => h5 i (by omega), fun i x hi => h6 i x (by omega), fun x hx hx2 => ?_⟩
  rw [e] at hx ⊢
  rcases Int.lt_or_le (c (n - 1)) x with q | q
  · exact hgt_T2 hl h3 hx2 (h7 x (by omega) hx2) hp
  · have := h6 (n - 2) x (by omega) hx (by rw [show n - 2 + 1 = n - 1 by omega]; exact q)
    rw [show n - 2 + 1 = n - 1 by omega] at this
    exact hgt_T1 hl h3 hx this hp
theorem HullP_push {v : Int → Int} {c : Nat → Int} {n : Nat} {p : Int} (h : HullP v c n p) (hp : n ≤ 1 ∨ 0 < hgt v (c (n - 2)) (c (n - 1)) p) : Hull v (uz c n p) (n + 1) p := by
  obtain ⟨h1, h2, h3, h4, h5, h6, h7⟩ := h
  have o : ∀ i, i < n → uz c n p i = c i := fun i hi => uz_n c p (by omega)
  have hs : uz c n p n = p := uz_s _ _ _
  refine ⟨by omega, by rw [o 0 (by omega)]; exact h2, by rw [show n + 1 - 1 = n by omega]; exact hs, fun i hi => ?_, fun i hi => ?_, fun i x hi hx hx2 => ?_⟩
  · rcases (show i + 1 < n ∨ i + 1 = n by omega) with q | q
    · rw [o i (by omega), o (i + 1) q]; exact h4 i q
    · rw [q, hs, o i (by omega), show i = n - 1 by omega]; exact h3
  · rcases (show i + 2 < n ∨ i + 2 = n by omega) with q | q
    · rw [o i (by omega), o (i + 1) (by omega), o (i + 2) q]; exact h5 i q
    · rw [q, hs, o i (by omega), o (i + 1) (by omega), show i = n - 2 by omega, show n - 2 + 1 = n - 1 by omega]
      rcases hp with z | z
      · omega
      · exact z
  · rcases (show i + 1 < n ∨ i + 1 = n by omega) with q | q
    · rw [o i (by omega)] at hx ⊢
      rw [o (i + 1) q] at hx2 ⊢
      exact h6 i x q hx hx2
    · rw [q, hs] at hx2 ⊢
      rw [o i (by omega), show i = n - 1 by omega] at hx ⊢
      exact h7 x hx hx2
theorem Hull_0 {v : Int → Int} {c : Nat → Int} : Hull v (uz c 0 0) 1 0 := by
  refine ⟨by omega, uz_s _ _ _, uz_s _ _ _, fun i hi => absurd hi (by omega), fun i hi => absurd hi (by omega), fun i x hi => absurd hi (by omega)⟩
/-- by how much the line through l and r lies above a value (times r - l) -/
def gap (v : Int → Int) (l r y : Int) : Int := -hgt v l y r
theorem gap_3 {v : Int → Int} {l r a b c : Int} : gap v l r a * (c - b) + gap v l r c * (b - a) = gap v l r b * (c - a) + (r - l) * hgt v a b c := by
  unfold gap hgt; grind
theorem gap_up {v : Int → Int} {l r a b c : Int} (hlr : l < r) (h1 : a < b) (h2 : b < c) (h3 : 0 < hgt v a b c) (h5 : gap v l r a ≤ gap v l r b) : gap v l r b < gap v l r c := by
  have e := gap_3 (v := v) (l := l) (r := r) (a := a) (b := b) (c := c)
  have i1 : 0 < (r - l) * hgt v a b c := Int.mul_pos (by omega) h3
  have i2 : gap v l r a * (c - b) ≤ gap v l r b * (c - b) := Int.mul_le_mul_of_nonneg_right h5 (by omega)
  have e2 : gap v l r b * (c - a) = gap v l r b * (c - b) + gap v l r b * (b - a) := by rw [← Int.mul_add]; congr 1; omega
  refine lt_of_mul (show 0 < b - a by omega) ?_
  rw [Int.mul_comm, Int.mul_comm (b - a)]
  omega
theorem gap_dn {v : Int → Int} {l r a b c : Int} (hlr : l < r) (h1 : a < b) (h2 : b < c) (h3 : 0 < hgt v a b c) (h5 : gap v l r c ≤ gap v l r b) : gap v l r b < gap v l r a := by
  have e := gap_3 (v := v) (l := l) (r := r) (a := a) (b := b) (c := c)
  have i1 : 0 < (r - l) * hgt v a b c := Int.mul_pos (by omega) h3
  have i2 : gap v l r c * (b - a) ≤ gap v l r b * (b - a) := Int.mul_le_mul_of_nonneg_right h5 (by omega)
  have e2 : gap v l r b * (c - a) = gap v l r b * (c - b) + gap v l r b * (b - a) := by rw [← Int.mul_add]; congr 1; omega
  refine lt_of_mul (show 0 < c - b by omega) ?_
  rw [Int.mul_comm, Int.mul_comm (c - b)]
  omega
theorem Hull_inc {v : Int → Int} {c : Nat → Int} {n : Nat} {p : Int} (h : Hull v c n p) : ∀ {i j : Nat}, i < j → j < n → c i < c j
  | i, j + 1, hij, hj => by
    have h4 := h.2.2.2.1 j (by omega)
    rcases Nat.lt_or_ge i j with q | q
    · have := Hull_inc h q (by omega); omega
    · rw [show i = j by omega]; exact h4
/-- to the right of the stretch i, the gap grows -/
theorem Hull_right {v : Int → Int} {c : Nat → Int} {n : Nat} {p : Int} (h : Hull v c n p) {i : Nat} (hi : i + 1 < n) : ∀ j : Nat, i + 1 ≤ j → j < n → 0 ≤ gap v (c i) (c (i + 1)) (c (j - 1)) ∧ gap v (c i) (c (i + 1)) (c (j - 1)) ≤ gap v (c i) (c (i + 1)) (c j) ∧ (i + 1 < j → 0 < gap v (c i) (c (i + 1)) (c j)) := by
  intro j
  induction j with
  | zero => intro h1; exact absurd h1 (by omega)
  | succ j ih =>
    intro h1 h2
    rw [show j + 1 - 1 = j by omega]
    rcases Nat.lt_or_ge i j with q | q
    · obtain ⟨g1, g2, g3⟩ := ih (by omega) (by omega)
      have g4 := gap_up (h.2.2.2.1 i hi) (Hull_inc h (show j - 1 < j by omega) (by omega)) (h.2.2.2.1 j h2) (by
        have := h.2.2.2.2.1 (j - 1) (by omega)
        rw [show j - 1 + 1 = j by omega, show j - 1 + 2 = j + 1 by omega] at this
        exact this) g2
      exact ⟨by omega, by omega, fun _ => by omega⟩
    · have e : j = i := by omega
      subst e
      have z1 : gap v (c j) (c (j + 1)) (c j) = 0 := by unfold gap; rw [hgt_l]; rfl
      have z2 : gap v (c j) (c (j + 1)) (c (j + 1)) = 0 := by unfold gap; rw [hgt_r]; rfl
      rw [z1, z2]
      exact ⟨by omega, by omega, fun q => absurd q (by omega)⟩
theorem Hull_left {v : Int → Int} {c : Nat → Int} {n : Nat} {p : Int} (h : Hull v c n p) {i : Nat} (hi : i + 1 < n) : ∀ d : Nat, d ≤ i → 0 ≤ gap v (c i) (c (i + 1)) (c (i - d + 1)) ∧ gap v (c i) (c (i + 1)) (c (i - d + 1)) ≤ gap v (c i) (c (i + 1)) (c (i - d)) ∧ (0 < d → 0 < gap v (c i) (c (i + 1)) (c (i - d))) := by
  intro d
  induction d with
  | zero =>
    intro _
    have z1 : gap v (c i) (c (i + 1)) (c i) = 0 := by unfold gap; rw [hgt_l]; rfl
    have z2 : gap v (c i) (c (i + 1)) (c (i + 1)) = 0 := by unfold gap; rw [hgt_r]; rfl
    rw [show i - 0 = i from rfl, z1, z2]
    exact ⟨by omega, by omega, fun q => absurd q (by omega)⟩
  | succ d ih =>
    intro hd
    obtain ⟨g1, g2, g3⟩ := ih (by omega)
    have h5 := h.2.2.2.2.1 (i - (d + 1)) (by omega)
    rw [show i - (d + 1) + 1 = i - d by omega, show i - (d + 1) + 2 = i - d + 1 by omega] at h5
    have g4 := gap_dn (h.2.2.2.1 i hi) (Hull_inc h (show i - (d + 1) < i - d by omega) (by omega)) (Hull_inc h (show i - d < i - d + 1 by omega) (by omega)) h5 g2
    rw [show i - (d + 1) + 1 = i - d by omega]
    exact ⟨by omega, by omega, fun _ => by omega⟩
theorem Hull_cg {v : Int → Int} {c : Nat → Int} {n : Nat} {p : Int} (h : Hull v c n p) {i : Nat} (hi : i + 1 < n) {j : Nat} (hj : j < n) : 0 ≤ gap v (c i) (c (i + 1)) (c j) ∧ (j ≠ i → j ≠ i + 1 → 0 < gap v (c i) (c (i + 1)) (c j)) := by
  rcases Nat.lt_or_ge i j with q | q
  · obtain ⟨g1, g2, g3⟩ := Hull_right h hi j (by omega) hj
    exact ⟨by omega, fun _ _ => g3 (by omega)⟩
  · obtain ⟨g1, g2, g3⟩ := Hull_left h hi (i - j) (by omega)
    rw [show i - (i - j) = j by omega] at g1 g2 g3
    exact ⟨by omega, fun _ _ => g3 (by omega)⟩
theorem Hull_find {v : Int → Int} {c : Nat → Int} {n : Nat} {p y : Int} (h : Hull v c n p) (hy : 0 ≤ y) : ∀ m : Nat, m < n → 0 < m → y ≤ c m → ∃ j, j < m ∧ c j ≤ y ∧ y ≤ c (j + 1)
  | m + 1, hm, _, h2 => by
    rcases Nat.eq_zero_or_pos m with q | q
    · subst q
      exact ⟨0, by omega, by rw [h.2.1]; exact hy, h2⟩
    · rcases Int.lt_or_le (c m) y with z | z
      · exact ⟨m, by omega, by omega, h2⟩
      · obtain ⟨j, h3, h4, h5⟩ := Hull_find h hy m (by omega) q z
        exact ⟨j, by omega, h4, h5⟩
theorem Hull_gap {v : Int → Int} {c : Nat → Int} {n : Nat} {p y : Int} (h : Hull v c n p) {i : Nat} (hi : i + 1 < n) (hy : 0 ≤ y ∧ y ≤ p) : 0 ≤ gap v (c i) (c (i + 1)) y ∧ (gap v (c i) (c (i + 1)) y = 0 → c i ≤ y ∧ y ≤ c (i + 1)) := by
  obtain ⟨j, h1, h2, h3⟩ := Hull_find h hy.1 (n - 1) (by omega) (by omega) (by rw [h.2.2.1]; exact hy.2)
  have hl := h.2.2.2.1 i hi
  have hl2 := h.2.2.2.1 j (by omega)
  have e := gap_3 (v := v) (l := c i) (r := c (i + 1)) (a := c j) (b := y) (c := c (j + 1))
  have k1 := h.2.2.2.2.2 j y (by omega) h2 h3
  have k2 : 0 ≤ (c (i + 1) - c i) * (-hgt v (c j) y (c (j + 1))) := Int.mul_nonneg (by omega) (by omega)
  rw [Int.mul_neg] at k2
  obtain ⟨a1, a2⟩ := Hull_cg h hi (show j < n by omega)
  obtain ⟨b1, b2⟩ := Hull_cg h hi (show j + 1 < n by omega)
  have m1 : 0 ≤ gap v (c i) (c (i + 1)) (c j) * (c (j + 1) - y) := Int.mul_nonneg a1 (by omega)
  have m2 : 0 ≤ gap v (c i) (c (i + 1)) (c (j + 1)) * (y - c j) := Int.mul_nonneg b1 (by omega)
  have hz : 0 ≤ gap v (c i) (c (i + 1)) y := by
    rcases Int.lt_or_le (gap v (c i) (c (i + 1)) y) 0 with q | q
    · have := Int.mul_pos (show 0 < -gap v (c i) (c (i + 1)) y by omega) (show 0 < c (j + 1) - c j by omega)
      rw [Int.neg_mul] at this
      omega
    · exact q
  refine ⟨hz, fun h0 => ?_⟩
  rw [h0, Int.zero_mul] at e
  have z1 : gap v (c i) (c (i + 1)) (c j) * (c (j + 1) - y) = 0 := by omega
  have z2 : gap v (c i) (c (i + 1)) (c (j + 1)) * (y - c j) = 0 := by omega
  have inc : ∀ a b : Nat, a ≤ b → b < n → c a ≤ c b := fun a b hab hb => by
    rcases Nat.lt_or_ge a b with q | q
    · exact Int.le_of_lt (Hull_inc h q hb)
    · rw [show a = b by omega]; exact Int.le_refl _
  have inc2 : ∀ a b : Nat, a < n → b < n → c a < c b → a < b := fun a b ha hb hab => by
    rcases Nat.lt_or_ge a b with q | q
    · exact q
    · have := inc b a q ha; omega
  constructor
  · rcases Int.lt_or_le y (c i) with q | q
    · exfalso
      have j1 : j < i := inc2 j i (by omega) (by omega) (by omega)
      have p1 := a2 (by omega) (by omega)
      rcases Int.mul_eq_zero.mp z1 with w | w
      · omega
      · have := inc (j + 1) i (by omega) (by omega)
        have j2 : j + 1 < i := inc2 (j + 1) i (by omega) (by omega) (by omega)
        have p2 := b2 (by omega) (by omega)
        rcases Int.mul_eq_zero.mp z2 with w2 | w2 <;> omega
    · exact q
  · rcases Int.lt_or_le (c (i + 1)) y with q | q
    · exfalso
      have j1 : i + 1 < j + 1 := inc2 (i + 1) (j + 1) (by omega) (by omega) (by omega)
      have p1 := b2 (by omega) (by omega)
      rcases Int.mul_eq_zero.mp z2 with w | w
      · omega
      · have j2 : i + 1 < j := inc2 (i + 1) j (by omega) (by omega) (by omega)
        have p2 := a2 (by omega) (by omega)
        rcases Int.mul_eq_zero.mp z1 with w2 | w2 <;> omega
    · exact q
/-- a split of x into one or two parts; its value, above and below the line -/
def okS (x lo hi : Int) : Prop := (lo = x ∧ hi = x) ∨ ((0 ≤ lo ∧ lo < x) ∧ (x < hi ∧ hi ≤ 100))
def sN (v : Int → Int) (x lo hi : Int) : Int := if lo = hi then v x else (hi - x) * v lo + (x - lo) * v hi
def sD (lo hi : Int) : Int := if lo = hi then 1 else hi - lo
def isB (v : Int → Int) (x lo hi : Int) : Prop := okS x lo hi ∧ ∀ lo' hi' : Int, okS x lo' hi' → sN v x lo' hi' * sD lo hi ≤ sN v x lo hi * sD lo' hi' ∧ (sN v x lo' hi' * sD lo hi = sN v x lo hi * sD lo' hi' → lo < lo' ∨ (lo = lo' ∧ hi ≤ hi'))
theorem isB_uniq {v u : Int → Int} {x a b c d : Int} (h : isB v x a b) (g : isB u x c d) (e : ∀ y, 0 ≤ y → y ≤ 100 → v y = u y) (hx : 0 ≤ x ∧ x ≤ 100) : a = c ∧ b = d := by
  have es : ∀ lo hi, okS x lo hi → sN v x lo hi = sN u x lo hi := by
    intro lo hi hk
    unfold sN
    rcases hk with ⟨h1, h2⟩ | ⟨h1, h2⟩
    · rw [if_pos (by omega), if_pos (by omega), e x hx.1 hx.2]
    · rw [if_neg (by omega), if_neg (by omega), e lo (by omega) (by omega), e hi (by omega) (by omega)]
  obtain ⟨h1, h2⟩ := h.2 c d g.1
  obtain ⟨g1, g2⟩ := g.2 a b h.1
  rw [es c d g.1, es a b h.1] at h1 h2
  have he : sN u x c d * sD a b = sN u x a b * sD c d := by omega
  rcases h2 he with q | q <;> rcases g2 he.symm with z | z <;> omega
/-- the line through l and r, times r - l, at x, over a split of x -/
theorem gap_s {v : Int → Int} {l r x lo hi : Int} : ((hi - x) * v lo + (x - lo) * v hi) * (r - l) = (hi - lo) * (v l * (r - x) + v r * (x - l)) - ((hi - x) * gap v l r lo + (x - lo) * gap v l r hi) := by
  unfold gap hgt; grind
theorem gap_1 {v : Int → Int} {l r x : Int} : v x * (r - l) = (v l * (r - x) + v r * (x - l)) - gap v l r x := by
  unfold gap hgt; grind
theorem le_of_mul {a b c : Int} (ha : 0 < a) (h : b * a ≤ c * a) : b ≤ c := by
  rcases Int.lt_or_le c b with q | q
  · have := Int.mul_lt_mul_of_pos_right q ha; omega
  · exact q
/-- where x lies within the stretch l..r: any split's value is at most the line's, and meets it only where its posteriors lie on it -/
theorem line_best {v : Int → Int} {l r x lo hi : Int} (hlr : l < r) (hg : ∀ y : Int, 0 ≤ y → y ≤ 100 → 0 ≤ gap v l r y) (hx : 0 ≤ x ∧ x ≤ 100) (hk : okS x lo hi) : sN v x lo hi * (r - l) ≤ sD lo hi * (v l * (r - x) + v r * (x - l)) ∧ (sN v x lo hi * (r - l) = sD lo hi * (v l * (r - x) + v r * (x - l)) → gap v l r lo = 0 ∧ gap v l r hi = 0) := by
  rcases hk with ⟨h1, h2⟩ | ⟨h1, h2⟩
  · have := hg x hx.1 hx.2
    unfold sN sD
    rw [if_pos (by omega), if_pos (by omega), gap_1 (l := l) (r := r), Int.one_mul, h1, h2]
    exact ⟨by omega, fun q => by omega⟩
  · unfold sN sD
    rw [if_neg (by omega), if_neg (by omega), gap_s]
    have i1 : 0 ≤ (hi - x) * gap v l r lo := Int.mul_nonneg (by omega) (hg lo (by omega) (by omega))
    have i2 : 0 ≤ (x - lo) * gap v l r hi := Int.mul_nonneg (by omega) (hg hi (by omega) (by omega))
    refine ⟨by omega, fun q => ?_⟩
    have z1 : (hi - x) * gap v l r lo = 0 := by omega
    have z2 : (x - lo) * gap v l r hi = 0 := by omega
    exact ⟨by rcases Int.mul_eq_zero.mp z1 with w | w <;> omega, by rcases Int.mul_eq_zero.mp z2 with w | w <;> omega⟩
theorem best_of {v : Int → Int} {l r x lo hi : Int} (hlr : l < r) (hg : ∀ y : Int, 0 ≤ y → y ≤ 100 → 0 ≤ gap v l r y) (hx : 0 ≤ x ∧ x ≤ 100) (hk : okS x lo hi) (h1 : gap v l r lo = 0) (h2 : gap v l r hi = 0) (hm : ∀ lo' hi' : Int, okS x lo' hi' → gap v l r lo' = 0 → gap v l r hi' = 0 → lo < lo' ∨ (lo = lo' ∧ hi ≤ hi')) : isB v x lo hi := by
  refine ⟨hk, fun lo' hi' hk' => ?_⟩
  have e : sN v x lo hi * (r - l) = sD lo hi * (v l * (r - x) + v r * (x - l)) := by
    rcases hk with ⟨q1, q2⟩ | ⟨q1, q2⟩
    · unfold sN sD
      rw [if_pos (by omega), if_pos (by omega), gap_1 (l := l) (r := r), Int.one_mul]
      rw [q1] at h1
      omega
    · unfold sN sD
      rw [if_neg (by omega), if_neg (by omega), gap_s, h1, h2]
      simp
  have pd : 0 < sD lo hi := by
    unfold sD
    rcases hk with ⟨q1, q2⟩ | ⟨q1, q2⟩ <;> split <;> omega
  obtain ⟨b1, b2⟩ := line_best hlr hg hx hk'
  have e3 : sN v x lo' hi' * sD lo hi * (r - l) = sD lo hi * (sN v x lo' hi' * (r - l)) := by grind
  have e4 : sN v x lo hi * sD lo' hi' * (r - l) = sD lo hi * (sD lo' hi' * (v l * (r - x) + v r * (x - l))) := by
    have : sN v x lo hi * sD lo' hi' * (r - l) = sD lo' hi' * (sN v x lo hi * (r - l)) := by grind
    rw [this, e]
    grind
  refine ⟨le_of_mul (show 0 < r - l by omega) ?_, fun q => ?_⟩
  · rw [e3, e4]
    exact Int.mul_le_mul_of_nonneg_left b1 (by omega)
  · have q2 : sD lo hi * (sN v x lo' hi' * (r - l)) = sD lo hi * (sD lo' hi' * (v l * (r - x) + v r * (x - l))) := by rw [← e3, ← e4, q]
    have q3 := Int.eq_of_mul_eq_mul_left (show sD lo hi ≠ 0 by omega) q2
    obtain ⟨z1, z2⟩ := b2 q3
    exact hm lo' hi' hk' z1 z2
/-- what aim() finds -/
theorem Hull_best2 {v : Int → Int} {c : Nat → Int} {n : Nat} {x u : Int} (h : Hull v c n 100) {i : Nat} (hi : i + 1 < n) (h1 : c i < x) (h2 : x < u) (h3 : u ≤ c (i + 1)) (h4 : hgt v (c i) u (c (i + 1)) = 0) (h5 : ∀ y : Int, x < y → y < u → hgt v (c i) y (c (i + 1)) ≠ 0) : isB v x (c i) u := by
  have hc : ∀ j, j < n → 0 ≤ c j ∧ c j ≤ 100 := fun j hj => by
    have h0 := h.2.1
    have h9 := h.2.2.1
    constructor
    · rcases Nat.eq_zero_or_pos j with q | q
      · rw [q, h0]; exact Int.le_refl _
      · have := Hull_inc h q hj; omega
    · rcases Nat.lt_or_ge j (n - 1) with q | q
      · have := Hull_inc h q (by omega); omega
      · rw [show j = n - 1 by omega, h9]; exact Int.le_refl _
  have c1 := hc i (by omega)
  have c2 := hc (i + 1) hi
  refine best_of (h.2.2.2.1 i hi) (fun y h1 h2 => (Hull_gap h hi ⟨h1, h2⟩).1) (by omega) (Or.inr ⟨by omega, by omega⟩) (by unfold gap; rw [hgt_l]; rfl) (by unfold gap; rw [h4]; rfl) (fun lo' hi' hk g1 g2 => ?_)
  rcases hk with ⟨q1, q2⟩ | ⟨q1, q2⟩
  · left; omega
  · have := (Hull_gap h hi (show 0 ≤ lo' ∧ lo' ≤ 100 by omega)).2 g1
    rcases (show c i < lo' ∨ c i = lo' by omega) with z | z
    · left; exact z
    · right
      refine ⟨z, ?_⟩
      rcases Int.lt_or_le hi' u with w | w
      · exfalso
        refine h5 hi' q2.1 w ?_
        unfold gap at g2
        omega
      · exact w
theorem Hull_best1 {v : Int → Int} {c : Nat → Int} {n : Nat} {x : Int} (h : Hull v c n 100) {i : Nat} (hi : i < n) (h1 : c i = x) : isB v x x x := by
  have hx : 0 ≤ x ∧ x ≤ 100 := by
    have h0 := h.2.1
    have h9 := h.2.2.1
    rw [← h1]
    constructor
    · rcases Nat.eq_zero_or_pos i with q | q
      · rw [q, h0]; exact Int.le_refl _
      · have := Hull_inc h q hi; omega
    · rcases Nat.lt_or_ge i (n - 1) with q | q
      · have := Hull_inc h q (by omega); omega
      · rw [show i = n - 1 by omega, h9]; exact Int.le_refl _
  rcases Nat.lt_or_ge (i + 1) n with q | q
  · refine best_of (h.2.2.2.1 i q) (fun y h1 h2 => (Hull_gap h q ⟨h1, h2⟩).1) hx (Or.inl ⟨rfl, rfl⟩) (by unfold gap; rw [← h1, hgt_l]; rfl) (by unfold gap; rw [← h1, hgt_l]; rfl) (fun lo' hi' hk g1 g2 => ?_)
    rcases hk with ⟨q1, q2⟩ | ⟨q1, q2⟩
    · right; omega
    · have := (Hull_gap h q (show 0 ≤ lo' ∧ lo' ≤ 100 by omega)).2 g1
      omega
  · have h9 := h.2.2.1
    rw [show n - 1 = i by omega] at h9
    refine ⟨Or.inl ⟨rfl, rfl⟩, fun lo' hi' hk => ?_⟩
    rcases hk with ⟨q1, q2⟩ | ⟨q1, q2⟩
    · rw [q1, q2]
      exact ⟨Int.le_refl _, fun _ => Or.inr ⟨rfl, Int.le_refl _⟩⟩
    · omega
/-- values and corners as the class holds them -/
abbrev vM (M : Mem) : Int → Int := fun y => M 101 y.toNat
theorem Hull_cong {v u : Int → Int} {c : Nat → Int} {n : Nat} {p : Int} (h : Hull v c n p) (e : ∀ y : Int, 0 ≤ y → y ≤ p → v y = u y) : Hull u c n p := by
  have hc : ∀ j, j < n → 0 ≤ c j ∧ c j ≤ p := fun j hj => by
    have h0 := h.2.1
    have h9 := h.2.2.1
    constructor
    · rcases Nat.eq_zero_or_pos j with q | q
      · rw [q, h0]; exact Int.le_refl _
      · have := Hull_inc h q hj; omega
    · rcases Nat.lt_or_ge j (n - 1) with q | q
      · have := Hull_inc h q (by omega); omega
      · rw [show j = n - 1 by omega, h9]; exact Int.le_refl _
  have eh : ∀ a b c : Int, (0 ≤ a ∧ a ≤ p) → (0 ≤ b ∧ b ≤ p) → (0 ≤ c ∧ c ≤ p) → hgt v a b c = hgt u a b c := fun a b c ha hb hc => by
    unfold hgt
    rw [e a ha.1 ha.2, e b hb.1 hb.2, e c hc.1 hc.2]
  obtain ⟨h1, h2, h3, h4, h5, h6⟩ := h
  refine ⟨h1, h2, h3, h4, fun i hi => ?_, fun i x hi hx hx2 => ?_⟩
  · rw [← eh _ _ _ (hc i (by omega)) (hc (i + 1) (by omega)) (hc (i + 2) hi)]
    exact h5 i hi
  · have a1 := hc i (by omega)
    have a2 := hc (i + 1) hi
    rw [← eh _ _ _ a1 ⟨by omega, by omega⟩ a2]
    exact h6 i x hi hx hx2
theorem HullP_cong {v u : Int → Int} {c : Nat → Int} {n : Nat} {p : Int} (h : HullP v c n p) (e : ∀ y : Int, 0 ≤ y → y ≤ p → v y = u y) : HullP u c n p := by
  have inc : ∀ j, j < n → 0 ≤ c j ∧ c j ≤ c (n - 1) := by
    intro j hj
    have mono : ∀ a b : Nat, a ≤ b → b < n → c a ≤ c b := by
      intro a b hab hb
      induction b with
      | zero => rw [show a = 0 by omega]; exact Int.le_refl _
      | succ b ih =>
        rcases Nat.lt_or_ge a (b + 1) with q | q
        · have := ih (by omega) (by omega)
          have := h.2.2.2.1 b hb
          omega
        · rw [show a = b + 1 by omega]; exact Int.le_refl _
    have h0 := mono 0 j (by omega) hj
    rw [h.2.1] at h0
    exact ⟨h0, mono j (n - 1) (by omega) (by have := h.1; omega)⟩
  obtain ⟨h1, h2, h3, h4, h5, h6, h7⟩ := h
  have eh : ∀ a b c : Int, (0 ≤ a ∧ a ≤ p) → (0 ≤ b ∧ b ≤ p) → (0 ≤ c ∧ c ≤ p) → hgt v a b c = hgt u a b c := fun a b c ha hb hc => by
    unfold hgt
    rw [e a ha.1 ha.2, e b hb.1 hb.2, e c hc.1 hc.2]
  have rg : ∀ j, j < n → 0 ≤ c j ∧ c j ≤ p := fun j hj => by have := inc j hj; omega
  refine ⟨h1, h2, h3, h4, fun i hi => ?_, fun i x hi hx hx2 => ?_, fun x hx hx2 => ?_⟩
  · rw [← eh _ _ _ (rg i (by omega)) (rg (i + 1) (by omega)) (rg (i + 2) hi)]
    exact h5 i hi
  · have a1 := rg i (by omega)
    have a2 := rg (i + 1) hi
    rw [← eh _ _ _ a1 ⟨by omega, by omega⟩ a2]
    exact h6 i x hi hx hx2
  · have a1 := rg (n - 1) (by omega)
    rw [← eh _ _ _ a1 ⟨by omega, by omega⟩ ⟨by omega, by omega⟩]
    exact h7 x hx hx2
theorem Hull_rng {v : Int → Int} {c : Nat → Int} {n : Nat} {p : Int} (h : Hull v c n p) {j : Nat} (hj : j < n) : 0 ≤ c j ∧ c j ≤ p := by
  have h0 := h.2.1
  have h9 := h.2.2.1
  constructor
  · rcases Nat.eq_zero_or_pos j with q | q
    · rw [q, h0]; exact Int.le_refl _
    · have := Hull_inc h q hj; omega
  · rcases Nat.lt_or_ge j (n - 1) with q | q
    · have := Hull_inc h q (by omega); omega
    · rw [show j = n - 1 by omega, h9]; exact Int.le_refl _
theorem HullP_rng {v : Int → Int} {c : Nat → Int} {n : Nat} {p : Int} (h : HullP v c n p) {j : Nat} (hj : j < n) : 0 ≤ c j ∧ c j < p := by
  have mono : ∀ a b : Nat, a ≤ b → b < n → c a ≤ c b := by
    intro a b hab hb
    induction b with
    | zero => rw [show a = 0 by omega]; exact Int.le_refl _
    | succ b ih =>
      rcases Nat.lt_or_ge a (b + 1) with q | q
      · have := ih (by omega) (by omega)
        have := h.2.2.2.1 b hb
        omega
      · rw [show a = b + 1 by omega]; exact Int.le_refl _
  have h0 := mono 0 j (by omega) hj
  have h1 := mono j (n - 1) (by omega) (by have := h.1; omega)
  have h2 := h.2.1
  have h3 := h.2.2.1
  omega
theorem hgt_b {v : Int → Int} {l m r : Int} (hl : 0 ≤ l ∧ l ≤ 100) (hm : 0 ≤ m ∧ m ≤ 100) (hr : 0 ≤ r ∧ r ≤ 100) (a1 : -990 ≤ v l ∧ v l ≤ 990) (a2 : -990 ≤ v m ∧ v m ≤ 990) (a3 : -990 ≤ v r ∧ v r ≤ 990) : -400000 ≤ hgt v l m r ∧ hgt v l m r ≤ 400000 := by
  have b1 := mulSS (a := v m - v l) (A := 1980) (b := r - l) (B := 100) (by omega) (by omega)
  have b2 := mulSS (a := v r - v l) (A := 1980) (b := m - l) (B := 100) (by omega) (by omega)
  unfold hgt
  omega
theorem Hull_next {v : Int → Int} {c : Nat → Int} {n a : Int} (hn : 0 ≤ n) (ha : 0 ≤ a) (h0 : a = 0 → n = 0) (h : 0 < a → HullP v c n.toNat a) (hp : n ≤ 1 ∨ 0 < hgt v (c (n - 2).toNat) (c (n - 1).toNat) a) : Hull v (uz c n.toNat a) (n + 1).toNat (a + 1 - 1) := by
  rw [show a + 1 - 1 = a by omega, show (n + 1).toNat = n.toNat + 1 by omega]
  rcases (show a = 0 ∨ 0 < a by omega) with q | q
  · have hz := h0 q
    subst q
    subst hz
    exact Hull_0
  · refine HullP_push (h q) ?_
    rcases hp with w | w
    · left; omega
    · right
      rw [show n.toNat - 2 = (n - 2).toNat by omega, show n.toNat - 1 = (n - 1).toNat by omega]
      exact w
def wLo (x lo hi : Int) : Int := if lo = hi then 1 else (hi - x).tdiv (Int.gcd (hi - x) (x - lo) : Int)
def wHi (x lo hi : Int) : Int := if lo = hi then 0 else (x - lo).tdiv (Int.gcd (hi - x) (x - lo) : Int)
theorem tdiv_b {a g A : Int} (ha : 0 ≤ a ∧ a ≤ A) (hg : 0 ≤ g) : 0 ≤ a.tdiv g ∧ a.tdiv g ≤ A := by
  rw [Int.tdiv_eq_ediv_of_nonneg ha.1]
  exact ⟨Int.ediv_nonneg ha.1 hg, Int.le_trans (Int.ediv_le_self g ha.1) ha.2⟩
theorem wLo_b {x lo hi : Int} (h : okS x lo hi) (hx : 0 ≤ x ∧ x ≤ 100) : 0 ≤ wLo x lo hi ∧ wLo x lo hi ≤ 100 := by
  unfold wLo
  split
  · omega
  · have := tdiv_b (a := hi - x) (A := 100) (g := (Int.gcd (hi - x) (x - lo) : Int)) (by rcases h with h | h <;> omega) (Int.natCast_nonneg _)
    exact this
theorem wHi_b {x lo hi : Int} (h : okS x lo hi) (hx : 0 ≤ x ∧ x ≤ 100) : 0 ≤ wHi x lo hi ∧ wHi x lo hi ≤ 100 := by
  unfold wHi
  split
  · omega
  · have := tdiv_b (a := x - lo) (A := 100) (g := (Int.gcd (hi - x) (x - lo) : Int)) (by rcases h with h | h <;> omega) (Int.natCast_nonneg _)
    exact this
theorem tdiv_pos {a b : Int} (ha : 0 < a) : 0 < a.tdiv (Int.gcd a b : Int) := by
  have h1 : (Int.gcd a b : Int) ∣ a := Int.gcd_dvd_left a b
  have h2 := Int.tdiv_mul_cancel h1
  rcases Int.lt_or_le 0 (a.tdiv (Int.gcd a b : Int)) with q | q
  · exact q
  · have := Int.mul_nonneg (show 0 ≤ -(a.tdiv (Int.gcd a b : Int)) by omega) (Int.natCast_nonneg (Int.gcd a b))
    rw [Int.neg_mul] at this
    omega
theorem w_pos {x lo hi : Int} (h : okS x lo hi) : 0 < wLo x lo hi + wHi x lo hi := by
  unfold wLo wHi
  split
  · omega
  · next hne =>
    have h1 : 0 < (hi - x).tdiv (Int.gcd (hi - x) (x - lo) : Int) := tdiv_pos (by rcases h with h | h <;> omega)
    have h2 := tdiv_b (a := x - lo) (A := x - lo) (g := (Int.gcd (hi - x) (x - lo) : Int)) (by rcases h with h | h <;> omega) (Int.natCast_nonneg _)
    omega
