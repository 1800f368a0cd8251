/-! ===== the mathematics of the class: values ===== -/
theorem mulB {a b A B : Int} (ha : 0 ≤ a ∧ a ≤ A) (hb : 0 ≤ b ∧ b ≤ B) : 0 ≤ a * b ∧ a * b ≤ A * B :=
  ⟨Int.mul_nonneg ha.1 hb.1, Int.mul_le_mul ha.2 hb.2 hb.1 (Int.le_trans ha.1 ha.2)⟩
theorem mulS {a b A B : Int} (ha : 0 ≤ a ∧ a ≤ A) (hb : -B ≤ b ∧ b ≤ B) : -(A * B) ≤ a * b ∧ a * b ≤ A * B := by
  have hB : 0 ≤ B := by omega
  have h1 : a * B ≤ A * B := Int.mul_le_mul_of_nonneg_right ha.2 hB
  have h2 : a * b ≤ a * B := Int.mul_le_mul_of_nonneg_left hb.2 ha.1
  have h3 : a * (-B) ≤ a * b := Int.mul_le_mul_of_nonneg_left hb.1 ha.1
  rw [Int.mul_neg] at h3
  omega
abbrev ac (L G : Nat → Int) (x : Int) (r : Nat) : Prop := (100 - x) * L r ≤ x * G r
def sm (f : Nat → Int) : Nat → Int
  | 0 => 0
  | n + 1 => sm f n + f n
def alla (L G : Nat → Int) (x : Int) : Nat → Bool
  | 0 => true
  | n + 1 => alla L G x n && decide (ac L G x n)
/-- the set of those who act, as a mask -/
def mk (L G : Nat → Int) (x : Int) (n : Nat) : Int := sm (fun r => if ac L G x r then ((2 ^ r : Nat) : Int) else 0) n
def vl (L G P B : Nat → Int) (n : Nat) (x : Int) : Int := sm (fun r => if ac L G x r then P r else 0) n + (if alla L G x n = true then sm B n else 0)
def WR (L G P B : Nat → Int) (n : Nat) : Prop := n ≤ 5 ∧ ∀ r, r < n → (1 ≤ L r ∧ L r ≤ 99) ∧ (1 ≤ G r ∧ G r ≤ 99) ∧ (0 ≤ P r ∧ P r ≤ 99) ∧ (-99 ≤ B r ∧ B r ≤ 99)
theorem sm_b {f : Nat → Int} {a b : Int} {n : Nat} (h : ∀ k, k < n → a ≤ f k ∧ f k ≤ b) : (n : Int) * a ≤ sm f n ∧ sm f n ≤ (n : Int) * b := by
  induction n with
  | zero => simp [sm]
  | succ n ih =>
    have h1 := ih (fun k hk => h k (by omega))
    have h2 := h n (by omega)
    have e1 : ((n + 1 : Nat) : Int) * a = (n : Int) * a + a := by rw [Int.natCast_add, Int.add_mul]; simp
    have e2 : ((n + 1 : Nat) : Int) * b = (n : Int) * b + b := by rw [Int.natCast_add, Int.add_mul]; simp
    rw [e1, e2]
    simp only [sm]
    omega
theorem sm_bm {f : Nat → Int} {a b : Int} {n N : Nat} (hn : n ≤ N) (ha : a ≤ 0) (hb : 0 ≤ b) (h : ∀ k, k < n → a ≤ f k ∧ f k ≤ b) : (N : Int) * a ≤ sm f n ∧ sm f n ≤ (N : Int) * b := by
  have h1 := sm_b h
  have h2 : (N : Int) * a ≤ (n : Int) * a := by
    have := Int.mul_le_mul_of_nonneg_right (show (n : Int) ≤ (N : Int) by omega) (show 0 ≤ -a by omega)
    rw [Int.mul_neg, Int.mul_neg] at this
    omega
  have h3 : (n : Int) * b ≤ (N : Int) * b := Int.mul_le_mul_of_nonneg_right (show (n : Int) ≤ (N : Int) by omega) hb
  omega
theorem sm_cong {f g : Nat → Int} {n : Nat} (h : ∀ k, k < n → f k = g k) : sm f n = sm g n := by
  induction n with
  | zero => rfl
  | succ n ih => simp only [sm]; rw [ih (fun k hk => h k (by omega)), h n (by omega)]
theorem WR_pay {L G P B : Nat → Int} {n k : Nat} {x : Int} (h : WR L G P B n) (hk : k ≤ n) : 0 ≤ sm (fun r => if ac L G x r then P r else 0) k ∧ sm (fun r => if ac L G x r then P r else 0) k ≤ 495 := by
  have h1 := sm_bm (f := fun r => if ac L G x r then P r else 0) (a := 0) (b := 99) (n := k) (N := 5) (by have := h.1; omega) (by decide) (by decide) (fun r hr => by
    have := (h.2 r (by omega)).2.2.1
    split <;> omega)
  simpa using h1
theorem WR_bon {L G P B : Nat → Int} {n k : Nat} (h : WR L G P B n) (hk : k ≤ n) : -495 ≤ sm B k ∧ sm B k ≤ 495 := by
  have h1 := sm_bm (f := B) (a := -99) (b := 99) (n := k) (N := 5) (by have := h.1; omega) (by decide) (by decide) (fun r hr => (h.2 r (by omega)).2.2.2)
  omega
theorem vl_b {L G P B : Nat → Int} {n : Nat} {x : Int} (h : WR L G P B n) : -495 ≤ vl L G P B n x ∧ vl L G P B n x ≤ 990 := by
  have h1 := WR_pay (x := x) h (Nat.le_refl n)
  have h2 := WR_bon h (Nat.le_refl n)
  unfold vl
  split <;> omega
theorem alla_cong {L G L' G' : Nat → Int} {x : Int} {n : Nat} (h : ∀ k, k < n → L k = L' k ∧ G k = G' k) : alla L G x n = alla L' G' x n := by
  induction n with
  | zero => rfl
  | succ n ih => simp only [alla, ac]; rw [ih (fun k hk => h k (by omega)), (h n (by omega)).1, (h n (by omega)).2]
theorem vl_cong {L G P B L' G' P' B' : Nat → Int} {x : Int} {n : Nat} (h : ∀ k, k < n → L k = L' k ∧ G k = G' k ∧ P k = P' k ∧ B k = B' k) : vl L G P B n x = vl L' G' P' B' n x := by
  unfold vl
  rw [alla_cong (L' := L') (G' := G') (fun k hk => ⟨(h k hk).1, (h k hk).2.1⟩), sm_cong (g := B') (fun k hk => (h k hk).2.2.2), sm_cong (g := fun r => if ac L' G' x r then P' r else 0) (fun k hk => by
    obtain ⟨h1, h2, h3, h4⟩ := h k hk
    simp only [ac, h1, h2, h3])]
theorem mk_cong {L G L' G' : Nat → Int} {x : Int} {n : Nat} (h : ∀ k, k < n → L k = L' k ∧ G k = G' k) : mk L G x n = mk L' G' x n := by
  unfold mk
  exact sm_cong (fun k hk => by
    obtain ⟨h1, h2⟩ := h k hk
    simp only [ac, h1, h2])
theorem mk_b {L G : Nat → Int} {x : Int} : ∀ n, 0 ≤ mk L G x n ∧ mk L G x n < ((2 ^ n : Nat) : Int)
  | 0 => by simp [mk, sm]
  | n + 1 => by
    have h := mk_b (L := L) (G := G) (x := x) n
    have e : mk L G x (n + 1) = mk L G x n + (if ac L G x n then ((2 ^ n : Nat) : Int) else 0) := rfl
    rw [e, Nat.pow_succ]
    split <;> omega
/-- the class's receivers, now -/
abbrev cWR (M : Mem) : Prop := 0 ≤ M 1 4 ∧ WR (M 2) (M 3) (M 4) (M 5) (M 1 4).toNat
abbrev cvl (M : Mem) (x : Int) : Int := vl (M 2) (M 3) (M 4) (M 5) (M 1 4).toNat x
/-- the reference's receivers, now -/
abbrev rL (M : Mem) : Nat → Int := fun r => M 106 (4 * r)
abbrev rG (M : Mem) : Nat → Int := fun r => M 106 (4 * r + 1)
abbrev rP (M : Mem) : Nat → Int := fun r => M 106 (4 * r + 2)
abbrev rB (M : Mem) : Nat → Int := fun r => M 106 (4 * r + 3)
abbrev rWR (M : Mem) : Prop := 0 ≤ M 105 1 ∧ WR (rL M) (rG M) (rP M) (rB M) (M 105 1).toNat
abbrev rvl (M : Mem) (x : Int) : Int := vl (rL M) (rG M) (rP M) (rB M) (M 105 1).toNat x
theorem shl1 : ∀ k : Nat, k < 5 → zI 1 <<< (zI (k : Int) &&& 31) = zI ((2 ^ k : Nat) : Int) := by decide
theorem or1 (k : Nat) (hk : k < 5) (m : Int) (hm : 0 ≤ m ∧ m < ((2 ^ k : Nat) : Int)) : zI m ||| zI ((2 ^ k : Nat) : Int) = zI (m + ((2 ^ k : Nat) : Int)) := by
  have h : ∀ k : Nat, k < 5 → ∀ j : Nat, j < 2 ^ k → zI (j : Int) ||| zI ((2 ^ k : Nat) : Int) = zI ((j : Int) + ((2 ^ k : Nat) : Int)) := by decide
  have h2 := h k hk m.toNat (by omega)
  rw [show ((m.toNat : Nat) : Int) = m by omega] at h2
  exact h2
