/-! ===== the law's own numbers ===== -/
theorem and31 (v : Int) : ∃ w : Int, (0 ≤ w ∧ w ≤ 2147483647) ∧ zI v &&& zI 2147483647 = zI w := by
  refine ⟨(zI v &&& zI 2147483647).toInt, ⟨?_, (zI_inT _).2⟩, (zI_of _).symm⟩
  rw [← Int32.toInt_toBitVec, Int32.toBitVec_and]
  refine BitVec.toInt_nonneg_of_msb_false ?_
  rw [BitVec.msb_and]
  have h : (zI 2147483647).toBitVec.msb = false := by decide
  rw [h, Bool.and_false]
theorem gcdT {x y : Int} : Int.gcd y (x.tmod y) = Int.gcd x y := by
  show Nat.gcd y.natAbs (x.tmod y).natAbs = Nat.gcd x.natAbs y.natAbs
  rw [Int.natAbs_tmod, Nat.gcd_comm x.natAbs y.natAbs, Nat.gcd_rec y.natAbs x.natAbs, Nat.gcd_comm]
theorem gcdTb {x y : Int} (hy : y ≠ 0) : (x.tmod y).natAbs < y.natAbs := by
  rw [Int.natAbs_tmod]
  exact Nat.mod_lt _ (by omega)
theorem gcdE {x y : Int} (hy : y = 0) : (0 ≤ x → x = (Int.gcd x y : Int)) ∧ (x < 0 → -x = (Int.gcd x y : Int)) := by
  subst hy
  rw [Int.gcd_zero]
  exact ⟨fun h => by omega, fun h => by omega⟩
/-- the law's own state -/
def vL (M : Mem) : AS := (M 105 0, M 105 1, fun c k => M 106 (4 * k + c), M 105 2, M 107, M 108)
/-- the greatest so far -/
def MaxIn (v : Int → Int) (x lo hi : Int) (P : Int → Int → Prop) : Prop := okS x lo hi ∧ ∀ a b : Int, okS x a b → P a b → sN v x a b * sD lo hi ≤ sN v x lo hi * sD a b
theorem MaxIn_w {v : Int → Int} {x lo hi : Int} {P P' : Int → Int → Prop} (h : MaxIn v x lo hi P) (hp : ∀ a b, okS x a b → P' a b → P a b) : MaxIn v x lo hi P' := ⟨h.1, fun a b hk hq => h.2 a b hk (hp a b hk hq)⟩
theorem MaxIn_0 {v : Int → Int} {x : Int} : MaxIn v x x x (fun lo hi => lo = x ∧ hi = x) := ⟨Or.inl ⟨rfl, rfl⟩, fun a b _ h => by
  rw [h.1, h.2]
  exact Int.le_refl _⟩
theorem MaxIn_no {v : Int → Int} {x lo hi l h2 : Int} {P : Int → Int → Prop} (h : MaxIn v x lo hi P) (hb : sN v x l h2 * sD lo hi ≤ sN v x lo hi * sD l h2) : MaxIn v x lo hi (fun a b => P a b ∨ (a = l ∧ b = h2)) := ⟨h.1, fun a b hk hq => by
  rcases hq with hq | ⟨rfl, rfl⟩
  · exact h.2 a b hk hq
  · exact hb⟩
theorem cross_le {a b c d e f : Int} (hb : 0 < b) (hd : 0 < d) (hf : 0 < f) (h1 : a * d ≤ c * b) (h2 : c * f ≤ e * d) : a * f ≤ e * b := by
  have k1 : a * d * f ≤ c * b * f := Int.mul_le_mul_of_nonneg_right h1 (by omega)
  have k2 : c * f * b ≤ e * d * b := Int.mul_le_mul_of_nonneg_right h2 (by omega)
  have e1 : c * b * f = c * f * b := by rw [Int.mul_assoc, Int.mul_comm b f, ← Int.mul_assoc]
  have e2 : a * d * f = a * f * d := by rw [Int.mul_assoc, Int.mul_comm d f, ← Int.mul_assoc]
  have e3 : e * d * b = e * b * d := by rw [Int.mul_assoc, Int.mul_comm d b, ← Int.mul_assoc]
  refine le_of_mul hd ?_
  rw [← e2, ← e3]
  omega
theorem cross_eq {a b c d e f : Int} (hd : 0 < d) (h1 : a * d = c * b) (h2 : c * f = e * d) : a * f = e * b := by
  have e1 : c * b * f = c * f * b := by rw [Int.mul_assoc, Int.mul_comm b f, ← Int.mul_assoc]
  have e2 : a * d * f = a * f * d := by rw [Int.mul_assoc, Int.mul_comm d f, ← Int.mul_assoc]
  have e3 : e * d * b = e * b * d := by rw [Int.mul_assoc, Int.mul_comm d b, ← Int.mul_assoc]
  refine Int.eq_of_mul_eq_mul_right (show d ≠ 0 by omega) ?_
  rw [← e2, ← e3, h1, e1, h2]
theorem MaxIn_yes {v : Int → Int} {x lo hi l h2 : Int} {P : Int → Int → Prop} (h : MaxIn v x lo hi P) (hk : okS x l h2) (hb : sN v x lo hi * sD l h2 ≤ sN v x l h2 * sD lo hi) : MaxIn v x l h2 (fun a b => P a b ∨ (a = l ∧ b = h2)) := ⟨hk, fun a b hk2 hq => by
  rcases hq with hq | ⟨rfl, rfl⟩
  · exact cross_le (sD_pos hk2) (sD_pos h.1) (sD_pos hk) (h.2 a b hk2 hq) hb
  · exact Int.le_refl _⟩
theorem fr_cross {a b c d : Int} (hb : 0 < b) (hd : 0 < d) (h : a * d = c * b) : frA a b = frA c d ∧ frB a b = frB c d := by
  obtain ⟨h1, h2⟩ := fr_scale (a := a) (b := b) hd hb
  obtain ⟨h3, h4⟩ := fr_scale (a := c) (b := d) hb hd
  have e1 : d * a = b * c := by rw [Int.mul_comm d a, Int.mul_comm b c]; exact h
  have e2 : d * b = b * d := Int.mul_comm _ _
  exact ⟨by rw [← h1, ← h3, e1, e2], by rw [← h2, ← h4, e1, e2]⟩
/-- the first pair that is as great as n by d -/
def FND (v : Int → Int) (x n d best f : Int) (P : Int → Int → Prop) : Prop :=
  (f = 0 ∧ best = x + 1000 * x ∧ ∀ a b : Int, okS x a b → a < b → P a b → sN v x a b * d ≠ n * sD a b) ∨
  (f = 1 ∧ ∃ lo hi : Int, best = lo + 1000 * hi ∧ okS x lo hi ∧ lo < hi ∧ sN v x lo hi * d = n * sD lo hi ∧ ∀ a b : Int, okS x a b → a < b → sN v x a b * d = n * sD a b → lo < a ∨ (lo = a ∧ hi ≤ b))
theorem FND_w {v : Int → Int} {x n d best f : Int} {P P' : Int → Int → Prop} (h : FND v x n d best f P) (hp : f = 0 → ∀ a b, okS x a b → a < b → P' a b → P a b) : FND v x n d best f P' := by
  rcases h with ⟨h1, h2, h3⟩ | h
  · exact Or.inl ⟨h1, h2, fun a b g1 g2 g3 => h3 a b g1 g2 (hp h1 a b g1 g2 g3)⟩
  · exact Or.inr h
theorem FND_f {v : Int → Int} {x n d best f : Int} {P : Int → Int → Prop} (h : FND v x n d best f P) : f = 0 ∨ f = 1 := by
  rcases h with ⟨h1, _⟩ | ⟨h1, _⟩
  · exact Or.inl h1
  · exact Or.inr h1
theorem FND_no {v : Int → Int} {x n d best l h2 : Int} {P : Int → Int → Prop} (h : FND v x n d best 0 P) (hb : sN v x l h2 * d ≠ n * sD l h2) : FND v x n d best 0 (fun a b => P a b ∨ (a = l ∧ b = h2)) := by
  rcases h with ⟨h1, h3, h4⟩ | ⟨h1, _⟩
  · refine Or.inl ⟨rfl, h3, fun a b g1 g2 g3 => ?_⟩
    rcases g3 with g3 | ⟨rfl, rfl⟩
    · exact h4 a b g1 g2 g3
    · exact hb
  · omega
theorem FND_yes {v : Int → Int} {x n d best l h2 : Int} {P P' : Int → Int → Prop} (h : FND v x n d best 0 P) (hk : okS x l h2) (hl : l < h2) (hb : sN v x l h2 * d = n * sD l h2) (hP : ∀ a b, okS x a b → a < b → P a b ∨ (l < a ∨ (l = a ∧ h2 ≤ b))) : FND v x n d (l + 1000 * h2) 1 P' := by
  rcases h with ⟨h1, h3, h4⟩ | ⟨h1, _⟩
  · refine Or.inr ⟨rfl, l, h2, rfl, hk, hl, hb, fun a b g1 g2 g3 => ?_⟩
    rcases hP a b g1 g2 with q | q
    · exact absurd g3 (h4 a b g1 g2 q)
    · exact q
  · omega
/-- behind both searches -/
theorem env_end {v : Int → Int} {x lo hi best f : Int} {P : Int → Int → Prop} (hm : MaxIn v x lo hi (fun _ _ => True)) (h : FND v x (sN v x lo hi) (sD lo hi) best f P) (hP : f = 0 → ∀ a b, okS x a b → a < b → P a b) : ∃ a b : Int, isB v x a b ∧ best = a + 1000 * b ∧ frA (sN v x lo hi) (sD lo hi) = frA (sN v x a b) (sD a b) ∧ frB (sN v x lo hi) (sD lo hi) = frB (sN v x a b) (sD a b) := by
  have hd := sD_pos hm.1
  rcases h with ⟨h1, h2, h3⟩ | ⟨h1, a, b, h2, h3, h4, h5, h6⟩
  · have hx : lo = x ∧ hi = x := by
      rcases hm.1 with q | q
      · exact q
      · exact absurd rfl (h3 lo hi hm.1 (by omega) (hP h1 lo hi hm.1 (by omega)))
    obtain ⟨hx1, hx2⟩ := hx
    rw [hx1, hx2] at h3 hm ⊢
    refine ⟨x, x, ⟨Or.inl ⟨rfl, rfl⟩, fun a b hk => ⟨hm.2 a b hk trivial, fun e => ?_⟩⟩, h2, rfl, rfl⟩
    rcases hk with q | q
    · exact Or.inr ⟨q.1.symm, by omega⟩
    · exact absurd e (h3 a b (Or.inr q) (by omega) (hP h1 a b (Or.inr q) (by omega)))
  · have hab := sD_pos h3
    obtain ⟨e1, e2⟩ := fr_cross hd hab h5.symm
    refine ⟨a, b, ⟨h3, fun a' b' hk => ⟨?_, fun e => ?_⟩⟩, h2, e1, e2⟩
    · exact cross_le (sD_pos hk) hd hab (hm.2 a' b' hk trivial) (Int.le_of_eq h5.symm)
    · rcases hk with q | q
      · refine Or.inl ?_
        rcases h3 with w | w <;> omega
      · exact h6 a' b' (Or.inr q) (by omega) (cross_eq hab e h5)
/-- at most so many posteriors as parts -/
theorem cnt_SF {w p : Nat → Int} : ∀ m k : Nat, cnt (SF w p m) k ≤ (m : Int)
  | 0, k => by
    have h0 : ∀ k, cnt (SF w p 0) k = 0 := fun k => by
      induction k with
      | zero => rfl
      | succ k ih => simp only [cnt, ih]; rfl
    rw [h0]; omega
  | m + 1, k => by
    have h1 := cnt_SF (w := w) (p := p) m k
    have h2 : ∀ k : Nat, cnt (SF w p (m + 1)) k ≤ cnt (SF w p m) k + (if p m < (k : Int) then 1 else 0) := fun k => by
      induction k with
      | zero =>
        show (0 : Int) ≤ 0 + _
        split <;> omega
      | succ k ih =>
        have e1 : cnt (SF w p (m + 1)) (k + 1) = cnt (SF w p (m + 1)) k + (if 0 < SF w p (m + 1) k then 1 else 0) := rfl
        have e2 : cnt (SF w p m) (k + 1) = cnt (SF w p m) k + (if 0 < SF w p m k then 1 else 0) := rfl
        rw [e1, e2, SF_suc]
        by_cases q : p m = (k : Int)
        · rw [if_pos q, if_pos (show p m < ((k + 1 : Nat) : Int) by omega)]
          rw [if_neg (show ¬ p m < (k : Int) by omega)] at ih
          split <;> split <;> omega
        · rw [if_neg q, Int.add_zero]
          by_cases q2 : p m < (k : Int)
          · rw [if_pos q2] at ih
            rw [if_pos (show p m < ((k + 1 : Nat) : Int) by omega)]
            omega
          · rw [if_neg q2] at ih
            rw [if_neg (show ¬ p m < ((k + 1 : Nat) : Int) by omega)]
            omega
    have h3 := h2 k
    split at h3 <;> omega
/-- every other place -/
theorem ev_e (f : Nat → Int) (m : Nat) (s x : Int) : (fun i => uz (uz f (2 * m) s) (2 * m + 1) x (2 * i)) = uz (fun i => f (2 * i)) m s := by
  funext i
  unfold uz
  by_cases q : i = m
  · rw [if_neg (by omega), if_pos (by omega), if_pos q]
  · rw [if_neg (by omega), if_neg (by omega), if_neg q]
theorem ev_o (f : Nat → Int) (m : Nat) (s x : Int) : (fun i => uz (uz f (2 * m) s) (2 * m + 1) x (2 * i + 1)) = uz (fun i => f (2 * i + 1)) m x := by
  funext i
  unfold uz
  by_cases q : i = m
  · rw [if_pos (by omega), if_pos q]
  · rw [if_neg (by omega), if_neg (by omega), if_neg q]
