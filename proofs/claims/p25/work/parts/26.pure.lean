/-! ===== parts that come one by one ===== -/
theorem SplitOf_inc' {F : Nat → Int} {n : Int} {w p : Nat → Int} (h : SplitOf F n w p) {i j : Nat} (hj : (j : Int) < n) (hi : (i : Int) < n) (hij : p i = p j) : i = j := by
  rcases Nat.lt_trichotomy i j with q | q | q
  · have := SplitOf_inc h q hj; omega
  · exact q
  · have := SplitOf_inc h q hi; omega
/-- F with a weight more at x -/
def fadd (F : Nat → Int) (x w : Int) : Nat → Int := fun j => F j + if (j : Int) = x then w else 0
theorem cnt_fadd {F : Nat → Int} {x w : Int} (hx : 0 ≤ x) (h0 : F x.toNat = 0) (hw : 0 < w) : ∀ k : Nat, cnt (fadd F x w) k = cnt F k + if x < (k : Int) then 1 else 0
  | 0 => by rw [if_neg (by omega)]; rfl
  | k + 1 => by
    have ih := cnt_fadd hx h0 hw k
    simp only [cnt, ih]
    by_cases q : (k : Int) = x
    · have e : x.toNat = k := by omega
      rw [e] at h0
      have e2 : fadd F x w k = w := by unfold fadd; rw [if_pos q, h0]; omega
      rw [e2, if_pos hw, h0, if_neg (by omega), if_neg (by omega), if_pos (by omega)]
    · have e2 : fadd F x w k = F k := by unfold fadd; rw [if_neg q]; omega
      rw [e2]
      by_cases z : x < (k : Int)
      · rw [if_pos z, if_pos (show x < ((k + 1 : Nat) : Int) by omega)]
        omega
      · rw [if_neg z, if_neg (show ¬ x < ((k + 1 : Nat) : Int) by omega)]
        omega
theorem SplitOf_rank {F : Nat → Int} {n : Int} {w p : Nat → Int} {x : Int} {i : Nat} (h : SplitOf F n w p) (hx : 0 ≤ x ∧ x ≤ 100) (hi : (i : Int) ≤ n) (h1 : ∀ j : Nat, j < i → p j < x) (h2 : ∀ j : Nat, i ≤ j → (j : Int) < n → x < p j) : cnt F x.toNat = (i : Int) ∧ F x.toNat ≤ 0 := by
  have hn := h.1
  have up : cnt F x.toNat ≤ (i : Int) := by
    rcases Int.lt_or_le (i : Int) n with q | q
    · obtain ⟨k1, k2, k3, k4⟩ := h.2 i q
      have := cnt_mono F (show x.toNat ≤ (p i).toNat by have := h2 i (Nat.le_refl _) q; omega)
      omega
    · have := cnt_mono F (show x.toNat ≤ 101 by omega)
      omega
  have lo : (i : Int) ≤ cnt F x.toNat := by
    rcases Nat.eq_zero_or_pos i with q | q
    · have := cnt_b F x.toNat
      omega
    · obtain ⟨k1, k2, k3, k4⟩ := h.2 (i - 1) (by omega)
      have h3 := h1 (i - 1) (by omega)
      have := cnt_lt (F := F) (show (p (i - 1)).toNat < x.toNat by omega) (by rw [← k2]; exact k3)
      omega
  refine ⟨by omega, ?_⟩
  rcases Int.lt_or_le 0 (F x.toNat) with q | q
  · exfalso
    have h4 := cnt_lt (F := F) (show x.toNat < 101 by omega) q
    have hin : (i : Int) < n := by omega
    obtain ⟨k1, k2, k3, k4⟩ := h.2 i hin
    have h5 := h2 i (Nat.le_refl _) hin
    have := cnt_lt (F := F) (show x.toNat < (p i).toNat by omega) q
    omega
  · exact q
/-- a part at a place of its own -/
theorem SplitOf_ins {F : Nat → Int} {n : Int} {w p w' p' : Nat → Int} {x v : Int} {i : Nat} (h : SplitOf F n w p) (hF : ∀ j, 0 ≤ F j) (hx : 0 ≤ x ∧ x ≤ 100) (hv : 0 < v) (hi : (i : Int) ≤ n) (h1 : ∀ j : Nat, j < i → p j < x) (h2 : ∀ j : Nat, i ≤ j → (j : Int) < n → x < p j) (e : ∀ j : Nat, (j : Int) < n + 1 → w' j = (if j < i then w j else if j = i then v else w (j - 1)) ∧ p' j = (if j < i then p j else if j = i then x else p (j - 1))) : SplitOf (fadd F x v) (n + 1) w' p' := by
  obtain ⟨r1, r2⟩ := SplitOf_rank h hx hi h1 h2
  have h0 : F x.toNat = 0 := by have := hF x.toNat; omega
  have hc := cnt_fadd (F := F) (x := x) (w := v) hx.1 h0 hv
  have ne : ∀ y : Int, 0 ≤ y → y ≠ x → fadd F x v y.toNat = F y.toNat := fun y hy q => by
    unfold fadd
    rw [if_neg (by omega)]
    omega
  refine ⟨by rw [hc, if_pos (by omega), ← h.1], fun j hj => ?_⟩
  obtain ⟨e1, e2⟩ := e j hj
  rw [e1, e2]
  by_cases q : j < i
  · rw [if_pos q, if_pos q]
    obtain ⟨k1, k2, k3, k4⟩ := h.2 j (by omega)
    have := h1 j q
    refine ⟨k1, by rw [ne _ k1.1 (by omega)]; exact k2, k3, ?_⟩
    rw [hc, if_neg (by omega), k4]
    omega
  · rw [if_neg q, if_neg q]
    by_cases z : j = i
    · rw [if_pos z, if_pos z]
      refine ⟨hx, ?_, hv, ?_⟩
      · unfold fadd
        rw [if_pos (by omega), h0]
        omega
      · rw [hc, if_neg (by omega), r1, z]
        omega
    · rw [if_neg z, if_neg z]
      obtain ⟨k1, k2, k3, k4⟩ := h.2 (j - 1) (by omega)
      have := h2 (j - 1) (by omega) (by omega)
      refine ⟨k1, by rw [ne _ k1.1 (by omega)]; exact k2, k3, ?_⟩
      rw [hc, if_pos (by omega), k4]
      omega
/-- a weight more for a part that there is -/
theorem SplitOf_more {F : Nat → Int} {n : Int} {w p w' p' : Nat → Int} {x v : Int} {i : Nat} (h : SplitOf F n w p) (hx : 0 ≤ x) (hv : 0 ≤ v) (hi : (i : Int) < n) (h1 : p i = x) (e : ∀ j : Nat, (j : Int) < n → w' j = (if j = i then w j + v else w j) ∧ p' j = p j) : SplitOf (fadd F x v) n w' p' := by
  have hc : ∀ k, cnt (fadd F x v) k = cnt F k := by
    intro k
    induction k with
    | zero => rfl
    | succ k ih =>
      simp only [cnt, ih]
      by_cases q : (k : Int) = x
      · obtain ⟨k1, k2, k3, k4⟩ := h.2 i hi
        have e2 : fadd F x v k = F k + v := by unfold fadd; rw [if_pos q]
        have e3 : (p i).toNat = k := by omega
        rw [e3] at k2
        rw [e2, if_pos (by omega), if_pos (by omega)]
      · have e2 : fadd F x v k = F k := by unfold fadd; rw [if_neg q]; omega
        rw [e2]
  refine ⟨by rw [hc]; exact h.1, fun j hj => ?_⟩
  obtain ⟨e1, e2⟩ := e j hj
  obtain ⟨k1, k2, k3, k4⟩ := h.2 j hj
  rw [e1, e2, hc]
  refine ⟨k1, ?_, ?_, k4⟩
  · unfold fadd
    by_cases q : j = i
    · subst q
      rw [if_pos rfl, if_pos (by omega), k2]
    · rw [if_neg q, if_neg (fun z => q (SplitOf_inc' h hi hj (by omega)).symm.symm), k2]
      omega
  · split <;> omega
theorem fadd_0 {F : Nat → Int} {x : Int} : fadd F x 0 = F := by
  funext j
  unfold fadd
  split <;> omega
theorem fadd_nn {F : Nat → Int} {x v : Int} (hF : ∀ j, 0 ≤ F j) (hv : 0 ≤ v) : ∀ j, 0 ≤ fadd F x v j := fun j => by
  have := hF j
  unfold fadd
  split <;> omega
/-- gcd of the first weights of a list -/
def gls (w : Nat → Int) : Nat → Int
  | 0 => 0
  | n + 1 => (Int.gcd (gls w n) (w n) : Int)
theorem gls_nn (w : Nat → Int) : ∀ n, 0 ≤ gls w n
  | 0 => Int.le_refl _
  | n + 1 => Int.natCast_nonneg _
theorem gls_dvd {w : Nat → Int} : ∀ {n k : Nat}, k < n → gls w n ∣ w k
  | n + 1, k, h => by
    show (Int.gcd (gls w n) (w n) : Int) ∣ w k
    rcases Nat.lt_or_ge k n with q | q
    · exact Int.dvd_trans (Int.gcd_dvd_left _ _) (gls_dvd q)
    · have : k = n := by omega
      subst this
      exact Int.gcd_dvd_right _ _
theorem gls_great {w : Nat → Int} {d : Int} : ∀ {n : Nat}, (∀ k, k < n → d ∣ w k) → d ∣ gls w n
  | 0, _ => Int.dvd_zero d
  | n + 1, h => Int.dvd_coe_gcd (gls_great (fun k hk => h k (by omega))) (h n (by omega))
theorem gls_b {w : Nat → Int} {B : Int} (hB : 0 ≤ B) : ∀ {n : Nat}, (∀ k, k < n → 0 < w k ∧ w k ≤ B) → gls w n ≤ B
  | 0, _ => hB
  | n + 1, h => by
    have h1 := h n (by omega)
    have h2 := Int.le_of_dvd h1.1 (Int.gcd_dvd_right (gls w n) (w n))
    show (Int.gcd (gls w n) (w n) : Int) ≤ B
    omega
theorem gfo_nn (F : Nat → Int) : ∀ n, 0 ≤ gfo F n
  | 0 => Int.le_refl _
  | n + 1 => Int.natCast_nonneg _
theorem gls_gfo {F : Nat → Int} {n : Int} {w p : Nat → Int} (h : SplitOf F n w p) (hF : ∀ j, 0 ≤ F j) : gls w n.toNat = gfo F 101 := by
  refine Int.dvd_antisymm (gls_nn _ _) (gfo_nn _ _) (gfo_great fun j hj => ?_) (gls_great fun k hk => ?_)
  · rcases Int.lt_or_le 0 (F j) with q | q
    · have h1 := cnt_lt (F := F) hj q
      have h2 := cnt_b F j
      have hn := h.1
      obtain ⟨k1, k2, k3, k4⟩ := h.2 (cnt F j).toNat (by omega)
      have hp : (p (cnt F j).toNat).toNat = j := by
        have hF2 : 0 < F (p (cnt F j).toNat).toNat := by rw [← k2]; exact k3
        rcases Nat.lt_trichotomy (p (cnt F j).toNat).toNat j with z | z | z
        · have := cnt_lt z hF2; omega
        · exact z
        · have := cnt_lt z q; omega
      rw [hp] at k2
      rw [← k2]
      exact gls_dvd (by omega)
    · have : F j = 0 := by have := hF j; omega
      rw [this]
      exact Int.dvd_zero _
  · obtain ⟨k1, k2, k3, k4⟩ := h.2 k (by omega)
    rw [k2]
    exact gfo_dvd (by omega)
/-- all weights divided by what divides them all -/
def red (F : Nat → Int) : Nat → Int := fun j => (F j).tdiv (gfo F 101)
theorem tdiv_posd {a g : Int} (ha : 0 < a) (hg : 0 ≤ g) (hd : g ∣ a) : 0 < a.tdiv g := by
  have h := Int.tdiv_mul_cancel hd
  rcases Int.lt_or_le 0 (a.tdiv g) with q | q
  · exact q
  · have := Int.mul_nonneg (show 0 ≤ -(a.tdiv g) by omega) hg
    rw [Int.neg_mul] at this
    omega
theorem red_pos {F : Nat → Int} {j : Nat} (hj : j < 101) (h : 0 < F j) : 0 < red F j := tdiv_posd h (gfo_nn _ _) (gfo_dvd hj)
theorem red_nn {F : Nat → Int} (hF : ∀ j, 0 ≤ F j) (j : Nat) : 0 ≤ red F j := by
  unfold red
  rw [Int.tdiv_eq_ediv_of_nonneg (hF j)]
  exact Int.ediv_nonneg (hF j) (gfo_nn _ _)
theorem red_cnt {F : Nat → Int} (hF : ∀ j, 0 ≤ F j) : ∀ n : Nat, n ≤ 101 → cnt (red F) n = cnt F n
  | 0, _ => rfl
  | n + 1, h => by
    simp only [cnt]
    rw [red_cnt hF n (by omega)]
    rcases Int.lt_or_le 0 (F n) with q | q
    · rw [if_pos q, if_pos (red_pos (by omega) q)]
    · have e : F n = 0 := by have := hF n; omega
      have : red F n = 0 := by unfold red; rw [e]; exact Int.zero_tdiv _
      rw [this, e]
theorem SplitOf_red {F : Nat → Int} {n : Int} {w p w' p' : Nat → Int} (h : SplitOf F n w p) (hF : ∀ j, 0 ≤ F j) (e : ∀ j : Nat, (j : Int) < n → w' j = (w j).tdiv (gls w n.toNat) ∧ p' j = p j) : SplitOf (red F) n w' p' := by
  refine ⟨by rw [red_cnt hF _ (Nat.le_refl _)]; exact h.1, fun j hj => ?_⟩
  obtain ⟨e1, e2⟩ := e j hj
  obtain ⟨k1, k2, k3, k4⟩ := h.2 j hj
  rw [e1, e2, gls_gfo h hF, red_cnt hF _ (by omega)]
  refine ⟨k1, by unfold red; rw [k2], ?_, k4⟩
  rw [k2] at k3 ⊢
  exact red_pos (by omega) k3
/-- a split that the bounds allow -/
def okF (F : Nat → Int) : Prop := (∀ j, j < 101 → F j ≤ 999) ∧ cnt F 101 ≤ 6
theorem okF_list {F : Nat → Int} {n : Int} {w p : Nat → Int} (h : SplitOf F n w p) (hF : ∀ j, 0 ≤ F j) : okF F ↔ n ≤ 6 ∧ ∀ k : Nat, (k : Int) < n → w k ≤ 999 := by
  have hn := h.1
  constructor
  · rintro ⟨h1, h2⟩
    refine ⟨by omega, fun k hk => ?_⟩
    obtain ⟨k1, k2, k3, k4⟩ := h.2 k hk
    rw [k2]
    exact h1 _ (by omega)
  · rintro ⟨h1, h2⟩
    refine ⟨fun j hj => ?_, by omega⟩
    rcases Int.lt_or_le 0 (F j) with q | q
    · have h3 := cnt_lt (F := F) hj q
      have h4 := cnt_b F j
      obtain ⟨k1, k2, k3, k4⟩ := h.2 (cnt F j).toNat (by omega)
      have hp : (p (cnt F j).toNat).toNat = j := by
        have hF2 : 0 < F (p (cnt F j).toNat).toNat := by rw [← k2]; exact k3
        rcases Nat.lt_trichotomy (p (cnt F j).toNat).toNat j with z | z | z
        · have := cnt_lt z hF2; omega
        · exact z
        · have := cnt_lt z q; omega
      rw [hp] at k2
      rw [← k2]
      exact h2 _ (by omega)
    · omega
