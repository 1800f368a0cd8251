/-! ===== refining and joining, by the reference ===== -/
theorem red_id {F F0 : Nat → Int} (e : ∀ j, j < 101 → F j = F0 j) (hg : gfo F0 101 = 1) : ∀ j, j < 101 → red F j = F0 j := fun j hj => by
  unfold red
  rw [gfo_cong e, hg, e j hj, Int.tdiv_one]
def rfF (w p : Nat → Int) (x : Nat) (a b : Int) : Nat → (Nat → Int)
  | 0 => fun _ => 0
  | k + 1 => if k = x then (if b = a then fadd (rfF w p x a b k) (p x) (w x) else fadd (fadd (rfF w p x a b k) a (w x * (b - p x))) b (w x * (p x - a))) else fadd (rfF w p x a b k) (p k) (w k * (if b = a then 1 else b - a))
theorem rfF_b {w p : Nat → Int} {x : Nat} {a b : Int} {n : Nat} (hw : ∀ k, k < n → 1 ≤ w k ∧ w k ≤ 999) (hx : x < n) (ha : 0 ≤ a ∧ a ≤ p x) (hb : p x ≤ b ∧ b ≤ 100) : ∀ k, k ≤ n → ∀ j, 0 ≤ rfF w p x a b k j ∧ rfF w p x a b k j ≤ (k : Int) * 200000
  | 0, _, j => by
    show (0 : Int) ≤ 0 ∧ (0 : Int) ≤ 0 * 200000
    omega
  | k + 1, hk, j => by
    have ih := rfF_b hw hx ha hb k (by omega) j
    have hwk := hw k (by omega)
    have hwx := hw x hx
    have m1 := mulB (a := w x) (A := 999) (b := b - p x) (B := 100) (by omega) (by omega)
    have m2 := mulB (a := w x) (A := 999) (b := p x - a) (B := 100) (by omega) (by omega)
    have m3 := mulB (a := w k) (A := 999) (b := if b = a then 1 else b - a) (B := 100) (by omega) (by split <;> omega)
    have e : rfF w p x a b (k + 1) = if k = x then (if b = a then fadd (rfF w p x a b k) (p x) (w x) else fadd (fadd (rfF w p x a b k) a (w x * (b - p x))) b (w x * (p x - a))) else fadd (rfF w p x a b k) (p k) (w k * (if b = a then 1 else b - a)) := rfl
    rw [e]
    by_cases q : k = x
    · rw [if_pos q]
      by_cases g : b = a
      · rw [if_pos g]
        show 0 ≤ rfF w p x a b k j + (if (j : Int) = p x then w x else 0) ∧ rfF w p x a b k j + (if (j : Int) = p x then w x else 0) ≤ ((k + 1 : Nat) : Int) * 200000
        split <;> omega
      · rw [if_neg g]
        show 0 ≤ rfF w p x a b k j + (if (j : Int) = a then w x * (b - p x) else 0) + (if (j : Int) = b then w x * (p x - a) else 0) ∧ rfF w p x a b k j + (if (j : Int) = a then w x * (b - p x) else 0) + (if (j : Int) = b then w x * (p x - a) else 0) ≤ ((k + 1 : Nat) : Int) * 200000
        split <;> split <;> omega
    · rw [if_neg q]
      show 0 ≤ rfF w p x a b k j + (if (j : Int) = p k then w k * (if b = a then 1 else b - a) else 0) ∧ rfF w p x a b k j + (if (j : Int) = p k then w k * (if b = a then 1 else b - a) else 0) ≤ ((k + 1 : Nat) : Int) * 200000
      split <;> omega
theorem rfF_eq {w p : Nat → Int} {x : Nat} {a b : Int} (h : b = a) : ∀ k j, rfF w p x a b k j = SF w p k j
  | 0, _ => rfl
  | k + 1, j => by
    have ih := rfF_eq (w := w) (p := p) (x := x) h k j
    have e : rfF w p x a b (k + 1) = if k = x then (if b = a then fadd (rfF w p x a b k) (p x) (w x) else fadd (fadd (rfF w p x a b k) a (w x * (b - p x))) b (w x * (p x - a))) else fadd (rfF w p x a b k) (p k) (w k * (if b = a then 1 else b - a)) := rfl
    rw [e, if_pos h, if_pos h, SF_suc]
    by_cases q : k = x
    · rw [if_pos q, q]
      rw [q] at ih
      show rfF w p x a b x j + (if (j : Int) = p x then w x else 0) = _
      rw [ih]
      by_cases g : p x = (j : Int)
      · rw [if_pos g, if_pos (show (j : Int) = p x from g.symm)]
      · rw [if_neg g, if_neg (show ¬ (j : Int) = p x from fun z => g z.symm)]
    · rw [if_neg q, Int.mul_one]
      show rfF w p x a b k j + (if (j : Int) = p k then w k else 0) = _
      rw [ih]
      by_cases g : p k = (j : Int)
      · rw [if_pos g, if_pos (show (j : Int) = p k from g.symm)]
      · rw [if_neg g, if_neg (show ¬ (j : Int) = p k from fun z => g z.symm)]
theorem rfF_ne {w p : Nat → Int} {x : Nat} {a b : Int} (h : ¬ b = a) : ∀ k j, rfF w p x a b k j = SF w p k j * (b - a) + if x < k then ((if (j : Int) = p x then -(w x * (b - a)) else 0) + (if (j : Int) = a then w x * (b - p x) else 0) + (if (j : Int) = b then w x * (p x - a) else 0)) else 0
  | 0, j => by
    show (0 : Int) = 0 * (b - a) + (if x < 0 then ((if (j : Int) = p x then -(w x * (b - a)) else 0) + (if (j : Int) = a then w x * (b - p x) else 0) + (if (j : Int) = b then w x * (p x - a) else 0)) else 0)
    rw [if_neg (show ¬ x < 0 by omega)]
    omega
  | k + 1, j => by
    have ih := rfF_ne (w := w) (p := p) (x := x) h k j
    have e : rfF w p x a b (k + 1) = if k = x then (if b = a then fadd (rfF w p x a b k) (p x) (w x) else fadd (fadd (rfF w p x a b k) a (w x * (b - p x))) b (w x * (p x - a))) else fadd (rfF w p x a b k) (p k) (w k * (if b = a then 1 else b - a)) := rfl
    rw [e, if_neg h, if_neg h, SF_suc, Int.add_mul]
    by_cases q : k = x
    · rw [if_pos q, if_pos (show x < k + 1 by omega)]
      rw [if_neg (show ¬ x < k by omega)] at ih
      show rfF w p x a b k j + (if (j : Int) = a then w x * (b - p x) else 0) + (if (j : Int) = b then w x * (p x - a) else 0) = _
      rw [ih, q]
      by_cases g : p x = (j : Int)
      · rw [if_pos g, if_pos (show (j : Int) = p x from g.symm)]
        omega
      · rw [if_neg g, if_neg (show ¬ (j : Int) = p x from fun z => g z.symm), Int.zero_mul]
        omega
    · rw [if_neg q]
      show rfF w p x a b k j + (if (j : Int) = p k then w k * (b - a) else 0) = _
      rw [ih]
      have ex : (x < k + 1) ↔ (x < k) := by omega
      simp only [ex]
      by_cases g : p k = (j : Int)
      · rw [if_pos g, if_pos (show (j : Int) = p k from g.symm)]
        omega
      · rw [if_neg g, if_neg (show ¬ (j : Int) = p k from fun z => g z.symm), Int.zero_mul]
        omega
/-- what refining gives, by the reference -/
theorem sp_no {c : AS} {x lo up : Int} (hw : WF c) (hx : 0 ≤ x ∧ x < c.2.2.2.1) (hr : (0 ≤ lo ∧ lo ≤ c.2.2.2.2.2 x.toNat) ∧ (c.2.2.2.2.2 x.toNat ≤ up ∧ up ≤ 100)) (ho : ¬ okF (red (rfF c.2.2.2.2.1 c.2.2.2.2.2 x.toNat lo up c.2.2.2.1.toNat))) : opSp x lo up c (-4) c := by
  refine ⟨fun q => absurd hx q, fun _ => ⟨fun q => absurd hr q, fun _ => ⟨fun q => ?_, fun q => ⟨fun _ => ⟨rfl, eqA_rf _⟩, fun g => ?_⟩⟩⟩⟩
  · exfalso
    obtain ⟨F, f1, f2, f3, f4⟩ := hw.2.2
    have e : ∀ j, j < 101 → rfF c.2.2.2.2.1 c.2.2.2.2.2 x.toNat lo up c.2.2.2.1.toNat j = F j := fun j hj => by
      rw [rfF_eq q.symm]
      exact SF_of f4 (fun j _ => (f1 j).1) hj
    exact ho ((okF_cong (red_id e f3)).mpr f2)
  · exfalso
    have e : ∀ j, j < 101 → rfF c.2.2.2.2.1 c.2.2.2.2.2 x.toNat lo up c.2.2.2.1.toNat j = refF c x.toNat lo up j := fun j _ => by
      rw [rfF_ne (fun z => q z.symm), if_pos (by omega)]
      unfold refF
      omega
    exact ho ((okF_cong (fun j hj => red_cong e hj)).mpr g)
theorem sp_yes {c c' : AS} {x lo up m : Int} {W Q : Nat → Int} (hw : WF c) (hx : 0 ≤ x ∧ x < c.2.2.2.1) (hr : (0 ≤ lo ∧ lo ≤ c.2.2.2.2.2 x.toNat) ∧ (c.2.2.2.2.2 x.toNat ≤ up ∧ up ≤ 100)) (ho : okF (red (rfF c.2.2.2.2.1 c.2.2.2.2.2 x.toNat lo up c.2.2.2.1.toNat))) (hS : SplitOf (red (rfF c.2.2.2.2.1 c.2.2.2.2.2 x.toNat lo up c.2.2.2.1.toNat)) m W Q) (hA : eqA (c.1, c.2.1, c.2.2.1, m, W, Q) c') : opSp x lo up c m c' := by
  refine ⟨fun q => absurd hx q, fun _ => ⟨fun q => absurd hr q, fun _ => ⟨fun q => ?_, fun q => ⟨fun g => ?_, fun _ => ⟨m, W, Q, ?_, rfl, hA⟩⟩⟩⟩⟩
  · obtain ⟨F, f1, f2, f3, f4⟩ := hw.2.2
    have e : ∀ j, j < 101 → rfF c.2.2.2.2.1 c.2.2.2.2.2 x.toNat lo up c.2.2.2.1.toNat j = F j := fun j hj => by
      rw [rfF_eq q.symm]
      exact SF_of f4 (fun j _ => (f1 j).1) hj
    obtain ⟨u1, u2⟩ := SplitOf_uniq f4 (SplitOf_cong hS (red_id e f3)) (fun _ _ => rfl)
    have hm : eqA c (c.1, c.2.1, c.2.2.1, m, W, Q) := ⟨rfl, rfl, fun _ _ _ _ => rfl, u1, u2⟩
    exact ⟨u1.symm, eqA_tr hm hA⟩
  · exfalso
    have e : ∀ j, j < 101 → rfF c.2.2.2.2.1 c.2.2.2.2.2 x.toNat lo up c.2.2.2.1.toNat j = refF c x.toNat lo up j := fun j _ => by
      rw [rfF_ne (fun z => q z.symm), if_pos (by omega)]
      unfold refF
      omega
    exact g ((okF_cong (fun j hj => red_cong e hj)).mp ho)
  · have e : ∀ j, j < 101 → rfF c.2.2.2.2.1 c.2.2.2.2.2 x.toNat lo up c.2.2.2.1.toNat j = refF c x.toNat lo up j := fun j _ => by
      rw [rfF_ne (fun z => q z.symm), if_pos (by omega)]
      unfold refF
      omega
    exact SplitOf_cong hS (fun j hj => red_cong e hj)
def jF (w p : Nat → Int) (x : Nat) (md wt : Int) : Nat → (Nat → Int)
  | 0 => fadd (fun _ => 0) md wt
  | k + 1 => if k = x ∨ k = x + 1 then jF w p x md wt k else fadd (jF w p x md wt k) (p k) (w k)
theorem jF_b {w p : Nat → Int} {x : Nat} {md wt : Int} {n : Nat} (hw : ∀ k, k < n → 1 ≤ w k ∧ w k ≤ 999) (hwt : 0 ≤ wt ∧ wt ≤ 1998) : ∀ k, k ≤ n → ∀ j, 0 ≤ jF w p x md wt k j ∧ jF w p x md wt k j ≤ 1998 + (k : Int) * 999
  | 0, _, j => by
    show 0 ≤ 0 + (if (j : Int) = md then wt else 0) ∧ 0 + (if (j : Int) = md then wt else 0) ≤ 1998 + 0 * 999
    split <;> omega
  | k + 1, hk, j => by
    have ih := jF_b (p := p) (x := x) (md := md) hw hwt k (by omega) j
    have hwk := hw k (by omega)
    have e : jF w p x md wt (k + 1) = if k = x ∨ k = x + 1 then jF w p x md wt k else fadd (jF w p x md wt k) (p k) (w k) := rfl
    rw [e]
    by_cases q : k = x ∨ k = x + 1
    · rw [if_pos q]
      omega
    · rw [if_neg q]
      show 0 ≤ jF w p x md wt k j + (if (j : Int) = p k then w k else 0) ∧ jF w p x md wt k j + (if (j : Int) = p k then w k else 0) ≤ 1998 + ((k + 1 : Nat) : Int) * 999
      split <;> omega
theorem jF_e {w p : Nat → Int} {x : Nat} {md wt : Int} : ∀ k j, jF w p x md wt k j = SF w p k j + (if x < k then (if (j : Int) = p x then -w x else 0) else 0) + (if x + 1 < k then (if (j : Int) = p (x + 1) then -w (x + 1) else 0) else 0) + (if (j : Int) = md then wt else 0)
  | 0, j => by
    show 0 + (if (j : Int) = md then wt else 0) = 0 + (if x < 0 then (if (j : Int) = p x then -w x else 0) else 0) + (if x + 1 < 0 then (if (j : Int) = p (x + 1) then -w (x + 1) else 0) else 0) + (if (j : Int) = md then wt else 0)
    rw [if_neg (show ¬ x < 0 by omega), if_neg (show ¬ x + 1 < 0 by omega)]
    omega
  | k + 1, j => by
    have ih := jF_e (w := w) (p := p) (x := x) (md := md) (wt := wt) k j
    have e : jF w p x md wt (k + 1) = if k = x ∨ k = x + 1 then jF w p x md wt k else fadd (jF w p x md wt k) (p k) (w k) := rfl
    rw [e, SF_suc]
    by_cases q1 : k = x
    · rw [if_pos (Or.inl q1), ih, if_neg (show ¬ x < k by omega), if_neg (show ¬ x + 1 < k by omega), if_pos (show x < k + 1 by omega), if_neg (show ¬ x + 1 < k + 1 by omega), q1]
      by_cases g : p x = (j : Int)
      · rw [if_pos g, if_pos (show (j : Int) = p x from g.symm)]
        omega
      · rw [if_neg g, if_neg (show ¬ (j : Int) = p x from fun z => g z.symm)]
        omega
    · by_cases q2 : k = x + 1
      · rw [if_pos (Or.inr q2), ih, if_pos (show x < k by omega), if_neg (show ¬ x + 1 < k by omega), if_pos (show x < k + 1 by omega), if_pos (show x + 1 < k + 1 by omega), q2]
        by_cases g : p (x + 1) = (j : Int)
        · rw [if_pos g, if_pos (show (j : Int) = p (x + 1) from g.symm)]
          omega
        · rw [if_neg g, if_neg (show ¬ (j : Int) = p (x + 1) from fun z => g z.symm)]
          omega
      · rw [if_neg (by omega)]
        show jF w p x md wt k j + (if (j : Int) = p k then w k else 0) = _
        have e1 : (x < k + 1) ↔ (x < k) := by omega
        have e2 : (x + 1 < k + 1) ↔ (x + 1 < k) := by omega
        simp only [e1, e2]
        rw [ih]
        by_cases g : p k = (j : Int)
        · rw [if_pos g, if_pos (show (j : Int) = p k from g.symm)]
          omega
        · rw [if_neg g, if_neg (show ¬ (j : Int) = p k from fun z => g z.symm)]
          omega
theorem jF_jn {c : AS} {x : Nat} (hx : x + 1 < c.2.2.2.1.toNat) : ∀ j, jF c.2.2.2.2.1 c.2.2.2.2.2 x ((jnM c x).tdiv (jnW c x)) (jnW c x) c.2.2.2.1.toNat j = jnF c x j := fun j => by
  rw [jF_e, if_pos (by omega), if_pos hx]
  rfl
theorem jF_pos {w p : Nat → Int} {x : Nat} {md wt : Int} {n : Nat} (hw : ∀ k, k < n → 1 ≤ w k) (hwt : 0 < wt) (hmd : 0 ≤ md) : ∀ k, k ≤ n → 0 < jF w p x md wt k md.toNat
  | 0, _ => by
    show 0 < 0 + (if ((md.toNat : Nat) : Int) = md then wt else 0)
    rw [if_pos (by omega)]
    omega
  | k + 1, hk => by
    have ih := jF_pos (p := p) (x := x) hw hwt hmd k (by omega)
    have hwk := hw k (by omega)
    have e : jF w p x md wt (k + 1) = if k = x ∨ k = x + 1 then jF w p x md wt k else fadd (jF w p x md wt k) (p k) (w k) := rfl
    rw [e]
    by_cases q : k = x ∨ k = x + 1
    · rw [if_pos q]
      exact ih
    · rw [if_neg q]
      show 0 < jF w p x md wt k md.toNat + (if ((md.toNat : Nat) : Int) = p k then w k else 0)
      split <;> omega
/-- there is some part left -/
theorem rfF_pos {w p : Nat → Int} {x : Nat} {a b : Int} {n : Nat} (hw : ∀ k, k < n → (1 ≤ w k ∧ w k ≤ 999) ∧ (0 ≤ p k ∧ p k ≤ 100)) (hx : x < n) (ha : 0 ≤ a ∧ a ≤ p x) (hb : p x ≤ b ∧ b ≤ 100) : 1 ≤ cnt (rfF w p x a b n) 101 := by
  have hbd := rfF_b (fun k hk => (hw k hk).1) hx ha hb n (Nat.le_refl _)
  have h0 := hw x hx
  have hSn : ∀ k j, k ≤ n → 0 ≤ SF w p k j := fun k j hk => by
    unfold SF
    have := sm_b (f := fun i => if p i = (j : Int) then w i else 0) (a := 0) (b := 999) (n := k) (fun i hi => by
      have := hw i (by omega)
      split <;> omega)
    omega
  suffices hs : ∃ j, j < 101 ∧ 0 < rfF w p x a b n j by
    obtain ⟨j, hj, h⟩ := hs
    have := cnt_lt (F := rfF w p x a b n) (a := j) (b := 101) hj h
    have := (cnt_b (rfF w p x a b n) j).1
    omega
  by_cases q : b = a
  · refine ⟨(p x).toNat, by omega, ?_⟩
    rw [rfF_eq q]
    have := SF_ge (w := w) (p := p) (m := n) (k := x) (fun i hi => by have := hw i hi; omega) hx (p x).toNat (by omega)
    omega
  · rcases (show p x < b ∨ (p x = b ∧ a < p x) by omega) with g | g
    · refine ⟨a.toNat, by omega, ?_⟩
      have k1 := SF_ge (w := w) (p := p) (m := n) (k := x) (fun i hi => by have := hw i hi; omega) hx
      have e := rfF_ne (w := w) (p := p) (x := x) q n a.toNat
      rw [if_pos hx, if_pos (show ((a.toNat : Nat) : Int) = a by omega), if_neg (show ¬ ((a.toNat : Nat) : Int) = b by omega)] at e
      have hp := Int.mul_pos (show 0 < w x by omega) (show 0 < b - p x by omega)
      have hs := hSn n a.toNat (Nat.le_refl _)
      by_cases z : ((a.toNat : Nat) : Int) = p x
      · rw [if_pos z] at e
        have k2 := k1 a.toNat (by omega)
        have k3 := Int.mul_le_mul_of_nonneg_right k2 (show 0 ≤ b - a by omega)
        omega
      · rw [if_neg z] at e
        have := Int.mul_nonneg hs (show 0 ≤ b - a by omega)
        omega
    · refine ⟨b.toNat, by omega, ?_⟩
      have k1 := SF_ge (w := w) (p := p) (m := n) (k := x) (fun i hi => by have := hw i hi; omega) hx b.toNat (by omega)
      have e := rfF_ne (w := w) (p := p) (x := x) q n b.toNat
      rw [if_pos hx, if_pos (show ((b.toNat : Nat) : Int) = p x by omega), if_neg (show ¬ ((b.toNat : Nat) : Int) = a by omega), if_pos (show ((b.toNat : Nat) : Int) = b by omega)] at e
      have hp := Int.mul_pos (show 0 < w x by omega) (show 0 < p x - a by omega)
      have k3 := Int.mul_le_mul_of_nonneg_right k1 (show 0 ≤ b - a by omega)
      omega
