/-! ===== refining and joining; what memory says of a state ===== -/
def refF (a : AS) (x : Nat) (lo up : Int) : Nat → Int := fun j => SF a.2.2.2.2.1 a.2.2.2.2.2 a.2.2.2.1.toNat j * (up - lo) + (if (j : Int) = a.2.2.2.2.2 x then -(a.2.2.2.2.1 x * (up - lo)) else 0) + (if (j : Int) = lo then a.2.2.2.2.1 x * (up - a.2.2.2.2.2 x) else 0) + (if (j : Int) = up then a.2.2.2.2.1 x * (a.2.2.2.2.2 x - lo) else 0)
def opSp (x lo up : Int) (a : AS) (r : Int) (a' : AS) : Prop := (¬ (0 ≤ x ∧ x < a.2.2.2.1) → r = -1 ∧ eqA a a') ∧ (0 ≤ x ∧ x < a.2.2.2.1 → (¬ ((0 ≤ lo ∧ lo ≤ a.2.2.2.2.2 x.toNat) ∧ (a.2.2.2.2.2 x.toNat ≤ up ∧ up ≤ 100)) → r = -2 ∧ eqA a a') ∧ ((0 ≤ lo ∧ lo ≤ a.2.2.2.2.2 x.toNat) ∧ (a.2.2.2.2.2 x.toNat ≤ up ∧ up ≤ 100) → (lo = up → r = a.2.2.2.1 ∧ eqA a a') ∧ (lo ≠ up → opF (refF a x.toNat lo up) a r a')))
def jnW (a : AS) (x : Nat) : Int := a.2.2.2.2.1 x + a.2.2.2.2.1 (x + 1)
def jnM (a : AS) (x : Nat) : Int := a.2.2.2.2.1 x * a.2.2.2.2.2 x + a.2.2.2.2.1 (x + 1) * a.2.2.2.2.2 (x + 1)
def jnF (a : AS) (x : Nat) : Nat → Int := fun j => SF a.2.2.2.2.1 a.2.2.2.2.2 a.2.2.2.1.toNat j + (if (j : Int) = a.2.2.2.2.2 x then -a.2.2.2.2.1 x else 0) + (if (j : Int) = a.2.2.2.2.2 (x + 1) then -a.2.2.2.2.1 (x + 1) else 0) + (if (j : Int) = (jnM a x).tdiv (jnW a x) then jnW a x else 0)
def opJn (x : Int) (a : AS) (r : Int) (a' : AS) : Prop := (¬ (0 ≤ x ∧ x + 1 < a.2.2.2.1) → r = -1 ∧ eqA a a') ∧ (0 ≤ x ∧ x + 1 < a.2.2.2.1 → ((jnM a x.toNat).tmod (jnW a x.toNat) ≠ 0 → r = -5 ∧ eqA a a') ∧ ((jnM a x.toNat).tmod (jnW a x.toNat) = 0 → opF (jnF a x.toNat) a r a'))
theorem SF_b {w p : Nat → Int} {m j : Nat} (h : ∀ k, k < m → 0 ≤ w k ∧ w k ≤ 999) (hm : m ≤ 6) : 0 ≤ SF w p m j ∧ SF w p m j ≤ 5994 := by
  have := sm_bm (f := fun k => if p k = (j : Int) then w k else 0) (a := 0) (b := 999) (n := m) (N := 6) hm (by decide) (by decide) (fun k hk => by
    have := h k hk
    split <;> omega)
  unfold SF
  omega
theorem SF_ge {w p : Nat → Int} : ∀ {m k : Nat}, (∀ i, i < m → 0 ≤ w i) → k < m → ∀ j : Nat, p k = (j : Int) → w k ≤ SF w p m j
  | m + 1, k, h, hk, j, hj => by
    rw [SF_suc]
    have hs : ∀ n, n ≤ m → 0 ≤ SF w p n j := fun n hn => by
      have := sm_b (f := fun i => if p i = (j : Int) then w i else 0) (a := 0) (b := 0) (n := 0) (fun i hi => absurd hi (by omega))
      induction n with
      | zero => exact Int.le_refl _
      | succ n ih =>
        rw [SF_suc]
        have h1 := ih (by omega)
        have h2 := h n (by omega)
        split <;> omega
    rcases Nat.lt_or_ge k m with q | q
    · have h1 := SF_ge (fun i hi => h i (by omega)) q j hj
      have h2 := h m (by omega)
      split <;> omega
    · have e : k = m := by omega
      subst e
      rw [if_pos hj]
      have := hs k (by omega)
      omega
theorem SF_ge2 {w p : Nat → Int} : ∀ {m k l : Nat}, (∀ i, i < m → 0 ≤ w i) → k < m → l < m → k ≠ l → ∀ j : Nat, p k = (j : Int) → p l = (j : Int) → w k + w l ≤ SF w p m j
  | m + 1, k, l, h, hk, hl, hn, j, hj, hj2 => by
    rw [SF_suc]
    rcases Nat.lt_or_ge k m with q | q
    · rcases Nat.lt_or_ge l m with q2 | q2
      · have h1 := SF_ge2 (fun i hi => h i (by omega)) q q2 hn j hj hj2
        have h2 := h m (by omega)
        split <;> omega
      · have e : l = m := by omega
        subst e
        have h1 := SF_ge (fun i hi => h i (by omega)) q j hj
        rw [if_pos hj2]
        omega
    · have e : k = m := by omega
      subst e
      have h1 := SF_ge (fun i hi => h i (by omega)) (show l < k by omega) j hj2
      rw [if_pos hj]
      omega
theorem vC_set {M M1 : Mem} (h : ∀ a, a < 6 → M1 a = M a) : eqA ((vC M 0).1, (vC M 0).2.1, (vC M 0).2.2.1, M1 6 2, M1 7, M1 8) (vC M1 0) := by
  refine ⟨?_, ?_, fun c k hc _ => ?_, rfl, fun _ _ => ⟨rfl, rfl⟩⟩
  · show M 0 2 = M1 0 2
    rw [h 0 (by decide)]
  · show M 1 4 = M1 1 4
    rw [h 1 (by decide)]
  · show (if c < 4 then M (2 + c) else fun _ => 0) k = (if c < 4 then M1 (2 + c) else fun _ => 0) k
    rw [h (2 + c) (by omega)]
theorem vC_same {M M1 : Mem} {j : Nat} (h : ∀ a, 9 * j ≤ a → a < 9 * j + 9 → M1 a = M a) : eqA (vC M j) (vC M1 j) := by
  refine ⟨?_, ?_, fun c k hc _ => ?_, ?_, fun k _ => ⟨?_, ?_⟩⟩
  · show M (9 * j) 2 = M1 (9 * j) 2
    rw [h _ (by omega) (by omega)]
  · show M (9 * j + 1) 4 = M1 (9 * j + 1) 4
    rw [h _ (by omega) (by omega)]
  · show (if c < 4 then M (9 * j + 2 + c) else fun _ => 0) k = (if c < 4 then M1 (9 * j + 2 + c) else fun _ => 0) k
    rw [h (9 * j + 2 + c) (by omega) (by omega)]
  · show M (9 * j + 6) 2 = M1 (9 * j + 6) 2
    rw [h _ (by omega) (by omega)]
  · show M (9 * j + 7) k = M1 (9 * j + 7) k
    rw [h _ (by omega) (by omega)]
  · show M (9 * j + 8) k = M1 (9 * j + 8) k
    rw [h _ (by omega) (by omega)]
theorem vC_cp {M M1 : Mem} {d s : Nat} (h : cpG M M1 d s) (hn : M (9 * s + 1) 4 ≤ 5) (hm : M (9 * s + 6) 2 ≤ 6) : eqA (vC M s) (vC M1 d) := by
  obtain ⟨h1, h2, ⟨h3, h4⟩, h5, h6⟩ := h
  refine ⟨h2.symm, h3.symm, fun c k hc hk => ?_, h5.symm, fun k hk => ?_⟩
  · have hk' : (k : Int) < M (9 * s + 1) 4 := hk
    obtain ⟨g1, g2, g3, g4⟩ := h4 k (by omega)
    show (if c < 4 then M (9 * s + 2 + c) else fun _ => 0) k = (if c < 4 then M1 (9 * d + 2 + c) else fun _ => 0) k
    rw [if_pos hc, if_pos hc]
    rcases (show c = 0 ∨ c = 1 ∨ c = 2 ∨ c = 3 by omega) with q | q | q | q <;> subst q
    · exact g1.symm
    · exact g2.symm
    · exact g3.symm
    · exact g4.symm
  · have hk' : (k : Int) < M (9 * s + 6) 2 := hk
    obtain ⟨g1, g2⟩ := h6 k (by omega)
    exact ⟨g1.symm, g2.symm⟩
theorem eqx_a {M M1 : Mem} {l : List Nat} (h : eqx M M1 l) {a : Nat} (ha : (l.contains a) = false) : M1 a = M a := h a (fun q => by
  have := List.contains_iff_mem.mpr q
  rw [ha] at this
  cases this)
theorem eqx_lt {M M1 : Mem} {l : List Nat} {n : Nat} (h : eqx M M1 l) (hl : l.all (fun b => decide (n ≤ b)) = true) : ∀ a, a < n → M1 a = M a := fun a ha => h a (fun q => by
  have := of_decide_eq_true (List.all_eq_true.mp hl a q)
  omega)
/-- parts that are told, pair by pair -/
def tld (f : Nat → Int) (c : Nat) : Nat → Int := SF (fun i => f (2 * i)) (fun i => f (2 * i + 1)) c
def tbad (f : Nat → Int) (c : Nat) : Prop := ∃ i, i < c ∧ ¬ ((1 ≤ f (2 * i) ∧ f (2 * i) ≤ 999) ∧ (0 ≤ f (2 * i + 1) ∧ f (2 * i + 1) ≤ 100))
theorem vA_C {M : Mem} {x : Int} : vA (vC M 0) x = cvl M x := rfl
theorem opF_cong {F G : Nat → Int} {a a' : AS} {r : Int} (e : ∀ j, j < 101 → F j = G j) (h : opF F a r a') : opF G a r a' := by
  have ek : okF (red F) ↔ okF (red G) := okF_cong (fun j hj => red_cong e hj)
  refine ⟨fun q => h.1 (fun w => q (ek.mp w)), fun q => ?_⟩
  obtain ⟨m, W, Q, s1, s2⟩ := h.2 (ek.mpr q)
  exact ⟨m, W, Q, SplitOf_cong s1 (fun j hj => red_cong e hj), s2⟩
theorem uzadd (G : Nat → Int) (k : Nat) (u : Int) (j : Nat) : uz G k (G k + u) j = G j + if j = k then u else 0 := by
  unfold uz
  by_cases h : j = k
  · rw [if_pos h, if_pos h, h]
  · rw [if_neg h, if_neg h]
    omega
theorem iff_nat {j : Nat} {x : Int} (hx : 0 ≤ x) : (j = x.toNat) ↔ ((j : Int) = x) := by omega
theorem opF_l {F : Nat → Int} {a b a' : AS} {r : Int} (h : eqA a b) (g : opF F a r a') : opF F b r a' := by
  refine ⟨fun q => ⟨(g.1 q).1, eqA_tr (eqA_sy h) (g.1 q).2⟩, fun q => ?_⟩
  obtain ⟨m, W, Q, s1, s2, s3⟩ := g.2 q
  obtain ⟨h1, h2, h3, h4, h5⟩ := h
  exact ⟨m, W, Q, s1, s2, eqA_tr (b := (a.1, a.2.1, a.2.2.1, m, W, Q)) ⟨h1.symm, h2.symm, fun c k hc hk => (h3 c k hc (by have : (k : Int) < b.2.1 := hk; omega)).symm, rfl, fun _ _ => ⟨rfl, rfl⟩⟩ s3⟩
theorem isB_cong {v u : Int → Int} {x lo hi : Int} (h : isB v x lo hi) (e : ∀ y, 0 ≤ y → y ≤ 100 → v y = u y) (hx : 0 ≤ x ∧ x ≤ 100) : isB u x lo hi := by
  have es : ∀ lo hi, okS x lo hi → sN v x lo hi = sN u x lo hi := by
    intro lo hi hk
    unfold sN
    rcases hk with ⟨h1, h2⟩ | ⟨h1, h2⟩
    · rw [if_pos (by omega), if_pos (by omega), e x hx.1 hx.2]
    · rw [if_neg (by omega), if_neg (by omega), e lo (by omega) (by omega), e hi (by omega) (by omega)]
  refine ⟨h.1, fun lo' hi' hk => ?_⟩
  rw [← es lo' hi' hk, ← es lo hi h.1]
  exact h.2 lo' hi' hk
theorem okS_rng {x lo hi : Int} (h : okS x lo hi) (hx : 0 ≤ x ∧ x ≤ 100) : (0 ≤ lo ∧ lo ≤ 100) ∧ (0 ≤ hi ∧ hi ≤ 100) := by
  rcases h with h | h <;> omega
/-- the curve drawn, and aimed at x -/
def CU (M M1 : Mem) (x : Int) : Prop := eqx M M1 [100, 101, 102] ∧ (∀ y : Nat, y ≤ 100 → M1 101 y = cvl M (y : Int)) ∧ isB (cvl M) x (M1 100 3) (M1 100 4) ∧ M1 100 5 = wLo x (M1 100 3) (M1 100 4) ∧ M1 100 6 = wHi x (M1 100 3) (M1 100 4)
theorem CU_of {M Ma M1 : Mem} {x : Int} (hx : 0 ≤ x ∧ x ≤ 100) (h1 : eqx M Ma [100, 101, 102]) (h2 : ∀ y : Nat, y ≤ 100 → Ma 101 y = cvl M (y : Int)) (h3 : eqx Ma M1 [100]) (h4 : isB (vM Ma) x (M1 100 3) (M1 100 4)) (h5 : M1 100 5 = wLo x (M1 100 3) (M1 100 4)) (h6 : M1 100 6 = wHi x (M1 100 3) (M1 100 4)) : CU M M1 x := by
  refine ⟨eqx_tr h1 (eqx_mono h3 (by decide)), fun y hy => by rw [h3 101 (by decide)]; exact h2 y hy, isB_cong h4 (fun y q1 q2 => ?_) hx, h5, h6⟩
  have := h2 y.toNat (by omega)
  rw [show ((y.toNat : Nat) : Int) = y by omega] at this
  exact this
theorem jn_rng {a b l u : Int} (ha : 1 ≤ a ∧ a ≤ 999) (hb : 1 ≤ b ∧ b ≤ 999) (hl : 0 ≤ l ∧ l ≤ 100) (hu : 0 ≤ u ∧ u ≤ 100) (h : (a * l + b * u).tmod (a + b) = 0) : 0 ≤ (a * l + b * u).tdiv (a + b) ∧ (a * l + b * u).tdiv (a + b) ≤ 100 := by
  have e := Int.tdiv_mul_cancel_of_tmod_eq_zero h
  have m1 := mulB (a := a) (A := a) (b := l) (B := 100) (by omega) hl
  have m2 := mulB (a := b) (A := b) (b := u) (B := 100) (by omega) hu
  constructor
  · rcases Int.lt_or_le ((a * l + b * u).tdiv (a + b)) 0 with q | q
    · have := Int.mul_pos (show 0 < -((a * l + b * u).tdiv (a + b)) by omega) (show 0 < a + b by omega)
      rw [Int.neg_mul] at this
      omega
    · exact q
  · exact le_of_mul (show 0 < a + b by omega) (by rw [e]; omega)
theorem vC_eq {M M1 : Mem} {j : Nat} (h : ∀ a, 9 * j ≤ a → a < 9 * j + 9 → M1 a = M a) : vC M1 j = vC M j := by
  unfold vC
  rw [h _ (by omega) (by omega), h (9 * j + 1) (by omega) (by omega), h (9 * j + 6) (by omega) (by omega), h (9 * j + 7) (by omega) (by omega), h (9 * j + 8) (by omega) (by omega)]
  have : (fun c => if c < 4 then M1 (9 * j + 2 + c) else fun _ => 0) = (fun c => if c < 4 then M (9 * j + 2 + c) else fun _ => 0) := by
    funext c
    by_cases q : c < 4
    · rw [if_pos q, if_pos q, h (9 * j + 2 + c) (by omega) (by omega)]
    · rw [if_neg q, if_neg q]
  rw [this]
