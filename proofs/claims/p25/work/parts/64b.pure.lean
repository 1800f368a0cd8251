/-! ===== the law's acts: what they make of its state ===== -/
theorem any32 (u : Int32) : ∃ a : Int, (-2147483648 ≤ a ∧ a ≤ 2147483647) ∧ u = zI a := ⟨u.toInt, zI_inT _, (zI_of _).symm⟩
theorem RLL_of {Mc M2 : Mem} {c : AS} (hH : HI Mc) (hW : WF (vC Mc 0)) (hA : eqA (vC Mc 0) c) (e : ∀ a, a < 105 → M2 a = Mc a) (g : eqA c (vL M2)) : RLL M2 := by
  have ev : vC M2 0 = vC Mc 0 := vC_eq (fun a _ h => e a (by omega))
  refine ⟨by rw [ev]; exact eqA_tr hA g, by rw [ev]; exact hW, ?_⟩
  unfold HI at hH ⊢
  rw [e 91 (by decide)]
  exact hH
theorem adm_re (f : Nat → Int) {m c k : Nat} (a b u v : Int) (hc : c < 4) : uz (uz (uz (uz f (4 * m) a) (4 * m + 1) b) (4 * m + 2) u) (4 * m + 3) v (4 * k + c) = if k = m then (if c = 0 then a else if c = 1 then b else if c = 2 then u else v) else f (4 * k + c) := by
  unfold uz
  by_cases q : k = m
  · subst q
    rw [if_pos rfl]
    rcases (show c = 0 ∨ c = 1 ∨ c = 2 ∨ c = 3 by omega) with w | w | w | w <;> subst w
    · rw [if_neg (by omega), if_neg (by omega), if_neg (by omega), if_pos (by omega), if_pos rfl]
    · rw [if_neg (by omega), if_neg (by omega), if_pos (by omega), if_neg (by decide), if_pos rfl]
    · rw [if_neg (by omega), if_pos (by omega), if_neg (by decide), if_neg (by decide), if_pos rfl]
    · rw [if_pos (by omega), if_neg (by decide), if_neg (by decide), if_neg (by decide)]
  · rw [if_neg q, if_neg (by omega), if_neg (by omega), if_neg (by omega), if_neg (by omega)]
theorem adm_L {M M2 : Mem} {m : Nat} {a b u v : Int} (hm : M 105 1 = (m : Int)) (e5 : M2 105 = uz (M 105) 1 (M 105 1 + 1)) (e6 : M2 106 = uz (uz (uz (uz (M 106) (4 * m) a) (4 * m + 1) b) (4 * m + 2) u) (4 * m + 3) v) (e7 : M2 107 = M 107) (e8 : M2 108 = M 108) : eqA (admA (vL M) a b u v) (vL M2) := by
  refine ⟨?_, ?_, fun c k hc hk => ?_, ?_, fun k _ => ⟨?_, ?_⟩⟩
  · show M 105 0 = M2 105 0
    rw [e5]
    exact (uz_n _ _ (by decide)).symm
  · show M 105 1 + 1 = M2 105 1
    rw [e5]
    exact (uz_s _ _ _).symm
  · show (if (k : Int) = M 105 1 then _ else M 106 (4 * k + c)) = M2 106 (4 * k + c)
    rw [e6, adm_re _ _ _ _ _ hc, hm]
    by_cases q : k = m
    · rw [if_pos q, if_pos (show (k : Int) = (m : Int) by omega)]
    · rw [if_neg q, if_neg (show ¬ (k : Int) = (m : Int) by omega)]
  · show M 105 2 = M2 105 2
    rw [e5]
    exact (uz_n _ _ (by decide)).symm
  · show M 107 k = M2 107 k
    rw [e7]
  · show M 108 k = M2 108 k
    rw [e8]
theorem dis_L {M M2 : Mem} {x : Int} (hx : 0 ≤ x ∧ x < M 105 1) (e5 : M2 105 = uz (M 105) 1 (M 105 1 - 1)) (e6 : ∀ j : Nat, (j : Int) < 4 * (M 105 1 - 1) → M2 106 j = if 4 * x ≤ (j : Int) then M 106 (j + 4) else M 106 j) (e7 : M2 107 = M 107) (e8 : M2 108 = M 108) : eqA (disA (vL M) x) (vL M2) := by
  refine ⟨?_, ?_, fun c k hc hk => ?_, ?_, fun k _ => ⟨?_, ?_⟩⟩
  · show M 105 0 = M2 105 0
    rw [e5]
    exact (uz_n _ _ (by decide)).symm
  · show M 105 1 - 1 = M2 105 1
    rw [e5]
    exact (uz_s _ _ _).symm
  · have hk' : (k : Int) < M 105 1 - 1 := hk
    show M 106 (4 * (if (k : Int) < x then k else k + 1) + c) = M2 106 (4 * k + c)
    rw [e6 _ (by omega)]
    by_cases q : (k : Int) < x
    · rw [if_pos q, if_neg (by omega)]
    · rw [if_neg q, if_pos (by omega)]
      exact congrArg (M 106) (by omega)
  · show M 105 2 = M2 105 2
    rw [e5]
    exact (uz_n _ _ (by decide)).symm
  · show M 107 k = M2 107 k
    rw [e7]
  · show M 108 k = M2 108 k
    rw [e8]
/-- the law's parts become others -/
theorem prt_L {M M2 : Mem} {m : Int} {W Q : Nat → Int} (e5 : M2 105 = uz (M 105) 2 m) (e6 : M2 106 = M 106) (e7 : ∀ k : Nat, (k : Int) < m → W k = M2 107 k ∧ Q k = M2 108 k) : eqA ((vL M).1, (vL M).2.1, (vL M).2.2.1, m, W, Q) (vL M2) := by
  refine ⟨?_, ?_, fun c k _ _ => ?_, ?_, e7⟩
  · show M 105 0 = M2 105 0
    rw [e5]
    exact (uz_n _ _ (by decide)).symm
  · show M 105 1 = M2 105 1
    rw [e5]
    exact (uz_n _ _ (by decide)).symm
  · show M 106 (4 * k + c) = M2 106 (4 * k + c)
    rw [e6]
  · show m = M2 105 2
    rw [e5]
    exact (uz_s _ _ _).symm
theorem SF_push {w p w' p' : Nat → Int} {m : Nat} {v y : Int} (h : ∀ i, i < m → w' i = w i ∧ p' i = p i) (hv : w' m = v) (hy : p' m = y) (j : Nat) : SF w' p' (m + 1) j = SF w p m j + if (j : Int) = y then v else 0 := by
  rw [SF_suc, hv, hy]
  have e : SF w' p' m j = SF w p m j := sm_cong (fun i hi => by
    obtain ⟨e1, e2⟩ := h i hi
    show (if p' i = (j : Int) then w' i else 0) = if p i = (j : Int) then w i else 0
    rw [e1, e2])
  rw [e]
  by_cases q : y = (j : Int)
  · rw [if_pos q, if_pos q.symm]
  · rw [if_neg q, if_neg (fun z => q z.symm)]
/-- two neighbours at one place -/
theorem SF_jF {w p W Q : Nat → Int} {x n : Nat} {md : Int} (h : ∀ i, i < n → W i = w i ∧ Q i = if i = x ∨ i = x + 1 then md else p i) (j : Nat) : ∀ k, k ≤ n → SF W Q k j + (if (j : Int) = md then (if x < k then 0 else w x) + (if x + 1 < k then 0 else w (x + 1)) else 0) = jF w p x md (w x + w (x + 1)) k j
  | 0, _ => by
    show (0 : Int) + (if (j : Int) = md then (if x < 0 then 0 else w x) + (if x + 1 < 0 then 0 else w (x + 1)) else 0) = 0 + (if (j : Int) = md then w x + w (x + 1) else 0)
    rw [if_neg (show ¬ x < 0 by omega), if_neg (show ¬ x + 1 < 0 by omega)]
  | k + 1, hk => by
    have ih := SF_jF (w := w) (p := p) (W := W) (Q := Q) (x := x) (md := md) h j k (by omega)
    obtain ⟨e1, e2⟩ := h k (by omega)
    have e : jF w p x md (w x + w (x + 1)) (k + 1) = if k = x ∨ k = x + 1 then jF w p x md (w x + w (x + 1)) k else fadd (jF w p x md (w x + w (x + 1)) k) (p k) (w k) := rfl
    rw [SF_suc, e, e1, e2]
    by_cases q1 : k = x
    · rw [if_pos (Or.inl q1), if_pos (Or.inl q1), ← ih, if_neg (show ¬ x < k by omega), if_neg (show ¬ x + 1 < k by omega), if_pos (show x < k + 1 by omega), if_neg (show ¬ x + 1 < k + 1 by omega), q1]
      by_cases g : md = (j : Int)
      · rw [if_pos g, if_pos g.symm]
        omega
      · rw [if_neg g, if_neg (fun z => g z.symm)]
        omega
    · by_cases q2 : k = x + 1
      · rw [if_pos (Or.inr q2), if_pos (Or.inr q2), ← ih, if_pos (show x < k by omega), if_neg (show ¬ x + 1 < k by omega), if_pos (show x < k + 1 by omega), if_pos (show x + 1 < k + 1 by omega), q2]
        by_cases g : md = (j : Int)
        · rw [if_pos g, if_pos g.symm]
          omega
        · rw [if_neg g, if_neg (fun z => g z.symm)]
          omega
      · have q3 : ¬ (k = x ∨ k = x + 1) := by omega
        rw [if_neg q3, if_neg q3]
        show _ = jF w p x md (w x + w (x + 1)) k j + (if (j : Int) = p k then w k else 0)
        rw [← ih]
        have e5 : (x < k + 1) ↔ (x < k) := by omega
        have e6 : (x + 1 < k + 1) ↔ (x + 1 < k) := by omega
        simp only [e5, e6]
        by_cases g : p k = (j : Int)
        · rw [if_pos g, if_pos (show (j : Int) = p k from g.symm)]
          omega
        · rw [if_neg g, if_neg (show ¬ (j : Int) = p k from fun z => g z.symm)]
          omega
theorem gfo_mul {F : Nat → Int} {g : Int} (hg : 0 ≤ g) : ∀ n : Nat, gfo (fun j => g * F j) n = g * gfo F n
  | 0 => by show (0 : Int) = g * 0; omega
  | n + 1 => by
    show (Int.gcd (g * F n) (gfo (fun j => g * F j) n) : Int) = g * (Int.gcd (F n) (gfo F n) : Int)
    rw [gfo_mul hg n, Int.gcd_mul_left, Int.natCast_mul]
    congr 1
    omega
theorem red_mul {F G : Nat → Int} {g : Int} (hg : 0 < g) (e : ∀ j, j < 101 → G j = g * F j) : ∀ j, j < 101 → red G j = red F j := fun j hj => by
  unfold red
  rw [gfo_cong e, gfo_mul (by omega), e j hj, Int.mul_tdiv_mul_of_pos _ _ hg]
theorem okF_small {F : Nat → Int} (h : ∀ j, 0 ≤ F j) (hb : ∀ j, F j ≤ 999) (hc : cnt F 101 ≤ 6) : okF (red F) := by
  refine ⟨fun j _ => ?_, ?_⟩
  · have := tdiv_b (a := F j) (g := gfo F 101) (A := 999) ⟨h j, hb j⟩ (gfo_nn F 101)
    exact this.2
  · rw [red_cnt h 101 (Nat.le_refl _)]
    exact hc
/-- the best split, by its own weights -/
theorem bst_two {x lo hi : Int} {W Q : Nat → Int} (h : okS x lo hi) (w0 : W 0 = if lo = hi then 1 else hi - x) (q0 : Q 0 = lo) (w1 : W 1 = if lo = hi then 0 else x - lo) (q1 : Q 1 = hi) : ∀ j, j < 101 → red (SF W Q 2) j = red (bstF x lo hi) j := by
  have e0 : ∀ j : Nat, SF W Q 2 j = (if (j : Int) = lo then W 0 else 0) + (if (j : Int) = hi then W 1 else 0) := fun j => by
    show 0 + (if Q 0 = (j : Int) then W 0 else 0) + (if Q 1 = (j : Int) then W 1 else 0) = _
    rw [q0, q1]
    have c1 : (lo = (j : Int)) ↔ ((j : Int) = lo) := by omega
    have c2 : (hi = (j : Int)) ↔ ((j : Int) = hi) := by omega
    simp only [c1, c2]
    omega
  have e1 : ∀ j : Nat, bstF x lo hi j = (if (j : Int) = lo then wLo x lo hi else 0) + (if (j : Int) = hi then wHi x lo hi else 0) := fun j => by
    show 0 + (if (j : Int) = lo then wLo x lo hi else 0) + (if (j : Int) = hi then wHi x lo hi else 0) = _
    omega
  by_cases q : lo = hi
  · refine red_mul (g := 1) (by decide) (fun j _ => ?_)
    rw [e0, e1, w0, w1, if_pos q, if_pos q]
    unfold wLo wHi
    rw [if_pos q, if_pos q]
    omega
  · have hk : lo < x ∧ x < hi := by rcases h with h | h <;> omega
    have hg : (0 : Int) < (Int.gcd (hi - x) (x - lo) : Int) := by
      have := Int.gcd_pos_of_ne_zero_left (x - lo) (show hi - x ≠ 0 by omega)
      omega
    refine red_mul hg (fun j _ => ?_)
    have m1 : (Int.gcd (hi - x) (x - lo) : Int) * wLo x lo hi = hi - x := by
      unfold wLo
      rw [if_neg q, Int.mul_comm]
      exact Int.tdiv_mul_cancel (Int.gcd_dvd_left _ _)
    have m2 : (Int.gcd (hi - x) (x - lo) : Int) * wHi x lo hi = x - lo := by
      unfold wHi
      rw [if_neg q, Int.mul_comm]
      exact Int.tdiv_mul_cancel (Int.gcd_dvd_right _ _)
    rw [e0, e1, w0, w1, if_neg q, if_neg q, Int.mul_add]
    congr 1
    · split
      · exact m1.symm
      · exact (Int.mul_zero _).symm
    · split
      · exact m2.symm
      · exact (Int.mul_zero _).symm
/-- the law's own acts, as orders on its state -/
theorem law_R {c : AS} {a b u v : Int} (hA : ADM a b u v) (h : c.2.1 < 5) : opR a b u v c c.2.1 (admA c a b u v) := ⟨fun q => absurd hA q, fun _ => ⟨fun q => by omega, fun _ => ⟨rfl, eqA_rf _⟩⟩⟩
theorem law_R5 {c : AS} {a b u v : Int} (hA : ADM a b u v) (h : c.2.1 = 5) : opR a b u v c (-4) c := ⟨fun q => absurd hA q, fun _ => ⟨fun _ => ⟨rfl, eqA_rf _⟩, fun q => by omega⟩⟩
theorem law_D {c : AS} {x : Int} (h : 0 ≤ x ∧ x < c.2.1) : opD x c (c.2.1 - 1) (disA c x) := ⟨fun q => absurd h q, fun _ => ⟨rfl, eqA_rf _⟩⟩
theorem law_P {c : AS} {x : Int} (h : 1 ≤ x ∧ x ≤ 99) : opP x c c.1 (x, c.2.1, c.2.2.1, 1, (fun _ => 1), (fun _ => x)) := ⟨fun q => absurd h q, fun _ => ⟨rfl, eqA_rf _⟩⟩
theorem law_J0 {c : AS} {x : Int} (h : ¬ (0 ≤ x ∧ x + 1 < c.2.2.2.1)) : opJn x c (-1) c := ⟨fun _ => ⟨rfl, eqA_rf _⟩, fun q => absurd q h⟩
theorem law_J1 {c : AS} {x : Int} (h : 0 ≤ x ∧ x + 1 < c.2.2.2.1) (g : (jnM c x.toNat).tmod (jnW c x.toNat) ≠ 0) : opJn x c (-5) c := ⟨fun q => absurd h q, fun _ => ⟨fun _ => ⟨rfl, eqA_rf _⟩, fun q => absurd q g⟩⟩
theorem law_J2 {c c' : AS} {x r : Int} (h : 0 ≤ x ∧ x + 1 < c.2.2.2.1) (g : (jnM c x.toNat).tmod (jnW c x.toNat) = 0) (o : opF (jnF c x.toNat) c r c') : opJn x c r c' := ⟨fun q => absurd h q, fun _ => ⟨fun q => absurd g q, fun _ => o⟩⟩
theorem law_F0 {c : AS} {F G : Nat → Int} (e : ∀ j, j < 101 → red G j = red F j) (h : ¬ okF (red G)) : opF F c (-4) c := ⟨fun _ => ⟨rfl, eqA_rf _⟩, fun q => absurd ((okF_cong e).mpr q) h⟩
theorem law_F1 {c : AS} {F G : Nat → Int} {m : Int} {W Q : Nat → Int} (e : ∀ j, j < 101 → red G j = red F j) (h : okF (red G)) (hS : SplitOf (red G) m W Q) : opF F c m (c.1, c.2.1, c.2.2.1, m, W, Q) := ⟨fun q => absurd ((okF_cong e).mp h) q, fun _ => ⟨m, W, Q, SplitOf_cong hS e, rfl, eqA_rf _⟩⟩
theorem tdiv_rng {s a : Int} (ha : 0 < a) (hs : 0 ≤ s ∧ s ≤ 100 * a) : 0 ≤ s.tdiv a ∧ s.tdiv a ≤ 100 := by
  rw [Int.tdiv_eq_ediv_of_nonneg hs.1]
  refine ⟨Int.ediv_nonneg hs.1 (by omega), ?_⟩
  have h := Int.ediv_mul_le s (show a ≠ 0 by omega)
  exact le_of_mul ha (by omega)
