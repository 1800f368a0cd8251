/-! ===== what a state is: prior, receivers (how many; loss, gain, pay, bonus), parts (how many; weights, posteriors) ===== -/
abbrev AS : Type := Int × Int × (Nat → Nat → Int) × Int × (Nat → Int) × (Nat → Int)
/-- the State j of the class -/
def vC (M : Mem) (j : Nat) : AS := (M (9 * j) 2, M (9 * j + 1) 4, (fun c => if c < 4 then M (9 * j + 2 + c) else fun _ => 0), M (9 * j + 6) 2, M (9 * j + 7), M (9 * j + 8))
def eqA (a b : AS) : Prop := a.1 = b.1 ∧ a.2.1 = b.2.1 ∧ (∀ c k : Nat, c < 4 → (k : Int) < a.2.1 → a.2.2.1 c k = b.2.2.1 c k) ∧ a.2.2.2.1 = b.2.2.2.1 ∧ ∀ k : Nat, (k : Int) < a.2.2.2.1 → a.2.2.2.2.1 k = b.2.2.2.2.1 k ∧ a.2.2.2.2.2 k = b.2.2.2.2.2 k
theorem eqA_rf (a : AS) : eqA a a := ⟨rfl, rfl, fun _ _ _ _ => rfl, rfl, fun _ _ => ⟨rfl, rfl⟩⟩
theorem eqA_sy {a b : AS} (h : eqA a b) : eqA b a := by
  obtain ⟨h1, h2, h3, h4, h5⟩ := h
  exact ⟨h1.symm, h2.symm, fun c k hc hk => (h3 c k hc (by omega)).symm, h4.symm, fun k hk => ⟨(h5 k (by omega)).1.symm, (h5 k (by omega)).2.symm⟩⟩
theorem eqA_tr {a b c : AS} (h : eqA a b) (g : eqA b c) : eqA a c := by
  obtain ⟨h1, h2, h3, h4, h5⟩ := h
  obtain ⟨g1, g2, g3, g4, g5⟩ := g
  exact ⟨h1.trans g1, h2.trans g2, fun c k hc hk => (h3 c k hc hk).trans (g3 c k hc (by omega)), h4.trans g4, fun k hk => ⟨(h5 k hk).1.trans (g5 k (by omega)).1, (h5 k hk).2.trans (g5 k (by omega)).2⟩⟩
def WFr (a : AS) : Prop := 0 ≤ a.2.1 ∧ WR (a.2.2.1 0) (a.2.2.1 1) (a.2.2.1 2) (a.2.2.1 3) a.2.1.toNat
def WFs (a : AS) : Prop := ∃ F : Nat → Int, (∀ j, 0 ≤ F j ∧ F j ≤ 999) ∧ okF F ∧ gfo F 101 = 1 ∧ SplitOf F a.2.2.2.1 a.2.2.2.2.1 a.2.2.2.2.2
def WF (a : AS) : Prop := (1 ≤ a.1 ∧ a.1 ≤ 99) ∧ WFr a ∧ WFs a
theorem WF_eq {a b : AS} (h : eqA a b) (g : WF a) : WF b := by
  obtain ⟨h1, h2, h3, h4, h5⟩ := h
  obtain ⟨g1, ⟨g2, g3⟩, F, g4, g5, g6, g7⟩ := g
  refine ⟨by omega, ⟨by omega, by rw [← h2]; exact g3.1, fun r hr => ?_⟩, F, g4, g5, g6, ?_⟩
  · rw [← h2] at hr
    rw [← h3 0 r (by decide) (by omega), ← h3 1 r (by decide) (by omega), ← h3 2 r (by decide) (by omega), ← h3 3 r (by decide) (by omega)]
    exact g3.2 r hr
  · rw [← h4]
    exact SplitOf_same g7 (fun i hi => ⟨(h5 i hi).1.symm, (h5 i hi).2.symm⟩)
/-- the value of the sender in a state -/
def vA (a : AS) (x : Int) : Int := vl (a.2.2.1 0) (a.2.2.1 1) (a.2.2.1 2) (a.2.2.1 3) a.2.1.toNat x
theorem vA_eq {a b : AS} (h : eqA a b) (hn : 0 ≤ a.2.1) (x : Int) : vA a x = vA b x := by
  obtain ⟨h1, h2, h3, h4, h5⟩ := h
  unfold vA
  rw [← h2]
  exact vl_cong (fun k hk => ⟨h3 0 k (by decide) (by omega), h3 1 k (by decide) (by omega), h3 2 k (by decide) (by omega), h3 3 k (by decide) (by omega)⟩)
theorem WFs_pos {a : AS} (h : WFs a) : 1 ≤ a.2.2.2.1 ∧ a.2.2.2.1 ≤ 6 := by
  obtain ⟨F, h1, h2, h3, h4⟩ := h
  have hn := h4.1
  refine ⟨?_, by have := h2.2; omega⟩
  rcases Int.lt_or_le 0 (cnt F 101) with q | q
  · omega
  · exfalso
    have hz : ∀ j, j < 101 → F j = 0 := fun j hj => by
      rcases Int.lt_or_le 0 (F j) with z | z
      · have := cnt_lt (F := F) hj z
        have := cnt_b F j
        omega
      · have := h1 j; omega
    have : (0 : Int) ∣ gfo F 101 := gfo_great (fun j hj => by rw [hz j hj]; exact Int.dvd_refl 0)
    rw [h3] at this
    have := Int.zero_dvd.mp this
    omega
theorem WFs_b {a : AS} (h : WFs a) {k : Nat} (hk : (k : Int) < a.2.2.2.1) : (1 ≤ a.2.2.2.2.1 k ∧ a.2.2.2.2.1 k ≤ 999) ∧ (0 ≤ a.2.2.2.2.2 k ∧ a.2.2.2.2.2 k ≤ 100) := by
  obtain ⟨F, h1, h2, h3, h4⟩ := h
  obtain ⟨k1, k2, k3, k4⟩ := h4.2 k hk
  have := (h1 (a.2.2.2.2.2 k).toNat).2
  omega
/-! the orders -/
def admA (a : AS) (l g p b : Int) : AS := (a.1, a.2.1 + 1, fun c k => if (k : Int) = a.2.1 then (if c = 0 then l else if c = 1 then g else if c = 2 then p else b) else a.2.2.1 c k, a.2.2.2)
abbrev ADM (l g p b : Int) : Prop := (1 ≤ l ∧ l ≤ 99) ∧ (1 ≤ g ∧ g ≤ 99) ∧ (0 ≤ p ∧ p ≤ 99) ∧ (-99 ≤ b ∧ b ≤ 99)
def opR (l g p b : Int) (a : AS) (r : Int) (a' : AS) : Prop := (¬ ADM l g p b → r = -2 ∧ eqA a a') ∧ (ADM l g p b → (a.2.1 = 5 → r = -4 ∧ eqA a a') ∧ (a.2.1 < 5 → r = a.2.1 ∧ eqA (admA a l g p b) a'))
def disA (a : AS) (x : Int) : AS := (a.1, a.2.1 - 1, fun c k => a.2.2.1 c (if (k : Int) < x then k else k + 1), a.2.2.2)
def opD (x : Int) (a : AS) (r : Int) (a' : AS) : Prop := (¬ (0 ≤ x ∧ x < a.2.1) → r = -1 ∧ eqA a a') ∧ (0 ≤ x ∧ x < a.2.1 → r = a.2.1 - 1 ∧ eqA (disA a x) a')
def opP (x : Int) (a : AS) (r : Int) (a' : AS) : Prop := (¬ (1 ≤ x ∧ x ≤ 99) → r = -2 ∧ eqA a a') ∧ (1 ≤ x ∧ x ≤ 99 → r = a.1 ∧ eqA (x, a.2.1, a.2.2.1, 1, (fun _ => 1), (fun _ => x)) a')
/-- the split becomes F, divided by what divides all of it -/
def opF (F : Nat → Int) (a : AS) (r : Int) (a' : AS) : Prop := (¬ okF (red F) → r = -4 ∧ eqA a a') ∧ (okF (red F) → ∃ (m : Int) (W Q : Nat → Int), SplitOf (red F) m W Q ∧ r = m ∧ eqA (a.1, a.2.1, a.2.2.1, m, W, Q) a')
def bstF (x lo hi : Int) : Nat → Int := fadd (fadd (fun _ => 0) lo (wLo x lo hi)) hi (wHi x lo hi)
def opB (a : AS) (r : Int) (a' : AS) : Prop := ∃ lo hi : Int, isB (vA a) a.1 lo hi ∧ opF (bstF a.1 lo hi) a r a'
/-- the split becomes parts that are told: bad: one of them is out of range -/
def opS (bad : Prop) (F : Nat → Int) (a : AS) (r : Int) (a' : AS) : Prop := (bad → r = -2 ∧ eqA a a') ∧ (¬ bad → (okF (red F) ∧ sm (fun j => red F j * ((j : Int) - a.1)) 101 ≠ 0 → r = -5 ∧ eqA a a') ∧ (¬ (okF (red F) ∧ sm (fun j => red F j * ((j : Int) - a.1)) 101 ≠ 0) → opF F a r a'))
theorem eqA_adm {a b : AS} (h : eqA a b) (l g p e : Int) : eqA (admA a l g p e) (admA b l g p e) := by
  obtain ⟨h1, h2, h3, h4, h5⟩ := h
  refine ⟨h1, by show a.2.1 + 1 = b.2.1 + 1; omega, fun c k hc hk => ?_, h4, h5⟩
  show (if (k : Int) = a.2.1 then _ else _) = (if (k : Int) = b.2.1 then _ else _)
  by_cases q : (k : Int) = a.2.1
  · rw [if_pos q, if_pos (show (k : Int) = b.2.1 by omega)]
  · rw [if_neg q, if_neg (show ¬ (k : Int) = b.2.1 by omega)]
    exact h3 c k hc (by have : (k : Int) < a.2.1 + 1 := hk; omega)
theorem eqA_dis {a b : AS} (h : eqA a b) (x : Int) : eqA (disA a x) (disA b x) := by
  obtain ⟨h1, h2, h3, h4, h5⟩ := h
  refine ⟨h1, by show a.2.1 - 1 = b.2.1 - 1; omega, fun c k hc hk => ?_, h4, h5⟩
  have hk' : (k : Int) < a.2.1 - 1 := hk
  exact h3 c _ hc (by split <;> omega)
theorem det_R {l g p e : Int} {a b a' b' : AS} {r r' : Int} (h : eqA a b) (g1 : WF a) (h1 : opR l g p e a r a') (h2 : opR l g p e b r' b') : r = r' ∧ eqA a' b' ∧ WF a' := by
  have hn := h.2.1
  by_cases q : ADM l g p e
  · have k1 := h1.2 q
    have k2 := h2.2 q
    have h5 : a.2.1 ≤ 5 := by have := g1.2.1.2.1; have := g1.2.1.1; omega
    rcases (show a.2.1 = 5 ∨ a.2.1 < 5 by omega) with z | z
    · obtain ⟨e1, e2⟩ := k1.1 z
      obtain ⟨e3, e4⟩ := k2.1 (by omega)
      exact ⟨by omega, eqA_tr (eqA_sy e2) (eqA_tr h e4), WF_eq e2 g1⟩
    · obtain ⟨e1, e2⟩ := k1.2 z
      obtain ⟨e3, e4⟩ := k2.2 (by omega)
      refine ⟨by omega, eqA_tr (eqA_sy e2) (eqA_tr (eqA_adm h l g p e) e4), WF_eq e2 ⟨g1.1, ⟨?_, ?_, fun k hk => ?_⟩, g1.2.2⟩⟩
      · have := g1.2.1.1
        show 0 ≤ a.2.1 + 1
        omega
      · show (a.2.1 + 1).toNat ≤ 5
        omega
      · have hk' : k < (a.2.1 + 1).toNat := hk
        have hs : ∀ c, (admA a l g p e).2.2.1 c k = if (k : Int) = a.2.1 then (if c = 0 then l else if c = 1 then g else if c = 2 then p else e) else a.2.2.1 c k := fun c => rfl
        rw [hs, hs, hs, hs]
        by_cases w : (k : Int) = a.2.1
        · simp only [if_pos w]
          exact q
        · simp only [if_neg w]
          exact g1.2.1.2.2 k (by omega)
  · obtain ⟨e1, e2⟩ := h1.1 q
    obtain ⟨e3, e4⟩ := h2.1 q
    exact ⟨by omega, eqA_tr (eqA_sy e2) (eqA_tr h e4), WF_eq e2 g1⟩
theorem det_D {x : Int} {a b a' b' : AS} {r r' : Int} (h : eqA a b) (g1 : WF a) (h1 : opD x a r a') (h2 : opD x b r' b') : r = r' ∧ eqA a' b' ∧ WF a' := by
  have hn := h.2.1
  by_cases q : 0 ≤ x ∧ x < a.2.1
  · obtain ⟨e1, e2⟩ := h1.2 q
    obtain ⟨e3, e4⟩ := h2.2 (by omega)
    refine ⟨by omega, eqA_tr (eqA_sy e2) (eqA_tr (eqA_dis h x) e4), WF_eq e2 ⟨g1.1, ⟨?_, ?_, fun k hk => ?_⟩, g1.2.2⟩⟩
    · show 0 ≤ a.2.1 - 1
      omega
    · have := g1.2.1.2.1
      show (a.2.1 - 1).toNat ≤ 5
      omega
    · have hk' : k < (a.2.1 - 1).toNat := hk
      exact g1.2.1.2.2 (if (k : Int) < x then k else k + 1) (by split <;> omega)
  · obtain ⟨e1, e2⟩ := h1.1 q
    obtain ⟨e3, e4⟩ := h2.1 (by omega)
    exact ⟨by omega, eqA_tr (eqA_sy e2) (eqA_tr h e4), WF_eq e2 g1⟩
theorem one_F {x : Int} (hx : 0 ≤ x ∧ x ≤ 100) : SplitOf (fadd (fun _ => 0) x 1) 1 (fun _ => 1) (fun _ => x) := by
  have h0 : ∀ k, cnt (fun _ => 0) k = 0 := fun k => by
    induction k with
    | zero => rfl
    | succ k ih => simp only [cnt, ih]; rfl
  have hS : SplitOf (fun _ => 0) 0 (fun _ => 1) (fun _ => x) := ⟨(h0 101).symm, fun i hi => absurd hi (by omega)⟩
  have := SplitOf_ins (w' := fun _ => 1) (p' := fun _ => x) hS (fun _ => Int.le_refl _) hx (show (0 : Int) < 1 by decide) (i := 0) (by omega) (fun j hj => absurd hj (by omega)) (fun j _ hj => absurd hj (by omega)) (fun j hj => by
    have : j = 0 := by omega
    subst this
    simp)
  exact this
theorem fadd_z {x v : Int} {j : Nat} : fadd (fun _ => 0) x v j = if (j : Int) = x then v else 0 := by
  show 0 + (if (j : Int) = x then v else 0) = _
  omega
theorem gfo_1 {F : Nat → Int} {j : Nat} (hj : j < 101) (h : F j = 1) : gfo F 101 = 1 := by
  have h1 : gfo F 101 ∣ 1 := by rw [← h]; exact gfo_dvd hj
  have h2 := gfo_nn F 101
  have h3 := Int.le_of_dvd (by decide) h1
  rcases (show gfo F 101 = 0 ∨ gfo F 101 = 1 by omega) with q | q
  · rw [q] at h1
    have := Int.zero_dvd.mp h1
    omega
  · exact q
theorem det_P {x : Int} {a b a' b' : AS} {r r' : Int} (h : eqA a b) (g1 : WF a) (h1 : opP x a r a') (h2 : opP x b r' b') : r = r' ∧ eqA a' b' ∧ WF a' := by
  by_cases q : 1 ≤ x ∧ x ≤ 99
  · obtain ⟨e1, e2⟩ := h1.2 q
    obtain ⟨e3, e4⟩ := h2.2 q
    have hh : eqA (x, a.2.1, a.2.2.1, 1, (fun _ => 1), (fun _ => x)) (x, b.2.1, b.2.2.1, 1, (fun _ => 1), (fun _ => x)) := ⟨rfl, h.2.1, h.2.2.1, rfl, fun _ _ => ⟨rfl, rfl⟩⟩
    refine ⟨by rw [e1, e3, h.1], eqA_tr (eqA_sy e2) (eqA_tr hh e4), WF_eq e2 ⟨q, g1.2.1, fadd (fun _ => 0) x 1, fun j => ?_, ⟨fun j _ => ?_, ?_⟩, ?_, one_F (by omega)⟩⟩
    · rw [fadd_z]; split <;> omega
    · rw [fadd_z]; split <;> omega
    · have := (one_F (x := x) (by omega)).1
      omega
    · exact gfo_1 (j := x.toNat) (by omega) (by rw [fadd_z, if_pos (by omega)])
  · obtain ⟨e1, e2⟩ := h1.1 q
    obtain ⟨e3, e4⟩ := h2.1 q
    exact ⟨by omega, eqA_tr (eqA_sy e2) (eqA_tr h e4), WF_eq e2 g1⟩
theorem okF_cong {F G : Nat → Int} (h : ∀ j, j < 101 → F j = G j) : okF F ↔ okF G := by
  unfold okF
  rw [cnt_cong h]
  constructor
  · rintro ⟨h1, h2⟩
    exact ⟨fun j hj => by rw [← h j hj]; exact h1 j hj, h2⟩
  · rintro ⟨h1, h2⟩
    exact ⟨fun j hj => by rw [h j hj]; exact h1 j hj, h2⟩
theorem red_cong {F G : Nat → Int} (h : ∀ j, j < 101 → F j = G j) {j : Nat} (hj : j < 101) : red F j = red G j := by
  unfold red
  rw [h j hj, gfo_cong h]
/-- what is left has no common divisor -/
theorem red_gfo {F : Nat → Int} (hF : ∀ j, 0 ≤ F j) {j0 : Nat} (hj0 : j0 < 101) (h0 : 0 < F j0) : gfo (red F) 101 = 1 := by
  have hg : 0 < gfo F 101 := by
    have h1 : gfo F 101 ∣ F j0 := gfo_dvd hj0
    have h2 := gfo_nn F 101
    rcases (show gfo F 101 = 0 ∨ 0 < gfo F 101 by omega) with q | q
    · rw [q] at h1
      have := Int.zero_dvd.mp h1
      omega
    · exact q
  have h3 : gfo (red F) 101 * gfo F 101 ∣ gfo F 101 := gfo_great (fun j hj => by
    have h4 : red F j * gfo F 101 = F j := Int.tdiv_mul_cancel (gfo_dvd hj)
    rw [← h4]
    exact Int.mul_dvd_mul (gfo_dvd hj) (Int.dvd_refl _))
  have h5 := Int.le_of_dvd hg h3
  have h6 := gfo_nn (red F) 101
  have h7 : 0 < gfo (red F) 101 := by
    have h1 : gfo (red F) 101 ∣ red F j0 := gfo_dvd hj0
    have h2 := red_pos hj0 h0
    rcases (show gfo (red F) 101 = 0 ∨ 0 < gfo (red F) 101 by omega) with q | q
    · rw [q] at h1
      have := Int.zero_dvd.mp h1
      omega
    · exact q
  rcases Int.lt_or_le 1 (gfo (red F) 101) with q | q
  · have := Int.mul_lt_mul_of_pos_right q hg
    omega
  · omega
theorem det_F {F G : Nat → Int} {a b a' b' : AS} {r r' : Int} (e : ∀ j, j < 101 → F j = G j) (hF : ∀ j, 0 ≤ F j) {j0 : Nat} (hj0 : j0 < 101) (h0 : 0 < F j0) (h : eqA a b) (g1 : WF a) (h1 : opF F a r a') (h2 : opF G b r' b') : r = r' ∧ eqA a' b' ∧ WF a' := by
  have ek : okF (red F) ↔ okF (red G) := okF_cong (fun j hj => red_cong e hj)
  by_cases q : okF (red F)
  · obtain ⟨m, W, Q, s1, s2, s3⟩ := h1.2 q
    obtain ⟨m', W', Q', t1, t2, t3⟩ := h2.2 (ek.mp q)
    obtain ⟨u1, u2⟩ := SplitOf_uniq s1 t1 (fun j hj => red_cong e hj)
    have hh : eqA (a.1, a.2.1, a.2.2.1, m, W, Q) (b.1, b.2.1, b.2.2.1, m', W', Q') := ⟨h.1, h.2.1, h.2.2.1, u1, u2⟩
    refine ⟨by omega, eqA_tr (eqA_sy s3) (eqA_tr hh t3), WF_eq s3 ⟨g1.1, g1.2.1, fun j => if j < 101 then red F j else 0, fun j => ?_, ?_, ?_, ?_⟩⟩
    · dsimp only
      split
      · next hj => exact ⟨red_nn hF j, q.1 j hj⟩
      · exact ⟨by decide, by decide⟩
    · exact (okF_cong (fun j hj => (if_pos hj).symm)).mp q
    · rw [← red_gfo hF hj0 h0]
      exact gfo_cong (fun j hj => if_pos hj)
    · exact SplitOf_cong s1 (fun j hj => (if_pos hj).symm)
  · obtain ⟨e1, e2⟩ := h1.1 q
    obtain ⟨e3, e4⟩ := h2.1 (fun w => q (ek.mpr w))
    exact ⟨by omega, eqA_tr (eqA_sy e2) (eqA_tr h e4), WF_eq e2 g1⟩
