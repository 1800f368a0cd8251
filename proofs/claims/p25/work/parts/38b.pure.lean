/-! ===== what the questions answer ===== -/
def qRec (r w : Int) (a : AS) (z : Int) : Prop := (¬ (0 ≤ r ∧ r < a.2.1) → z = -1) ∧ (0 ≤ r ∧ r < a.2.1 → (w = 0 → z = a.2.2.1 0 r.toNat) ∧ (w = 1 → z = a.2.2.1 1 r.toNat) ∧ (w = 2 → z = a.2.2.1 2 r.toNat) ∧ (w = 3 → z = a.2.2.1 3 r.toNat + 100) ∧ (w = 4 → (0 ≤ z ∧ z ≤ 100) ∧ ac (a.2.2.1 0) (a.2.2.1 1) z r.toNat ∧ ∀ y : Int, 0 ≤ y → y < z → ¬ ac (a.2.2.1 0) (a.2.2.1 1) y r.toNat) ∧ (¬ (0 ≤ w ∧ w ≤ 4) → z = -2))
theorem det_qRec {r w : Int} {a b : AS} {z z' : Int} (h : eqA a b) (h1 : qRec r w a z) (h2 : qRec r w b z') : z = z' := by
  obtain ⟨e1, e2, e3, e4, e5⟩ := h
  by_cases q : 0 ≤ r ∧ r < a.2.1
  · obtain ⟨a0, a1, a2, a3, a4, a5⟩ := h1.2 q
    obtain ⟨b0, b1, b2, b3, b4, b5⟩ := h2.2 (by omega)
    have k := fun c hc => e3 c r.toNat hc (by omega)
    rcases (show w = 0 ∨ w = 1 ∨ w = 2 ∨ w = 3 ∨ w = 4 ∨ ¬ (0 ≤ w ∧ w ≤ 4) by omega) with w0 | w0 | w0 | w0 | w0 | w0
    · rw [a0 w0, b0 w0]; exact k 0 (by decide)
    · rw [a1 w0, b1 w0]; exact k 1 (by decide)
    · rw [a2 w0, b2 w0]; exact k 2 (by decide)
    · rw [a3 w0, b3 w0, k 3 (by decide)]
    · obtain ⟨c1, c2, c3⟩ := a4 w0
      obtain ⟨d1, d2, d3⟩ := b4 w0
      have hac : ∀ y, ac (a.2.2.1 0) (a.2.2.1 1) y r.toNat ↔ ac (b.2.2.1 0) (b.2.2.1 1) y r.toNat := fun y => by
        unfold ac
        rw [k 0 (by decide), k 1 (by decide)]
      rcases (show z < z' ∨ z = z' ∨ z' < z by omega) with p | p | p
      · exact absurd ((hac z).mp c2) (d3 z c1.1 p)
      · exact p
      · exact absurd ((hac z').mpr d2) (c3 z' d1.1 p)
    · rw [a5 w0, b5 w0]
  · rw [h1.1 q, h2.1 (by omega)]
def qPart (p w : Int) (a : AS) (z : Int) : Prop := (¬ (0 ≤ p ∧ p < a.2.2.2.1) → z = -1) ∧ (0 ≤ p ∧ p < a.2.2.2.1 → (w = 0 → z = a.2.2.2.2.1 p.toNat) ∧ (w = 1 → z = a.2.2.2.2.2 p.toNat) ∧ (w = 2 → z = mk (a.2.2.1 0) (a.2.2.1 1) (a.2.2.2.2.2 p.toNat) a.2.1.toNat) ∧ (w = 3 → z = vA a (a.2.2.2.2.2 p.toNat) + 1000) ∧ (¬ (0 ≤ w ∧ w ≤ 3) → z = -2))
theorem mk_eqA {a b : AS} (h : eqA a b) (x : Int) : mk (a.2.2.1 0) (a.2.2.1 1) x a.2.1.toNat = mk (b.2.2.1 0) (b.2.2.1 1) x b.2.1.toNat := by
  rw [← h.2.1]
  exact mk_cong (fun k hk => ⟨h.2.2.1 0 k (by decide) (by omega), h.2.2.1 1 k (by decide) (by omega)⟩)
theorem det_qPart {p w : Int} {a b : AS} {z z' : Int} (h : eqA a b) (hw : WF a) (h1 : qPart p w a z) (h2 : qPart p w b z') : z = z' := by
  have hv := vA_eq h hw.2.1.1
  have hm := mk_eqA h
  obtain ⟨e1, e2, e3, e4, e5⟩ := h
  by_cases q : 0 ≤ p ∧ p < a.2.2.2.1
  · obtain ⟨a0, a1, a2, a3, a4⟩ := h1.2 q
    obtain ⟨b0, b1, b2, b3, b4⟩ := h2.2 (by omega)
    obtain ⟨k1, k2⟩ := e5 p.toNat (by omega)
    rcases (show w = 0 ∨ w = 1 ∨ w = 2 ∨ w = 3 ∨ ¬ (0 ≤ w ∧ w ≤ 3) by omega) with w0 | w0 | w0 | w0 | w0
    · rw [a0 w0, b0 w0, k1]
    · rw [a1 w0, b1 w0, k2]
    · rw [a2 w0, b2 w0, hm, k2]
    · rw [a3 w0, b3 w0, hv, k2]
    · rw [a4 w0, b4 w0]
  · rw [h1.1 q, h2.1 (by omega)]
def qVal (x : Int) (a : AS) (z : Int) : Prop := (¬ (0 ≤ x ∧ x ≤ 100) → z = -2) ∧ (0 ≤ x ∧ x ≤ 100 → z = vA a x + 1000)
theorem det_qVal {x : Int} {a b : AS} {z z' : Int} (h : eqA a b) (hw : WF a) (h1 : qVal x a z) (h2 : qVal x b z') : z = z' := by
  by_cases q : 0 ≤ x ∧ x ≤ 100
  · rw [h1.2 q, h2.2 q, vA_eq h hw.2.1.1]
  · rw [h1.1 q, h2.1 q]
def mnS (a : AS) : Int := sm (fun k => a.2.2.2.2.1 k * vA a (a.2.2.2.2.2 k)) a.2.2.2.1.toNat
def mnT (a : AS) : Int := sm a.2.2.2.2.1 a.2.2.2.1.toNat
theorem mn_eqA {a b : AS} (h : eqA a b) (hw : WF a) : mnS a = mnS b ∧ mnT a = mnT b := by
  have hv := vA_eq h hw.2.1.1
  obtain ⟨e1, e2, e3, e4, e5⟩ := h
  unfold mnS mnT
  rw [← e4]
  exact ⟨sm_cong (fun k hk => by rw [(e5 k (by omega)).1, (e5 k (by omega)).2, hv]), sm_cong (fun k hk => (e5 k (by omega)).1)⟩
def qMean (w : Int) (a : AS) (z : Int) : Prop := (¬ (w = 0 ∨ w = 1) → z = -2) ∧ (w = 0 → z = frA (mnS a) (mnT a) + 10000000) ∧ (w = 1 → z = frB (mnS a) (mnT a))
theorem det_qMean {w : Int} {a b : AS} {z z' : Int} (h : eqA a b) (hw : WF a) (h1 : qMean w a z) (h2 : qMean w b z') : z = z' := by
  obtain ⟨m1, m2⟩ := mn_eqA h hw
  rcases (show w = 0 ∨ w = 1 ∨ ¬ (w = 0 ∨ w = 1) by omega) with q | q | q
  · rw [h1.2.1 q, h2.2.1 q, m1, m2]
  · rw [h1.2.2 q, h2.2.2 q, m1, m2]
  · rw [h1.1 q, h2.1 q]
def woS (a : AS) (r : Nat) : Int := sm (fun k => a.2.2.2.2.1 k * (if a.2.2.2.2.2 k * a.2.2.1 1 r - (100 - a.2.2.2.2.2 k) * a.2.2.1 0 r < 0 then 0 else a.2.2.2.2.2 k * a.2.2.1 1 r - (100 - a.2.2.2.2.2 k) * a.2.2.1 0 r)) a.2.2.2.1.toNat
def qWor (r w : Int) (a : AS) (z : Int) : Prop := (¬ (0 ≤ r ∧ r < a.2.1) → z = -1) ∧ (0 ≤ r ∧ r < a.2.1 → (¬ (w = 0 ∨ w = 1) → z = -2) ∧ (w = 0 → z = frA (woS a r.toNat) (mnT a * 100)) ∧ (w = 1 → z = frB (woS a r.toNat) (mnT a * 100)))
theorem det_qWor {r w : Int} {a b : AS} {z z' : Int} (h : eqA a b) (hw : WF a) (h1 : qWor r w a z) (h2 : qWor r w b z') : z = z' := by
  obtain ⟨m1, m2⟩ := mn_eqA h hw
  obtain ⟨e1, e2, e3, e4, e5⟩ := h
  by_cases q : 0 ≤ r ∧ r < a.2.1
  · obtain ⟨a0, a1, a2⟩ := h1.2 q
    obtain ⟨b0, b1, b2⟩ := h2.2 (by omega)
    have hs : woS a r.toNat = woS b r.toNat := by
      unfold woS
      rw [← e4]
      exact sm_cong (fun k hk => by rw [(e5 k (by omega)).1, (e5 k (by omega)).2, e3 0 r.toNat (by decide) (by omega), e3 1 r.toNat (by decide) (by omega)])
    rcases (show w = 0 ∨ w = 1 ∨ ¬ (w = 0 ∨ w = 1) by omega) with p | p | p
    · rw [a1 p, b1 p, hs, m2]
    · rw [a2 p, b2 p, hs, m2]
    · rw [a0 p, b0 p]
  · rw [h1.1 q, h2.1 (by omega)]
def qEnv (x w : Int) (a : AS) (z : Int) : Prop := (¬ ((0 ≤ x ∧ x ≤ 100) ∧ (w = 0 ∨ w = 1)) → z = -2) ∧ ((0 ≤ x ∧ x ≤ 100) ∧ (w = 0 ∨ w = 1) → ∃ lo hi : Int, isB (vA a) x lo hi ∧ (w = 0 → z = frA (sN (vA a) x lo hi) (sD lo hi) + 10000000) ∧ (w = 1 → z = frB (sN (vA a) x lo hi) (sD lo hi)))
theorem sN_cong {v u : Int → Int} {x lo hi : Int} (e : ∀ y, v y = u y) : sN v x lo hi = sN u x lo hi := by
  have : v = u := funext e
  rw [this]
theorem det_qEnv {x w : Int} {a b : AS} {z z' : Int} (h : eqA a b) (hw : WF a) (h1 : qEnv x w a z) (h2 : qEnv x w b z') : z = z' := by
  have hv := vA_eq h hw.2.1.1
  by_cases q : (0 ≤ x ∧ x ≤ 100) ∧ (w = 0 ∨ w = 1)
  · obtain ⟨lo, hi, k1, k2, k3⟩ := h1.2 q
    obtain ⟨lo', hi', l1, l2, l3⟩ := h2.2 q
    obtain ⟨u1, u2⟩ := isB_uniq k1 l1 (fun y _ _ => hv y) q.1
    subst u1
    subst u2
    rcases q.2 with p | p
    · rw [k2 p, l2 p, sN_cong hv]
    · rw [k3 p, l3 p, sN_cong hv]
  · rw [h1.1 q, h2.1 q]
def qBst (x w : Int) (a : AS) (z : Int) : Prop := (¬ ((0 ≤ x ∧ x ≤ 100) ∧ (0 ≤ w ∧ w ≤ 3)) → z = -2) ∧ ((0 ≤ x ∧ x ≤ 100) ∧ (0 ≤ w ∧ w ≤ 3) → ∃ lo hi : Int, isB (vA a) x lo hi ∧ (w = 0 → z = lo) ∧ (w = 1 → z = hi) ∧ (w = 2 → z = wLo x lo hi) ∧ (w = 3 → z = wHi x lo hi))
theorem det_qBst {x w : Int} {a b : AS} {z z' : Int} (h : eqA a b) (hw : WF a) (h1 : qBst x w a z) (h2 : qBst x w b z') : z = z' := by
  have hv := vA_eq h hw.2.1.1
  by_cases q : (0 ≤ x ∧ x ≤ 100) ∧ (0 ≤ w ∧ w ≤ 3)
  · obtain ⟨lo, hi, k1, k2, k3, k4, k5⟩ := h1.2 q
    obtain ⟨lo', hi', l1, l2, l3, l4, l5⟩ := h2.2 q
    obtain ⟨u1, u2⟩ := isB_uniq k1 l1 (fun y _ _ => hv y) q.1
    subst u1
    subst u2
    rcases (show w = 0 ∨ w = 1 ∨ w = 2 ∨ w = 3 by omega) with p | p | p | p
    · rw [k2 p, l2 p]
    · rw [k3 p, l3 p]
    · rw [k4 p, l4 p]
    · rw [k5 p, l5 p]
  · rw [h1.1 q, h2.1 q]
def qMG (w : Int) (a : AS) (z : Int) : Prop := (¬ (0 ≤ w ∧ w ≤ 2) → z = -2) ∧ (0 ≤ w ∧ w ≤ 2 → ∃ y g d : Int, MG (vA a) y g d ∧ (w = 0 → z = y) ∧ (w = 1 → z = g) ∧ (w = 2 → z = d))
theorem det_qMG {w : Int} {a b : AS} {z z' : Int} (h : eqA a b) (hw : WF a) (h1 : qMG w a z) (h2 : qMG w b z') : z = z' := by
  have hv := vA_eq h hw.2.1.1
  by_cases q : 0 ≤ w ∧ w ≤ 2
  · obtain ⟨y, g, d, k1, k2, k3, k4⟩ := h1.2 q
    obtain ⟨y', g', d', l1, l2, l3, l4⟩ := h2.2 q
    obtain ⟨u1, u2, u3⟩ := MG_uniq (fun y => vl_b hw.2.1.2) k1 l1 (fun y _ _ => hv y)
    rcases (show w = 0 ∨ w = 1 ∨ w = 2 by omega) with p | p | p
    · rw [k2 p, l2 p, u1]
    · rw [k3 p, l3 p, u2]
    · rw [k4 p, l4 p, u3]
  · rw [h1.1 q, h2.1 q]
/-- count, but for the pad and the history -/
def qCnt (w : Int) (a : AS) (z : Int) : Prop := (w = 0 → z = a.1) ∧ (w = 1 → z = a.2.1) ∧ (w = 2 → z = a.2.2.2.1) ∧ (w = 3 → z = mnT a) ∧ (w = 4 → ∃ lo hi : Int, isB (vA a) a.1 lo hi ∧ z = if frA (mnS a) (mnT a) = frA (sN (vA a) a.1 lo hi) (sD lo hi) ∧ frB (mnS a) (mnT a) = frB (sN (vA a) a.1 lo hi) (sD lo hi) then 1 else 0) ∧ (¬ (0 ≤ w ∧ w ≤ 6) → z = -2)
theorem det_qCnt {w : Int} {a b : AS} {z z' : Int} (h5 : w ≠ 5) (h6 : w ≠ 6) (h : eqA a b) (hw : WF a) (h1 : qCnt w a z) (h2 : qCnt w b z') : z = z' := by
  have tri : w = 0 ∨ w = 1 ∨ w = 2 ∨ w = 3 ∨ w = 4 ∨ ¬ (0 ≤ w ∧ w ≤ 6) := by omega
  have hv := vA_eq h hw.2.1.1
  obtain ⟨m1, m2⟩ := mn_eqA h hw
  obtain ⟨a0, a1, a2, a3, a4, a5⟩ := h1
  obtain ⟨b0, b1, b2, b3, b4, b5⟩ := h2
  obtain ⟨e1, e2, e3, e4, e5⟩ := h
  rcases tri with p | p | p | p | p | p
  · rw [a0 p, b0 p, e1]
  · rw [a1 p, b1 p, e2]
  · rw [a2 p, b2 p, e4]
  · rw [a3 p, b3 p, m2]
  · obtain ⟨lo, hi, k1, k2⟩ := a4 p
    obtain ⟨lo', hi', l1, l2⟩ := b4 p
    rw [← e1] at l1
    obtain ⟨u1, u2⟩ := isB_uniq k1 l1 (fun y _ _ => hv y) (by have := hw.1; omega)
    subst u1
    subst u2
    rw [k2, l2, ← e1, sN_cong hv, m1, m2]
  · rw [a5 p, b5 p]
