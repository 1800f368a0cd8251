/-! ===== what an order answers lies in a small range ===== -/
theorem opF_z {F : Nat → Int} {a a' : AS} {r : Int} (h : opF F a r a') : -6 ≤ r ∧ r ≤ 99 := by
  by_cases q : okF (red F)
  · obtain ⟨m, W, Q, s1, s2, s3⟩ := h.2 q
    have := s1.1
    have h1 := q.2
    have h2 := cnt_b (red F) 101
    omega
  · have := (h.1 q).1
    omega
theorem opR_z {l g p e : Int} {a a' : AS} {r : Int} (hw : WF a) (h : opR l g p e a r a') : -6 ≤ r ∧ r ≤ 99 := by
  have h5 : 0 ≤ a.2.1 ∧ a.2.1 ≤ 5 := by
    have h1 := hw.2.1.2.1
    have h2 := hw.2.1.1
    omega
  by_cases q : ADM l g p e
  · have k := h.2 q
    rcases (show a.2.1 = 5 ∨ a.2.1 < 5 by omega) with w | w
    · have := (k.1 w).1
      omega
    · have := (k.2 w).1
      omega
  · have := (h.1 q).1
    omega
theorem opD_z {x : Int} {a a' : AS} {r : Int} (hw : WF a) (h : opD x a r a') : -6 ≤ r ∧ r ≤ 99 := by
  have h5 : 0 ≤ a.2.1 ∧ a.2.1 ≤ 5 := by
    have h1 := hw.2.1.2.1
    have h2 := hw.2.1.1
    omega
  by_cases q : 0 ≤ x ∧ x < a.2.1
  · have := (h.2 q).1
    omega
  · have := (h.1 q).1
    omega
theorem opP_z {x : Int} {a a' : AS} {r : Int} (hw : WF a) (h : opP x a r a') : -6 ≤ r ∧ r ≤ 99 := by
  have h5 := hw.1
  by_cases q : 1 ≤ x ∧ x ≤ 99
  · have := (h.2 q).1
    omega
  · have := (h.1 q).1
    omega
theorem opB_z {a a' : AS} {r : Int} (h : opB a r a') : -6 ≤ r ∧ r ≤ 99 := by
  obtain ⟨lo, hi, h1, h2⟩ := h
  exact opF_z h2
theorem opSp_z {x lo up : Int} {a a' : AS} {r : Int} (hw : WF a) (h : opSp x lo up a r a') : -6 ≤ r ∧ r ≤ 99 := by
  have h6 := WFs_pos hw.2.2
  by_cases q : 0 ≤ x ∧ x < a.2.2.2.1
  · have k := h.2 q
    by_cases q2 : (0 ≤ lo ∧ lo ≤ a.2.2.2.2.2 x.toNat) ∧ (a.2.2.2.2.2 x.toNat ≤ up ∧ up ≤ 100)
    · have k2 := k.2 q2
      by_cases q3 : lo = up
      · have := (k2.1 q3).1
        omega
      · exact opF_z (k2.2 q3)
    · have := (k.1 q2).1
      omega
  · have := (h.1 q).1
    omega
theorem opJn_z {x : Int} {a a' : AS} {r : Int} (h : opJn x a r a') : -6 ≤ r ∧ r ≤ 99 := by
  by_cases q : 0 ≤ x ∧ x + 1 < a.2.2.2.1
  · have k := h.2 q
    by_cases q2 : (jnM a x.toNat).tmod (jnW a x.toNat) = 0
    · exact opF_z (k.2 q2)
    · have := (k.1 q2).1
      omega
  · have := (h.1 q).1
    omega
theorem opS_z {bad : Prop} {F : Nat → Int} {a a' : AS} {r : Int} (h : opS bad F a r a') : -6 ≤ r ∧ r ≤ 99 := by
  by_cases q : bad
  · have := (h.1 q).1
    omega
  · have k := h.2 q
    by_cases q2 : okF (red F) ∧ sm (fun j => red F j * ((j : Int) - a.1)) 101 ≠ 0
    · have := (k.1 q2).1
      omega
    · exact opF_z (k.2 q2)
/-- the state becomes another -/
def opC (b : AS) (_a : AS) (r : Int) (a' : AS) : Prop := r = b.1 ∧ eqA b a'
theorem det_C {b c : AS} {a d a' d' : AS} {r r' : Int} (h : eqA b c) (hw : WF b) (h1 : opC b a r a') (h2 : opC c d r' d') : r = r' ∧ eqA a' d' ∧ WF a' := by
  obtain ⟨e1, e2⟩ := h1
  obtain ⟨e3, e4⟩ := h2
  exact ⟨by rw [e1, e3, h.1], eqA_tr (eqA_sy e2) (eqA_tr h e4), WF_eq e2 hw⟩
/-! ===== the most that is gained ===== -/
theorem fr_low {a b : Int} (hb : 0 < b) : frA (frA a b) (frB a b) = frA a b ∧ frB (frA a b) (frB a b) = frB a b := by
  have hg := fr_g (a := a) hb
  have h2 := (fr_b (a := a) (b := b) (A := (a.natAbs : Int)) (by omega) hb).2.1
  have e1 : (Int.gcd a b : Int) * frA a b = a := Int.mul_tdiv_cancel' (Int.gcd_dvd_left a b)
  have e2 : (Int.gcd a b : Int) * frB a b = b := Int.mul_tdiv_cancel' (Int.gcd_dvd_right a b)
  have h := fr_scale (a := frA a b) (b := frB a b) (g := (Int.gcd a b : Int)) (by omega) h2
  rw [e1, e2] at h
  exact ⟨h.1.symm, h.2.symm⟩
theorem gcd_sub {a b k : Int} : Int.gcd (a - b * k) b = Int.gcd a b := by
  have h1 : (Int.gcd (a - b * k) b : Int) ∣ (Int.gcd a b : Int) := by
    refine Int.dvd_coe_gcd ?_ (Int.gcd_dvd_right _ _)
    have := Int.dvd_add (Int.gcd_dvd_left (a - b * k) b) (Int.dvd_trans (Int.gcd_dvd_right (a - b * k) b) (Int.dvd_mul_right b k))
    rwa [Int.sub_add_cancel] at this
  have h2 : (Int.gcd a b : Int) ∣ (Int.gcd (a - b * k) b : Int) := by
    refine Int.dvd_coe_gcd ?_ (Int.gcd_dvd_right _ _)
    exact Int.dvd_sub (Int.gcd_dvd_left a b) (Int.dvd_trans (Int.gcd_dvd_right a b) (Int.dvd_mul_right b k))
  exact Nat.dvd_antisymm (Int.natCast_dvd_natCast.mp h1) (Int.natCast_dvd_natCast.mp h2)
theorem fr_sub {a b k : Int} (hb : 0 < b) : frA (a - b * k) b = frA a b - frB a b * k ∧ frB (a - b * k) b = frB a b := by
  have hg := fr_g (a := a) hb
  have e1 : (Int.gcd a b : Int) * frA a b = a := Int.mul_tdiv_cancel' (Int.gcd_dvd_left a b)
  have e2 : (Int.gcd a b : Int) * frB a b = b := Int.mul_tdiv_cancel' (Int.gcd_dvd_right a b)
  constructor
  · unfold frA frB
    rw [gcd_sub]
    have e3 : a - b * k = (Int.gcd a b : Int) * (frA a b - frB a b * k) := by
      rw [Int.mul_sub, ← Int.mul_assoc, e1, e2]
    rw [e3, Int.mul_tdiv_cancel_left _ (by omega)]
    rfl
  · unfold frB
    rw [gcd_sub]
theorem mg_ar1 {gz dz a b A B : Int} (w : gz * b ≤ a * dz) (hc : a * B < A * b) (hb : 0 < b) (hB : 0 < B) (hd : 0 < dz) : gz * B < A * dz := by
  have q1 := Int.mul_le_mul_of_nonneg_right w (show 0 ≤ B by omega)
  have q2 := Int.mul_lt_mul_of_pos_right hc hd
  refine lt_of_mul (a := b) hb ?_
  have z1 : b * (gz * B) = gz * b * B := by grind
  have z2 : b * (A * dz) = A * b * dz := by grind
  have z3 : a * dz * B = a * B * dz := by grind
  rw [z1, z2]
  rw [z3] at q1
  omega
theorem mg_ar2 {g d a b A B : Int} (hAB : A * d = g * B) (hc : A * b ≤ a * B) (hB : 0 < B) (hd : 0 < d) : g * b ≤ a * d := by
  have q1 := Int.mul_le_mul_of_nonneg_right hc (show 0 ≤ d by omega)
  have z1 : A * b * d = g * b * B := by
    have : A * b * d = (A * d) * b := by grind
    rw [this, hAB]
    grind
  have z2 : a * B * d = a * d * B := by grind
  rw [z1, z2] at q1
  exact le_of_mul hB q1
theorem gain_b {v : Int → Int} (hv : ∀ y : Int, -495 ≤ v y ∧ v y ≤ 990) {x lo hi : Int} (hx : 1 ≤ x ∧ x ≤ 99) (h : isB v x lo hi) : 0 < eD x lo hi ∧ 0 < frB (gN v x lo hi) (eD x lo hi) ∧ frA (gN v x lo hi) (eD x lo hi) * eD x lo hi = gN v x lo hi * frB (gN v x lo hi) (eD x lo hi) ∧ (0 ≤ frA (gN v x lo hi) (eD x lo hi) ∧ frA (gN v x lo hi) (eD x lo hi) ≤ 396000) ∧ frB (gN v x lo hi) (eD x lo hi) ≤ 200 := by
  have n1 := eN_b hv (x := x) (by omega) h.1
  have f1 := fr_b (a := gN v x lo hi) (b := eD x lo hi) (A := 396000) (by omega) n1.2.1.1
  have g0 := gN_nn h
  have t := tdiv_b (a := gN v x lo hi) (g := (Int.gcd (gN v x lo hi) (eD x lo hi) : Int)) (A := gN v x lo hi) ⟨g0, Int.le_refl _⟩ (by omega)
  refine ⟨n1.2.1.1, f1.2.1, f1.2.2.2, ⟨t.1, f1.1.2⟩, ?_⟩
  have := f1.2.2.1
  have := n1.2.1.2
  omega
def MGR (v : Int → Int) (x f a b : Int) : Prop := (1 ≤ f ∧ f < x) ∧ (∃ lo hi, isB v f lo hi ∧ a = frA (gN v f lo hi) (eD f lo hi) ∧ b = frB (gN v f lo hi) (eD f lo hi)) ∧ ∀ w lo hi : Int, 1 ≤ w → w < x → isB v w lo hi → gN v w lo hi * b ≤ a * eD w lo hi ∧ (w < f → gN v w lo hi * b < a * eD w lo hi)
theorem MGR_end {v : Int → Int} {f a b : Int} (h : MGR v 100 f a b) : MG v f a b := ⟨by have := h.1; omega, h.2.1, fun w lo hi h1 h2 => h.2.2 w lo hi h1 (by omega)⟩
theorem MGR_b {v : Int → Int} (hv : ∀ y : Int, -495 ≤ v y ∧ v y ≤ 990) {x f a b : Int} (h : MGR v x f a b) (hx : x ≤ 100) : (0 ≤ a ∧ a ≤ 396000) ∧ (0 < b ∧ b ≤ 200) := by
  obtain ⟨h1, ⟨lo, hi, h2, h3, h4⟩, h5⟩ := h
  have k := gain_b hv (x := f) (by omega) h2
  rw [← h3, ← h4] at k
  exact ⟨k.2.2.2.1, k.2.1, k.2.2.2.2⟩
theorem MGR_first {v : Int → Int} (hv : ∀ y : Int, -495 ≤ v y ∧ v y ≤ 990) {lo hi : Int} (h : isB v 1 lo hi) : MGR v 2 1 (frA (gN v 1 lo hi) (eD 1 lo hi)) (frB (gN v 1 lo hi) (eD 1 lo hi)) := by
  have k := gain_b hv (x := 1) (by omega) h
  refine ⟨by omega, ⟨lo, hi, h, rfl, rfl⟩, fun w l u w1 w2 hw => ?_⟩
  have e : w = 1 := by omega
  subst e
  obtain ⟨e1, e2⟩ := isB_uniq hw h (fun _ _ _ => rfl) (by omega)
  rw [e1, e2, k.2.2.1]
  exact ⟨Int.le_refl _, fun q => absurd q (by omega)⟩
theorem MGR_yes {v : Int → Int} (hv : ∀ y : Int, -495 ≤ v y ∧ v y ≤ 990) {x f a b lo hi : Int} (h : MGR v x f a b) (hx : 1 ≤ x ∧ x ≤ 99) (hB : isB v x lo hi) (hc : a * frB (gN v x lo hi) (eD x lo hi) < frA (gN v x lo hi) (eD x lo hi) * b) : MGR v (x + 1) x (frA (gN v x lo hi) (eD x lo hi)) (frB (gN v x lo hi) (eD x lo hi)) := by
  have k := gain_b hv hx hB
  have kb := MGR_b hv h (by omega)
  obtain ⟨h1, h2, h5⟩ := h
  refine ⟨by omega, ⟨lo, hi, hB, rfl, rfl⟩, fun w l u w1 w2 hw => ?_⟩
  rcases (show w = x ∨ w < x by omega) with q | q
  · rw [q] at hw
    obtain ⟨e1, e2⟩ := isB_uniq hw hB (fun _ _ _ => rfl) (by omega)
    rw [q, e1, e2, k.2.2.1]
    exact ⟨Int.le_refl _, fun q => absurd q (by omega)⟩
  · have kz := gain_b hv (x := w) (by omega) hw
    have hlt := mg_ar1 (h5 w l u w1 q hw).1 hc kb.2.1 k.2.1 kz.1
    exact ⟨by omega, fun _ => hlt⟩
theorem MGR_no {v : Int → Int} (hv : ∀ y : Int, -495 ≤ v y ∧ v y ≤ 990) {x f a b lo hi : Int} (h : MGR v x f a b) (hx : 1 ≤ x ∧ x ≤ 99) (hB : isB v x lo hi) (hc : ¬ a * frB (gN v x lo hi) (eD x lo hi) < frA (gN v x lo hi) (eD x lo hi) * b) : MGR v (x + 1) f a b := by
  have k := gain_b hv hx hB
  obtain ⟨h1, h2, h5⟩ := h
  refine ⟨by omega, h2, fun w l u w1 w2 hw => ?_⟩
  rcases (show w = x ∨ w < x by omega) with q | q
  · rw [q] at hw
    obtain ⟨e1, e2⟩ := isB_uniq hw hB (fun _ _ _ => rfl) (by omega)
    rw [q, e1, e2]
    exact ⟨mg_ar2 k.2.2.1 (by omega) k.2.1 k.1, fun q => absurd q (by omega)⟩
  · exact h5 w l u w1 q hw
theorem MGR_zero {v : Int → Int} (hv : ∀ y : Int, -495 ≤ v y ∧ v y ≤ 990) {lo hi : Int} (hB : isB v 1 lo hi) (hc : ¬ 0 * frB (gN v 1 lo hi) (eD 1 lo hi) < frA (gN v 1 lo hi) (eD 1 lo hi) * 1) : frA (gN v 1 lo hi) (eD 1 lo hi) = 0 ∧ frB (gN v 1 lo hi) (eD 1 lo hi) = 1 := by
  have k := gain_b hv (x := 1) (by omega) hB
  have e0 : frA (gN v 1 lo hi) (eD 1 lo hi) = 0 := by omega
  have eg : gN v 1 lo hi = 0 := by
    have := k.2.2.1
    rw [e0, Int.zero_mul] at this
    rcases Int.mul_eq_zero.mp this.symm with q | q
    · exact q
    · omega
  refine ⟨e0, ?_⟩
  unfold frB
  rw [eg, Int.gcd_zero_left]
  have : ((eD 1 lo hi).natAbs : Int) = eD 1 lo hi := by omega
  rw [this]
  exact Int.tdiv_self (by omega)
/-- what the curve holds when it is aimed -/
theorem cu_f {M M1 : Mem} {x : Int} (hW : cWR M) (hx : 0 ≤ x ∧ x ≤ 100) (hV : ∀ y : Nat, y ≤ 100 → M1 101 y = cvl M (y : Int)) (hB : isB (cvl M) x (M1 100 3) (M1 100 4)) (hL : M1 100 5 = wLo x (M1 100 3) (M1 100 4)) (hU : M1 100 6 = wHi x (M1 100 3) (M1 100 4)) : ((0 ≤ M1 100 3 ∧ M1 100 3 ≤ 100) ∧ (0 ≤ M1 100 4 ∧ M1 100 4 ≤ 100)) ∧ ((0 ≤ M1 100 5 ∧ M1 100 5 ≤ 100) ∧ (0 ≤ M1 100 6 ∧ M1 100 6 ≤ 100)) ∧ 0 < M1 100 5 + M1 100 6 ∧ (∀ y : Nat, y ≤ 100 → -990 ≤ M1 101 y ∧ M1 101 y ≤ 990) ∧ M1 100 5 * M1 101 (M1 100 3).toNat + M1 100 6 * M1 101 (M1 100 4).toNat = eN (cvl M) x (M1 100 3) (M1 100 4) ∧ M1 100 5 + M1 100 6 = eD x (M1 100 3) (M1 100 4) ∧ M1 101 x.toNat = cvl M x := by
  have hr := okS_rng hB.1 hx
  have b1 := wLo_b hB.1 hx
  have b2 := wHi_b hB.1 hx
  have b3 := w_pos hB.1
  have ev : ∀ y : Int, 0 ≤ y ∧ y ≤ 100 → M1 101 y.toNat = cvl M y := fun y hy => by
    have := hV y.toNat (by omega)
    rw [show ((y.toNat : Nat) : Int) = y by omega] at this
    exact this
  rw [← hL] at b1 b3
  rw [← hU] at b2 b3
  refine ⟨hr, ⟨b1, b2⟩, b3, fun y hy => ?_, ?_, ?_, ev x hx⟩
  · rw [hV y hy]
    have := vl_b (x := (y : Int)) hW.2
    unfold cvl
    omega
  · unfold eN
    rw [ev _ hr.1, ev _ hr.2, ← hL, ← hU]
  · unfold eD
    rw [← hL, ← hU]
theorem MGb {M : Mem} {y a b : Int} (hW : cWR M) (h : MG (cvl M) y a b) : (1 ≤ y ∧ y ≤ 99) ∧ (0 ≤ a ∧ a ≤ 396000) ∧ (0 < b ∧ b ≤ 200) := by
  obtain ⟨h1, ⟨lo, hi, h2, h3, h4⟩, h5⟩ := h
  have k := gain_b (v := cvl M) (fun y => vl_b hW.2) h1 h2
  rw [← h3, ← h4] at k
  exact ⟨h1, k.2.2.2.1, k.2.1, k.2.2.2.2⟩
theorem mn_b {a : AS} (hw : WF a) : (-1073741824 ≤ mnS a ∧ mnS a ≤ 1073741824) ∧ (0 < mnT a ∧ mnT a ≤ 1073741824) := by
  have h6 := WFs_pos hw.2.2
  have e6 : (a.2.2.2.1.toNat : Int) = a.2.2.2.1 := by omega
  have b1 := sm_bm (f := fun k => a.2.2.2.2.1 k * vA a (a.2.2.2.2.2 k)) (a := -989010) (b := 989010) (n := a.2.2.2.1.toNat) (N := 6) (by omega) (by decide) (by decide) (fun k hk => by
    have q := WFs_b hw.2.2 (k := k) (by omega)
    have q2 := vl_b (x := a.2.2.2.2.2 k) hw.2.1.2
    have := mulS (a := a.2.2.2.2.1 k) (A := 999) (b := vA a (a.2.2.2.2.2 k)) (B := 990) (by omega) (by unfold vA; omega)
    omega)
  have b2 := sm_b (f := a.2.2.2.2.1) (a := 1) (b := 999) (n := a.2.2.2.1.toNat) (fun k hk => (WFs_b hw.2.2 (k := k) (by omega)).1)
  unfold mnS mnT
  constructor
  · omega
  · constructor <;> omega
