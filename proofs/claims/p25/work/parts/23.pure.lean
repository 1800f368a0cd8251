/-! ===== splits as functions of the posterior ===== -/
/-- the weight that a list of parts has at a posterior -/
def SF (w p : Nat → Int) (m : Nat) (j : Nat) : Int := sm (fun k => if p k = (j : Int) then w k else 0) m
/-- the parts n, w, p are those of F, by rising posteriors: each one's number is how many there are below it -/
def SplitOf (F : Nat → Int) (n : Int) (w p : Nat → Int) : Prop := n = cnt F 101 ∧ ∀ i : Nat, (i : Int) < n → (0 ≤ p i ∧ p i ≤ 100) ∧ w i = F (p i).toNat ∧ 0 < w i ∧ cnt F (p i).toNat = (i : Int)
theorem cnt_lt {F : Nat → Int} {a b : Nat} (h : a < b) (ha : 0 < F a) : cnt F a + 1 ≤ cnt F b := by
  have h1 := cnt_mono F (show a + 1 ≤ b by omega)
  have h2 : cnt F (a + 1) = cnt F a + 1 := by simp only [cnt]; rw [if_pos ha]
  omega
theorem SplitOf_uniq {F G : Nat → Int} {n n' : Int} {w w' p p' : Nat → Int} (h : SplitOf F n w p) (h' : SplitOf G n' w' p') (e : ∀ j, j < 101 → F j = G j) : n = n' ∧ ∀ i : Nat, (i : Int) < n → w i = w' i ∧ p i = p' i := by
  have hn : n = n' := by rw [h.1, h'.1, cnt_cong e]
  refine ⟨hn, fun i hi => ?_⟩
  obtain ⟨h1, h2, h3, h4⟩ := h.2 i hi
  obtain ⟨g1, g2, g3, g4⟩ := h'.2 i (by omega)
  have e2 : ∀ k, k ≤ 101 → cnt G k = cnt F k := fun k hk => (cnt_cong (fun j hj => e j (by omega))).symm
  rw [e2 _ (by omega)] at g4
  have hF : 0 < F (p i).toNat := by rw [← h2]; exact h3
  have hG : 0 < F (p' i).toNat := by rw [e _ (by omega), ← g2]; exact g3
  have hp : p i = p' i := by
    rcases Nat.lt_trichotomy (p i).toNat (p' i).toNat with q | q | q
    · have := cnt_lt q hF; omega
    · omega
    · have := cnt_lt q hG; omega
  exact ⟨by rw [h2, g2, hp, e _ (by omega)], hp⟩
theorem SplitOf_cong {F G : Nat → Int} {n : Int} {w p : Nat → Int} (h : SplitOf F n w p) (e : ∀ j, j < 101 → F j = G j) : SplitOf G n w p := by
  refine ⟨by rw [h.1, cnt_cong e], fun i hi => ?_⟩
  obtain ⟨h1, h2, h3, h4⟩ := h.2 i hi
  exact ⟨h1, by rw [h2, e _ (by omega)], h3, by rw [← h4]; exact (cnt_cong (fun j hj => e j (by omega))).symm⟩
theorem SplitOf_same {F : Nat → Int} {n : Int} {w p w' p' : Nat → Int} (h : SplitOf F n w p) (e : ∀ i : Nat, (i : Int) < n → w' i = w i ∧ p' i = p i) : SplitOf F n w' p' := by
  refine ⟨h.1, fun i hi => ?_⟩
  obtain ⟨e1, e2⟩ := e i hi
  rw [e1, e2]
  exact h.2 i hi
theorem SplitOf_inc {F : Nat → Int} {n : Int} {w p : Nat → Int} (h : SplitOf F n w p) {i j : Nat} (hij : i < j) (hj : (j : Int) < n) : p i < p j := by
  obtain ⟨h1, h2, h3, h4⟩ := h.2 i (by omega)
  obtain ⟨g1, g2, g3, g4⟩ := h.2 j hj
  rcases Int.lt_or_le (p i) (p j) with q | q
  · exact q
  · have := cnt_mono F (show (p j).toNat ≤ (p i).toNat by omega)
    omega
/-- a list with one place for a posterior has its weight -/
theorem SF_one {w p : Nat → Int} {j : Nat} : ∀ {m : Nat} {i : Nat}, i < m → p i = (j : Int) → (∀ a b, a < m → b < m → p a = p b → a = b) → SF w p m j = w i
  | m + 1, i, hi, hp, hu => by
    have e : SF w p (m + 1) j = SF w p m j + (if p m = (j : Int) then w m else 0) := rfl
    have z : ∀ k, k ≤ m → (∀ a, a < k → p a ≠ (j : Int)) → SF w p k j = 0 := by
      intro k
      induction k with
      | zero => intro _ _; rfl
      | succ k ih =>
        intro hk hz
        have e2 : SF w p (k + 1) j = SF w p k j + (if p k = (j : Int) then w k else 0) := rfl
        rw [e2, ih (by omega) (fun a ha => hz a (by omega)), if_neg (hz k (by omega))]
        rfl
    rcases Nat.lt_or_ge i m with q | q
    · rw [e, if_neg (fun h => by have := hu m i (by omega) (by omega) (by rw [h, hp]); omega), SF_one q hp (fun a b ha hb hab => hu a b (by omega) (by omega) hab)]
      omega
    · have : i = m := by omega
      subst this
      rw [e, if_pos hp, z i (by omega) (fun a ha h => by have := hu a i (by omega) (by omega) (by rw [h, hp]); omega)]
      omega
theorem SF_none {w p : Nat → Int} {j : Nat} : ∀ {m : Nat}, (∀ a, a < m → p a ≠ (j : Int)) → SF w p m j = 0
  | 0, _ => rfl
  | m + 1, h => by
    have e : SF w p (m + 1) j = SF w p m j + (if p m = (j : Int) then w m else 0) := rfl
    rw [e, if_neg (h m (by omega)), SF_none (fun a ha => h a (by omega))]
    rfl
theorem cnt_find (F : Nat → Int) : ∀ {m : Nat} {i : Int}, 0 ≤ i → i < cnt F m → ∃ j, j < m ∧ 0 < F j ∧ cnt F j = i
  | 0, i, h0, h => by simp [cnt] at h; omega
  | m + 1, i, h0, h => by
    rcases Int.lt_or_le i (cnt F m) with q | q
    · obtain ⟨j, h1, h2, h3⟩ := cnt_find F h0 q
      exact ⟨j, by omega, h2, h3⟩
    · simp only [cnt] at h
      split at h
      · exact ⟨m, by omega, by assumption, by omega⟩
      · omega
theorem SF_of {F : Nat → Int} {n : Int} {w p : Nat → Int} (h : SplitOf F n w p) (hF : ∀ j, j < 101 → 0 ≤ F j) {j : Nat} (hj : j < 101) : SF w p n.toNat j = F j := by
  have hu : ∀ a b, a < n.toNat → b < n.toNat → p a = p b → a = b := by
    intro a b ha hb hab
    rcases Nat.lt_trichotomy a b with q | q | q
    · have := SplitOf_inc h q (by omega); omega
    · exact q
    · have := SplitOf_inc h q (by omega); omega
  by_cases hz : 0 < F j
  · have h1 := cnt_lt (F := F) hj hz
    have h2 := cnt_b F j
    have hn := h.1
    obtain ⟨k1, k2, k3, k4⟩ := h.2 (cnt F j).toNat (by omega)
    have hp : p (cnt F j).toNat = (j : Int) := by
      have hF2 : 0 < F (p (cnt F j).toNat).toNat := by rw [← k2]; exact k3
      rcases Nat.lt_trichotomy (p (cnt F j).toNat).toNat j with q | q | q
      · have := cnt_lt q hF2; omega
      · omega
      · have := cnt_lt q hz; omega
    rw [SF_one (i := (cnt F j).toNat) (by omega) hp hu, k2, hp]
    rfl
  · rw [SF_none (fun a ha hp => by
      obtain ⟨k1, k2, k3, k4⟩ := h.2 a (by omega)
      rw [k2, hp] at k3
      exact hz k3)]
    have := hF j hj
    omega
/-- a state as before, but for the cells of a list -/
def eqx (M M1 : Mem) (l : List Nat) : Prop := ∀ a, a ∉ l → M1 a = M a
theorem eqx_rf (M : Mem) (l : List Nat) : eqx M M l := fun _ _ => rfl
theorem eqx_tr {M M1 M2 : Mem} {l : List Nat} (h : eqx M M1 l) (h2 : eqx M1 M2 l) : eqx M M2 l := fun a ha => by rw [h2 a ha, h a ha]
theorem eqx_stc {M M1 : Mem} {l : List Nat} {i : Nat} (f : Nat → Int) (h : eqx M M1 l) (hi : i ∈ l) : eqx M (stc M1 i f) l := fun a ha => by
  rw [stc_n _ _ (fun q => ha (by rw [q]; exact hi)), h a ha]
theorem eqx_up {M M1 : Mem} {l : List Nat} {i : Nat} (k : Nat) (x : Int) (h : eqx M M1 l) (hi : i ∈ l) : eqx M (up2 M1 i k x) l := eqx_stc _ h hi
theorem eqx_mono {M M1 : Mem} {l l' : List Nat} (h : eqx M M1 l) (hl : ∀ a, a ∈ l → a ∈ l') : eqx M M1 l' := fun a ha => h a (fun q => ha (hl a q))
theorem clr_s {M : Mem} {a : Int} (ha : 0 ≤ a) : up2 (stc M 99 (fun j => if (j : Int) < a then 0 else M 99 j)) 99 a.toNat 0 = stc M 99 (fun j => if (j : Int) < a + 1 then 0 else M 99 j) := by
  rw [up2_stc]
  refine stc_eq fun j => ?_
  unfold uz
  by_cases h : j = a.toNat
  · rw [if_pos h, if_pos (by omega)]
  · rw [if_neg h]
    show (if (j : Int) < a then 0 else M 99 j) = _
    by_cases h2 : (j : Int) < a
    · rw [if_pos h2, if_pos (by omega)]
    · rw [if_neg h2, if_neg (by omega)]
theorem clr_0 {M : Mem} : M = stc M 99 (fun j => if (j : Int) < 0 then 0 else M 99 j) := by
  rw [stc_eq (g := M 99) (fun j => by rw [if_neg (by omega)]), stc_id]
theorem SF_suc (w p : Nat → Int) (m j : Nat) : SF w p (m + 1) j = SF w p m j + (if p m = (j : Int) then w m else 0) := rfl
/-- a list of parts that is being laid: all below k are in -/
def SplitTo (F : Nat → Int) (k : Nat) (n : Int) (w p : Nat → Int) : Prop := n = cnt F k ∧ ∀ i : Nat, (i : Int) < n → (0 ≤ p i ∧ p i < (k : Int)) ∧ w i = F (p i).toNat ∧ 0 < w i ∧ cnt F (p i).toNat = (i : Int)
theorem SplitTo_0 {F : Nat → Int} {w p : Nat → Int} : SplitTo F 0 0 w p := ⟨rfl, fun i hi => absurd hi (by omega)⟩
theorem SplitTo_no {F : Nat → Int} {k : Nat} {n : Int} {w p : Nat → Int} (h : SplitTo F k n w p) (hk : ¬ 0 < F k) : SplitTo F (k + 1) n w p := by
  refine ⟨by simp only [cnt]; rw [if_neg hk]; have := h.1; omega, fun i hi => ?_⟩
  obtain ⟨h1, h2⟩ := h.2 i hi
  exact ⟨by omega, h2⟩
theorem SplitTo_yes {F : Nat → Int} {k : Nat} {n : Int} {w p : Nat → Int} (h : SplitTo F k n w p) (hk : 0 < F k) : SplitTo F (k + 1) (n + 1) (uz w n.toNat (F k)) (uz p n.toNat (k : Int)) := by
  have hb := cnt_b F k
  have hn := h.1
  refine ⟨by simp only [cnt]; rw [if_pos hk]; omega, fun i hi => ?_⟩
  by_cases q : i = n.toNat
  · rw [q, uz_s, uz_s]
    refine ⟨by omega, rfl, hk, ?_⟩
    rw [show (k : Int).toNat = k from rfl, ← hn]
    omega
  · rw [uz_n _ _ q, uz_n _ _ q]
    obtain ⟨h1, h2⟩ := h.2 i (by omega)
    exact ⟨by omega, h2⟩
theorem SplitTo_end {F : Nat → Int} {n : Int} {w p : Nat → Int} (h : SplitTo F 101 n w p) : SplitOf F n w p := by
  refine ⟨h.1, fun i hi => ?_⟩
  obtain ⟨h1, h2⟩ := h.2 i hi
  exact ⟨by omega, h2⟩
/-- the receivers of the State d are those of the State s now -/
def cpR (M M1 : Mem) (d s : Nat) : Prop := (∀ a, (a < 9 * d + 1 ∨ 9 * d + 6 ≤ a) → M1 a = M a) ∧ M1 (9 * d + 1) 4 = M (9 * s + 1) 4 ∧ ∀ k, k < 5 → M1 (9 * d + 2) k = M (9 * s + 2) k ∧ M1 (9 * d + 3) k = M (9 * s + 3) k ∧ M1 (9 * d + 4) k = M (9 * s + 4) k ∧ M1 (9 * d + 5) k = M (9 * s + 5) k
def cpS (M M1 : Mem) (d s : Nat) : Prop := (∀ a, (a < 9 * d + 6 ∨ 9 * d + 9 ≤ a) → M1 a = M a) ∧ M1 (9 * d + 6) 2 = M (9 * s + 6) 2 ∧ ∀ k, k < 6 → M1 (9 * d + 7) k = M (9 * s + 7) k ∧ M1 (9 * d + 8) k = M (9 * s + 8) k
/-- the State d holds what the State s holds -/
def cpG (M M1 : Mem) (d s : Nat) : Prop := (∀ a, (a < 9 * d ∨ 9 * d + 9 ≤ a) → M1 a = M a) ∧ M1 (9 * d) 2 = M (9 * s) 2 ∧ (M1 (9 * d + 1) 4 = M (9 * s + 1) 4 ∧ ∀ k, k < 5 → M1 (9 * d + 2) k = M (9 * s + 2) k ∧ M1 (9 * d + 3) k = M (9 * s + 3) k ∧ M1 (9 * d + 4) k = M (9 * s + 4) k ∧ M1 (9 * d + 5) k = M (9 * s + 5) k) ∧ M1 (9 * d + 6) 2 = M (9 * s + 6) 2 ∧ ∀ k, k < 6 → M1 (9 * d + 7) k = M (9 * s + 7) k ∧ M1 (9 * d + 8) k = M (9 * s + 8) k
theorem cpG_of {M M1 M2 M3 : Mem} {d s : Nat} (hd : d < 10) (hs : s < 10) (hn : d ≠ s) (h1 : cpR M M1 d s) (h2 : cpS M1 M2 d s) (h3 : M3 = up2 M2 (9 * d) 2 (M2 (9 * s) 2)) : cpG M M3 d s := by
  obtain ⟨a1, a2, a3⟩ := h1
  obtain ⟨b1, b2, b3⟩ := h2
  have e : ∀ a, a ≠ 9 * d → M3 a = M2 a := fun a ha => by rw [h3]; exact up2_n _ _ _ ha
  refine ⟨fun a ha => by rw [e a (by omega), b1 a (by omega), a1 a (by omega)], ?_, ⟨by rw [e _ (by omega), b1 _ (by omega), a2], fun k hk => ?_⟩, by rw [e _ (by omega), b2, a1 _ (by omega)], fun k hk => ?_⟩
  · rw [h3, up2_s, b1 _ (by omega), a1 _ (by omega)]
  · obtain ⟨c1, c2, c3, c4⟩ := a3 k hk
    rw [e _ (by omega), b1 _ (by omega), e _ (by omega), b1 _ (by omega), e _ (by omega), b1 _ (by omega), e _ (by omega), b1 _ (by omega)]
    exact ⟨c1, c2, c3, c4⟩
  · obtain ⟨c1, c2⟩ := b3 k hk
    rw [e _ (by omega), e _ (by omega), c1, c2, a1 _ (by omega), a1 _ (by omega)]
    exact ⟨rfl, rfl⟩
