/-! ===== refining and joining: one outcome ===== -/
theorem cnt_ex {F : Nat → Int} : ∀ {n : Nat}, 1 ≤ cnt F n → ∃ j, j < n ∧ 0 < F j
  | 0, h => absurd h (by show ¬ (1 : Int) ≤ 0; decide)
  | n + 1, h => by
    have e : cnt F (n + 1) = cnt F n + if 0 < F n then 1 else 0 := rfl
    by_cases q : 0 < F n
    · exact ⟨n, by omega, q⟩
    · rw [e, if_neg q, Int.add_zero] at h
      obtain ⟨j, h1, h2⟩ := cnt_ex h
      exact ⟨j, by omega, h2⟩
theorem SF_eqA {a b : AS} (h : eqA a b) (j : Nat) : SF a.2.2.2.2.1 a.2.2.2.2.2 a.2.2.2.1.toNat j = SF b.2.2.2.2.1 b.2.2.2.2.2 b.2.2.2.1.toNat j := by
  obtain ⟨h1, h2, h3, h4, h5⟩ := h
  rw [← h4]
  unfold SF
  exact sm_cong (fun k hk => by
    obtain ⟨e1, e2⟩ := h5 k (by omega)
    simp only [e1, e2])
theorem refF_eqA {a b : AS} (h : eqA a b) {x : Nat} (hx : (x : Int) < a.2.2.2.1) (lo up : Int) (j : Nat) : refF a x lo up j = refF b x lo up j := by
  unfold refF
  obtain ⟨e1, e2⟩ := h.2.2.2.2 x hx
  rw [SF_eqA h, e1, e2]
theorem det_Sp {x lo up : Int} {a b a' b' : AS} {r r' : Int} (h : eqA a b) (g1 : WF a) (h1 : opSp x lo up a r a') (h2 : opSp x lo up b r' b') : r = r' ∧ eqA a' b' ∧ WF a' := by
  have e4 := h.2.2.2.1
  by_cases q1 : 0 ≤ x ∧ x < a.2.2.2.1
  · have q1b : 0 ≤ x ∧ x < b.2.2.2.1 := by rw [← e4]; exact q1
    obtain ⟨ew, ep⟩ := h.2.2.2.2 x.toNat (by omega)
    have k1 := h1.2 q1
    have k2 := h2.2 q1b
    rw [← ep] at k2
    by_cases q2 : (0 ≤ lo ∧ lo ≤ a.2.2.2.2.2 x.toNat) ∧ (a.2.2.2.2.2 x.toNat ≤ up ∧ up ≤ 100)
    · have l1 := k1.2 q2
      have l2 := k2.2 q2
      by_cases q3 : lo = up
      · obtain ⟨u1, u2⟩ := l1.1 q3
        obtain ⟨v1, v2⟩ := l2.1 q3
        exact ⟨by omega, eqA_tr (eqA_sy u2) (eqA_tr h v2), WF_eq u2 g1⟩
      · have hws := g1.2.2
        have hm := WFs_pos hws
        have hb : ∀ k, k < a.2.2.2.1.toNat → (1 ≤ a.2.2.2.2.1 k ∧ a.2.2.2.2.1 k ≤ 999) ∧ (0 ≤ a.2.2.2.2.2 k ∧ a.2.2.2.2.2 k ≤ 100) := fun k hk => WFs_b hws (by omega)
        have hxn : x.toNat < a.2.2.2.1.toNat := by omega
        have er : ∀ j, rfF a.2.2.2.2.1 a.2.2.2.2.2 x.toNat lo up a.2.2.2.1.toNat j = refF a x.toNat lo up j := fun j => by
          rw [rfF_ne (show ¬ up = lo by omega), if_pos hxn]
          unfold refF
          omega
        have hn : ∀ j, 0 ≤ refF a x.toNat lo up j := fun j => by
          rw [← er j]
          exact (rfF_b (fun k hk => (hb k hk).1) hxn q2.1 q2.2 a.2.2.2.1.toNat (Nat.le_refl _) j).1
        obtain ⟨j0, hj0, hp0⟩ := cnt_ex (rfF_pos (n := a.2.2.2.1.toNat) hb hxn q2.1 q2.2)
        rw [er j0] at hp0
        exact det_F (fun j _ => refF_eqA h (by omega) lo up j) hn hj0 hp0 h g1 (l1.2 q3) (l2.2 q3)
    · obtain ⟨u1, u2⟩ := k1.1 q2
      obtain ⟨v1, v2⟩ := k2.1 q2
      exact ⟨by omega, eqA_tr (eqA_sy u2) (eqA_tr h v2), WF_eq u2 g1⟩
  · obtain ⟨u1, u2⟩ := h1.1 q1
    obtain ⟨v1, v2⟩ := h2.1 (by rw [← e4]; exact q1)
    exact ⟨by omega, eqA_tr (eqA_sy u2) (eqA_tr h v2), WF_eq u2 g1⟩
theorem det_Jn {x : Int} {a b a' b' : AS} {r r' : Int} (h : eqA a b) (g1 : WF a) (h1 : opJn x a r a') (h2 : opJn x b r' b') : r = r' ∧ eqA a' b' ∧ WF a' := by
  have e4 := h.2.2.2.1
  by_cases q1 : 0 ≤ x ∧ x + 1 < a.2.2.2.1
  · have q1b : 0 ≤ x ∧ x + 1 < b.2.2.2.1 := by rw [← e4]; exact q1
    obtain ⟨ew, ep⟩ := h.2.2.2.2 x.toNat (by omega)
    obtain ⟨ew2, ep2⟩ := h.2.2.2.2 (x.toNat + 1) (by omega)
    have k1 := h1.2 q1
    have k2 := h2.2 q1b
    have eW : jnW a x.toNat = jnW b x.toNat := by unfold jnW; rw [ew, ew2]
    have eM : jnM a x.toNat = jnM b x.toNat := by unfold jnM; rw [ew, ew2, ep, ep2]
    rw [← eW, ← eM] at k2
    by_cases q2 : (jnM a x.toNat).tmod (jnW a x.toNat) = 0
    · have hws := g1.2.2
      have hm := WFs_pos hws
      have hb : ∀ k, k < a.2.2.2.1.toNat → (1 ≤ a.2.2.2.2.1 k ∧ a.2.2.2.2.1 k ≤ 999) ∧ (0 ≤ a.2.2.2.2.2 k ∧ a.2.2.2.2.2 k ≤ 100) := fun k hk => WFs_b hws (by omega)
      have b1 := hb x.toNat (by omega)
      have b2 := hb (x.toNat + 1) (by omega)
      have er := jF_jn (c := a) (x := x.toNat) (by omega)
      have hW0 : 2 ≤ jnW a x.toNat ∧ jnW a x.toNat ≤ 1998 := by unfold jnW; omega
      have hmd := jn_rng b1.1 b2.1 b1.2 b2.2 q2
      have hn : ∀ j, 0 ≤ jnF a x.toNat j := fun j => by
        rw [← er j]
        exact (jF_b (fun k hk => (hb k hk).1) (by omega) a.2.2.2.1.toNat (Nat.le_refl _) j).1
      have hp0 : 0 < jnF a x.toNat ((jnM a x.toNat).tdiv (jnW a x.toNat)).toNat := by
        rw [← er]
        exact jF_pos (n := a.2.2.2.1.toNat) (fun k hk => (hb k hk).1.1) (by omega) hmd.1 _ (Nat.le_refl _)
      have hj0 : ((jnM a x.toNat).tdiv (jnW a x.toNat)).toNat < 101 := by
        have q := hmd.2
        have e : (jnM a x.toNat).tdiv (jnW a x.toNat) ≤ 100 := q
        omega
      refine det_F (fun j _ => ?_) hn hj0 hp0 h g1 (k1.2 q2) (k2.2 q2)
      unfold jnF
      rw [SF_eqA h, ew, ew2, ep, ep2, eW, eM]
    · obtain ⟨u1, u2⟩ := k1.1 q2
      obtain ⟨v1, v2⟩ := k2.1 q2
      exact ⟨by omega, eqA_tr (eqA_sy u2) (eqA_tr h v2), WF_eq u2 g1⟩
  · obtain ⟨u1, u2⟩ := h1.1 q1
    obtain ⟨v1, v2⟩ := h2.1 (by rw [← e4]; exact q1)
    exact ⟨by omega, eqA_tr (eqA_sy u2) (eqA_tr h v2), WF_eq u2 g1⟩
