/-! ===== the history ===== -/
/-- the number of the State that holds the i-th latest record -/
def hC (M : Mem) (i : Nat) : Nat := 3 + ((M 91 1).toNat + 6 - i) % 7
def hvC (M : Mem) (i : Nat) : AS := vC M (hC M i)
def PUSH (k : Int) (h : Nat → AS) (cur : AS) (k' : Int) (h' : Nat → AS) : Prop := k' = (if k + 1 < 6 then k + 1 else 6) ∧ eqA cur (h' 0) ∧ ∀ i : Nat, (i : Int) + 1 < k' → eqA (h i) (h' (i + 1))
def SAMEH (k : Int) (h : Nat → AS) (k' : Int) (h' : Nat → AS) : Prop := k' = k ∧ ∀ i : Nat, (i : Int) < k → eqA (h i) (h' i)
def POP (k : Int) (h : Nat → AS) (cur' : AS) (k' : Int) (h' : Nat → AS) : Prop := k' = k - 1 ∧ eqA (h 0) cur' ∧ ∀ i : Nat, (i : Int) < k' → eqA (h (i + 1)) (h' i)
def HI (M : Mem) : Prop := (0 ≤ M 91 1 ∧ M 91 1 < 7) ∧ (0 ≤ M 91 2 ∧ M 91 2 ≤ 6)
/-- what a change of the class leaves: slots, pad, and all of the reference -/
def KP (ln : Int) (M M1 : Mem) : Prop := (∀ a, ((9 ≤ a ∧ a < 27) ∨ a = 94 ∨ a = 96 ∨ 105 ≤ a) → M1 a = M a) ∧ M1 95 2 = ln
/-- a change of the class, by an order on its state -/
def cChg (op : AS → Int → AS → Prop) (ln : Int) (M : Mem) (z : Int) (M1 : Mem) : Prop := op (vC M 0) z (vC M1 0) ∧ (z < 0 → SAMEH (M 91 2) (hvC M) (M1 91 2) (hvC M1)) ∧ (0 ≤ z → PUSH (M 91 2) (hvC M) (vC M 0) (M1 91 2) (hvC M1)) ∧ HI M1 ∧ KP ln M M1
theorem chg_of {op : AS → Int → AS → Prop} {M Ma Mb M1 : Mem} {d : Nat} {z r ln : Int} (hH : HI M) (hd : (d : Int) = M 91 1 + 3) (hn : M 1 4 ≤ 5) (hm : M 6 2 ≤ 6) (h1 : cpG M Ma d 0) (h2 : op (vC Ma 0) z (vC Mb 0)) (h3 : ∀ a, ((9 ≤ a ∧ a < 95) ∨ a = 96 ∨ 105 ≤ a) → Mb a = Ma a) (h3p : Mb 95 2 = ln) (h4 : r = z ∧ (z < 0 → M1 = Mb) ∧ (0 ≤ z → M1 = up2 (up2 Mb 91 1 (if Mb 91 1 + 1 < 7 then Mb 91 1 + 1 else 0)) 91 2 (if Mb 91 2 + 1 < 6 then Mb 91 2 + 1 else 6))) : cChg op ln M r M1 := by
  obtain ⟨h4r, h4a, h4b⟩ := h4
  have h4r := h4r.symm
  subst h4r
  have hk := h1.1
  have ea : ∀ a, (a < 9 ∨ (9 ≤ a ∧ a < 27) ∨ 90 ≤ a) → Ma a = M a := fun a ha => hk a (by have := hH.1; omega)
  have e0 : vC Ma 0 = vC M 0 := vC_eq (fun a _ h => ea a (by omega))
  rw [e0] at h2
  have e91 : Mb 91 = M 91 := by rw [h3 91 (by omega), ea 91 (by omega)]
  -- rows of the history that are kept
  have hrow : ∀ i : Nat, (i : Int) < M 91 2 → eqA (hvC M i) (vC Mb (hC M i)) := fun i hi => by
    have hc : hC M i ≠ d ∧ 3 ≤ hC M i ∧ hC M i < 10 := by
      unfold hC
      have := hH.1
      have := hH.2
      omega
    exact vC_same (fun a q1 q2 => by rw [h3 a (by omega), hk a (by omega)])
  have hcur : eqA (vC M 0) (vC Mb d) := eqA_tr (vC_cp h1 hn hm) (vC_same (fun a q1 q2 => h3 a (by have := hH.1; omega)))
  have hkp : KP ln M Mb := ⟨fun a ha => by rw [h3 a (by omega), ea a (by omega)], h3p⟩
  rcases Int.lt_or_le z 0 with q | q
  · have e := h4a q
    subst e
    refine ⟨h2, fun _ => ⟨by rw [e91], fun i hi => ?_⟩, fun w => absurd w (by omega), by unfold HI; rw [e91]; exact hH, hkp⟩
    have : hC M1 i = hC M i := by unfold hC; rw [e91]
    unfold hvC at *
    rw [this]
    exact hrow i hi
  · have e := h4b q
    rw [e91] at e
    have eo : ∀ a, a ≠ 91 → M1 a = Mb a := fun a ha => by rw [e, up2_n _ _ _ ha, up2_n _ _ _ ha]
    have e1 : M1 91 1 = if M 91 1 + 1 < 7 then M 91 1 + 1 else 0 := by rw [e, up2_m _ _ _ (by decide), up2_s]
    have e2 : M1 91 2 = if M 91 2 + 1 < 6 then M 91 2 + 1 else 6 := by rw [e, up2_s]
    have hH' := hH
    obtain ⟨a1, a2⟩ := hH'
    have b1 : 0 ≤ M1 91 1 ∧ M1 91 1 < 7 := by rw [e1]; split <;> omega
    have b2 : 0 ≤ M1 91 2 ∧ M1 91 2 ≤ 6 := by rw [e2]; split <;> omega
    have same : ∀ j, 1 ≤ j → j < 10 → vC M1 j = vC Mb j := fun j j1 j2 => vC_eq (fun a q1 q2 => eo a (by omega))
    have s0 : vC M1 0 = vC Mb 0 := vC_eq (fun a q1 q2 => eo a (by omega))
    refine ⟨by rw [s0]; exact h2, fun w => absurd w (by omega), fun _ => ⟨e2, ?_, fun i hi => ?_⟩, ⟨b1, b2⟩, ⟨fun a ha => by rw [eo a (by omega)]; exact hkp.1 a ha, by rw [eo 95 (by decide)]; exact hkp.2⟩⟩
    · have hc : hC M1 0 = d := by
        unfold hC
        rw [e1]
        split <;> omega
      show eqA (vC M 0) (vC M1 (hC M1 0))
      rw [hc, same d (by omega) (by omega)]
      exact hcur
    · have hik : (i : Int) < M 91 2 := by rw [e2] at hi; split at hi <;> omega
      have hc : hC M1 (i + 1) = hC M i := by
        unfold hC
        rw [e1]
        split <;> omega
      have hr := hrow i hik
      show eqA (hvC M i) (vC M1 (hC M1 (i + 1)))
      rw [hc, same (hC M i) (by unfold hC; omega) (by unfold hC; omega)]
      exact hr
/-- the latest record is taken back -/
theorem pop_of {M M1 : Mem} {d : Nat} (hH : HI M) (hk : 0 < M 91 2) (hd : (d : Int) = (if 0 < M 91 1 then M 91 1 - 1 else 6) + 3) (hw : WF (hvC M 0)) (h1 : cpG (up2 (up2 M 91 1 (if 0 < M 91 1 then M 91 1 - 1 else 6)) 91 2 (M 91 2 - 1)) M1 0 d) : POP (M 91 2) (hvC M) (vC M1 0) (M1 91 2) (hvC M1) ∧ HI M1 ∧ KP (M 95 2) M M1 := by
  obtain ⟨a1, a2⟩ := hH
  obtain ⟨Mx, eMx⟩ : ∃ Mx : Mem, Mx = up2 (up2 M 91 1 (if 0 < M 91 1 then M 91 1 - 1 else 6)) 91 2 (M 91 2 - 1) := ⟨_, rfl⟩
  rw [← eMx] at h1
  have eo : ∀ a, a ≠ 91 → Mx a = M a := fun a ha => by rw [eMx, up2_n _ _ _ ha, up2_n _ _ _ ha]
  have e1 : Mx 91 1 = if 0 < M 91 1 then M 91 1 - 1 else 6 := by rw [eMx, up2_m _ _ _ (by decide), up2_s]
  have e2 : Mx 91 2 = M 91 2 - 1 := by rw [eMx, up2_s]
  have hk1 := h1.1
  have f1 : M1 91 = Mx 91 := hk1 91 (by omega)
  have hc0 : hC M 0 = d := by
    unfold hC
    split at hd <;> omega
  have sM : ∀ j, 1 ≤ j → j < 10 → vC M1 j = vC M j := fun j j1 j2 => vC_eq (fun a q1 q2 => by rw [hk1 a (by omega), eo a (by omega)])
  have hdx : vC Mx d = vC M d := vC_eq (fun a q1 q2 => eo a (by split at hd <;> omega))
  have w5 : (hvC M 0).2.1 ≤ 5 := by have := hw.2.1.1; have := hw.2.1.2.1; omega
  have w6 : (hvC M 0).2.2.2.1 ≤ 6 := (WFs_pos hw.2.2).2
  unfold hvC at w5 w6
  rw [hc0] at w5 w6
  have wx5 : (vC Mx d).2.1 ≤ 5 := by rw [hdx]; exact w5
  have wx6 : (vC Mx d).2.2.2.1 ≤ 6 := by rw [hdx]; exact w6
  refine ⟨⟨by rw [f1, e2], ?_, fun i hi => ?_⟩, ⟨?_, ?_⟩, fun a ha => by rw [hk1 a (by omega), eo a (by omega)], by rw [hk1 95 (by omega), eo 95 (by decide)]⟩
  · have := vC_cp h1 wx5 wx6
    rw [hdx] at this
    show eqA (vC M (hC M 0)) (vC M1 0)
    rw [hc0]
    exact this
  · rw [f1, e2] at hi
    have hc : hC M1 i = hC M (i + 1) := by
      unfold hC
      rw [f1, e1]
      split <;> omega
    show eqA (vC M (hC M (i + 1))) (vC M1 (hC M1 i))
    rw [hc, sM (hC M (i + 1)) (by unfold hC; omega) (by unfold hC; omega)]
    exact eqA_rf _
  · rw [f1, e1]; split <;> omega
  · rw [f1, e2]; omega
theorem opR_of {M M1 : Mem} {a b u v z : Int} (h : (¬ ADM a b u v → z = -2 ∧ M1 = M) ∧ (ADM a b u v → (M 1 4 = 5 → z = -4 ∧ M1 = M) ∧ (M 1 4 < 5 → z = M 1 4 ∧ M1 = up2 (up2 (up2 (up2 (up2 M 2 (M 1 4).toNat a) 3 (M 1 4).toNat b) 4 (M 1 4).toNat u) 5 (M 1 4).toNat v) 1 4 (M 1 4 + 1)))) (hn : 0 ≤ M 1 4 ∧ M 1 4 ≤ 5) : opR a b u v (vC M 0) z (vC M1 0) ∧ eqx M M1 [1, 2, 3, 4, 5] := by
  by_cases q : ADM a b u v
  · have k := h.2 q
    rcases (show M 1 4 = 5 ∨ M 1 4 < 5 by omega) with w | w
    · obtain ⟨e1, e2⟩ := k.1 w
      subst e2
      exact ⟨⟨fun p => absurd q p, fun _ => ⟨fun _ => ⟨e1, eqA_rf _⟩, fun p => absurd (show M1 1 4 < 5 from p) (by omega)⟩⟩, eqx_rf _ _⟩
    · obtain ⟨e1, e2⟩ := k.2 w
      refine ⟨⟨fun p => absurd q p, fun _ => ⟨fun p => absurd (show M 1 4 = 5 from p) (by omega), fun _ => ⟨e1, ?_⟩⟩⟩, ?_⟩
      · rw [e2]
        refine ⟨rfl, rfl, fun c k hc hk => ?_, rfl, fun _ _ => ⟨rfl, rfl⟩⟩
        have hs : (admA (vC M 0) a b u v).2.2.1 c k = if (k : Int) = M 1 4 then (if c = 0 then a else if c = 1 then b else if c = 2 then u else v) else (if c < 4 then M (2 + c) else fun _ => 0) k := rfl
        rw [hs, if_pos hc]
        have e9 : ((k : Int) = M 1 4) ↔ (k = (M 1 4).toNat) := by omega
        rcases (show c = 0 ∨ c = 1 ∨ c = 2 ∨ c = 3 by omega) with z | z | z | z <;> subst z
        · show _ = uz (M 2) (M 1 4).toNat a k
          unfold uz
          simp [e9]
        · show _ = uz (M 3) (M 1 4).toNat b k
          unfold uz
          simp [e9]
        · show _ = uz (M 4) (M 1 4).toNat u k
          unfold uz
          simp [e9]
        · show _ = uz (M 5) (M 1 4).toNat v k
          unfold uz
          simp [e9]
      · rw [e2]
        exact eqx_up _ _ (eqx_up _ _ (eqx_up _ _ (eqx_up _ _ (eqx_up _ _ (eqx_rf _ _) (by decide)) (by decide)) (by decide)) (by decide)) (by decide)
  · obtain ⟨e1, e2⟩ := h.1 q
    subst e2
    exact ⟨⟨fun _ => ⟨e1, eqA_rf _⟩, fun p => absurd p q⟩, eqx_rf _ _⟩
theorem opD_of {M M1 : Mem} {r z : Int} (h : (¬ (0 ≤ r ∧ r < M 1 4) → z = -1 ∧ M1 = M) ∧ (0 ≤ r ∧ r < M 1 4 → z = M 1 4 - 1 ∧ eqx M M1 [1, 2, 3, 4, 5] ∧ M1 1 4 = M 1 4 - 1 ∧ (∀ j : Nat, (j : Int) < M 1 4 - 1 → M1 2 j = M 2 (if (j : Int) < r then j else j + 1) ∧ M1 3 j = M 3 (if (j : Int) < r then j else j + 1) ∧ M1 4 j = M 4 (if (j : Int) < r then j else j + 1) ∧ M1 5 j = M 5 (if (j : Int) < r then j else j + 1)))) : opD r (vC M 0) z (vC M1 0) ∧ eqx M M1 [1, 2, 3, 4, 5] := by
  by_cases q : 0 ≤ r ∧ r < M 1 4
  · obtain ⟨e1, e2, e3, e4⟩ := h.2 q
    refine ⟨⟨fun p => absurd q p, fun _ => ⟨e1, ?_⟩⟩, e2⟩
    refine ⟨?_, ?_, fun c k hc hk => ?_, ?_, fun k hk => ⟨?_, ?_⟩⟩
    · show M 0 2 = M1 0 2
      rw [e2 0 (by decide)]
    · show M 1 4 - 1 = M1 1 4
      exact e3.symm
    · obtain ⟨g1, g2, g3, g4⟩ := e4 k hk
      show (if c < 4 then M (2 + c) else fun _ => 0) (if (k : Int) < r then k else k + 1) = (if c < 4 then M1 (2 + c) else fun _ => 0) k
      rw [if_pos hc, if_pos hc]
      rcases (show c = 0 ∨ c = 1 ∨ c = 2 ∨ c = 3 by omega) with z | z | z | z <;> subst z
      · exact g1.symm
      · exact g2.symm
      · exact g3.symm
      · exact g4.symm
    · show M 6 2 = M1 6 2
      rw [e2 6 (by decide)]
    · show M 7 k = M1 7 k
      rw [e2 7 (by decide)]
    · show M 8 k = M1 8 k
      rw [e2 8 (by decide)]
  · obtain ⟨e1, e2⟩ := h.1 q
    subst e2
    exact ⟨⟨fun _ => ⟨e1, eqA_rf _⟩, fun p => absurd p q⟩, eqx_rf _ _⟩
theorem opP_of {M M1 : Mem} {x z : Int} (h : (1 ≤ x ∧ x ≤ 99 → z = M 0 2 ∧ M1 = up2 (up2 (up2 (up2 (up2 M 0 2 x) 6 2 0) 7 0 1) 8 0 x) 6 2 1) ∧ (¬ (1 ≤ x ∧ x ≤ 99) → z = -2 ∧ M1 = M)) : opP x (vC M 0) z (vC M1 0) ∧ eqx M M1 [0, 6, 7, 8] := by
  by_cases q : 1 ≤ x ∧ x ≤ 99
  · obtain ⟨e1, e2⟩ := h.1 q
    refine ⟨⟨fun p => absurd q p, fun _ => ⟨e1, ?_⟩⟩, ?_⟩
    · rw [e2]
      refine ⟨rfl, rfl, fun c k hc hk => ?_, rfl, fun k hk => ?_⟩
      · show (if c < 4 then M (2 + c) else fun _ => 0) k = (if c < 4 then (up2 (up2 (up2 (up2 (up2 M 0 2 x) 6 2 0) 7 0 1) 8 0 x) 6 2 1) (2 + c) else fun _ => 0) k
        rw [if_pos hc, if_pos hc, up2_n _ _ _ (by omega), up2_n _ _ _ (by omega), up2_n _ _ _ (by omega), up2_n _ _ _ (by omega), up2_n _ _ _ (by omega)]
      · have hk' : (k : Int) < 1 := hk
        have : k = 0 := by omega
        subst this
        exact ⟨rfl, rfl⟩
    · rw [e2]
      exact eqx_up _ _ (eqx_up _ _ (eqx_up _ _ (eqx_up _ _ (eqx_up _ _ (eqx_rf _ _) (by decide)) (by decide)) (by decide)) (by decide)) (by decide)
  · obtain ⟨e1, e2⟩ := h.2 q
    subst e2
    exact ⟨⟨fun _ => ⟨e1, eqA_rf _⟩, fun p => absurd p q⟩, eqx_rf _ _⟩
theorem rec95 {M M1 : Mem} {z r : Int} (h : z = r ∧ (r < 0 → M1 = M) ∧ (0 ≤ r → M1 = up2 (up2 M 91 1 (if M 91 1 + 1 < 7 then M 91 1 + 1 else 0)) 91 2 (if M 91 2 + 1 < 6 then M 91 2 + 1 else 6))) : M1 95 = M 95 := by
  rcases Int.lt_or_le r 0 with q | q
  · rw [h.2.1 q]
  · rw [h.2.2 q, up2_n _ _ _ (by decide), up2_n _ _ _ (by decide)]
