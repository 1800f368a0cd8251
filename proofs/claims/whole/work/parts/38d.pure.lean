/-! ===== texts: what is read in them ===== -/
abbrev dg (C : Nat → Int) (i : Nat) : Prop := 48 ≤ C i ∧ C i ≤ 57
def nst (C : Nat → Int) (v : Int) (j : Nat) : Int × Nat := if (0 < v ∧ v < 100) ∧ dg C j then (if 10 * v + (C j - 48) < 100 ∧ dg C (j + 1) then (10 * (10 * v + (C j - 48)) + (C (j + 1) - 48), j + 2) else (10 * v + (C j - 48), j + 1)) else (v, j)
def num (C : Nat → Int) (i : Nat) : Int × Nat := if dg C i then nst C (C i - 48) (i + 1) else (-1, i)
theorem nst_end {C : Nat → Int} {v : Int} {j : Nat} (h : ¬ ((0 < v ∧ v < 100) ∧ dg C j)) : nst C v j = (v, j) := by
  unfold nst
  rw [if_neg h]
theorem nst_go {C : Nat → Int} {v : Int} {j : Nat} (h : (0 < v ∧ v < 100) ∧ dg C j) : nst C v j = nst C (10 * v + (C j - 48)) (j + 1) := by
  have hd := h.2
  unfold dg at hd
  unfold nst
  rw [if_pos h]
  by_cases q : 10 * v + (C j - 48) < 100 ∧ dg C (j + 1)
  · rw [if_pos q, if_pos ⟨⟨by omega, q.1⟩, q.2⟩, if_neg (fun w => by have := w.1; omega)]
  · rw [if_neg q, if_neg (fun w => q ⟨w.1.2, w.2⟩)]
theorem num_yes {C : Nat → Int} {i : Nat} (h : dg C i) : num C i = nst C (C i - 48) (i + 1) := by
  unfold num
  rw [if_pos h]
theorem num_no {C : Nat → Int} {i : Nat} (h : ¬ dg C i) : num C i = (-1, i) := by
  unfold num
  rw [if_neg h]
theorem num_f {C : Nat → Int} {n i : Nat} (hn : ∀ j, n ≤ j → C j = 0) : ((num C i).1 < 0 → (num C i).2 = i) ∧ (0 ≤ (num C i).1 → (num C i).1 ≤ 999 ∧ i < (num C i).2 ∧ (num C i).2 ≤ n) := by
  by_cases h : dg C i
  · rw [num_yes h]
    have h0 : i < n := by
      rcases Nat.lt_or_ge i n with q | q
      · exact q
      · have := hn i q
        omega
    have key : 0 ≤ (nst C (C i - 48) (i + 1)).1 ∧ (nst C (C i - 48) (i + 1)).1 ≤ 999 ∧ i < (nst C (C i - 48) (i + 1)).2 ∧ (nst C (C i - 48) (i + 1)).2 ≤ n := by
      unfold nst
      by_cases q : (0 < C i - 48 ∧ C i - 48 < 100) ∧ dg C (i + 1)
      · rw [if_pos q]
        have hd := q.2
        have h1 : i + 1 < n := by
          rcases Nat.lt_or_ge (i + 1) n with w | w
          · exact w
          · have := hn _ w
            omega
        by_cases q2 : 10 * (C i - 48) + (C (i + 1) - 48) < 100 ∧ dg C (i + 1 + 1)
        · rw [if_pos q2]
          have hd2 := q2.2
          have h2 : i + 1 + 1 < n := by
            rcases Nat.lt_or_ge (i + 1 + 1) n with w | w
            · exact w
            · have := hn _ w
              omega
          dsimp only
          omega
        · rw [if_neg q2]
          dsimp only
          omega
      · rw [if_neg q]
        dsimp only
        omega
    exact ⟨fun q => by omega, fun _ => key.2⟩
  · rw [num_no h]
    exact ⟨fun _ => rfl, fun q => absurd q (by show ¬ (0 : Int) ≤ -1; decide)⟩
theorem num_le {C : Nat → Int} {n i : Nat} (hn : ∀ j, n ≤ j → C j = 0) (hi : i ≤ n) : i ≤ (num C i).2 ∧ (num C i).2 ≤ n := by
  have h := num_f (C := C) (n := n) (i := i) hn
  rcases Int.lt_or_le (num C i).1 0 with q | q
  · have := h.1 q
    omega
  · have := h.2 q
    omega
theorem num_b {C : Nat → Int} {n i : Nat} (hn : ∀ j, n ≤ j → C j = 0) : (num C i).1 ≤ 999 := by
  have h := num_f (C := C) (n := n) (i := i) hn
  rcases Int.lt_or_le (num C i).1 0 with q | q
  · omega
  · exact (h.2 q).1
/-- what is read: whether it can stand, where it ends, its letter, its numbers, how many parts -/
abbrev TR : Type := Bool × Nat × Int × (Nat → Int) × Nat
def bad (j : Nat) : TR := (false, j, 0, (fun _ => 0), 0)
def q4 (a b c d : Int) : Nat → Int := fun k => if k = 0 then a else if k = 1 then b else if k = 2 then c else if k = 3 then d else 0
def q1 (a : Int) : Nat → Int := fun k => if k = 0 then a else 0
def HR4 (a b c : Int) (g : Prop) [Decidable g] (q : Int × Nat) : TR := if q.1 < 0 then bad q.2 else (true, q.2, 114, q4 a b c (if g then -q.1 else q.1), 0)
def HR3 (C : Nat → Int) (a b : Int) (q : Int × Nat) : TR := if q.1 < 0 then bad q.2 else if C q.2 = 33 then HR4 a b q.1 (C (q.2 + 1) = 45) (num C (if C (q.2 + 1) = 45 then q.2 + 1 + 1 else q.2 + 1)) else (true, q.2, 114, q4 a b q.1 0, 0)
def HR2 (C : Nat → Int) (a : Int) (q : Int × Nat) : TR := if q.1 < 0 then bad q.2 else if C q.2 = 36 then HR3 C a q.1 (num C (q.2 + 1)) else bad q.2
def HR1 (C : Nat → Int) (q : Int × Nat) : TR := if q.1 < 0 then bad q.2 else if C q.2 = 44 then HR2 C q.1 (num C (q.2 + 1)) else bad q.2
def HR (C : Nat → Int) (i : Nat) : TR := HR1 C (num C i)
def pf (C : Nat → Int) (i : Nat) (f : Nat → Int) (c : Nat) : Nat → Int := uz (uz f (2 * c) (num C i).1) (2 * c + 1) (num C ((num C i).2 + 1)).1
def PR (C : Nat → Int) : Nat → Nat → (Nat → Int) → Nat → TR
  | 0, i, f, c => (true, i, 115, f, c)
  | m + 1, i, f, c => if (num C i).1 < 0 then bad (num C i).2 else if C (num C i).2 = 64 then (if (num C ((num C i).2 + 1)).1 < 0 then bad (num C ((num C i).2 + 1)).2 else if m ≠ 0 ∧ C (num C ((num C i).2 + 1)).2 = 44 then PR C m ((num C ((num C i).2 + 1)).2 + 1) (pf C i f c) (c + 1) else (true, (num C ((num C i).2 + 1)).2, 115, pf C i f c, c + 1)) else bad (num C i).2
def RO (C : Nat → Int) (i : Nat) : TR := if C i = 114 then HR C (i + 1) else if C i = 45 then (if 48 ≤ C (i + 1) ∧ C (i + 1) ≤ 52 then (true, i + 1 + 1, 45, q1 (C (i + 1) - 48), 0) else bad (i + 1)) else if C i = 112 then (if (num C (i + 1)).1 < 0 then bad (num C (i + 1)).2 else (true, (num C (i + 1)).2, 112, q1 (num C (i + 1)).1, 0)) else if C i = 115 then PR C 6 (i + 1) (fun _ => 0) 0 else if C i = 98 then (true, i + 1, 98, (fun _ => 0), 0) else bad i
/-- what is read from i on: it ends in the text; if it stands it is no shorter than 1, its numbers are small, its letter is one of five -/
def TRW (n i : Nat) (r : TR) : Prop := (i ≤ r.2.1 ∧ r.2.1 ≤ n) ∧ (r.1 = true → (∀ k, -999 ≤ r.2.2.2.1 k ∧ r.2.2.2.1 k ≤ 999) ∧ (r.2.2.1 = 114 ∨ r.2.2.1 = 45 ∨ r.2.2.1 = 112 ∨ r.2.2.1 = 115 ∨ r.2.2.1 = 98) ∧ (r.2.2.1 = 115 → 1 ≤ r.2.2.2.2 ∧ r.2.2.2.2 ≤ 6))
theorem TRW_bad {n i j : Nat} (h : i ≤ j ∧ j ≤ n) : TRW n i (bad j) := ⟨h, fun q => by cases q⟩
theorem TRW_mono {n i j : Nat} {r : TR} (h : TRW n i r) (hj : j ≤ i) : TRW n j r := ⟨⟨by have := h.1.1; omega, h.1.2⟩, h.2⟩
theorem C_lt {C : Nat → Int} {n i : Nat} (hn : ∀ j, n ≤ j → C j = 0) (h : C i ≠ 0) : i < n := by
  rcases Nat.lt_or_ge i n with q | q
  · exact q
  · exact absurd (hn i q) h
theorem HR4_W {n i : Nat} {a b c : Int} {g : Prop} [Decidable g] {q : Int × Nat} (h1 : i ≤ q.2 ∧ q.2 ≤ n) (h2 : q.1 ≤ 999) (ha : 0 ≤ a ∧ a ≤ 999) (hb : 0 ≤ b ∧ b ≤ 999) (hc : 0 ≤ c ∧ c ≤ 999) : TRW n i (HR4 a b c g q) := by
  unfold HR4
  by_cases z : q.1 < 0
  · rw [if_pos z]
    exact TRW_bad h1
  · rw [if_neg z]
    refine ⟨h1, fun _ => ⟨fun k => ?_, Or.inl rfl, fun q => absurd q (by show ¬ (114 : Int) = 115; decide)⟩⟩
    show -999 ≤ q4 a b c (if g then -q.1 else q.1) k ∧ q4 a b c (if g then -q.1 else q.1) k ≤ 999
    unfold q4
    by_cases g0 : g
    · simp only [if_pos g0]
      repeat' split
      all_goals omega
    · simp only [if_neg g0]
      repeat' split
      all_goals omega
theorem HR_W {C : Nat → Int} {n i : Nat} (hn : ∀ j, n ≤ j → C j = 0) (hi : i ≤ n) : TRW n i (HR C i) := by
  unfold HR HR1
  have a1 := num_le hn hi
  have a2 := num_b (i := i) hn
  split
  · exact TRW_bad a1
  · next z1 =>
    split
    · next d1 =>
      have l1 := C_lt hn (i := (num C i).2) (by omega)
      unfold HR2
      have b1 := num_le (i := (num C i).2 + 1) hn (by omega)
      have b2 := num_b (i := (num C i).2 + 1) hn
      split
      · exact TRW_bad (by omega)
      · next z2 =>
        split
        · next d2 =>
          have l2 := C_lt hn (i := (num C ((num C i).2 + 1)).2) (by omega)
          unfold HR3
          have c1 := num_le (i := (num C ((num C i).2 + 1)).2 + 1) hn (by omega)
          have c2 := num_b (i := (num C ((num C i).2 + 1)).2 + 1) hn
          split
          · exact TRW_bad (by omega)
          · next z3 =>
            split
            · next d3 =>
              have l3 := C_lt hn (i := (num C ((num C ((num C i).2 + 1)).2 + 1)).2) (by omega)
              have hj : (num C ((num C ((num C i).2 + 1)).2 + 1)).2 + 1 ≤ (if C ((num C ((num C ((num C i).2 + 1)).2 + 1)).2 + 1) = 45 then (num C ((num C ((num C i).2 + 1)).2 + 1)).2 + 1 + 1 else (num C ((num C ((num C i).2 + 1)).2 + 1)).2 + 1) ∧ (if C ((num C ((num C ((num C i).2 + 1)).2 + 1)).2 + 1) = 45 then (num C ((num C ((num C i).2 + 1)).2 + 1)).2 + 1 + 1 else (num C ((num C ((num C i).2 + 1)).2 + 1)).2 + 1) ≤ n := by
                split
                · next d4 =>
                  have := C_lt hn (i := (num C ((num C ((num C i).2 + 1)).2 + 1)).2 + 1) (by omega)
                  omega
                · omega
              exact HR4_W (by have := num_le hn hj.2; omega) (num_b hn) (by omega) (by omega) (by omega)
            · refine ⟨by dsimp only; omega, fun _ => ⟨fun k => ?_, Or.inl rfl, fun q => absurd q (by show ¬ (114 : Int) = 115; decide)⟩⟩
              show -999 ≤ q4 _ _ _ _ k ∧ q4 _ _ _ _ k ≤ 999
              unfold q4
              repeat' split
              all_goals omega
        · exact TRW_bad (by omega)
    · exact TRW_bad a1
theorem PR_W {C : Nat → Int} {n : Nat} (hn : ∀ j, n ≤ j → C j = 0) : ∀ {m i : Nat} {f : Nat → Int} {c : Nat}, i ≤ n → (∀ k, -999 ≤ f k ∧ f k ≤ 999) → 0 < m → c + m ≤ 6 → TRW n i (PR C m i f c)
  | m + 1, i, f, c, hi, hf, _, hc => by
    show TRW n i (if (num C i).1 < 0 then bad (num C i).2 else if C (num C i).2 = 64 then (if (num C ((num C i).2 + 1)).1 < 0 then bad (num C ((num C i).2 + 1)).2 else if m ≠ 0 ∧ C (num C ((num C i).2 + 1)).2 = 44 then PR C m ((num C ((num C i).2 + 1)).2 + 1) (pf C i f c) (c + 1) else (true, (num C ((num C i).2 + 1)).2, 115, pf C i f c, c + 1)) else bad (num C i).2)
    have a1 := num_le hn hi
    have a2 := num_b (i := i) hn
    split
    · exact TRW_bad a1
    · next z1 =>
      split
      · next d1 =>
        have l1 := C_lt hn (i := (num C i).2) (by omega)
        have b1 := num_le (i := (num C i).2 + 1) hn (by omega)
        have b2 := num_b (i := (num C i).2 + 1) hn
        split
        · exact TRW_bad (by omega)
        · next z2 =>
          have hpf : ∀ k, -999 ≤ pf C i f c k ∧ pf C i f c k ≤ 999 := fun k => by
            unfold pf uz
            have := hf k
            repeat' split
            all_goals omega
          split
          · next d2 =>
            have l2 := C_lt hn (i := (num C ((num C i).2 + 1)).2) (by omega)
            exact TRW_mono (PR_W hn (by omega) hpf (by omega) (by omega)) (by omega)
          · refine ⟨by dsimp only; omega, fun _ => ⟨hpf, Or.inr (Or.inr (Or.inr (Or.inl rfl))), fun _ => ?_⟩⟩
            show 1 ≤ c + 1 ∧ c + 1 ≤ 6
            omega
      · exact TRW_bad a1
theorem RO_W {C : Nat → Int} {n i : Nat} (hn : ∀ j, n ≤ j → C j = 0) (hi : i ≤ n) : TRW n i (RO C i) ∧ ((RO C i).1 = true → i < (RO C i).2.1) := by
  unfold RO
  split
  · next d =>
    have l := C_lt hn (i := i) (by omega)
    have h := HR_W (C := C) (i := i + 1) hn (by omega)
    exact ⟨TRW_mono h (by omega), fun _ => by have := h.1.1; omega⟩
  · split
    · next d =>
      have l := C_lt hn (i := i) (by omega)
      split
      · next d2 =>
        have l2 := C_lt hn (i := i + 1) (by omega)
        refine ⟨⟨by dsimp only; omega, fun _ => ⟨fun k => ?_, Or.inr (Or.inl rfl), fun q => absurd q (by show ¬ (45 : Int) = 115; decide)⟩⟩, fun _ => by dsimp only; omega⟩
        show -999 ≤ q1 _ k ∧ q1 _ k ≤ 999
        unfold q1
        split <;> omega
      · exact ⟨TRW_bad (by omega), fun q => by cases q⟩
    · split
      · next d =>
        have l := C_lt hn (i := i) (by omega)
        have b1 := num_le (i := i + 1) hn (by omega)
        have b2 := num_b (i := i + 1) hn
        split
        · exact ⟨TRW_bad (by omega), fun q => by cases q⟩
        · refine ⟨⟨by dsimp only; omega, fun _ => ⟨fun k => ?_, Or.inr (Or.inr (Or.inl rfl)), fun q => absurd q (by show ¬ (112 : Int) = 115; decide)⟩⟩, fun _ => by dsimp only; omega⟩
          show -999 ≤ q1 _ k ∧ q1 _ k ≤ 999
          unfold q1
          split <;> omega
      · split
        · next d =>
          have l := C_lt hn (i := i) (by omega)
          have h := PR_W (C := C) (n := n) (m := 6) (i := i + 1) (f := fun _ => 0) (c := 0) hn (by omega) (fun _ => by omega) (by omega) (by omega)
          exact ⟨TRW_mono h (by omega), fun _ => by have := h.1.1; omega⟩
        · split
          · next d =>
            have l := C_lt hn (i := i) (by omega)
            refine ⟨⟨by dsimp only; omega, fun _ => ⟨fun k => ?_, Or.inr (Or.inr (Or.inr (Or.inr rfl))), fun q => absurd q (by show ¬ (98 : Int) = 115; decide)⟩⟩, fun _ => by dsimp only; omega⟩
            show -999 ≤ (0 : Int) ∧ (0 : Int) ≤ 999
            omega
          · exact ⟨TRW_bad (by omega), fun q => by cases q⟩
/-- where a text's fault is -/
def FT (C : Nat → Int) (n : Nat) : Nat → Nat → Int
  | 0, i => (i : Int)
  | m + 1, i => if (RO C i).1 = true then (if n ≤ (RO C i).2.1 then -6 else if C (RO C i).2.1 = 59 then FT C n m ((RO C i).2.1 + 1) else ((RO C i).2.1 : Int)) else ((RO C i).2.1 : Int)
/-- an order is obeyed -/
def opO (r : TR) (a : AS) (z : Int) (a' : AS) : Prop := (r.2.2.1 = 114 → opR (r.2.2.2.1 0) (r.2.2.2.1 1) (r.2.2.2.1 2) (r.2.2.2.1 3) a z a') ∧ (r.2.2.1 = 45 → opD (r.2.2.2.1 0) a z a') ∧ (r.2.2.1 = 112 → opP (r.2.2.2.1 0) a z a') ∧ (r.2.2.1 = 115 → opS (tbad r.2.2.2.1 r.2.2.2.2) (tld r.2.2.2.1 r.2.2.2.2) a z a') ∧ (r.2.2.1 = 98 → opB a z a')
def OT (C : Nat → Int) (n : Nat) : Nat → Nat → AS → Int → Int → AS → Prop
  | 0, _, a, d, z, a' => z = d ∧ eqA a a'
  | m + 1, i, a, d, z, a' => ∃ (y : Int) (a1 : AS), opO (RO C i) a y a1 ∧ (y < 0 → z = d ∧ eqA a1 a') ∧ (0 ≤ y → (n ≤ (RO C i).2.1 → z = d + 1 ∧ eqA a1 a') ∧ (¬ n ≤ (RO C i).2.1 → OT C n m ((RO C i).2.1 + 1) a1 (d + 1) z a'))
theorem det_S {bd : Prop} {F : Nat → Int} {a b a' b' : AS} {r r' : Int} (hF : ¬ bd → ∀ j, 0 ≤ F j) (hp : ¬ bd → ∃ j0, j0 < 101 ∧ 0 < F j0) (h : eqA a b) (g1 : WF a) (h1 : opS bd F a r a') (h2 : opS bd F b r' b') : r = r' ∧ eqA a' b' ∧ WF a' := by
  by_cases q : bd
  · obtain ⟨e1, e2⟩ := h1.1 q
    obtain ⟨e3, e4⟩ := h2.1 q
    exact ⟨by omega, eqA_tr (eqA_sy e2) (eqA_tr h e4), WF_eq e2 g1⟩
  · have k1 := h1.2 q
    have k2 := h2.2 q
    rw [← h.1] at k2
    by_cases q2 : okF (red F) ∧ sm (fun j => red F j * ((j : Int) - a.1)) 101 ≠ 0
    · obtain ⟨e1, e2⟩ := k1.1 q2
      obtain ⟨e3, e4⟩ := k2.1 q2
      exact ⟨by omega, eqA_tr (eqA_sy e2) (eqA_tr h e4), WF_eq e2 g1⟩
    · obtain ⟨j0, hj, h0⟩ := hp q
      exact det_F (fun _ _ => rfl) (hF q) hj h0 h g1 (k1.2 q2) (k2.2 q2)
theorem det_B {a b a' b' : AS} {r r' : Int} (h : eqA a b) (g1 : WF a) (h1 : opB a r a') (h2 : opB b r' b') : r = r' ∧ eqA a' b' ∧ WF a' := by
  obtain ⟨lo, hi, k1, k2⟩ := h1
  obtain ⟨lo', hi', l1, l2⟩ := h2
  rw [← h.1] at l1 l2
  have hv := vA_eq h g1.2.1.1
  have hp := g1.1
  obtain ⟨u1, u2⟩ := isB_uniq k1 l1 (fun y _ _ => hv y) (by omega)
  rw [← u1, ← u2] at l2
  have hr := okS_rng k1.1 (show 0 ≤ a.1 ∧ a.1 ≤ 100 by omega)
  have hw := w_pos k1.1
  have hb := fun j => bstF_b k1.1 (show 0 ≤ a.1 ∧ a.1 ≤ 100 by omega) j
  have b1 := wLo_b k1.1 (show 0 ≤ a.1 ∧ a.1 ≤ 100 by omega)
  have b2 := wHi_b k1.1 (show 0 ≤ a.1 ∧ a.1 ≤ 100 by omega)
  have hx : ∃ j0, j0 < 101 ∧ 0 < bstF a.1 lo hi j0 := by
    rcases Int.lt_or_le 0 (wLo a.1 lo hi) with q | q
    · refine ⟨lo.toNat, by omega, ?_⟩
      show 0 < 0 + (if ((lo.toNat : Nat) : Int) = lo then wLo a.1 lo hi else 0) + (if ((lo.toNat : Nat) : Int) = hi then wHi a.1 lo hi else 0)
      rw [if_pos (by omega)]
      split <;> omega
    · refine ⟨hi.toNat, by omega, ?_⟩
      show 0 < 0 + (if ((hi.toNat : Nat) : Int) = lo then wLo a.1 lo hi else 0) + (if ((hi.toNat : Nat) : Int) = hi then wHi a.1 lo hi else 0)
      rw [if_pos (show ((hi.toNat : Nat) : Int) = hi by omega)]
      split <;> omega
  obtain ⟨j0, hj, h0⟩ := hx
  exact det_F (fun _ _ => rfl) (fun j => (hb j).1) hj h0 h g1 k2 l2
theorem tld_nn {f : Nat → Int} {c : Nat} (h : ¬ tbad f c) (j : Nat) : 0 ≤ tld f c j := by
  unfold tld SF
  have := sm_b (f := fun k => if (fun i => f (2 * i + 1)) k = (j : Int) then (fun i => f (2 * i)) k else 0) (a := 0) (b := 999) (n := c) (fun k hk => by
    have : (1 ≤ f (2 * k) ∧ f (2 * k) ≤ 999) ∧ (0 ≤ f (2 * k + 1) ∧ f (2 * k + 1) ≤ 100) := Classical.byContradiction fun q => h ⟨k, hk, q⟩
    dsimp only
    split <;> omega)
  omega
theorem tld_pos {f : Nat → Int} {c : Nat} (h : ¬ tbad f c) (hc : 0 < c) : ∃ j0, j0 < 101 ∧ 0 < tld f c j0 := by
  have h0 : ∀ k, k < c → (1 ≤ f (2 * k) ∧ f (2 * k) ≤ 999) ∧ (0 ≤ f (2 * k + 1) ∧ f (2 * k + 1) ≤ 100) := fun k hk => Classical.byContradiction fun q => h ⟨k, hk, q⟩
  have h1 : (1 ≤ f 0 ∧ f 0 ≤ 999) ∧ (0 ≤ f 1 ∧ f 1 ≤ 100) := h0 0 hc
  refine ⟨(f 1).toNat, by omega, ?_⟩
  have key : f 0 ≤ SF (fun i => f (2 * i)) (fun i => f (2 * i + 1)) c (f 1).toNat := SF_ge (w := fun i => f (2 * i)) (p := fun i => f (2 * i + 1)) (m := c) (k := 0) (fun i hi => by
    have := h0 i hi
    show 0 ≤ f (2 * i)
    omega) hc (f 1).toNat (by
    show f 1 = (((f 1).toNat : Nat) : Int)
    omega)
  unfold tld
  omega
theorem tbad_cong {f g : Nat → Int} {c : Nat} (e : ∀ k, k < 2 * c → f k = g k) : tbad f c ↔ tbad g c := by
  constructor
  · rintro ⟨i, hi, q⟩
    exact ⟨i, hi, by rw [← e _ (by omega), ← e _ (by omega)]; exact q⟩
  · rintro ⟨i, hi, q⟩
    exact ⟨i, hi, by rw [e _ (by omega), e _ (by omega)]; exact q⟩
theorem tld_cong {f g : Nat → Int} {c : Nat} (e : ∀ k, k < 2 * c → f k = g k) : tld f c = tld g c := by
  funext j
  unfold tld SF
  exact sm_cong (fun k hk => by
    have e1 := e (2 * k) (by omega)
    have e2 := e (2 * k + 1) (by omega)
    simp only [e1, e2])
theorem opS_cong {f g : Nat → Int} {c : Nat} {a a' : AS} {r : Int} (e : ∀ k, k < 2 * c → f k = g k) (h : opS (tbad f c) (tld f c) a r a') : opS (tbad g c) (tld g c) a r a' := by
  rw [← tld_cong e]
  exact ⟨fun q => h.1 ((tbad_cong e).mpr q), fun q => h.2 (fun w => q ((tbad_cong e).mp w))⟩
theorem det_O {n i : Nat} {r : TR} {a b a' b' : AS} {z z' : Int} (hr : TRW n i r) (ho : r.1 = true) (h : eqA a b) (g1 : WF a) (h1 : opO r a z a') (h2 : opO r b z' b') : z = z' ∧ eqA a' b' ∧ WF a' := by
  obtain ⟨w1, w2, w3⟩ := hr.2 ho
  obtain ⟨a1, a2, a3, a4, a5⟩ := h1
  obtain ⟨b1, b2, b3, b4, b5⟩ := h2
  rcases w2 with q | q | q | q | q
  · exact det_R h g1 (a1 q) (b1 q)
  · exact det_D h g1 (a2 q) (b2 q)
  · exact det_P h g1 (a3 q) (b3 q)
  · exact det_S (fun w => tld_nn w) (fun w => tld_pos w (w3 q).1) h g1 (a4 q) (b4 q)
  · exact det_B h g1 (a5 q) (b5 q)
theorem opO_z {n i : Nat} {r : TR} {a a' : AS} {z : Int} (hr : TRW n i r) (ho : r.1 = true) (g1 : WF a) (h1 : opO r a z a') : -6 ≤ z ∧ z ≤ 99 := by
  obtain ⟨w1, w2, w3⟩ := hr.2 ho
  obtain ⟨a1, a2, a3, a4, a5⟩ := h1
  rcases w2 with q | q | q | q | q
  · exact opR_z g1 (a1 q)
  · exact opD_z g1 (a2 q)
  · exact opP_z g1 (a3 q)
  · exact opS_z (a4 q)
  · exact opB_z (a5 q)
theorem FT_s {C : Nat → Int} {n m i : Nat} (h : FT C n (m + 1) i = -6) : (RO C i).1 = true ∧ (¬ n ≤ (RO C i).2.1 → C (RO C i).2.1 = 59 ∧ FT C n m ((RO C i).2.1 + 1) = -6) := by
  have e : FT C n (m + 1) i = if (RO C i).1 = true then (if n ≤ (RO C i).2.1 then -6 else if C (RO C i).2.1 = 59 then FT C n m ((RO C i).2.1 + 1) else ((RO C i).2.1 : Int)) else ((RO C i).2.1 : Int) := rfl
  rw [e] at h
  by_cases q : (RO C i).1 = true
  · rw [if_pos q] at h
    refine ⟨q, fun w => ?_⟩
    rw [if_neg w] at h
    by_cases g : C (RO C i).2.1 = 59
    · rw [if_pos g] at h
      exact ⟨g, h⟩
    · rw [if_neg g] at h
      omega
  · rw [if_neg q] at h
    omega
theorem det_OT {C : Nat → Int} {n : Nat} (hn : ∀ j, n ≤ j → C j = 0) : ∀ {m i : Nat} {a b a' b' : AS} {d z z' : Int}, FT C n m i = -6 → i ≤ n → eqA a b → WF a → OT C n m i a d z a' → OT C n m i b d z' b' → z = z' ∧ eqA a' b' ∧ WF a'
  | 0, i, a, b, a', b', d, z, z', hf, _, _, _, _, _ => by
    have : ((i : Nat) : Int) = -6 := hf
    omega
  | m + 1, i, a, b, a', b', d, z, z', hf, hi, h, hw, h1, h2 => by
    obtain ⟨y, a1, k1, k2, k3⟩ := h1
    obtain ⟨y', b1, l1, l2, l3⟩ := h2
    obtain ⟨f1, f2⟩ := FT_s hf
    have hr := RO_W (C := C) hn hi
    obtain ⟨e1, e2, e3⟩ := det_O hr.1 f1 h hw k1 l1
    rcases Int.lt_or_le y 0 with q | q
    · obtain ⟨u1, u2⟩ := k2 q
      obtain ⟨v1, v2⟩ := l2 (by omega)
      exact ⟨by omega, eqA_tr (eqA_sy u2) (eqA_tr e2 v2), WF_eq u2 e3⟩
    · have k4 := k3 q
      have l4 := l3 (by omega)
      by_cases g : n ≤ (RO C i).2.1
      · obtain ⟨u1, u2⟩ := k4.1 g
        obtain ⟨v1, v2⟩ := l4.1 g
        exact ⟨by omega, eqA_tr (eqA_sy u2) (eqA_tr e2 v2), WF_eq u2 e3⟩
      · exact det_OT hn (f2 g).2 (by omega) e2 e3 (k4.2 g) (l4.2 g)
theorem OT_z {C : Nat → Int} {n : Nat} : ∀ {m i : Nat} {a a' : AS} {d z : Int}, OT C n m i a d z a' → d ≤ z ∧ z ≤ d + (m : Int)
  | 0, i, a, a', d, z, h => by
    have := h.1
    omega
  | m + 1, i, a, a', d, z, h => by
    obtain ⟨y, a1, k1, k2, k3⟩ := h
    rcases Int.lt_or_le y 0 with q | q
    · have := (k2 q).1
      omega
    · by_cases g : n ≤ (RO C i).2.1
      · have := ((k3 q).1 g).1
        omega
      · have := OT_z ((k3 q).2 g)
        omega
