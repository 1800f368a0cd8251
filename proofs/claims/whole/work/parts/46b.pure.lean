/-! ===== the reference's reader ===== -/
def rC (M : Mem) : Nat → Int := fun i => if (i : Int) < M 105 6 then M 110 i else 0
def RP (M : Mem) : Prop := (0 ≤ M 105 6 ∧ M 105 6 ≤ 80) ∧ ∀ j : Nat, (j : Int) < M 105 6 → 33 ≤ M 110 j ∧ M 110 j ≤ 126
def ch (C : Nat → Int) (i : Nat) : Int := if C i = 0 then -1 else C i
theorem rC_b {M : Mem} (h : RP M) (j : Nat) : 0 ≤ rC M j ∧ rC M j ≤ 126 := by
  unfold rC
  split
  · next q =>
    have := h.2 j q
    omega
  · omega
theorem rC_n {M : Mem} (h : RP M) : ∀ j, (M 105 6).toNat ≤ j → rC M j = 0 := fun j hj => by
  have := h.1
  unfold rC
  rw [if_neg (by omega)]
/-- a place in the text -/
def RS (M : Mem) (C : Nat → Int) (n i : Nat) : Prop := rC M = C ∧ RP M ∧ M 105 6 = (n : Int) ∧ M 105 14 = (i : Int)
theorem RS_n {M : Mem} {C : Nat → Int} {n i : Nat} (h : RS M C n i) : ∀ j, n ≤ j → C j = 0 := fun j hj => by
  rw [← h.1]
  exact rC_n h.2.1 j (by have := h.2.2.1; omega)
theorem RS_b {M : Mem} {C : Nat → Int} {n i : Nat} (h : RS M C n i) (j : Nat) : 0 ≤ C j ∧ C j ≤ 126 := by
  rw [← h.1]
  exact rC_b h.2.1 j
theorem RS_0 {M : Mem} {C : Nat → Int} {n i : Nat} (h : RS M C n i) : n ≤ 80 := by
  have := h.2.1.1
  have := h.2.2.1
  omega
theorem RS_in {M : Mem} {C : Nat → Int} {n i j : Nat} (h : RS M C n i) (hj : j < n) : 33 ≤ C j := by
  have h2 := h.2.1.2 j (by have := h.2.2.1; omega)
  have h3 := h.2.2.1
  rw [← h.1]
  unfold rC
  rw [if_pos (by omega)]
  omega
theorem RS_kq {M N : Mem} {C : Nat → Int} {n i j : Nat} (h : RS M C n i) (k : KQ M N) (e : N 105 14 = (j : Int)) : RS N C n j := by
  have e1 : N 110 = M 110 := k.1 110 (by decide)
  have e2 := k.2.2
  refine ⟨?_, ?_, by rw [e2]; exact h.2.2.1, e⟩
  · unfold rC
    rw [e1, e2]
    exact h.1
  · unfold RP
    rw [e1, e2]
    exact h.2.1
theorem KQ_tr {M N K : Mem} (h : KQ M N) (g : KQ N K) : KQ M K := ⟨eqx_tr h.1 g.1, by rw [g.2.1, h.2.1], by rw [g.2.2, h.2.2]⟩
theorem ch_is {C : Nat → Int} {i : Nat} {w : Int} (hw : 1 ≤ w) : (ch C i = w) ↔ (C i = w) := by
  unfold ch
  split <;> omega
theorem ch_in {C : Nat → Int} {i : Nat} {a b : Int} (ha : 1 ≤ a) : (a ≤ ch C i ∧ ch C i ≤ b) ↔ (a ≤ C i ∧ C i ≤ b) := by
  unfold ch
  split <;> omega
theorem ch_b {C : Nat → Int} {i : Nat} (h : 0 ≤ C i ∧ C i ≤ 126) : -1 ≤ ch C i ∧ ch C i ≤ 126 := by
  unfold ch
  split <;> omega
theorem up2_id {M : Mem} {i k : Nat} {x : Int} (h : M i k = x) : up2 M i k x = M := by
  funext a b
  by_cases q : a = i
  · subst q
    by_cases w : b = k
    · subst w
      rw [up2_s]
      exact h.symm
    · rw [up2_m _ _ _ w]
  · rw [up2_n _ _ _ q]
/-- the parts that were read -/
abbrev gd (f : Nat → Int) (i : Nat) : Prop := (1 ≤ f (2 * i) ∧ f (2 * i) ≤ 999) ∧ (0 ≤ f (2 * i + 1) ∧ f (2 * i + 1) ≤ 100)
def gtl (f : Nat → Int) (c : Nat) : Nat → Int := SF (fun i => if gd f i then f (2 * i) else 0) (fun i => f (2 * i + 1)) c
theorem gtl_b {f : Nat → Int} {c : Nat} (j : Nat) : 0 ≤ gtl f c j ∧ gtl f c j ≤ 999 * (c : Int) := by
  unfold gtl SF
  have := sm_b (f := fun k => if (fun i => f (2 * i + 1)) k = (j : Int) then (fun i => if gd f i then f (2 * i) else 0) k else 0) (a := 0) (b := 999) (n := c) (fun k hk => by
    dsimp only
    split
    · split
      · next q => have := q.1; omega
      · omega
    · omega)
  omega
theorem gtl_cong {f g : Nat → Int} {c : Nat} (e : ∀ k, k < 2 * c → f k = g k) : gtl f c = gtl g c := by
  funext j
  unfold gtl SF
  exact sm_cong (fun k hk => by
    have e1 := e (2 * k) (by omega)
    have e2 := e (2 * k + 1) (by omega)
    simp only [gd, e1, e2])
theorem gtl_s {f g : Nat → Int} {c : Nat} {w x : Int} (e : ∀ k, k < 2 * c → f k = g k) (h1 : g (2 * c) = w) (h2 : g (2 * c + 1) = x) : fadd (gtl f c) x (if (1 ≤ w ∧ w ≤ 999) ∧ (0 ≤ x ∧ x ≤ 100) then w else 0) = gtl g (c + 1) := by
  rw [gtl_cong e]
  funext j
  have e3 : gtl g (c + 1) j = gtl g c j + (if g (2 * c + 1) = (j : Int) then (if gd g c then g (2 * c) else 0) else 0) := rfl
  rw [e3]
  have e4 : gd g c ↔ (1 ≤ w ∧ w ≤ 999) ∧ (0 ≤ x ∧ x ≤ 100) := by
    show (1 ≤ g (2 * c) ∧ g (2 * c) ≤ 999) ∧ (0 ≤ g (2 * c + 1) ∧ g (2 * c + 1) ≤ 100) ↔ _
    rw [h1, h2]
  simp only [e4, h1, h2]
  show gtl g c j + (if (j : Int) = x then _ else 0) = _
  by_cases q : x = (j : Int)
  · rw [if_pos q, if_pos q.symm]
  · rw [if_neg q, if_neg (fun w => q w.symm)]
theorem gtl_t {f : Nat → Int} {c : Nat} (h : ¬ tbad f c) : gtl f c = tld f c := by
  funext j
  unfold gtl tld SF
  exact sm_cong (fun k hk => by
    have q : gd f k := Classical.byContradiction fun q => h ⟨k, hk, q⟩
    simp only [if_pos q])
theorem tbad_s {f g : Nat → Int} {c : Nat} {w x : Int} (e : ∀ k, k < 2 * c → f k = g k) (h1 : g (2 * c) = w) (h2 : g (2 * c + 1) = x) : tbad g (c + 1) ↔ tbad f c ∨ ¬ ((1 ≤ w ∧ w ≤ 999) ∧ (0 ≤ x ∧ x ≤ 100)) := by
  rw [tbad_cong e, ← h1, ← h2]
  constructor
  · rintro ⟨i, hi, q⟩
    rcases (show i < c ∨ i = c by omega) with z | z
    · exact Or.inl ⟨i, z, q⟩
    · subst z
      exact Or.inr q
  · rintro (⟨i, hi, q⟩ | q)
    · exact ⟨i, by omega, q⟩
    · exact ⟨c, by omega, q⟩
theorem tbad_0 (f : Nat → Int) : ¬ tbad f 0 := fun ⟨i, hi, _⟩ => absurd hi (by omega)
def PD (M : Mem) (f : Nat → Int) (c : Nat) : Prop := M 105 9 ≤ (c : Int) ∧ (0 ≤ M 105 16 ∧ M 105 16 ≤ (c : Int)) ∧ (M 105 16 = 0 ↔ ¬ tbad f c) ∧ SplitOf (gtl f c) (M 105 9) (M 111) (M 112)
/-- what was read lies in the fields -/
def FD (M : Mem) (r : TR) : Prop := M 105 15 = r.2.2.1 ∧ (r.2.2.1 = 114 → M 105 16 = r.2.2.2.1 0 ∧ M 105 17 = r.2.2.2.1 1 ∧ M 105 18 = r.2.2.2.1 2 ∧ M 105 19 = r.2.2.2.1 3) ∧ (r.2.2.1 = 45 ∨ r.2.2.1 = 112 → M 105 16 = r.2.2.2.1 0) ∧ (r.2.2.1 = 115 → PD M r.2.2.2.1 r.2.2.2.2)
theorem FD_14 {M : Mem} {r : TR} {x : Int} (h : FD M r) : FD (up2 M 105 14 x) r := h
/-- behind the reading of an order -/
def RR (M M1 : Mem) (r : TR) (z : Int) : Prop := z = (if r.1 = true then 1 else 0) ∧ KQ M M1 ∧ M1 105 14 = (r.2.1 : Int) ∧ (r.1 = true → FD M1 r)
/-- obeying, by the reference -/
def RI (C : Nat → Int) (n k j : Nat) (cur a0 : AS) : Prop := (n ≤ j ∧ ∀ (z : Int) (a' : AS), z = (k : Int) ∧ eqA cur a' → OT C n 80 0 a0 0 z a') ∨ (j < n ∧ FT C n (80 - k) j = -6 ∧ ∀ (z : Int) (a' : AS), OT C n (80 - k) j cur (k : Int) z a' → OT C n 80 0 a0 0 z a')
theorem RI_0 {C : Nat → Int} {n : Nat} {a0 : AS} (hn : ∀ j, n ≤ j → C j = 0) (hF : FT C n 80 0 = -6) : RI C n 0 0 a0 a0 := by
  have hw := RO_W (C := C) (n := n) (i := 0) hn (by omega)
  obtain ⟨f1, f2⟩ := FT_s (m := 79) hF
  have hp := hw.2 f1
  have := hw.1.1
  exact Or.inr ⟨by omega, hF, fun z a' h => h⟩
theorem RI_step {C : Nat → Int} {n k j : Nat} {cur a0 : AS} (hn : ∀ j, n ≤ j → C j = 0) (hn8 : n ≤ 80) (hjk : 2 * k ≤ j) (hj : j < n) (h : RI C n k j cur a0) : (RO C j).1 = true ∧ TRW n j (RO C j) ∧ (2 * (k + 1) ≤ (if C (RO C j).2.1 = 59 then (RO C j).2.1 + 1 else (RO C j).2.1) ∨ (n ≤ (if C (RO C j).2.1 = 59 then (RO C j).2.1 + 1 else (RO C j).2.1) ∧ 2 * (k + 1) ≤ (if C (RO C j).2.1 = 59 then (RO C j).2.1 + 1 else (RO C j).2.1) + 1)) ∧ (if C (RO C j).2.1 = 59 then (RO C j).2.1 + 1 else (RO C j).2.1) ≤ n ∧ j < (RO C j).2.1 ∧ ∀ (y : Int) (c1 : AS), opO (RO C j) cur y c1 → (y < 0 → OT C n 80 0 a0 0 (k : Int) c1) ∧ (0 ≤ y → RI C n (k + 1) (if C (RO C j).2.1 = 59 then (RO C j).2.1 + 1 else (RO C j).2.1) c1 a0) := by
  rcases h with ⟨h1, h2⟩ | ⟨h1, h5, h6⟩
  · omega
  · have hw := RO_W (C := C) (n := n) (i := j) hn (by omega)
    rw [show 80 - k = (79 - k) + 1 by omega] at h5 h6
    obtain ⟨f1, f2⟩ := FT_s h5
    have hp := hw.2 f1
    have hq := hw.1.1
    have h59 : C (RO C j).2.1 = 59 → (RO C j).2.1 < n := fun q => C_lt hn (by omega)
    refine ⟨f1, hw.1, ?_, ?_, hp, fun y c1 ho => ⟨fun q => ?_, fun q => ?_⟩⟩
    · by_cases g : n ≤ (RO C j).2.1
      · rw [if_neg (fun q => by have := h59 q; omega)]
        exact Or.inr ⟨g, by omega⟩
      · rw [if_pos (f2 g).1]
        omega
    · split
      · next q => have := h59 q; omega
      · omega
    · exact h6 _ _ ⟨y, c1, ho, fun _ => ⟨rfl, eqA_rf _⟩, fun w => absurd w (by omega)⟩
    · by_cases g : n ≤ (RO C j).2.1
      · rw [if_neg (fun q => by have := h59 q; omega)]
        refine Or.inl ⟨g, fun z a' hz => ?_⟩
        exact h6 _ _ ⟨y, c1, ho, fun w => absurd w (by omega), fun _ => ⟨fun _ => ⟨by have := hz.1; omega, hz.2⟩, fun w => absurd g w⟩⟩
      · rw [if_pos (f2 g).1]
        have f3 := (f2 g).2
        have hlt : (RO C j).2.1 + 1 < n := by
          rcases Nat.lt_or_ge ((RO C j).2.1 + 1) n with w | w
          · exact w
          · exfalso
            rw [show 79 - k = (78 - k) + 1 by omega] at f3
            obtain ⟨e1, e2⟩ := FT_s f3
            have hw2 := RO_W (C := C) (n := n) (i := (RO C j).2.1 + 1) hn (by omega)
            have := hw2.2 e1
            have := hw2.1.1
            omega
        refine Or.inr ⟨hlt, ?_, fun z a' hz => ?_⟩
        · rw [show 80 - (k + 1) = 79 - k by omega]
          exact f3
        · rw [show 80 - (k + 1) = 79 - k by omega, show ((k + 1 : Nat) : Int) = (k : Int) + 1 by omega] at hz
          exact h6 _ _ ⟨y, c1, ho, fun w => absurd w (by omega), fun _ => ⟨fun w => absurd w g, fun _ => hz⟩⟩
theorem RI_end {C : Nat → Int} {n k j : Nat} {cur a0 : AS} (h : RI C n k j cur a0) (hj : n ≤ j) : OT C n 80 0 a0 0 (k : Int) cur := by
  rcases h with ⟨h1, h2⟩ | ⟨h1, h5, h6⟩
  · exact h2 _ _ ⟨rfl, eqA_rf _⟩
  · omega
/-- an order can be done -/
def RDY (M : Mem) (r : TR) : Prop := (r.2.2.1 = 114 → ADM (r.2.2.2.1 0) (r.2.2.2.1 1) (r.2.2.2.1 2) (r.2.2.2.1 3) ∧ M 106 1 < 5) ∧ (r.2.2.1 = 45 → 0 ≤ r.2.2.2.1 0 ∧ r.2.2.2.1 0 < M 106 1) ∧ (r.2.2.1 = 112 → 1 ≤ r.2.2.2.1 0 ∧ r.2.2.2.1 0 ≤ 99) ∧ (r.2.2.1 = 115 → (¬ tbad r.2.2.2.1 r.2.2.2.2 ∧ okF (red (tld r.2.2.2.1 r.2.2.2.2)) ∧ sm (fun j => red (tld r.2.2.2.1 r.2.2.2.2) j * ((j : Int) - M 106 0)) 101 = 0) ∧ SplitOf (red (tld r.2.2.2.1 r.2.2.2.2)) (M 105 9) (M 111) (M 112) ∧ M 105 9 ≤ 6)
theorem opO_114 {r : TR} {a a' : AS} {z : Int} (hl : r.2.2.1 = 114) (h : opR (r.2.2.2.1 0) (r.2.2.2.1 1) (r.2.2.2.1 2) (r.2.2.2.1 3) a z a') : opO r a z a' := ⟨fun _ => h, fun q => by omega, fun q => by omega, fun q => by omega, fun q => by omega⟩
theorem opO_45 {r : TR} {a a' : AS} {z : Int} (hl : r.2.2.1 = 45) (h : opD (r.2.2.2.1 0) a z a') : opO r a z a' := ⟨fun q => by omega, fun _ => h, fun q => by omega, fun q => by omega, fun q => by omega⟩
theorem opO_112 {r : TR} {a a' : AS} {z : Int} (hl : r.2.2.1 = 112) (h : opP (r.2.2.2.1 0) a z a') : opO r a z a' := ⟨fun q => by omega, fun q => by omega, fun _ => h, fun q => by omega, fun q => by omega⟩
theorem opO_115 {r : TR} {a a' : AS} {z : Int} (hl : r.2.2.1 = 115) (h : opS (tbad r.2.2.2.1 r.2.2.2.2) (tld r.2.2.2.1 r.2.2.2.2) a z a') : opO r a z a' := ⟨fun q => by omega, fun q => by omega, fun q => by omega, fun _ => h, fun q => by omega⟩
theorem opO_98 {r : TR} {a a' : AS} {z : Int} (hl : r.2.2.1 = 98) (h : opB a z a') : opO r a z a' := ⟨fun q => by omega, fun q => by omega, fun q => by omega, fun q => by omega, fun _ => h⟩
/-- behind a part of an order -/
def OQ (M M1 : Mem) (r : TR) (z : Int) (P : Prop) : Prop := z = (if r.1 = true then 1 else 0) ∧ KQ M M1 ∧ M1 105 14 = (r.2.1 : Int) ∧ M1 105 15 = M 105 15 ∧ (r.1 = true → P)
abbrev HF (M1 : Mem) (f : Nat → Int) : Prop := M1 105 16 = f 0 ∧ M1 105 17 = f 1 ∧ M1 105 18 = f 2 ∧ M1 105 19 = f 3
theorem OQ_bad {M M1 : Mem} {j : Nat} {P : Prop} (k : KQ M M1) (e14 : M1 105 14 = (j : Int)) (e15 : M1 105 15 = M 105 15) : OQ M M1 (bad j) 0 P := ⟨rfl, k, e14, e15, fun q => by cases q⟩
theorem OQ_ok {M M1 : Mem} {j c : Nat} {f : Nat → Int} {l : Int} {P : Prop} (k : KQ M M1) (e14 : M1 105 14 = (j : Int)) (e15 : M1 105 15 = M 105 15) (hP : P) : OQ M M1 (true, j, l, f, c) 1 P := ⟨rfl, k, e14, e15, fun _ => hP⟩
theorem pf_v (f : Nat → Int) (c : Nat) (w x : Int) : (∀ k, k < 2 * c → f k = uz (uz f (2 * c) w) (2 * c + 1) x k) ∧ uz (uz f (2 * c) w) (2 * c + 1) x (2 * c) = w ∧ uz (uz f (2 * c) w) (2 * c + 1) x (2 * c + 1) = x := by
  unfold uz
  refine ⟨fun k hk => ?_, ?_, ?_⟩
  · rw [if_neg (by omega), if_neg (by omega)]
  · rw [if_neg (by omega), if_pos rfl]
  · rw [if_pos rfl]
theorem PD_s {M N : Mem} {f g : Nat → Int} {c : Nat} {w x v d : Int} (h : PD M f c) (hg : (∀ k, k < 2 * c → f k = g k) ∧ g (2 * c) = w ∧ g (2 * c + 1) = x) (hv : (((1 ≤ w ∧ w ≤ 999) ∧ (0 ≤ x ∧ x ≤ 100)) ∧ v = w ∧ d = 0) ∨ (¬ ((1 ≤ w ∧ w ≤ 999) ∧ (0 ≤ x ∧ x ≤ 100)) ∧ v = 0 ∧ d = 1)) (t9 : N 105 9 ≤ M 105 9 + 1) (t16 : N 105 16 = M 105 16 + d) (tS : SplitOf (fadd (gtl f c) x v) (N 105 9) (N 111) (N 112)) : PD N g (c + 1) := by
  obtain ⟨h1, h2, h3, h4⟩ := h
  obtain ⟨g1, g2, g3⟩ := hg
  have hb := tbad_s g1 g2 g3
  have hs := gtl_s g1 g2 g3
  rcases hv with ⟨q, q1, q2⟩ | ⟨q, q1, q2⟩
  · rw [if_pos q] at hs
    refine ⟨by omega, by omega, ?_, ?_⟩
    · rw [hb, t16, q2, Int.add_zero, h3]
      exact ⟨fun a b => b.elim a (fun e => e q), fun a b => a (Or.inl b)⟩
    · rw [← hs, ← q1]
      exact tS
  · rw [if_neg q] at hs
    refine ⟨by omega, by omega, ?_, ?_⟩
    · rw [hb]
      constructor
      · intro a
        omega
      · intro a
        exact absurd (Or.inr q) a
    · rw [← hs, ← q1]
      exact tS
theorem PD_0 {M : Mem} {f : Nat → Int} (h9 : M 105 9 = 0) (h16 : M 105 16 = 0) : PD M f 0 := ⟨by rw [h9]; decide, by rw [h16]; decide, ⟨fun _ => tbad_0 f, fun _ => h16⟩, by rw [h9]; exact SplitOf_0⟩
/-- behind the doing of what was read -/
theorem PR_0 {C : Nat → Int} {k j : Nat} {f : Nat → Int} (hk : k < 6) : PR C (6 - k) j f k = if (num C j).1 < 0 then bad (num C j).2 else if C (num C j).2 = 64 then (if (num C ((num C j).2 + 1)).1 < 0 then bad (num C ((num C j).2 + 1)).2 else if 5 - k ≠ 0 ∧ C (num C ((num C j).2 + 1)).2 = 44 then PR C (5 - k) ((num C ((num C j).2 + 1)).2 + 1) (pf C j f k) (k + 1) else (true, (num C ((num C j).2 + 1)).2, 115, pf C j f k, k + 1)) else bad (num C j).2 := PR_u hk
theorem num_m {C : Nat → Int} {n i : Nat} (_hn : ∀ j, n ≤ j → C j = 0) : -1 ≤ (num C i).1 := by
  by_cases h : dg C i
  · rw [num_yes h]
    have hd := h
    unfold dg at hd
    unfold nst
    by_cases q : (0 < C i - 48 ∧ C i - 48 < 100) ∧ dg C (i + 1)
    · rw [if_pos q]
      have hd := q.2
      unfold dg at hd
      by_cases q2 : 10 * (C i - 48) + (C (i + 1) - 48) < 100 ∧ dg C (i + 1 + 1)
      · rw [if_pos q2]
        have hd2 := q2.2
        unfold dg at hd2
        dsimp only
        omega
      · rw [if_neg q2]
        dsimp only
        omega
    · rw [if_neg q]
      dsimp only
      omega
  · rw [num_no h]
    show (-1 : Int) ≤ -1
    decide
theorem FD_114 {M1 : Mem} {r : TR} (h15 : M1 105 15 = 114) (hl : r.2.2.1 = 114) (h : HF M1 r.2.2.2.1) : FD M1 r := ⟨by rw [h15, hl], fun _ => h, fun q => by omega, fun q => by omega⟩
theorem FD_1 {M1 : Mem} {r : TR} (h15 : M1 105 15 = r.2.2.1) (hl : r.2.2.1 = 45 ∨ r.2.2.1 = 112) (h : M1 105 16 = r.2.2.2.1 0) : FD M1 r := ⟨h15, fun q => by omega, fun _ => h, fun q => by omega⟩
theorem FD_98 {M1 : Mem} {r : TR} (h15 : M1 105 15 = r.2.2.1) (hl : r.2.2.1 = 98) : FD M1 r := ⟨h15, fun q => by omega, fun q => by omega, fun q => by omega⟩
theorem FD_115 {M1 : Mem} {r : TR} (h15 : M1 105 15 = 115) (hl : r.2.2.1 = 115) (h : PD M1 r.2.2.2.1 r.2.2.2.2) : FD M1 r := ⟨by rw [h15, hl], fun q => by omega, fun q => by omega, fun _ => h⟩
def RS0 (M : Mem) (C : Nat → Int) (n : Nat) : Prop := rC M = C ∧ RP M ∧ M 105 6 = (n : Int)
theorem RS_k0 {M N : Mem} {C : Nat → Int} {n j : Nat} (h : RS0 M C n) (k : KQ M N) (e : N 105 14 = (j : Int)) : RS N C n j := by
  have e1 : N 110 = M 110 := k.1 110 (by decide)
  have e2 := k.2.2
  refine ⟨?_, ?_, by rw [e2]; exact h.2.2, e⟩
  · unfold rC
    rw [e1, e2]
    exact h.1
  · unfold RP
    rw [e1, e2]
    exact h.2.1
theorem RS0_n {M : Mem} {C : Nat → Int} {n : Nat} (h : RS0 M C n) : (∀ j, n ≤ j → C j = 0) ∧ n ≤ 80 := by
  have h1 := h.2.1.1
  have h2 := h.2.2
  refine ⟨fun j hj => ?_, by omega⟩
  rw [← h.1]
  exact rC_n h.2.1 j (by omega)
theorem FT_u {C : Nat → Int} {n k j : Nat} (hk : k < 80) : FT C n (80 - k) j = if (RO C j).1 = true then (if n ≤ (RO C j).2.1 then -6 else if C (RO C j).2.1 = 59 then FT C n (79 - k) ((RO C j).2.1 + 1) else ((RO C j).2.1 : Int)) else ((RO C j).2.1 : Int) := by
  rw [show 80 - k = (79 - k) + 1 by omega]
  rfl
/-- the fields that an order is done by -/
def FE (M : Mem) (r : TR) : Prop := M 105 15 = r.2.2.1 ∧ (r.2.2.1 = 114 → HF M r.2.2.2.1) ∧ (r.2.2.1 = 45 ∨ r.2.2.1 = 112 → M 105 16 = r.2.2.2.1 0)
theorem FE_of {M N : Mem} {r : TR} (h : FD M r) (e : N 105 = M 105) : FE N r := by
  unfold FE HF
  rw [e]
  exact ⟨h.1, h.2.1, h.2.2.1⟩
/-- why a split is not taken -/
def WNS (M M1 : Mem) (f : Nat → Int) (c : Nat) (z : Int) : Prop := eqx M M1 [111] ∧ ((tbad f c ∧ z = -2) ∨ (¬ tbad f c ∧ ¬ okF (red (tld f c)) ∧ z = -4) ∨ (¬ tbad f c ∧ okF (red (tld f c)) ∧ SplitOf (red (tld f c)) (M1 105 9) (M1 111) (M1 112) ∧ ((sm (fun j => red (tld f c) j * ((j : Int) - M 106 0)) 101 = 0 ∧ z = 0) ∨ (sm (fun j => red (tld f c) j * ((j : Int) - M 106 0)) 101 ≠ 0 ∧ z = -5))))
theorem PD_pos {M : Mem} {f : Nat → Int} {c : Nat} (h : PD M f c) (hc : 0 < c) (hb : ¬ tbad f c) : 1 ≤ M 105 9 := by
  obtain ⟨j0, q1, q2⟩ := tld_pos hb hc
  have e := h.2.2.2.1
  rw [gtl_t hb] at e
  have := cnt_lt (F := tld f c) (a := j0) (b := 101) q1 q2
  have := (cnt_b (tld f c) j0).1
  omega
/-- why an order is not done -/
def WND (M M1 : Mem) (r : TR) (z : Int) : Prop := eqx M M1 [111] ∧ ((z ≠ 0 ∧ (-6 ≤ z ∧ z ≤ 6) ∧ ∃ y : Int, y < 0 ∧ opO r (aR M) y (aR M1)) ∨ (z = 0 ∧ RDY M1 r))
theorem WND_of {M M1 : Mem} {r : TR} {z : Int} (hl : r.2.2.1 = 115) (hc : r.2.2.2.2 ≤ 6) (hP : PD M r.2.2.2.1 r.2.2.2.2) (h : WNS M M1 r.2.2.2.1 r.2.2.2.2 z) : WND M M1 r z := by
  obtain ⟨h1, h2⟩ := h
  have e106 : M1 106 = M 106 := h1 106 (by decide)
  have eA : aR M1 = aR M := aR_eq e106
  have hm := hP.1
  refine ⟨h1, ?_⟩
  rcases h2 with ⟨q1, q2⟩ | ⟨q1, q2, q3⟩ | ⟨q1, q2, q3, ⟨q4, q5⟩ | ⟨q4, q5⟩⟩
  · exact Or.inl ⟨by omega, by omega, -2, by decide, opO_115 hl (by rw [eA]; exact ⟨fun _ => ⟨rfl, eqA_rf _⟩, fun w => absurd q1 w⟩)⟩
  · exact Or.inl ⟨by omega, by omega, -4, by decide, opO_115 hl (by rw [eA]; exact ⟨fun w => absurd w q1, fun _ => ⟨fun w => absurd w.1 q2, fun _ => ⟨fun _ => ⟨rfl, eqA_rf _⟩, fun w => absurd w q2⟩⟩⟩)⟩
  · refine Or.inr ⟨q5, fun q => by omega, fun q => by omega, fun q => by omega, fun _ => ⟨⟨q1, q2, ?_⟩, q3, ?_⟩⟩
    · rw [e106]
      exact q4
    · rw [h1 105 (by decide)]
      omega
  · exact Or.inl ⟨by omega, by omega, -5, by decide, opO_115 hl (by rw [eA]; exact ⟨fun w => absurd w q1, fun _ => ⟨fun _ => ⟨rfl, eqA_rf _⟩, fun w => absurd ⟨q2, q4⟩ w⟩⟩)⟩
/-- an order is done -/
def DON (M M1 : Mem) (r : TR) : Prop := (∃ y : Int, 0 ≤ y ∧ opO r (aR M) y (aR M1)) ∧ eqx M M1 [105, 106, 111, 112] ∧ M1 105 2 = M 105 2 ∧ M1 105 6 = M 105 6 ∧ M1 105 14 = M 105 14
