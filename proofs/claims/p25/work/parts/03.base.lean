/-! ===== the layer over the machine: one heap of cells by number, each cell's slots whole numbers ===== -/
def zI (z : Int) : Int32 := Int32.ofInt z
theorem zI_add (a b : Int) : zI a + zI b = zI (a + b) := (Int32.ofInt_add a b).symm
theorem zI_sub (a b : Int) : zI a - zI b = zI (a - b) := (Int32.ofInt_sub a b).symm
theorem zI_mul (a b : Int) : zI a * zI b = zI (a * b) := (Int32.ofInt_mul a b).symm
theorem zI_neg (a : Int) : -zI a = zI (-a) := (Int32.ofInt_neg a).symm
theorem zI_T {z : Int} (h : -2147483648 ≤ z ∧ z ≤ 2147483647) : (zI z).toInt = z := Int32.toInt_ofInt_of_le (by omega) (by omega)
theorem zI_of (x : Int32) : zI x.toInt = x := Int32.ofInt_toInt x
theorem zI_inT (x : Int32) : -2147483648 ≤ x.toInt ∧ x.toInt ≤ 2147483647 := by
  have h1 := x.le_toInt
  have h2 := x.toInt_lt
  omega
theorem zI_le {a b : Int} (ha : -2147483648 ≤ a ∧ a ≤ 2147483647) (hb : -2147483648 ≤ b ∧ b ≤ 2147483647) : zI a ≤ zI b ↔ a ≤ b := by
  rw [Int32.le_iff_toInt_le, zI_T ha, zI_T hb]
theorem zI_lt {a b : Int} (ha : -2147483648 ≤ a ∧ a ≤ 2147483647) (hb : -2147483648 ≤ b ∧ b ≤ 2147483647) : zI a < zI b ↔ a < b := by
  rw [Int32.lt_iff_toInt_lt, zI_T ha, zI_T hb]
theorem zI_eq {a b : Int} (ha : -2147483648 ≤ a ∧ a ≤ 2147483647) (hb : -2147483648 ≤ b ∧ b ≤ 2147483647) : zI a = zI b ↔ a = b := by
  rw [← Int32.toInt_inj, zI_T ha, zI_T hb]
theorem zI_0 : (0 : Int32) = zI 0 := rfl
theorem zI_cl {z : Int} (h : 0 ≤ z ∧ z ≤ 2147483647) : (zI z).toNatClampNeg = z.toNat := Int32.toNatClampNeg_ofInt_of_le (by omega) (by omega)
theorem zI_in {z : Int} {n : Nat} (hz : 0 ≤ z ∧ z < (n : Int)) (hn : n < 2147483648) : vp_in (zI z) n := by
  refine vp_in_iff.mpr ?_
  rw [zI_T (by omega)]
  omega
theorem zI_div {a b : Int} (ha : -2147483648 < a ∧ a ≤ 2147483647) (hb : -2147483648 ≤ b ∧ b ≤ 2147483647) : zI a / zI b = zI (a.tdiv b) := by
  refine Int32.toInt_inj.mp ?_
  have hne : zI a ≠ Int32.minValue := by
    intro h
    have h2 : (zI a).toInt = Int32.minValue.toInt := by rw [h]
    rw [zI_T (by omega)] at h2
    have h3 : Int32.minValue.toInt = -2147483648 := by decide
    omega
  rw [Int32.toInt_div_of_ne_left _ _ hne, zI_T (by omega), zI_T hb]
  have hr : -2147483648 ≤ a.tdiv b ∧ a.tdiv b ≤ 2147483647 := by
    have h1 : (a.tdiv b).natAbs ≤ a.natAbs := by
      rw [Int.natAbs_tdiv]
      exact Nat.div_le_self _ _
    omega
  rw [zI_T hr]
theorem zI_rem {a b : Int} (ha : -2147483648 < a ∧ a ≤ 2147483647) (hb : -2147483648 ≤ b ∧ b ≤ 2147483647) : zI a - zI a / zI b * zI b = zI (a.tmod b) := by
  rw [zI_div ha hb, zI_mul, zI_sub]
  congr 1
  have h := Int.tmod_add_mul_tdiv a b
  rw [Int.mul_comm] at h
  omega
theorem zI_ne0 {b : Int} (hb : -2147483648 ≤ b ∧ b ≤ 2147483647) (h : b ≠ 0) : ¬ zI b = 0 := fun q => h ((zI_eq hb (by omega)).mp (by rw [q]; rfl))
/-- cells: an object (its class, its fields: a reference to a cell, or a number), or an array (its kind, its length, numbers or references) -/
abbrev Shp : Type := (Nat × List (Option Nat)) ⊕ (Nat × Nat × Option (Nat → Nat))
def fldV (ad : Nat → Nat) (f : Nat → Int) (k : Nat) (o : Option Nat) : Value := match o with
  | none => .int (zI (f k))
  | some j => .ref (ad j)
def fldL (ad : Nat → Nat) (f : Nat → Int) : Nat → List (Option Nat) → List Value
  | _, [] => []
  | k, o :: r => fldV ad f k o :: fldL ad f (k + 1) r
theorem fldL_get (ad : Nat → Nat) (f : Nat → Int) : ∀ (r : List (Option Nat)) (b k : Nat) (o : Option Nat), r[k]? = some o → (fldL ad f b r)[k]? = some (fldV ad f (b + k) o)
  | [], b, k, o, h => by simp at h
  | x :: r, b, 0, o, h => by simp at h; simp [fldL, h]
  | x :: r, b, k + 1, o, h => by
    simp at h
    have h2 := fldL_get ad f r (b + 1) k o h
    simp only [fldL, List.getElem?_cons_succ]
    rw [h2, show b + 1 + k = b + (k + 1) by omega]
def cellV (ad : Nat → Nat) (cA : Nat → ClassId) (S : Shp) (f : Nat → Int) : va_E := match S with
  | .inl (c, fl) => .inr (c, fldL ad f 0 fl)
  | .inr (t, n, none) => .inl (cA t, n, .inl (fun k => zI (f k)))
  | .inr (t, n, some g) => .inl (cA t, n, .inr (.inr (.inr (.inr (fun k => some (ad (g k)))))))
/-- a State and what it holds -/
def shG (j k : Nat) : Shp := match k with
  | 0 => .inl (7, [some (9 * j + 1), some (9 * j + 6), none])
  | 1 => .inl (5, [some (9 * j + 2), some (9 * j + 3), some (9 * j + 4), some (9 * j + 5), none])
  | 2 => .inr (0, 5, none)
  | 3 => .inr (0, 5, none)
  | 4 => .inr (0, 5, none)
  | 5 => .inr (0, 5, none)
  | 6 => .inl (6, [some (9 * j + 7), some (9 * j + 8), none])
  | 7 => .inr (0, 6, none)
  | _ => .inr (0, 6, none)
/-- the other cells: SplitBeliefs at 90, the law's arrays 105 to 112 -/
def shO (k : Nat) : Shp := match k with
  | 0 => .inl (8, [some 0, some 91, some 93, some 94, some 95, some 98, some 100, some 103, some 104])
  | 1 => .inl (2, [some 92, none, none])
  | 2 => .inr (3, 7, some (fun k => 9 * (k + 3)))
  | 3 => .inr (3, 2, some (fun k => 9 * (k + 1)))
  | 4 => .inr (2, 2, none)
  | 5 => .inl (4, [some 96, some 97, none, none, none, none])
  | 6 => .inr (1, 80, none)
  | 7 => .inr (0, 12, none)
  | 8 => .inl (3, [some 99])
  | 9 => .inr (0, 101, none)
  | 10 => .inl (0, [some 101, some 102, none, none, none, none, none])
  | 11 => .inr (0, 101, none)
  | 12 => .inr (0, 101, none)
  | 13 => .inl (1, [none, none])
  | 14 => .inl (1, [none, none])
  | 15 => .inr (0, 3, none)
  | 16 => .inr (0, 20, none)
  | 17 => .inr (0, 8, none)
  | 18 => .inr (0, 8, none)
  | 19 => .inr (0, 2, none)
  | 20 => .inr (0, 8, none)
  | 21 => .inr (0, 8, none)
  | _ => .inr (0, 17, none)
def sh (i : Nat) : Shp := if i < 90 then shG (i / 9) (i % 9) else shO (i - 90)
theorem sh_g {j k : Nat} (hj : j < 10) (hk : k < 9) : sh (9 * j + k) = shG j k := by
  unfold sh
  rw [if_pos (by omega), show (9 * j + k) / 9 = j by omega, show (9 * j + k) % 9 = k by omega]
abbrev Mem : Type := Nat → Nat → Int
/-- the cell i holds f now -/
def stc (M : Mem) (i : Nat) (f : Nat → Int) : Mem := fun a => if a = i then f else M a
def uz (f : Nat → Int) (k : Nat) (x : Int) : Nat → Int := fun j => if j = k then x else f j
/-- the slot k of the cell i is x now -/
def up2 (M : Mem) (i k : Nat) (x : Int) : Mem := stc M i (uz (M i) k x)
theorem stc_s (M : Mem) (i : Nat) (f : Nat → Int) : stc M i f i = f := if_pos rfl
theorem stc_n (M : Mem) {i a : Nat} (f : Nat → Int) (h : a ≠ i) : stc M i f a = M a := if_neg h
theorem up2_s (M : Mem) (i k : Nat) (x : Int) : up2 M i k x i k = x := by rw [up2, stc_s]; exact if_pos rfl
theorem up2_n (M : Mem) {i a : Nat} (k : Nat) (x : Int) (h : a ≠ i) : up2 M i k x a = M a := stc_n M _ h
theorem up2_m (M : Mem) (i : Nat) {k b : Nat} (x : Int) (h : b ≠ k) : up2 M i k x i b = M i b := by rw [up2, stc_s]; exact if_neg h
theorem uz_s (f : Nat → Int) (k : Nat) (x : Int) : uz f k x k = x := if_pos rfl
theorem uz_n (f : Nat → Int) {k b : Nat} (x : Int) (h : b ≠ k) : uz f k x b = f b := if_neg h
def wld (ad : Nat → Nat) (cA : Nat → ClassId) (M : Mem) : va_W := (List.range 113).map fun i => (ad i, cellV ad cA (sh i) (M i))
theorem wld_at {ad : Nat → Nat} {cA : Nat → ClassId} {M : Mem} {i : Nat} (h : i < 113) : (wld ad cA M)[i]? = some (ad i, cellV ad cA (sh i) (M i)) := by
  simp [wld, h]
theorem wld_inv {ad : Nat → Nat} {cA : Nat → ClassId} {M : Mem} {i : Nat} {q : Nat × va_E} (h : (wld ad cA M)[i]? = some q) : i < 113 ∧ q = (ad i, cellV ad cA (sh i) (M i)) := by
  rcases Nat.lt_or_ge i 113 with h1 | h1
  · rw [wld_at h1] at h
    exact ⟨h1, (Option.some.inj h).symm⟩
  · have : (wld ad cA M).length ≤ i := by simp [wld]; omega
    rw [List.getElem?_eq_none this] at h
    cases h
theorem wld_set {ad : Nat → Nat} {cA : Nat → ClassId} {M : Mem} {i : Nat} {f : Nat → Int} {E : va_E} (h : cellV ad cA (sh i) f = E) : (wld ad cA M).set i (ad i, E) = wld ad cA (stc M i f) := by
  subst h
  refine List.ext_getElem? fun j => ?_
  rw [List.getElem?_set]
  by_cases hj : i = j
  · subst hj
    rw [if_pos rfl]
    rcases Nat.lt_or_ge i 113 with h1 | h1
    · rw [if_pos (by simp [wld]; omega), wld_at h1, stc_s]
    · rw [if_neg (by simp [wld]; omega), List.getElem?_eq_none (by simp [wld]; omega)]
  · rw [if_neg hj]
    rcases Nat.lt_or_ge j 113 with h1 | h1
    · rw [wld_at h1, wld_at h1, stc_n _ _ (fun q => hj q.symm)]
    · rw [List.getElem?_eq_none (by simp [wld]; omega), List.getElem?_eq_none (by simp [wld]; omega)]
theorem fldL_set (ad : Nat → Nat) (f : Nat → Int) (x : Int) : ∀ (r : List (Option Nat)) (b k : Nat), r[k]? = some none → (fldL ad f b r).set k (.int (zI x)) = fldL ad (uz f (b + k) x) b r
  | [], b, k, h => by simp at h
  | o :: r, b, 0, h => by
    simp at h
    subst h
    have hr : ∀ (r : List (Option Nat)) (c : Nat), b < c → fldL ad f c r = fldL ad (uz f (b + 0) x) c r := by
      intro r
      induction r with
      | nil => intro c _; rfl
      | cons o r ih =>
        intro c hc
        simp only [fldL]
        rw [ih (c + 1) (by omega)]
        cases o with
        | none => simp only [fldV]; rw [uz_n f x (by omega)]
        | some j => rfl
    simp only [fldL, List.set_cons_zero]
    rw [hr r (b + 1) (by omega)]
    simp only [fldV]
    rw [show b + 0 = b from rfl, uz_s]
  | o :: r, b, k + 1, h => by
    simp at h
    simp only [fldL, List.set_cons_succ]
    rw [fldL_set ad f x r (b + 1) k h, show b + 1 + k = b + (k + 1) by omega]
    congr 1
    cases o with
    | none => simp only [fldV]; rw [uz_n f x (by omega)]
    | some j => rfl
abbrev tyL (cA : Nat → ClassId) : List (ClassId × FieldType) := [(cA 0, .int), (cA 1, .char), (cA 2, .boolean), (cA 3, .object "SplitBeliefs$State")]
/-- private methods that nest mates call -/
def vNs (U : State) : Prop := va_Nw (.methodLinkNest RX0 44 yX8_commonDivisor RX8) U ∧ va_Nw (.methodLinkNest RX1 16 yX8_commonDivisor RX8) U ∧ va_Nw (.methodLinkNest RX3 34 yX8_isPosterior RX8) U ∧ va_Nw (.methodLinkNest RX3 38 yX8_commonDivisor RX8) U
theorem vNs_warm {s U : State} (hW : s.WarmedH U.vm) (h : vNs s) : vNs U := ⟨h.1.warmM hW, h.2.1.warmM hW, h.2.2.1.warmM hW, h.2.2.2.warmM hW⟩
theorem vNs_same {s U : State} (hW : s.vm = U.vm) (h : vNs s) : vNs U := ⟨h.1.same rfl hW, h.2.1.same rfl hW, h.2.2.1.same rfl hW, h.2.2.2.same rfl hW⟩
def adok (ad : Nat → Nat) : Prop := ∀ i j, i < 113 → j < 113 → ad i = ad j → i = j
def Afr (ad : Nat → Nat) (sz : Nat) : Nat → Prop := fun q => (∃ i, i < 113 ∧ q = ad i) ∨ sz ≤ q
theorem wld_D {ad : Nat → Nat} {cA : Nat → ClassId} {A : Nat → Prop} (h : adok ad) (hA : ∀ i, i < 113 → A (ad i)) (M : Mem) : va_D A (wld ad cA M) := by
  refine ⟨fun i j p q hi hj he => ?_, fun k q hk => ?_⟩
  · obtain ⟨h1, rfl⟩ := wld_inv hi
    obtain ⟨h2, rfl⟩ := wld_inv hj
    exact h i j h1 h2 he
  · obtain ⟨h1, rfl⟩ := wld_inv hk
    exact hA k h1
/-- where a walk stands: the machine, the method's code, its words, the classes, the cells' addresses -/
def Cx (p : Program) (s : State) (m : MethodId) (args : Array Value) (c : Code) (cc : ByteArray) (own : String) (nL : Nat) (Ts : List Cond) (D : va_G) (ad : Nat → Nat) (cA : Nat → ClassId) (A : Nat → Prop) : Prop :=
  CallFix p m c cc nL s args Ts own ∧ va_K D vwCl (tyL cA) s ∧ vNs s ∧ adok ad ∧ (∀ i, i < 113 → A (ad i)) ∧ (∀ q, s.heap.size ≤ q → A q)
def VV (p : Program) (l : Launch) (e : Env) (R : Room) (s : State) (m : MethodId) (args : Array Value) (below : List Frame) (meth : Method) (c : Code) (nL : Nat) (D : va_G) (ad : Nat → Nat) (cA : Nat → ClassId) (A : Nat → Prop) (cells slots : Nat) (Q : State → Prop) (M : Mem) (pc : Nat) (lv : List (Nat × Value)) (st : List Value) : Prop :=
  ∀ (H : Heap) (locs : List Loc) (ls : Array Slot), va_P D vwCl (wld ad cA M) H → va_S A s.heap H locs → lv_has ls nL lv → W p l e R s m args below meth c H locs cells slots Q (F0 m pc ls st)
theorem sh_g0 {j : Nat} (hj : j < 10) : sh (9 * j) = .inl (7, [some (9 * j + 1), some (9 * j + 6), none]) := sh_g (k := 0) hj (by decide)
theorem sh_g1 {j : Nat} (hj : j < 10) : sh (9 * j + 1) = .inl (5, [some (9 * j + 2), some (9 * j + 3), some (9 * j + 4), some (9 * j + 5), none]) := sh_g hj (by decide)
theorem sh_g2 {j : Nat} (hj : j < 10) : sh (9 * j + 2) = .inr (0, 5, none) := sh_g hj (by decide)
theorem sh_g3 {j : Nat} (hj : j < 10) : sh (9 * j + 3) = .inr (0, 5, none) := sh_g hj (by decide)
theorem sh_g4 {j : Nat} (hj : j < 10) : sh (9 * j + 4) = .inr (0, 5, none) := sh_g hj (by decide)
theorem sh_g5 {j : Nat} (hj : j < 10) : sh (9 * j + 5) = .inr (0, 5, none) := sh_g hj (by decide)
theorem sh_g6 {j : Nat} (hj : j < 10) : sh (9 * j + 6) = .inl (6, [some (9 * j + 7), some (9 * j + 8), none]) := sh_g hj (by decide)
theorem sh_g7 {j : Nat} (hj : j < 10) : sh (9 * j + 7) = .inr (0, 6, none) := sh_g hj (by decide)
theorem sh_g8 {j : Nat} (hj : j < 10) : sh (9 * j + 8) = .inr (0, 6, none) := sh_g hj (by decide)
theorem sh_0 : sh 0 = .inl (7, [some 1, some 6, none]) := rfl
theorem sh_1 : sh 1 = .inl (5, [some 2, some 3, some 4, some 5, none]) := rfl
theorem sh_2 : sh 2 = .inr (0, 5, none) := rfl
theorem sh_3 : sh 3 = .inr (0, 5, none) := rfl
theorem sh_4 : sh 4 = .inr (0, 5, none) := rfl
theorem sh_5 : sh 5 = .inr (0, 5, none) := rfl
theorem sh_6 : sh 6 = .inl (6, [some 7, some 8, none]) := rfl
theorem sh_7 : sh 7 = .inr (0, 6, none) := rfl
theorem sh_8 : sh 8 = .inr (0, 6, none) := rfl
theorem sh_90 : sh 90 = .inl (8, [some 0, some 91, some 93, some 94, some 95, some 98, some 100, some 103, some 104]) := rfl
theorem sh_91 : sh 91 = .inl (2, [some 92, none, none]) := rfl
theorem sh_92 : sh 92 = .inr (3, 7, some (fun k => 9 * (k + 3))) := rfl
theorem sh_93 : sh 93 = .inr (3, 2, some (fun k => 9 * (k + 1))) := rfl
theorem sh_94 : sh 94 = .inr (2, 2, none) := rfl
theorem sh_95 : sh 95 = .inl (4, [some 96, some 97, none, none, none, none]) := rfl
theorem sh_96 : sh 96 = .inr (1, 80, none) := rfl
theorem sh_97 : sh 97 = .inr (0, 12, none) := rfl
theorem sh_98 : sh 98 = .inl (3, [some 99]) := rfl
theorem sh_99 : sh 99 = .inr (0, 101, none) := rfl
theorem sh_100 : sh 100 = .inl (0, [some 101, some 102, none, none, none, none, none]) := rfl
theorem sh_101 : sh 101 = .inr (0, 101, none) := rfl
theorem sh_102 : sh 102 = .inr (0, 101, none) := rfl
theorem sh_103 : sh 103 = .inl (1, [none, none]) := rfl
theorem sh_104 : sh 104 = .inl (1, [none, none]) := rfl
theorem sh_105 : sh 105 = .inr (0, 3, none) := rfl
theorem sh_106 : sh 106 = .inr (0, 20, none) := rfl
theorem sh_107 : sh 107 = .inr (0, 8, none) := rfl
theorem sh_108 : sh 108 = .inr (0, 8, none) := rfl
theorem sh_109 : sh 109 = .inr (0, 2, none) := rfl
theorem sh_110 : sh 110 = .inr (0, 8, none) := rfl
theorem sh_111 : sh 111 = .inr (0, 8, none) := rfl
theorem sh_112 : sh 112 = .inr (0, 17, none) := rfl
