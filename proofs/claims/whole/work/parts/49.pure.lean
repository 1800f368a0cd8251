/-! ===== the characters in a number ===== -/
def uL (n : Nat) : Int64 := (UInt64.ofNat n).toInt64
theorem uL_u (n : Nat) : (uL n).toUInt64 = UInt64.ofNat n := by
  unfold uL
  exact UInt64.toUInt64_toInt64 _
theorem uL_of (x : Int64) : x = uL x.toUInt64.toNat := by
  unfold uL
  rw [UInt64.ofNat_toNat]
  exact (Int64.toInt64_toUInt64 x).symm
theorem uL_eq {x y : Int64} (h : x.toUInt64.toNat = y.toUInt64.toNat) : x = y := by
  rw [uL_of x, uL_of y, h]
theorem uL_n {n : Nat} (h : n < 18446744073709551616) : (uL n).toUInt64.toNat = n := by
  rw [uL_u, UInt64.toNat_ofNat']
  omega
theorem uL_and {n : Nat} : uL n &&& 255 = uL (n % 256) := by
  apply uL_eq
  rw [Int64.toUInt64_and, uL_u, uL_u, UInt64.toNat_and]
  have e : (Int64.toUInt64 255).toNat = 2 ^ 8 - 1 := by decide
  rw [e, Nat.and_two_pow_sub_one_eq_mod]
  simp only [UInt64.toNat_ofNat']
  omega
theorem uL_z {n : Nat} : uL n = zL (n : Int) := rfl
theorem uL_i {n : Nat} (_h : n < 256) : (uL n).toInt32 = zI (n : Int) := by
  unfold uL zI
  apply Int32.toBitVec_inj.mp
  apply BitVec.eq_of_toNat_eq
  simp
theorem uL_cmp {n : Nat} (h : n < 9223372036854775808) : lg_cmp (uL n) 0 = zI (if 0 < n then 1 else 0) := by
  rw [uL_z, show (0 : Int64) = zL 0 from rfl, zL_cmp (by omega) (by omega)]
  by_cases q : 0 < n
  · rw [if_pos q, if_pos (by omega)]
  · rw [if_neg q, if_neg (by omega), if_pos (by omega)]
theorem uL_sh {n : Nat} {y : Int32} {k : Nat} (hn : n < 18446744073709551616) (hk : y.toInt64.toUInt64 &&& Int64.toUInt64 63 = UInt64.ofNat k) (hk2 : k < 64) : ((uL n).toUInt64 >>> (y.toInt64.toUInt64 &&& Int64.toUInt64 63)).toInt64 = uL (n / 2 ^ k) := by
  apply uL_eq
  rw [hk, uL_u, UInt64.toUInt64_toInt64, UInt64.toNat_shiftRight, uL_n (Nat.lt_of_le_of_lt (Nat.div_le_self _ _) hn), UInt64.toNat_ofNat', UInt64.toNat_ofNat', Nat.shiftRight_eq_div_pow]
  congr 1
  · omega
  · congr 1
    omega
theorem uL_sh8 {n : Nat} (hn : n < 18446744073709551616) : ((uL n).toUInt64 >>> ((zI 8).toInt64.toUInt64 &&& Int64.toUInt64 63)).toInt64 = uL (n / 256) := uL_sh hn (k := 8) (by decide) (by decide)
theorem sh_k {k : Nat} (hk : k < 8) : (zI (8 * (k : Int))).toInt64.toUInt64 &&& Int64.toUInt64 63 = UInt64.ofNat (8 * k) := by
  rcases (show k = 0 ∨ k = 1 ∨ k = 2 ∨ k = 3 ∨ k = 4 ∨ k = 5 ∨ k = 6 ∨ k = 7 by omega) with h | h | h | h | h | h | h | h <;> subst h <;> decide
theorem uL_shk {n k : Nat} {y : Int} (hn : n < 18446744073709551616) (hk : k < 8) (hy : y = (k : Int)) : ((uL n).toUInt64 >>> ((zI (8 * y)).toInt64.toUInt64 &&& Int64.toUInt64 63)).toInt64 = uL (n / 256 ^ k) := by
  rw [hy, uL_sh hn (sh_k hk) (by omega), Nat.pow_mul]
theorem b256 : (∀ n : Fin 256, ((zI ((n : Nat) : Int)).toUInt32 % 65536).toInt32 = zI ((n : Nat) : Int)) ∧ ∀ n : Fin 256, vp_nar .char (zI ((n : Nat) : Int)) = zI ((n : Nat) : Int) := by decide +kernel
theorem i2c_n {n : Nat} (h : n < 256) : ((zI (n : Int)).toUInt32 % 65536).toInt32 = zI (n : Int) := b256.1 ⟨n, h⟩
theorem nar_n {n : Nat} (h : n < 256) : vp_nar .char (zI (n : Int)) = zI (n : Int) := b256.2 ⟨n, h⟩
/-- how many characters there are, at most f; the q-th from the right -/
def sz : Nat → Nat → Nat
  | 0, _ => 0
  | f + 1, u => if u % 256 = 0 then 0 else 1 + sz f (u / 256)
def bt (u q : Nat) : Nat := u / 256 ^ q % 256
theorem bt_lt (u q : Nat) : bt u q < 256 := Nat.mod_lt _ (by decide)
theorem sz_0 {f w : Nat} (h : f = 0 ∨ w % 256 = 0) : sz f w = 0 := by
  cases f with
  | zero => rfl
  | succ f =>
    unfold sz
    rw [if_pos (by omega)]
theorem sz_s {k w : Nat} (hk : k < 8) (h : w % 256 ≠ 0) : sz (8 - k) w = 1 + sz (8 - (k + 1)) (w / 256) := by
  rw [show 8 - k = (8 - (k + 1)) + 1 by omega]
  show (if w % 256 = 0 then 0 else 1 + sz (8 - (k + 1)) (w / 256)) = _
  rw [if_neg h]
theorem sz_le (f : Nat) : ∀ w, sz f w ≤ f := by
  induction f with
  | zero => intro w; exact Nat.le_refl _
  | succ f ih =>
    intro w
    unfold sz
    split
    · omega
    · have := ih (w / 256)
      omega
theorem pw_s {u k w : Nat} (h : w = u / 256 ^ k) : w / 256 = u / 256 ^ (k + 1) := by
  rw [h, Nat.div_div_eq_div_mul, Nat.pow_succ]
abbrev okc (u q : Nat) : Prop := 33 ≤ bt u q ∧ bt u q ≤ 126
def pBad (u : Nat) : Prop := sz 8 u = 0 ∨ (∃ q, q < sz 8 u ∧ ¬ okc u q) ∨ u / 256 ^ (sz 8 u) ≠ 0
theorem pGood {u k w : Nat} (h : sz 8 u = k) (h0 : k ≠ 0) (hw : w = u / 256 ^ k) (hz : w = 0) (hc : ∀ q, q < k → okc u q) : ¬ pBad u := by
  subst h
  rintro (q | ⟨q, q1, q2⟩ | q)
  · exact h0 q
  · exact q2 (hc q q1)
  · exact q (hw.symm.trans hz)
/-- what a put leaves of the length ln and the characters C0 -/
def putOf (u : Nat) (ln : Int) (C0 : Nat → Int) (z ln' : Int) (C1 : Nat → Int) : Prop := (pBad u → z = -2 ∧ ln' = ln ∧ C1 = C0) ∧ (¬ pBad u → (80 < ln + (sz 8 u : Int) → z = -4 ∧ ln' = ln ∧ C1 = C0) ∧ (¬ 80 < ln + (sz 8 u : Int) → z = ln + (sz 8 u : Int) ∧ ln' = z ∧ ∀ j : Nat, C1 j = if ln ≤ (j : Int) ∧ (j : Int) < ln + (sz 8 u : Int) then ((bt u (ln.toNat + sz 8 u - 1 - j) : Nat) : Int) else C0 j))
theorem det_put {u : Nat} {ln z z' ln1 ln1' : Int} {C C' C1 C1' : Nat → Int} (hl : 0 ≤ ln ∧ ln ≤ 80) (hC : ∀ j : Nat, (j : Int) < ln → 33 ≤ C j ∧ C j ≤ 126) (e : ∀ j : Nat, (j : Int) < ln → C j = C' j) (h1 : putOf u ln C z ln1 C1) (h2 : putOf u ln C' z' ln1' C1') : z = z' ∧ ln1 = ln1' ∧ (0 ≤ ln1 ∧ ln1 ≤ 80) ∧ (∀ j : Nat, (j : Int) < ln1 → 33 ≤ C1 j ∧ C1 j ≤ 126) ∧ ∀ j : Nat, (j : Int) < ln1 → C1 j = C1' j := by
  by_cases q : pBad u
  · obtain ⟨a1, a2, a3⟩ := h1.1 q
    obtain ⟨b1, b2, b3⟩ := h2.1 q
    rw [a2, b2, a3, b3]
    exact ⟨by omega, rfl, hl, hC, e⟩
  · by_cases w : 80 < ln + (sz 8 u : Int)
    · obtain ⟨a1, a2, a3⟩ := (h1.2 q).1 w
      obtain ⟨b1, b2, b3⟩ := (h2.2 q).1 w
      rw [a2, b2, a3, b3]
      exact ⟨by omega, rfl, hl, hC, e⟩
    · obtain ⟨a1, a2, a3⟩ := (h1.2 q).2 w
      obtain ⟨b1, b2, b3⟩ := (h2.2 q).2 w
      refine ⟨by omega, by omega, by omega, fun j hj => ?_, fun j hj => ?_⟩
      · rw [a3 j]
        by_cases g : ln ≤ (j : Int) ∧ (j : Int) < ln + (sz 8 u : Int)
        · rw [if_pos g]
          have hok : okc u (ln.toNat + sz 8 u - 1 - j) := Classical.byContradiction fun x => q (Or.inr (Or.inl ⟨_, by omega, x⟩))
          omega
        · rw [if_neg g]
          exact hC j (by omega)
      · rw [a3 j, b3 j]
        by_cases g : ln ≤ (j : Int) ∧ (j : Int) < ln + (sz 8 u : Int)
        · rw [if_pos g, if_pos g]
        · rw [if_neg g, if_neg g]
          exact e j (by omega)
