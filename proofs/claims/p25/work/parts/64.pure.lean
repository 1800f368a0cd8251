/-! ===== the law's state and the class's, side by side ===== -/
abbrev E9 : List Nat := [100, 101, 102, 103, 104, 109]
def RLL (M : Mem) : Prop := eqA (vC M 0) (vL M) ∧ WF (vC M 0) ∧ HI M
theorem vC_E9 {M N : Mem} (e : eqx M N E9) : vC N 0 = vC M 0 := vC_eq (fun a _ h => e a (by simp; omega))
theorem vL_E9 {M N : Mem} (e : eqx M N E9) : vL N = vL M := by
  unfold vL
  rw [e 105 (by decide), e 106 (by decide), e 107 (by decide), e 108 (by decide)]
theorem RLL_q {M N : Mem} (h : RLL M) (e : eqx M N E9) : RLL N := by
  refine ⟨by rw [vC_E9 e, vL_E9 e]; exact h.1, by rw [vC_E9 e]; exact h.2.1, ?_⟩
  have q := h.2.2
  unfold HI at q ⊢
  rw [e 91 (by decide)]
  exact q
theorem RLL_wl {M : Mem} (h : RLL M) : WF (vL M) := WF_eq h.1 h.2.1
theorem RLL_W {M : Mem} (h : RLL M) : rWR M := (RLL_wl h).2.1
theorem W_E9 {M N : Mem} (h : rWR M) (e : eqx M N E9) : rWR N := by
  unfold rWR rL rG rP rB
  rw [e 105 (by decide), e 106 (by decide)]
  exact h
theorem rvl_E9 {M N : Mem} (e : eqx M N E9) : rvl N = rvl M := by
  funext y
  unfold rvl rL rG rP rB
  rw [e 105 (by decide), e 106 (by decide)]
theorem mk_E9 {M N : Mem} (e : eqx M N E9) (x : Int) : mk (rL N) (rG N) x (N 105 1).toNat = mk (rL M) (rG M) x (M 105 1).toNat := by
  unfold rL rG
  rw [e 105 (by decide), e 106 (by decide)]
theorem S_part {M N : Mem} {k w z v : Int} (h : RLL M) (e : eqx M N E9) (q : qPart k w (vC N 0) z) (g : qPart k w (vL M) v) : z = v := by
  rw [vC_E9 e] at q
  exact det_qPart h.1 h.2.1 q g
theorem S_part0 {M N : Mem} {k z : Int} (h : RLL M) (e : eqx M N E9) (hk : 0 ≤ k ∧ k < M 105 2) (q : qPart k 0 (vC N 0) z) : z = M 107 k.toNat :=
  S_part h e q ⟨fun w => absurd hk w, fun _ => ⟨fun _ => rfl, fun w => by omega, fun w => by omega, fun w => by omega, fun w => by omega⟩⟩
theorem S_part1 {M N : Mem} {k z : Int} (h : RLL M) (e : eqx M N E9) (hk : 0 ≤ k ∧ k < M 105 2) (q : qPart k 1 (vC N 0) z) : z = M 108 k.toNat :=
  S_part h e q ⟨fun w => absurd hk w, fun _ => ⟨fun w => by omega, fun _ => rfl, fun w => by omega, fun w => by omega, fun w => by omega⟩⟩
theorem S_part2 {M N : Mem} {k z : Int} (h : RLL M) (e : eqx M N E9) (hk : 0 ≤ k ∧ k < M 105 2) (q : qPart k 2 (vC N 0) z) : z = mk (rL M) (rG M) (M 108 k.toNat) (M 105 1).toNat :=
  S_part h e q ⟨fun w => absurd hk w, fun _ => ⟨fun w => by omega, fun w => by omega, fun _ => rfl, fun w => by omega, fun w => by omega⟩⟩
theorem S_part3 {M N : Mem} {k z : Int} (h : RLL M) (e : eqx M N E9) (hk : 0 ≤ k ∧ k < M 105 2) (q : qPart k 3 (vC N 0) z) : z = rvl M (M 108 k.toNat) + 1000 :=
  S_part h e q ⟨fun w => absurd hk w, fun _ => ⟨fun w => by omega, fun w => by omega, fun w => by omega, fun _ => rfl, fun w => by omega⟩⟩
theorem S_partN {M N : Mem} {k w z : Int} (h : RLL M) (e : eqx M N E9) (hk : ¬ (0 ≤ k ∧ k < M 105 2)) (q : qPart k w (vC N 0) z) : z = -1 :=
  S_part h e q ⟨fun _ => rfl, fun w => absurd w hk⟩
theorem S_rec {M N : Mem} {r w z v : Int} (h : RLL M) (e : eqx M N E9) (q : qRec r w (vC N 0) z) (g : qRec r w (vL M) v) : z = v := by
  rw [vC_E9 e] at q
  exact det_qRec h.1 q g
theorem S_rec0 {M N : Mem} {k z : Int} (h : RLL M) (e : eqx M N E9) (hk : 0 ≤ k ∧ k < M 105 1) (q : qRec k 0 (vC N 0) z) : z = M 106 (4 * k.toNat) :=
  S_rec h e q ⟨fun w => absurd hk w, fun _ => ⟨fun _ => rfl, fun w => by omega, fun w => by omega, fun w => by omega, fun w => by omega, fun w => by omega⟩⟩
theorem S_rec1 {M N : Mem} {k z : Int} (h : RLL M) (e : eqx M N E9) (hk : 0 ≤ k ∧ k < M 105 1) (q : qRec k 1 (vC N 0) z) : z = M 106 (4 * k.toNat + 1) :=
  S_rec h e q ⟨fun w => absurd hk w, fun _ => ⟨fun w => by omega, fun _ => rfl, fun w => by omega, fun w => by omega, fun w => by omega, fun w => by omega⟩⟩
theorem S_rec2 {M N : Mem} {k z : Int} (h : RLL M) (e : eqx M N E9) (hk : 0 ≤ k ∧ k < M 105 1) (q : qRec k 2 (vC N 0) z) : z = M 106 (4 * k.toNat + 2) :=
  S_rec h e q ⟨fun w => absurd hk w, fun _ => ⟨fun w => by omega, fun w => by omega, fun _ => rfl, fun w => by omega, fun w => by omega, fun w => by omega⟩⟩
theorem S_rec3 {M N : Mem} {k z : Int} (h : RLL M) (e : eqx M N E9) (hk : 0 ≤ k ∧ k < M 105 1) (q : qRec k 3 (vC N 0) z) : z = M 106 (4 * k.toNat + 3) + 100 :=
  S_rec h e q ⟨fun w => absurd hk w, fun _ => ⟨fun w => by omega, fun w => by omega, fun w => by omega, fun _ => rfl, fun w => by omega, fun w => by omega⟩⟩
theorem S_rec4 {M N : Mem} {k z f : Int} (h : RLL M) (e : eqx M N E9) (hk : 0 ≤ k ∧ k < M 105 1) (q : qRec k 4 (vC N 0) z) (h1 : 0 ≤ f ∧ f ≤ 100) (h2 : ac (rL M) (rG M) f k.toNat) (h3 : ∀ y : Int, 0 ≤ y → y < f → ¬ ac (rL M) (rG M) y k.toNat) : z = f :=
  S_rec h e q ⟨fun w => absurd hk w, fun _ => ⟨fun w => by omega, fun w => by omega, fun w => by omega, fun w => by omega, fun _ => ⟨h1, h2, h3⟩, fun w => by omega⟩⟩
theorem S_wor {M N : Mem} {r w z v : Int} (h : RLL M) (e : eqx M N E9) (q : qWor r w (vC N 0) z) (g : qWor r w (vL M) v) : z = v := by
  rw [vC_E9 e] at q
  exact det_qWor h.1 h.2.1 q g
theorem S_wor0 {M N : Mem} {k z : Int} (h : RLL M) (e : eqx M N E9) (hk : 0 ≤ k ∧ k < M 105 1) (q : qWor k 0 (vC N 0) z) : z = frA (woS (vL M) k.toNat) (mnT (vL M) * 100) :=
  S_wor h e q ⟨fun w => absurd hk w, fun _ => ⟨fun w => by omega, fun _ => rfl, fun w => by omega⟩⟩
theorem S_wor1 {M N : Mem} {k z : Int} (h : RLL M) (e : eqx M N E9) (hk : 0 ≤ k ∧ k < M 105 1) (q : qWor k 1 (vC N 0) z) : z = frB (woS (vL M) k.toNat) (mnT (vL M) * 100) :=
  S_wor h e q ⟨fun w => absurd hk w, fun _ => ⟨fun w => by omega, fun w => by omega, fun _ => rfl⟩⟩
theorem S_mean {M N : Mem} {w z v : Int} (h : RLL M) (e : eqx M N E9) (q : qMean w (vC N 0) z) (g : qMean w (vL M) v) : z = v := by
  rw [vC_E9 e] at q
  exact det_qMean h.1 h.2.1 q g
theorem S_mean0 {M N : Mem} {z : Int} (h : RLL M) (e : eqx M N E9) (q : qMean 0 (vC N 0) z) : z = frA (mnS (vL M)) (mnT (vL M)) + 10000000 :=
  S_mean h e q ⟨fun w => by omega, fun _ => rfl, fun w => by omega⟩
theorem S_mean1 {M N : Mem} {z : Int} (h : RLL M) (e : eqx M N E9) (q : qMean 1 (vC N 0) z) : z = frB (mnS (vL M)) (mnT (vL M)) :=
  S_mean h e q ⟨fun w => by omega, fun w => by omega, fun _ => rfl⟩
theorem S_cnt {M N : Mem} {w z v : Int} (h5 : w ≠ 5) (h6 : w ≠ 6) (h : RLL M) (e : eqx M N E9) (q : qCnt w (vC N 0) z) (g : qCnt w (vL M) v) : z = v := by
  rw [vC_E9 e] at q
  exact det_qCnt h5 h6 h.1 h.2.1 q g
theorem S_cnt0 {M N : Mem} {z : Int} (h : RLL M) (e : eqx M N E9) (q : qCnt 0 (vC N 0) z) : z = M 105 0 :=
  S_cnt (by decide) (by decide) h e q ⟨fun _ => rfl, fun w => by omega, fun w => by omega, fun w => by omega, fun w => by omega, fun w => by omega⟩
theorem S_cnt1 {M N : Mem} {z : Int} (h : RLL M) (e : eqx M N E9) (q : qCnt 1 (vC N 0) z) : z = M 105 1 :=
  S_cnt (by decide) (by decide) h e q ⟨fun w => by omega, fun _ => rfl, fun w => by omega, fun w => by omega, fun w => by omega, fun w => by omega⟩
theorem S_cnt2 {M N : Mem} {z : Int} (h : RLL M) (e : eqx M N E9) (q : qCnt 2 (vC N 0) z) : z = M 105 2 :=
  S_cnt (by decide) (by decide) h e q ⟨fun w => by omega, fun w => by omega, fun _ => rfl, fun w => by omega, fun w => by omega, fun w => by omega⟩
theorem S_cnt3 {M N : Mem} {z : Int} (h : RLL M) (e : eqx M N E9) (q : qCnt 3 (vC N 0) z) : z = mnT (vL M) :=
  S_cnt (by decide) (by decide) h e q ⟨fun w => by omega, fun w => by omega, fun w => by omega, fun _ => rfl, fun w => by omega, fun w => by omega⟩
theorem S_cnt4 {M N : Mem} {z lo hi v : Int} (h : RLL M) (e : eqx M N E9) (q : qCnt 4 (vC N 0) z) (hB : isB (rvl M) (M 105 0) lo hi) (hv : v = if frA (mnS (vL M)) (mnT (vL M)) = frA (sN (rvl M) (M 105 0) lo hi) (sD lo hi) ∧ frB (mnS (vL M)) (mnT (vL M)) = frB (sN (rvl M) (M 105 0) lo hi) (sD lo hi) then 1 else 0) : z = v :=
  S_cnt (by decide) (by decide) h e q ⟨fun w => by omega, fun w => by omega, fun w => by omega, fun w => by omega, fun _ => ⟨lo, hi, hB, hv⟩, fun w => by omega⟩
theorem S_val {M N : Mem} {x z : Int} (h : RLL M) (e : eqx M N E9) (hx : 0 ≤ x ∧ x ≤ 100) (q : qVal x (vC N 0) z) : z = rvl M x + 1000 := by
  rw [vC_E9 e] at q
  exact det_qVal h.1 h.2.1 q ⟨fun w => absurd hx w, fun _ => rfl⟩
theorem S_env0 {M N : Mem} {x z lo hi : Int} (h : RLL M) (e : eqx M N E9) (hx : 0 ≤ x ∧ x ≤ 100) (hB : isB (rvl M) x lo hi) (q : qEnv x 0 (vC N 0) z) : z = frA (sN (rvl M) x lo hi) (sD lo hi) + 10000000 := by
  rw [vC_E9 e] at q
  exact det_qEnv h.1 h.2.1 q ⟨fun w => absurd ⟨hx, Or.inl rfl⟩ w, fun _ => ⟨lo, hi, hB, fun _ => rfl, fun w => by omega⟩⟩
theorem S_env1 {M N : Mem} {x z lo hi : Int} (h : RLL M) (e : eqx M N E9) (hx : 0 ≤ x ∧ x ≤ 100) (hB : isB (rvl M) x lo hi) (q : qEnv x 1 (vC N 0) z) : z = frB (sN (rvl M) x lo hi) (sD lo hi) := by
  rw [vC_E9 e] at q
  exact det_qEnv h.1 h.2.1 q ⟨fun w => absurd ⟨hx, Or.inr rfl⟩ w, fun _ => ⟨lo, hi, hB, fun w => by omega, fun _ => rfl⟩⟩
theorem S_bst {M N : Mem} {x w z v : Int} (h : RLL M) (e : eqx M N E9) (q : qBst x w (vC N 0) z) (g : qBst x w (vL M) v) : z = v := by
  rw [vC_E9 e] at q
  exact det_qBst h.1 h.2.1 q g
theorem S_bst0 {M N : Mem} {x z lo hi : Int} (h : RLL M) (e : eqx M N E9) (hx : 0 ≤ x ∧ x ≤ 100) (hB : isB (rvl M) x lo hi) (q : qBst x 0 (vC N 0) z) : z = lo :=
  S_bst h e q ⟨fun w => absurd ⟨hx, by decide⟩ w, fun _ => ⟨lo, hi, hB, fun _ => rfl, fun w => by omega, fun w => by omega, fun w => by omega⟩⟩
theorem S_bst1 {M N : Mem} {x z lo hi : Int} (h : RLL M) (e : eqx M N E9) (hx : 0 ≤ x ∧ x ≤ 100) (hB : isB (rvl M) x lo hi) (q : qBst x 1 (vC N 0) z) : z = hi :=
  S_bst h e q ⟨fun w => absurd ⟨hx, by decide⟩ w, fun _ => ⟨lo, hi, hB, fun w => by omega, fun _ => rfl, fun w => by omega, fun w => by omega⟩⟩
theorem S_bst2 {M N : Mem} {x z lo hi : Int} (h : RLL M) (e : eqx M N E9) (hx : 0 ≤ x ∧ x ≤ 100) (hB : isB (rvl M) x lo hi) (q : qBst x 2 (vC N 0) z) : z = wLo x lo hi :=
  S_bst h e q ⟨fun w => absurd ⟨hx, by decide⟩ w, fun _ => ⟨lo, hi, hB, fun w => by omega, fun w => by omega, fun _ => rfl, fun w => by omega⟩⟩
theorem S_bst3 {M N : Mem} {x z lo hi : Int} (h : RLL M) (e : eqx M N E9) (hx : 0 ≤ x ∧ x ≤ 100) (hB : isB (rvl M) x lo hi) (q : qBst x 3 (vC N 0) z) : z = wHi x lo hi :=
  S_bst h e q ⟨fun w => absurd ⟨hx, by decide⟩ w, fun _ => ⟨lo, hi, hB, fun w => by omega, fun w => by omega, fun w => by omega, fun _ => rfl⟩⟩
/-- the worth, term by term -/
def woT (M : Mem) (r : Nat) : Nat → Int := fun k => M 107 k * (if M 108 k * M 106 (4 * r + 1) - (100 - M 108 k) * M 106 (4 * r) < 0 then 0 else M 108 k * M 106 (4 * r + 1) - (100 - M 108 k) * M 106 (4 * r))
theorem woT_S (M : Mem) (r : Nat) : sm (woT M r) (M 105 2).toNat = woS (vL M) r := rfl
theorem mn_L (M : Mem) : sm (fun i => M 107 i * rvl M (M 108 i)) (M 105 2).toNat = mnS (vL M) ∧ sm (M 107) (M 105 2).toNat = mnT (vL M) := ⟨rfl, rfl⟩
theorem fr_b2 {a b A : Int} (ha : -A ≤ a ∧ a ≤ A) (hb : 0 < b) : (-A ≤ frA a b ∧ frA a b ≤ A) ∧ 0 < frB a b ∧ frB a b ≤ b := ⟨(fr_b ha hb).1, (fr_b ha hb).2.1, (fr_b ha hb).2.2.1⟩
theorem mk_32 {L G : Nat → Int} {x : Int} {m : Nat} (h : m ≤ 5) : 0 ≤ mk L G x m ∧ mk L G x m < 32 := by
  have h1 := mk_b (L := L) (G := G) (x := x) m
  refine ⟨h1.1, Int.lt_of_lt_of_le h1.2 ?_⟩
  have : 2 ^ m ≤ 2 ^ 5 := Nat.pow_le_pow_right (by decide) h
  exact Int.ofNat_le.mpr this
theorem woT_b {M : Mem} {r t : Nat} (hw : ∀ k : Nat, k < t → (1 ≤ M 107 k ∧ M 107 k ≤ 999) ∧ (0 ≤ M 108 k ∧ M 108 k ≤ 100)) (hL : 1 ≤ M 106 (4 * r) ∧ M 106 (4 * r) ≤ 99) (hG : 1 ≤ M 106 (4 * r + 1) ∧ M 106 (4 * r + 1) ≤ 99) (ht : t ≤ 6) : 0 ≤ sm (woT M r) t ∧ sm (woT M r) t ≤ 100000000 := by
  have q := sm_bm (f := woT M r) (a := 0) (b := 9890100) (n := t) (N := 6) ht (by decide) (by decide) (fun k hk => by
    have h := hw k hk
    have m1 := mulB (a := M 108 k) (A := 100) (b := M 106 (4 * r + 1)) (B := 99) (by omega) (by omega)
    have m2 := mulB (a := 100 - M 108 k) (A := 100) (b := M 106 (4 * r)) (B := 99) (by omega) (by omega)
    have m3 := mulB (a := M 107 k) (A := 999) (b := if M 108 k * M 106 (4 * r + 1) - (100 - M 108 k) * M 106 (4 * r) < 0 then 0 else M 108 k * M 106 (4 * r + 1) - (100 - M 108 k) * M 106 (4 * r)) (B := 9900) (by omega) (by split <;> omega)
    show 0 ≤ M 107 k * (if M 108 k * M 106 (4 * r + 1) - (100 - M 108 k) * M 106 (4 * r) < 0 then 0 else M 108 k * M 106 (4 * r + 1) - (100 - M 108 k) * M 106 (4 * r)) ∧ M 107 k * (if M 108 k * M 106 (4 * r + 1) - (100 - M 108 k) * M 106 (4 * r) < 0 then 0 else M 108 k * M 106 (4 * r + 1) - (100 - M 108 k) * M 106 (4 * r)) ≤ 9890100
    omega)
  omega
theorem mnT_b {M : Mem} (h : WF (vL M)) : 1 ≤ mnT (vL M) ∧ mnT (vL M) ≤ 5994 := by
  have hsm : 1 ≤ M 105 2 ∧ M 105 2 ≤ 6 := WFs_pos h.2.2
  have q := sm_b (f := M 107) (a := 1) (b := 999) (n := (M 105 2).toNat) (fun k hk => (WFs_b (a := vL M) h.2.2 (k := k) (show (k : Int) < M 105 2 by omega)).1)
  show 1 ≤ sm (M 107) (M 105 2).toNat ∧ sm (M 107) (M 105 2).toNat ≤ 5994
  omega
