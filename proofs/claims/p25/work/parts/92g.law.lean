set_option maxRecDepth 100000 in
set_option maxHeartbeats 4000000 in
theorem law_join1 {p : Program} {l : Launch} {e : Env} {s : State} {m : MethodId} {below : List Frame} {meth : Method} {c : Code} {D : va_G} {ad : Nat → Nat} {cA : Nat → ClassId} {b : Nat} (X : Cx p s m #[Value.ref b] c cL_law RL 19 wsL_law D ad cA (AL s)) {i x : Int} {kz : Nat} (M : Mem) (hR : RLL M) (hk : 0 ≤ (kz : Int) ∧ (kz : Int) < M 105 2) (hnk : (kz : Int) + 1 < M 105 2) (nx : ∀ M2 : Mem, RLL M2 → VV p l e room_1 s m #[Value.ref b] below meth c 19 D ad cA (AL s) 113 940 (lw_Z below #[Value.ref b] s) M2 1029 [(0, .ref b), (1, .ref (ad 90)), (2, .ref (ad 105)), (3, .ref (ad 106)), (4, .ref (ad 107)), (5, .ref (ad 108)), (6, .ref (ad 109)), (7, .ref (ad 110)), (8, .ref (ad 111)), (9, .ref (ad 112)), (10, .int (zI i)), (11, .int (zI x))] []) : VV p l e room_1 s m #[Value.ref b] below meth c 19 D ad cA (AL s) 113 940 (lw_Z below #[Value.ref b] s) M 627 [(0, .ref b), (1, .ref (ad 90)), (2, .ref (ad 105)), (3, .ref (ad 106)), (4, .ref (ad 107)), (5, .ref (ad 108)), (6, .ref (ad 109)), (7, .ref (ad 110)), (8, .ref (ad 111)), (9, .ref (ad 112)), (10, .int (zI i)), (11, .int (zI x)), (13, .int (zI (kz : Int))), (14, .int (zI 1))] [] := by
  have had := X.2.2.2.1
  have hwl := RLL_wl hR
  have hW : rWR M := hwl.2.1
  have h5 := hW.2.1
  have h50 := hW.1
  have hsm : 1 ≤ M 105 2 ∧ M 105 2 ≤ 6 := WFs_pos hwl.2.2
  have hwb : ∀ k : Nat, (k : Int) < M 105 2 → (1 ≤ M 107 k ∧ M 107 k ≤ 999) ∧ (0 ≤ M 108 k ∧ M 108 k ≤ 100) := fun k hk => WFs_b hwl.2.2 hk
  have hp9 : 1 ≤ M 105 0 ∧ M 105 0 ≤ 99 := hwl.1
  have i0 : ((kz : Int)).toNat = kz := by omega
  have i1 : ((kz : Int) + 1).toNat = kz + 1 := by omega
  have hw0 := hwb kz (by omega)
  have hw1 := hwb (kz + 1) (by omega)
  have mm0 := Int.mul_le_mul_of_nonneg_left hw0.2.2 (show 0 ≤ M 107 kz by omega)
  have mm1 := Int.mul_le_mul_of_nonneg_left hw1.2.2 (show 0 ≤ M 107 (kz + 1) by omega)
  have mn0 := Int.mul_nonneg (show 0 ≤ M 107 kz by omega) hw0.2.1
  have mn1 := Int.mul_nonneg (show 0 ≤ M 107 (kz + 1) by omega) hw1.2.1
  refine vv_iload X 13 rfl dL_law_627 ?_
  refine vv_if_eq (tgt := 648) X (by omega) dL_law_629 (by decide) (fun c_629 => ?_) (fun c_629 => ?_)
  · skip
    exact absurd c_629 (by decide)
  · skip
    refine vv_aload X 4 rfl dL_law_632 ?_
    refine vv_iload X 12 rfl dL_law_634 ?_
    refine vv_iald (z := (M 107 kz)) X (by decide) sh_107 (by decide) (by omega) (by first | (rw [i0]; done) | (rw [i0]; exact (rfl))) dL_law_636 ?_
    refine vv_aload X 4 rfl dL_law_637 ?_
    refine vv_iload X 12 rfl dL_law_639 ?_
    refine vv_iconst (n := 1) X dL_law_641 ?_
    refine vv_iadd X dL_law_642 ?_
    refine vv_iald (z := (M 107 (kz + 1))) X (by decide) sh_107 (by decide) (by omega) (by first | (rw [i1]; done) | (rw [i1]; exact (rfl))) dL_law_643 ?_
    refine vv_iadd X dL_law_644 ?_
    refine vv_goto (tgt := 649) X (by decide) dL_law_645 ?_
    obtain ⟨jw, ejw⟩ : ∃ z : Int, ((M 107 kz) + (M 107 (kz + 1))) = z := ⟨_, rfl⟩
    rw [ejw]
    refine vv_istore (lv' := [(15, .int (zI jw)), (0, .ref b), (1, .ref (ad 90)), (2, .ref (ad 105)), (3, .ref (ad 106)), (4, .ref (ad 107)), (5, .ref (ad 108)), (6, .ref (ad 109)), (7, .ref (ad 110)), (8, .ref (ad 111)), (9, .ref (ad 112)), (10, .int (zI i)), (11, .int (zI x)), (13, .int (zI (kz : Int))), (14, .int (zI 1))]) X (by decide) rfl dL_law_649 ?_
    have hjw := ejw.symm
    have hbw : 2 ≤ jw ∧ jw ≤ 1998 := by omega
    refine vv_iload X 14 rfl dL_law_651 ?_
    refine vv_if_eq (tgt := 686) X (by omega) dL_law_653 (by decide) (fun c_653 => ?_) (fun c_653 => ?_)
    · skip
      exact absurd c_653 (by decide)
    · skip
      refine vv_aload X 5 rfl dL_law_656 ?_
      refine vv_iload X 13 rfl dL_law_658 ?_
      refine vv_iald (z := (M 107 kz)) X (by decide) sh_107 (by decide) (by omega) (by first | (rw [i0]; done) | (rw [i0]; exact (rfl))) dL_law_660 ?_
      refine vv_aload X 6 rfl dL_law_661 ?_
      refine vv_iload X 13 rfl dL_law_663 ?_
      refine vv_iald (z := (M 108 kz)) X (by decide) sh_108 (by decide) (by omega) (by first | (rw [i0]; done) | (rw [i0]; exact (rfl))) dL_law_665 ?_
      refine vv_imul X dL_law_666 ?_
      refine vv_aload X 5 rfl dL_law_667 ?_
      refine vv_iload X 13 rfl dL_law_669 ?_
      refine vv_iconst (n := 1) X dL_law_671 ?_
      refine vv_iadd X dL_law_672 ?_
      refine vv_iald (z := (M 107 (kz + 1))) X (by decide) sh_107 (by decide) (by omega) (by first | (rw [i1]; done) | (rw [i1]; exact (rfl))) dL_law_673 ?_
      refine vv_aload X 6 rfl dL_law_674 ?_
      refine vv_iload X 13 rfl dL_law_676 ?_
      refine vv_iconst (n := 1) X dL_law_678 ?_
      refine vv_iadd X dL_law_679 ?_
      refine vv_iald (z := (M 108 (kz + 1))) X (by decide) sh_108 (by decide) (by omega) (by first | (rw [i1]; done) | (rw [i1]; exact (rfl))) dL_law_680 ?_
      refine vv_imul X dL_law_681 ?_
      refine vv_iadd X dL_law_682 ?_
      refine vv_goto (tgt := 687) X (by decide) dL_law_683 ?_
      obtain ⟨jm, ejm⟩ : ∃ z : Int, (((M 107 kz) * (M 108 kz)) + ((M 107 (kz + 1)) * (M 108 (kz + 1)))) = z := ⟨_, rfl⟩
      rw [ejm]
      refine vv_istore (lv' := [(16, .int (zI jm)), (15, .int (zI jw)), (0, .ref b), (1, .ref (ad 90)), (2, .ref (ad 105)), (3, .ref (ad 106)), (4, .ref (ad 107)), (5, .ref (ad 108)), (6, .ref (ad 109)), (7, .ref (ad 110)), (8, .ref (ad 111)), (9, .ref (ad 112)), (10, .int (zI i)), (11, .int (zI x)), (13, .int (zI (kz : Int))), (14, .int (zI 1))]) X (by decide) rfl dL_law_687 ?_
      have hjm := ejm.symm
      have hbm : 0 ≤ jm ∧ jm ≤ 100 * jw := by omega
      refine vv_iload X 0 rfl dL_law_689 ?_
      refine vv_iload X 1 rfl dL_law_691 ?_
      refine vv_irem X (by omega) (by omega) (by omega) dL_law_693 ?_
      refine vv_if_ne (tgt := 701) X (by have := gcdM (x := jm) (y := jw) (by omega) (by omega); omega) dL_law_694 (by decide) (fun c_694 => ?_) (fun c_694 => ?_)
      · skip
        refine vv_iconst (n := 0) X dL_law_701 ?_
        refine vv_istore (lv' := [(17, .int (zI 0)), (16, .int (zI jm)), (15, .int (zI jw)), (0, .ref b), (1, .ref (ad 90)), (2, .ref (ad 105)), (3, .ref (ad 106)), (4, .ref (ad 107)), (5, .ref (ad 108)), (6, .ref (ad 109)), (7, .ref (ad 110)), (8, .ref (ad 111)), (9, .ref (ad 112)), (10, .int (zI i)), (11, .int (zI x)), (13, .int (zI (kz : Int))), (14, .int (zI 1))]) X (by decide) rfl dL_law_702 ?_
        refine vv_sub (lv' := [(0, .ref b), (1, .ref (ad 90)), (2, .ref (ad 105)), (3, .ref (ad 106)), (4, .ref (ad 107)), (5, .ref (ad 108)), (6, .ref (ad 109)), (7, .ref (ad 110)), (8, .ref (ad 111)), (9, .ref (ad 112)), (10, .int (zI i)), (11, .int (zI x)), (13, .int (zI (kz : Int))), (14, .int (zI 1)), (15, .int (zI jw)), (16, .int (zI jm)), (17, .int (zI 0))]) [3, 4, 5, 6, 7, 8, 9, 10, 11, 12, 13, 14, 15, 16, 2, 1, 0] rfl ?_
        exact law_joinw0 X M hR hk hnk hjw hjm hbw hbm c_694 nx
      · skip
        refine vv_iconst (n := 1) X dL_law_697 ?_
        refine vv_goto (tgt := 702) X (by decide) dL_law_698 ?_
        refine vv_istore (lv' := [(17, .int (zI 1)), (16, .int (zI jm)), (15, .int (zI jw)), (0, .ref b), (1, .ref (ad 90)), (2, .ref (ad 105)), (3, .ref (ad 106)), (4, .ref (ad 107)), (5, .ref (ad 108)), (6, .ref (ad 109)), (7, .ref (ad 110)), (8, .ref (ad 111)), (9, .ref (ad 112)), (10, .int (zI i)), (11, .int (zI x)), (13, .int (zI (kz : Int))), (14, .int (zI 1))]) X (by decide) rfl dL_law_702 ?_
        refine vv_sub (lv' := [(0, .ref b), (1, .ref (ad 90)), (2, .ref (ad 105)), (3, .ref (ad 106)), (4, .ref (ad 107)), (5, .ref (ad 108)), (6, .ref (ad 109)), (7, .ref (ad 110)), (8, .ref (ad 111)), (9, .ref (ad 112)), (10, .int (zI i)), (11, .int (zI x)), (13, .int (zI (kz : Int))), (14, .int (zI 1)), (15, .int (zI jw)), (16, .int (zI jm)), (17, .int (zI 1))]) [3, 4, 5, 6, 7, 8, 9, 10, 11, 12, 13, 14, 15, 16, 2, 1, 0] rfl ?_
        exact law_joinw1 X M hR hk hnk hjw hjm hbw hbm c_694 nx
set_option maxRecDepth 100000 in
set_option maxHeartbeats 4000000 in
theorem law_join {p : Program} {l : Launch} {e : Env} {s : State} {m : MethodId} {below : List Frame} {meth : Method} {c : Code} {D : va_G} {ad : Nat → Nat} {cA : Nat → ClassId} {b : Nat} (X : Cx p s m #[Value.ref b] c cL_law RL 19 wsL_law D ad cA (AL s)) {i x : Int} (M : Mem) (hR : RLL M) (nx : ∀ M2 : Mem, RLL M2 → VV p l e room_1 s m #[Value.ref b] below meth c 19 D ad cA (AL s) 113 940 (lw_Z below #[Value.ref b] s) M2 1029 [(0, .ref b), (1, .ref (ad 90)), (2, .ref (ad 105)), (3, .ref (ad 106)), (4, .ref (ad 107)), (5, .ref (ad 108)), (6, .ref (ad 109)), (7, .ref (ad 110)), (8, .ref (ad 111)), (9, .ref (ad 112)), (10, .int (zI i)), (11, .int (zI x))] []) : VV p l e room_1 s m #[Value.ref b] below meth c 19 D ad cA (AL s) 113 940 (lw_Z below #[Value.ref b] s) M 598 [(0, .ref b), (1, .ref (ad 90)), (2, .ref (ad 105)), (3, .ref (ad 106)), (4, .ref (ad 107)), (5, .ref (ad 108)), (6, .ref (ad 109)), (7, .ref (ad 110)), (8, .ref (ad 111)), (9, .ref (ad 112)), (10, .int (zI i)), (11, .int (zI x))] [] := by
  have had := X.2.2.2.1
  have hwl := RLL_wl hR
  have hW : rWR M := hwl.2.1
  have h5 := hW.2.1
  have h50 := hW.1
  have hsm : 1 ≤ M 105 2 ∧ M 105 2 ≤ 6 := WFs_pos hwl.2.2
  have hwb : ∀ k : Nat, (k : Int) < M 105 2 → (1 ≤ M 107 k ∧ M 107 k ≤ 999) ∧ (0 ≤ M 108 k ∧ M 108 k ≤ 100) := fun k hk => WFs_b hwl.2.2 hk
  have hp9 : 1 ≤ M 105 0 ∧ M 105 0 ≤ 99 := hwl.1
  refine vv_iload X 11 rfl dL_law_598 ?_
  refine vv_iconst (n := 3) X dL_law_600 ?_
  obtain ⟨v601, hv601, ev601⟩ := any32 (zI x >>> (zI 3 &&& 31))
  refine vv_ishr (a := v601) X (ev601) dL_law_601 ?_
  refine vv_aload_n X 2 rfl rfl dL_law_602 ?_
  refine vv_iconst (n := 2) X dL_law_603 ?_
  refine vv_iald (z := (M 105 2)) X (by decide) sh_105 (by decide) (by omega) (rfl) dL_law_604 ?_
  refine vv_callSI (As := [.int (zI v601), .int (zI (M 105 2))]) (st := []) X 2 (c_L_low l D cA had M v601 (M 105 2) (by omega)) gL_law_L_low rfl (by decide +kernel) ⟨by decide, by decide⟩ (Nat.le_of_ble_eq_true rfl) ⟨Nat.le_of_ble_eq_true rfl, Nat.le_of_ble_eq_true rfl⟩ rfl rfl dL_law_605 (fun z605 Mc605 q_605 => ?_)
  obtain ⟨e_z605, g_z605⟩ := q_605
  have g_z605 := g_z605.symm
  subst g_z605
  refine vv_istore (lv' := [(13, .int (zI z605)), (0, .ref b), (1, .ref (ad 90)), (2, .ref (ad 105)), (3, .ref (ad 106)), (4, .ref (ad 107)), (5, .ref (ad 108)), (6, .ref (ad 109)), (7, .ref (ad 110)), (8, .ref (ad 111)), (9, .ref (ad 112)), (10, .int (zI i)), (11, .int (zI x))]) X (by decide) rfl dL_law_608 ?_
  refine vv_iload X 0 rfl dL_law_610 ?_
  refine vv_iconst (n := 1) X dL_law_612 ?_
  refine vv_iadd X dL_law_613 ?_
  refine vv_aload_n X 3 rfl rfl dL_law_614 ?_
  refine vv_iconst (n := 2) X dL_law_615 ?_
  refine vv_iald (z := (M 105 2)) X (by decide) sh_105 (by decide) (by omega) (rfl) dL_law_616 ?_
  refine vv_icmp_ge (tgt := 624) X (by omega) (by omega) dL_law_617 (by decide) (fun c_617 => ?_) (fun c_617 => ?_)
  · skip
    refine vv_iconst (n := 0) X dL_law_624 ?_
    refine vv_istore (lv' := [(14, .int (zI 0)), (13, .int (zI z605)), (0, .ref b), (1, .ref (ad 90)), (2, .ref (ad 105)), (3, .ref (ad 106)), (4, .ref (ad 107)), (5, .ref (ad 108)), (6, .ref (ad 109)), (7, .ref (ad 110)), (8, .ref (ad 111)), (9, .ref (ad 112)), (10, .int (zI i)), (11, .int (zI x))]) X (by decide) rfl dL_law_625 ?_
    obtain ⟨kz, hkz⟩ : ∃ q : Nat, z605 = (q : Int) := ⟨z605.toNat, by omega⟩
    subst hkz
    refine vv_sub (lv' := [(0, .ref b), (1, .ref (ad 90)), (2, .ref (ad 105)), (3, .ref (ad 106)), (4, .ref (ad 107)), (5, .ref (ad 108)), (6, .ref (ad 109)), (7, .ref (ad 110)), (8, .ref (ad 111)), (9, .ref (ad 112)), (10, .int (zI i)), (11, .int (zI x)), (13, .int (zI (kz : Int))), (14, .int (zI 0))]) [2, 3, 4, 5, 6, 7, 8, 9, 10, 11, 12, 13, 1, 0] rfl ?_
    exact law_join0 X M hR (by omega) (by omega) nx
  · skip
    refine vv_iconst (n := 1) X dL_law_620 ?_
    refine vv_goto (tgt := 625) X (by decide) dL_law_621 ?_
    refine vv_istore (lv' := [(14, .int (zI 1)), (13, .int (zI z605)), (0, .ref b), (1, .ref (ad 90)), (2, .ref (ad 105)), (3, .ref (ad 106)), (4, .ref (ad 107)), (5, .ref (ad 108)), (6, .ref (ad 109)), (7, .ref (ad 110)), (8, .ref (ad 111)), (9, .ref (ad 112)), (10, .int (zI i)), (11, .int (zI x))]) X (by decide) rfl dL_law_625 ?_
    obtain ⟨kz, hkz⟩ : ∃ q : Nat, z605 = (q : Int) := ⟨z605.toNat, by omega⟩
    subst hkz
    refine vv_sub (lv' := [(0, .ref b), (1, .ref (ad 90)), (2, .ref (ad 105)), (3, .ref (ad 106)), (4, .ref (ad 107)), (5, .ref (ad 108)), (6, .ref (ad 109)), (7, .ref (ad 110)), (8, .ref (ad 111)), (9, .ref (ad 112)), (10, .int (zI i)), (11, .int (zI x)), (13, .int (zI (kz : Int))), (14, .int (zI 1))]) [2, 3, 4, 5, 6, 7, 8, 9, 10, 11, 12, 13, 1, 0] rfl ?_
    exact law_join1 X M hR (by omega) (by omega) nx
