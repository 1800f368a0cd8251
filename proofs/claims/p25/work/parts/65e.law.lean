set_option maxRecDepth 100000 in
set_option maxHeartbeats 4000000 in
theorem same_D {p : Program} {l : Launch} {e : Env} {s : State} {m : MethodId} {args : Array Value} {below : List Frame} {meth : Method} {c : Code} {D : va_G} {ad : Nat → Nat} {cA : Nat → ClassId} (X : Cx p s m args c cL_same yL_same.cls 17 wsL_same D ad cA (Afr ad s.heap.size)) (hm : Mt meth (some .boolean)) {x : Int} (hx : -2147483648 ≤ x ∧ x ≤ 2147483647) (M Ms : Mem) (hR : RLL M) (hs : eqx M Ms E9) : VV p l e { frames := 6, cells := 0, slots := 0, locals := 133 } s m args below meth c 17 D ad cA (Afr ad s.heap.size) 0 0 (QI below args s D ad cA (fun z M1 => z = 1 ∧ eqx M M1 E9)) Ms 527 [(0, .ref (ad 90)), (1, .int (zI x)), (2, .ref (ad 105)), (3, .ref (ad 106)), (4, .ref (ad 107)), (5, .ref (ad 108)), (6, .ref (ad 109))] [] := by
  have had := X.2.2.2.1
  have hwl := RLL_wl hR
  have hW : rWR M := hwl.2.1
  have h5 := hW.2.1
  have h50 := hW.1
  have hsm : 1 ≤ M 105 2 ∧ M 105 2 ≤ 6 := WFs_pos hwl.2.2
  have hwb : ∀ k : Nat, (k : Int) < M 105 2 → (1 ≤ M 107 k ∧ M 107 k ≤ 999) ∧ (0 ≤ M 108 k ∧ M 108 k ≤ 100) := fun k hk => WFs_b hwl.2.2 hk
  have hp9 : 1 ≤ M 105 0 ∧ M 105 0 ≤ 99 := hwl.1
  have hvb : ∀ y : Int, -495 ≤ rvl M y ∧ rvl M y ≤ 990 := fun y => vl_b hW.2
  refine vv_iload_n X 1 rfl rfl dL_same_527 ?_
  refine vv_bipush (n := 101) X (by decide) dL_same_528 ?_
  refine vv_callSI (As := [.int (zI x), .int (zI 101)]) (st := []) X 2 (c_L_low l D cA had Ms x 101 (by omega)) gL_same_L_low rfl (by decide +kernel) ⟨by decide, by decide⟩ (Nat.le_of_ble_eq_true rfl) ⟨by decide, by decide⟩ rfl rfl dL_same_530 (fun z530 Mc530 q_530 => ?_)
  obtain ⟨e_z530, g_z530⟩ := q_530
  have g_z530 := g_z530.symm
  subst g_z530
  refine vv_istore (lv' := [(12, .int (zI z530)), (0, .ref (ad 90)), (1, .int (zI x)), (2, .ref (ad 105)), (3, .ref (ad 106)), (4, .ref (ad 107)), (5, .ref (ad 108)), (6, .ref (ad 109))]) X (by decide) rfl dL_same_533 ?_
  refine vv_iload X 0 rfl dL_same_535 ?_
  refine vv_aload_n X 3 rfl rfl dL_same_537 ?_
  refine vv_aload_n X 4 rfl rfl dL_same_538 ?_
  refine vv_aload X 7 rfl dL_same_539 ?_
  refine vv_callSI (As := [.int (zI z530), .ref (ad 105), .ref (ad 106), .ref (ad 109)]) (st := []) X 4 (c_L_envelope l D cA had Ms z530 (by omega) (W_E9 hW hs)) gL_same_L_envelope rfl (by decide +kernel) ⟨by decide, by decide⟩ (Nat.le_of_ble_eq_true rfl) ⟨by decide, by decide⟩ rfl rfl dL_same_541 (fun z541 Mc541 q_541 => ?_)
  obtain ⟨lo541, hi541, hB541, e_z541, q_541⟩ := q_541
  have q_541 := q_541.symm
  subst q_541
  obtain ⟨N544, h_N544⟩ : ∃ N : Mem, N = (up2 (up2 Ms 109 0 (frA (sN (rvl Ms) z530 lo541 hi541) (sD lo541 hi541))) 109 1 (frB (sN (rvl Ms) z530 lo541 hi541) (sD lo541 hi541))) := ⟨_, rfl⟩
  rw [← h_N544]
  have EN544 : eqx M N544 E9 := by rw [h_N544]; exact eqx_up _ _ (eqx_up _ _ hs (by decide)) (by decide)
  rw [rvl_E9 hs] at hB541 h_N544
  have f544a : N544 109 0 = frA (sN (rvl M) z530 lo541 hi541) (sD lo541 hi541) := by rw [h_N544]; rfl
  have f544b : N544 109 1 = frB (sN (rvl M) z530 lo541 hi541) (sD lo541 hi541) := by rw [h_N544]; rfl
  have hd541 := sD_b (show 0 ≤ z530 ∧ z530 ≤ 100 by omega) hB541.1
  have hfe5 := fr_b2 (a := sN (rvl M) z530 lo541 hi541) (b := sD lo541 hi541) (A := 198000) (sN_b hvb (by omega) hB541.1) (sD_pos hB541.1)
  obtain ⟨hl541, hh541⟩ := okS_rng hB541.1 (show 0 ≤ z530 ∧ z530 ≤ 100 by omega)
  have hv530 := hvb z530
  refine vv_istore (lv' := [(13, .int (zI z541)), (12, .int (zI z530)), (0, .ref (ad 90)), (1, .int (zI x)), (2, .ref (ad 105)), (3, .ref (ad 106)), (4, .ref (ad 107)), (5, .ref (ad 108)), (6, .ref (ad 109))]) X (by decide) rfl dL_same_544 ?_
  refine vv_iload X 0 rfl dL_same_546 ?_
  refine vv_sipush (n := 1000) X (by decide) dL_same_548 ?_
  refine vv_irem X (by omega) (by omega) (by omega) dL_same_551 ?_
  rw [show (Int.tmod z541 1000) = lo541 from by rw [e_z541, Int.tmod_eq_emod_of_nonneg (by omega)]; omega]
  refine vv_istore (lv' := [(14, .int (zI lo541)), (13, .int (zI z541)), (12, .int (zI z530)), (0, .ref (ad 90)), (1, .int (zI x)), (2, .ref (ad 105)), (3, .ref (ad 106)), (4, .ref (ad 107)), (5, .ref (ad 108)), (6, .ref (ad 109))]) X (by decide) rfl dL_same_552 ?_
  refine vv_iload X 1 rfl dL_same_554 ?_
  refine vv_sipush (n := 1000) X (by decide) dL_same_556 ?_
  refine vv_idiv X (by omega) (by omega) (by omega) dL_same_559 ?_
  rw [show (Int.tdiv z541 1000) = hi541 from by rw [e_z541, Int.tdiv_eq_ediv_of_nonneg (by omega)]; omega]
  refine vv_istore (lv' := [(15, .int (zI hi541)), (14, .int (zI lo541)), (13, .int (zI z541)), (12, .int (zI z530)), (0, .ref (ad 90)), (1, .int (zI x)), (2, .ref (ad 105)), (3, .ref (ad 106)), (4, .ref (ad 107)), (5, .ref (ad 108)), (6, .ref (ad 109))]) X (by decide) rfl dL_same_560 ?_
  refine vv_iload X 1 rfl dL_same_562 ?_
  refine vv_iload X 0 rfl dL_same_564 ?_
  refine vv_icmp_ne (tgt := 573) X (by omega) (by omega) dL_same_566 (by decide) (fun c_566 => ?_) (fun c_566 => ?_)
  · skip
    have hlx : lo541 < z530 ∧ z530 < hi541 := by rcases hB541.1 with q | q <;> omega
    have hg1 := Int.gcd_pos_of_ne_zero_left (z530 - lo541) (show hi541 - z530 ≠ 0 by omega)
    have hg2 : (Int.gcd (hi541 - z530) (z530 - lo541) : Int) ≤ hi541 - z530 := Int.le_of_dvd (by omega) (Int.gcd_dvd_left _ _)
    refine vv_iload X 0 rfl dL_same_573 ?_
    refine vv_iload X 3 rfl dL_same_575 ?_
    refine vv_isub X dL_same_577 ?_
    refine vv_iload X 3 rfl dL_same_578 ?_
    refine vv_iload X 1 rfl dL_same_580 ?_
    refine vv_isub X dL_same_582 ?_
    refine vv_callSI (As := [.int (zI (hi541 - z530)), .int (zI (z530 - lo541))]) (st := []) X 2 (c_L_gcd l D cA had N544 (hi541 - z530) (z530 - lo541) (by omega) (by omega)) gL_same_L_gcd rfl (by decide +kernel) ⟨by decide, by decide⟩ (Nat.le_of_ble_eq_true rfl) ⟨by decide, by decide⟩ rfl rfl dL_same_583 (fun z583 Mc583 q_583 => ?_)
    obtain ⟨e_z583, g_z583⟩ := q_583
    have g_z583 := g_z583.symm
    subst g_z583
    refine vv_istore (lv' := [(16, .int (zI z583)), (15, .int (zI hi541)), (14, .int (zI lo541)), (13, .int (zI z541)), (12, .int (zI z530)), (0, .ref (ad 90)), (1, .int (zI x)), (2, .ref (ad 105)), (3, .ref (ad 106)), (4, .ref (ad 107)), (5, .ref (ad 108)), (6, .ref (ad 109))]) X (by decide) rfl dL_same_586 ?_
    refine vv_aload_n X 5 rfl rfl dL_same_588 ?_
    refine vv_iload X 4 rfl dL_same_589 ?_
    refine vv_callVI (As := [.int (zI z530)]) (st := []) (Nf := 9) X 1 (c_X8_value l D cA had N544 z530 (by omega) (RLL_q hR EN544).2.1) gL_same_X8_value rfl (by decide +kernel) ⟨by decide, by decide⟩ (Nat.le_of_ble_eq_true rfl) ⟨by decide, by decide⟩ rfl (by decide) sh_90 rfl rfl dL_same_591 (fun z591 Mc591 q_591 => ?_)
    obtain ⟨Q591, F591⟩ := q_591
    have E591 : eqx M Mc591 E9 := eqx_tr EN544 (eqx_mono F591 (by decide))
    have e_z591 : z591 = rvl M z530 + 1000 := S_val hR EN544 (by omega) Q591
    refine vv_iload X 4 rfl dL_same_594 ?_
    refine vv_aload_n X 7 rfl rfl dL_same_596 ?_
    refine vv_aload_n X 8 rfl rfl dL_same_597 ?_
    refine vv_callSI (As := [.int (zI z530), .ref (ad 105), .ref (ad 106)]) (st := [.int (zI z591)]) X 3 (c_L_value l D cA had Mc591 z530 (by omega) (W_E9 hW E591)) gL_same_L_value rfl (by decide +kernel) ⟨by decide, by decide⟩ (Nat.le_of_ble_eq_true rfl) ⟨by decide, by decide⟩ rfl rfl dL_same_598 (fun z598 Mc598 q_598 => ?_)
    obtain ⟨e_z598, g_z598⟩ := q_598
    have g_z598 := g_z598.symm
    subst g_z598
    rw [rvl_E9 E591] at e_z598
    refine vv_sipush (n := 1000) X (by decide) dL_same_601 ?_
    refine vv_iadd X dL_same_604 ?_
    refine vv_icmp_ne (tgt := 725) X (by omega) (by omega) dL_same_605 (by decide) (fun c_605 => ?_) (fun c_605 => ?_)
    · skip
      omega
    · skip
      refine vv_aload_n X 5 rfl rfl dL_same_608 ?_
      refine vv_iload X 4 rfl dL_same_609 ?_
      refine vv_iconst (n := 0) X dL_same_611 ?_
      refine vv_callVI (As := [.int (zI z530), .int (zI 0)]) (st := []) (Nf := 9) X 2 (c_X8_envelope l D cA had Mc591 z530 0 (by omega) (by omega) (RLL_q hR E591).2.1) gL_same_X8_envelope rfl (by decide +kernel) ⟨by decide, by decide⟩ (Nat.le_of_ble_eq_true rfl) ⟨by decide, by decide⟩ rfl (by decide) sh_90 rfl rfl dL_same_612 (fun z612 Mc612 q_612 => ?_)
      obtain ⟨Q612, F612⟩ := q_612
      have E612 : eqx M Mc612 E9 := eqx_tr E591 (eqx_mono F612 (by decide))
      have e_z612 : z612 = frA (sN (rvl M) z530 lo541 hi541) (sD lo541 hi541) + 10000000 := S_env0 hR E591 (by omega) hB541 Q612
      refine vv_aload X 11 rfl dL_same_615 ?_
      refine vv_iconst (n := 0) X dL_same_617 ?_
      refine vv_iald (z := (N544 109 0)) X (by decide) sh_109 (by decide) (by omega) (show Mc612 109 0 = N544 109 0 from by rw [((F612 109 (by decide)).trans ((F591 109 (by decide)).trans rfl))]) dL_same_618 ?_
      refine vv_ldc (n := 10000000) (v := 10000000) X (by decide +kernel) (by decide) dL_same_619 ?_
      refine vv_iadd X dL_same_621 ?_
      refine vv_icmp_ne (tgt := 725) X (by omega) (by omega) dL_same_622 (by decide) (fun c_622 => ?_) (fun c_622 => ?_)
      · skip
        omega
      · skip
        refine vv_aload_n X 5 rfl rfl dL_same_625 ?_
        refine vv_iload X 4 rfl dL_same_626 ?_
        refine vv_iconst (n := 1) X dL_same_628 ?_
        refine vv_callVI (As := [.int (zI z530), .int (zI 1)]) (st := []) (Nf := 9) X 2 (c_X8_envelope l D cA had Mc612 z530 1 (by omega) (by omega) (RLL_q hR E612).2.1) gL_same_X8_envelope rfl (by decide +kernel) ⟨by decide, by decide⟩ (Nat.le_of_ble_eq_true rfl) ⟨by decide, by decide⟩ rfl (by decide) sh_90 rfl rfl dL_same_629 (fun z629 Mc629 q_629 => ?_)
        obtain ⟨Q629, F629⟩ := q_629
        have E629 : eqx M Mc629 E9 := eqx_tr E612 (eqx_mono F629 (by decide))
        have e_z629 : z629 = frB (sN (rvl M) z530 lo541 hi541) (sD lo541 hi541) := S_env1 hR E612 (by omega) hB541 Q629
        refine vv_aload X 11 rfl dL_same_632 ?_
        refine vv_iconst (n := 1) X dL_same_634 ?_
        refine vv_iald (z := (N544 109 1)) X (by decide) sh_109 (by decide) (by omega) (show Mc629 109 1 = N544 109 1 from by rw [((F629 109 (by decide)).trans ((F612 109 (by decide)).trans ((F591 109 (by decide)).trans rfl)))]) dL_same_635 ?_
        refine vv_icmp_ne (tgt := 725) X (by omega) (by omega) dL_same_636 (by decide) (fun c_636 => ?_) (fun c_636 => ?_)
        · skip
          omega
        · skip
          refine vv_aload_n X 5 rfl rfl dL_same_639 ?_
          refine vv_iload X 4 rfl dL_same_640 ?_
          refine vv_iconst (n := 0) X dL_same_642 ?_
          refine vv_callVI (As := [.int (zI z530), .int (zI 0)]) (st := []) (Nf := 9) X 2 (c_X8_best l D cA had Mc629 z530 0 (by omega) (by omega) (RLL_q hR E629).2.1) gL_same_X8_best rfl (by decide +kernel) ⟨by decide, by decide⟩ (Nat.le_of_ble_eq_true rfl) ⟨by decide, by decide⟩ rfl (by decide) sh_90 rfl rfl dL_same_643 (fun z643 Mc643 q_643 => ?_)
          obtain ⟨Q643, F643⟩ := q_643
          have E643 : eqx M Mc643 E9 := eqx_tr E629 (eqx_mono F643 (by decide))
          have e_z643 : z643 = lo541 := S_bst0 hR E629 (by omega) hB541 Q643
          refine vv_iload X 2 rfl dL_same_646 ?_
          refine vv_icmp_ne (tgt := 725) X (by omega) (by omega) dL_same_648 (by decide) (fun c_648 => ?_) (fun c_648 => ?_)
          · skip
            omega
          · skip
            refine vv_aload_n X 5 rfl rfl dL_same_651 ?_
            refine vv_iload X 4 rfl dL_same_652 ?_
            refine vv_iconst (n := 1) X dL_same_654 ?_
            refine vv_callVI (As := [.int (zI z530), .int (zI 1)]) (st := []) (Nf := 9) X 2 (c_X8_best l D cA had Mc643 z530 1 (by omega) (by omega) (RLL_q hR E643).2.1) gL_same_X8_best rfl (by decide +kernel) ⟨by decide, by decide⟩ (Nat.le_of_ble_eq_true rfl) ⟨by decide, by decide⟩ rfl (by decide) sh_90 rfl rfl dL_same_655 (fun z655 Mc655 q_655 => ?_)
            obtain ⟨Q655, F655⟩ := q_655
            have E655 : eqx M Mc655 E9 := eqx_tr E643 (eqx_mono F655 (by decide))
            have e_z655 : z655 = hi541 := S_bst1 hR E643 (by omega) hB541 Q655
            refine vv_iload X 1 rfl dL_same_658 ?_
            refine vv_icmp_ne (tgt := 725) X (by omega) (by omega) dL_same_660 (by decide) (fun c_660 => ?_) (fun c_660 => ?_)
            · skip
              omega
            · skip
              refine vv_aload_n X 5 rfl rfl dL_same_663 ?_
              refine vv_iload X 4 rfl dL_same_664 ?_
              refine vv_iconst (n := 2) X dL_same_666 ?_
              refine vv_callVI (As := [.int (zI z530), .int (zI 2)]) (st := []) (Nf := 9) X 2 (c_X8_best l D cA had Mc655 z530 2 (by omega) (by omega) (RLL_q hR E655).2.1) gL_same_X8_best rfl (by decide +kernel) ⟨by decide, by decide⟩ (Nat.le_of_ble_eq_true rfl) ⟨by decide, by decide⟩ rfl (by decide) sh_90 rfl rfl dL_same_667 (fun z667 Mc667 q_667 => ?_)
              obtain ⟨Q667, F667⟩ := q_667
              have E667 : eqx M Mc667 E9 := eqx_tr E655 (eqx_mono F667 (by decide))
              have e_z667 : z667 = wLo z530 lo541 hi541 := S_bst2 hR E655 (by omega) hB541 Q667
              have wl9 := wLo_b hB541.1 (show 0 ≤ z530 ∧ z530 ≤ 100 by omega)
              refine vv_iload X 2 rfl dL_same_670 ?_
              refine vv_iload X 1 rfl dL_same_672 ?_
              refine vv_icmp_ne (tgt := 681) X (by omega) (by omega) dL_same_674 (by decide) (fun c_674 => ?_) (fun c_674 => ?_)
              · skip
                refine vv_iload X 1 rfl dL_same_681 ?_
                refine vv_iload X 4 rfl dL_same_683 ?_
                refine vv_isub X dL_same_685 ?_
                refine vv_iload X 0 rfl dL_same_686 ?_
                refine vv_idiv X (by omega) (by omega) (by omega) dL_same_688 ?_
                have hw2 : wLo z530 lo541 hi541 = (hi541 - z530).tdiv z583 := by rw [e_z583]; exact if_neg (by omega)
                refine vv_icmp_ne (tgt := 725) X (by omega) (by omega) dL_same_689 (by decide) (fun c_689 => ?_) (fun c_689 => ?_)
                · skip
                  omega
                · skip
                  refine vv_aload_n X 5 rfl rfl dL_same_692 ?_
                  refine vv_iload X 4 rfl dL_same_693 ?_
                  refine vv_iconst (n := 3) X dL_same_695 ?_
                  refine vv_callVI (As := [.int (zI z530), .int (zI 3)]) (st := []) (Nf := 9) X 2 (c_X8_best l D cA had Mc667 z530 3 (by omega) (by omega) (RLL_q hR E667).2.1) gL_same_X8_best rfl (by decide +kernel) ⟨by decide, by decide⟩ (Nat.le_of_ble_eq_true rfl) ⟨by decide, by decide⟩ rfl (by decide) sh_90 rfl rfl dL_same_696 (fun z696 Mc696 q_696 => ?_)
                  obtain ⟨Q696, F696⟩ := q_696
                  have E696 : eqx M Mc696 E9 := eqx_tr E667 (eqx_mono F696 (by decide))
                  have e_z696 : z696 = wHi z530 lo541 hi541 := S_bst3 hR E667 (by omega) hB541 Q696
                  have wh9 := wHi_b hB541.1 (show 0 ≤ z530 ∧ z530 ≤ 100 by omega)
                  refine vv_iload X 2 rfl dL_same_699 ?_
                  refine vv_iload X 1 rfl dL_same_701 ?_
                  refine vv_icmp_ne (tgt := 710) X (by omega) (by omega) dL_same_703 (by decide) (fun c_703 => ?_) (fun c_703 => ?_)
                  · skip
                    refine vv_iload X 4 rfl dL_same_710 ?_
                    refine vv_iload X 2 rfl dL_same_712 ?_
                    refine vv_isub X dL_same_714 ?_
                    refine vv_iload X 0 rfl dL_same_715 ?_
                    refine vv_idiv X (by omega) (by omega) (by omega) dL_same_717 ?_
                    have hw3 : wHi z530 lo541 hi541 = (z530 - lo541).tdiv z583 := by rw [e_z583]; exact if_neg (by omega)
                    refine vv_icmp_ne (tgt := 725) X (by omega) (by omega) dL_same_718 (by decide) (fun c_718 => ?_) (fun c_718 => ?_)
                    · skip
                      omega
                    · skip
                      refine vv_iconst (n := 1) X dL_same_721 ?_
                      refine vv_goto (tgt := 726) X (by decide) dL_same_722 ?_
                      exact vv_zret X hm (by omega) (⟨rfl, E696⟩) dL_same_726
                  · skip
                    omega
              · skip
                omega
  · skip
    refine vv_iconst (n := 1) X dL_same_569 ?_
    refine vv_goto (tgt := 586) X (by decide) dL_same_570 ?_
    refine vv_istore (lv' := [(16, .int (zI 1)), (15, .int (zI hi541)), (14, .int (zI lo541)), (13, .int (zI z541)), (12, .int (zI z530)), (0, .ref (ad 90)), (1, .int (zI x)), (2, .ref (ad 105)), (3, .ref (ad 106)), (4, .ref (ad 107)), (5, .ref (ad 108)), (6, .ref (ad 109))]) X (by decide) rfl dL_same_586 ?_
    refine vv_aload_n X 5 rfl rfl dL_same_588 ?_
    refine vv_iload X 4 rfl dL_same_589 ?_
    refine vv_callVI (As := [.int (zI z530)]) (st := []) (Nf := 9) X 1 (c_X8_value l D cA had N544 z530 (by omega) (RLL_q hR EN544).2.1) gL_same_X8_value rfl (by decide +kernel) ⟨by decide, by decide⟩ (Nat.le_of_ble_eq_true rfl) ⟨by decide, by decide⟩ rfl (by decide) sh_90 rfl rfl dL_same_591 (fun z591 Mc591 q_591 => ?_)
    obtain ⟨Q591, F591⟩ := q_591
    have E591 : eqx M Mc591 E9 := eqx_tr EN544 (eqx_mono F591 (by decide))
    have e_z591 : z591 = rvl M z530 + 1000 := S_val hR EN544 (by omega) Q591
    refine vv_iload X 4 rfl dL_same_594 ?_
    refine vv_aload_n X 7 rfl rfl dL_same_596 ?_
    refine vv_aload_n X 8 rfl rfl dL_same_597 ?_
    refine vv_callSI (As := [.int (zI z530), .ref (ad 105), .ref (ad 106)]) (st := [.int (zI z591)]) X 3 (c_L_value l D cA had Mc591 z530 (by omega) (W_E9 hW E591)) gL_same_L_value rfl (by decide +kernel) ⟨by decide, by decide⟩ (Nat.le_of_ble_eq_true rfl) ⟨by decide, by decide⟩ rfl rfl dL_same_598 (fun z598 Mc598 q_598 => ?_)
    obtain ⟨e_z598, g_z598⟩ := q_598
    have g_z598 := g_z598.symm
    subst g_z598
    rw [rvl_E9 E591] at e_z598
    refine vv_sipush (n := 1000) X (by decide) dL_same_601 ?_
    refine vv_iadd X dL_same_604 ?_
    refine vv_icmp_ne (tgt := 725) X (by omega) (by omega) dL_same_605 (by decide) (fun c_605 => ?_) (fun c_605 => ?_)
    · skip
      omega
    · skip
      refine vv_aload_n X 5 rfl rfl dL_same_608 ?_
      refine vv_iload X 4 rfl dL_same_609 ?_
      refine vv_iconst (n := 0) X dL_same_611 ?_
      refine vv_callVI (As := [.int (zI z530), .int (zI 0)]) (st := []) (Nf := 9) X 2 (c_X8_envelope l D cA had Mc591 z530 0 (by omega) (by omega) (RLL_q hR E591).2.1) gL_same_X8_envelope rfl (by decide +kernel) ⟨by decide, by decide⟩ (Nat.le_of_ble_eq_true rfl) ⟨by decide, by decide⟩ rfl (by decide) sh_90 rfl rfl dL_same_612 (fun z612 Mc612 q_612 => ?_)
      obtain ⟨Q612, F612⟩ := q_612
      have E612 : eqx M Mc612 E9 := eqx_tr E591 (eqx_mono F612 (by decide))
      have e_z612 : z612 = frA (sN (rvl M) z530 lo541 hi541) (sD lo541 hi541) + 10000000 := S_env0 hR E591 (by omega) hB541 Q612
      refine vv_aload X 11 rfl dL_same_615 ?_
      refine vv_iconst (n := 0) X dL_same_617 ?_
      refine vv_iald (z := (N544 109 0)) X (by decide) sh_109 (by decide) (by omega) (show Mc612 109 0 = N544 109 0 from by rw [((F612 109 (by decide)).trans ((F591 109 (by decide)).trans rfl))]) dL_same_618 ?_
      refine vv_ldc (n := 10000000) (v := 10000000) X (by decide +kernel) (by decide) dL_same_619 ?_
      refine vv_iadd X dL_same_621 ?_
      refine vv_icmp_ne (tgt := 725) X (by omega) (by omega) dL_same_622 (by decide) (fun c_622 => ?_) (fun c_622 => ?_)
      · skip
        omega
      · skip
        refine vv_aload_n X 5 rfl rfl dL_same_625 ?_
        refine vv_iload X 4 rfl dL_same_626 ?_
        refine vv_iconst (n := 1) X dL_same_628 ?_
        refine vv_callVI (As := [.int (zI z530), .int (zI 1)]) (st := []) (Nf := 9) X 2 (c_X8_envelope l D cA had Mc612 z530 1 (by omega) (by omega) (RLL_q hR E612).2.1) gL_same_X8_envelope rfl (by decide +kernel) ⟨by decide, by decide⟩ (Nat.le_of_ble_eq_true rfl) ⟨by decide, by decide⟩ rfl (by decide) sh_90 rfl rfl dL_same_629 (fun z629 Mc629 q_629 => ?_)
        obtain ⟨Q629, F629⟩ := q_629
        have E629 : eqx M Mc629 E9 := eqx_tr E612 (eqx_mono F629 (by decide))
        have e_z629 : z629 = frB (sN (rvl M) z530 lo541 hi541) (sD lo541 hi541) := S_env1 hR E612 (by omega) hB541 Q629
        refine vv_aload X 11 rfl dL_same_632 ?_
        refine vv_iconst (n := 1) X dL_same_634 ?_
        refine vv_iald (z := (N544 109 1)) X (by decide) sh_109 (by decide) (by omega) (show Mc629 109 1 = N544 109 1 from by rw [((F629 109 (by decide)).trans ((F612 109 (by decide)).trans ((F591 109 (by decide)).trans rfl)))]) dL_same_635 ?_
        refine vv_icmp_ne (tgt := 725) X (by omega) (by omega) dL_same_636 (by decide) (fun c_636 => ?_) (fun c_636 => ?_)
        · skip
          omega
        · skip
          refine vv_aload_n X 5 rfl rfl dL_same_639 ?_
          refine vv_iload X 4 rfl dL_same_640 ?_
          refine vv_iconst (n := 0) X dL_same_642 ?_
          refine vv_callVI (As := [.int (zI z530), .int (zI 0)]) (st := []) (Nf := 9) X 2 (c_X8_best l D cA had Mc629 z530 0 (by omega) (by omega) (RLL_q hR E629).2.1) gL_same_X8_best rfl (by decide +kernel) ⟨by decide, by decide⟩ (Nat.le_of_ble_eq_true rfl) ⟨by decide, by decide⟩ rfl (by decide) sh_90 rfl rfl dL_same_643 (fun z643 Mc643 q_643 => ?_)
          obtain ⟨Q643, F643⟩ := q_643
          have E643 : eqx M Mc643 E9 := eqx_tr E629 (eqx_mono F643 (by decide))
          have e_z643 : z643 = lo541 := S_bst0 hR E629 (by omega) hB541 Q643
          refine vv_iload X 2 rfl dL_same_646 ?_
          refine vv_icmp_ne (tgt := 725) X (by omega) (by omega) dL_same_648 (by decide) (fun c_648 => ?_) (fun c_648 => ?_)
          · skip
            omega
          · skip
            refine vv_aload_n X 5 rfl rfl dL_same_651 ?_
            refine vv_iload X 4 rfl dL_same_652 ?_
            refine vv_iconst (n := 1) X dL_same_654 ?_
            refine vv_callVI (As := [.int (zI z530), .int (zI 1)]) (st := []) (Nf := 9) X 2 (c_X8_best l D cA had Mc643 z530 1 (by omega) (by omega) (RLL_q hR E643).2.1) gL_same_X8_best rfl (by decide +kernel) ⟨by decide, by decide⟩ (Nat.le_of_ble_eq_true rfl) ⟨by decide, by decide⟩ rfl (by decide) sh_90 rfl rfl dL_same_655 (fun z655 Mc655 q_655 => ?_)
            obtain ⟨Q655, F655⟩ := q_655
            have E655 : eqx M Mc655 E9 := eqx_tr E643 (eqx_mono F655 (by decide))
            have e_z655 : z655 = hi541 := S_bst1 hR E643 (by omega) hB541 Q655
            refine vv_iload X 1 rfl dL_same_658 ?_
            refine vv_icmp_ne (tgt := 725) X (by omega) (by omega) dL_same_660 (by decide) (fun c_660 => ?_) (fun c_660 => ?_)
            · skip
              omega
            · skip
              refine vv_aload_n X 5 rfl rfl dL_same_663 ?_
              refine vv_iload X 4 rfl dL_same_664 ?_
              refine vv_iconst (n := 2) X dL_same_666 ?_
              refine vv_callVI (As := [.int (zI z530), .int (zI 2)]) (st := []) (Nf := 9) X 2 (c_X8_best l D cA had Mc655 z530 2 (by omega) (by omega) (RLL_q hR E655).2.1) gL_same_X8_best rfl (by decide +kernel) ⟨by decide, by decide⟩ (Nat.le_of_ble_eq_true rfl) ⟨by decide, by decide⟩ rfl (by decide) sh_90 rfl rfl dL_same_667 (fun z667 Mc667 q_667 => ?_)
              obtain ⟨Q667, F667⟩ := q_667
              have E667 : eqx M Mc667 E9 := eqx_tr E655 (eqx_mono F667 (by decide))
              have e_z667 : z667 = wLo z530 lo541 hi541 := S_bst2 hR E655 (by omega) hB541 Q667
              have wl9 := wLo_b hB541.1 (show 0 ≤ z530 ∧ z530 ≤ 100 by omega)
              refine vv_iload X 2 rfl dL_same_670 ?_
              refine vv_iload X 1 rfl dL_same_672 ?_
              refine vv_icmp_ne (tgt := 681) X (by omega) (by omega) dL_same_674 (by decide) (fun c_674 => ?_) (fun c_674 => ?_)
              · skip
                omega
              · skip
                refine vv_iconst (n := 1) X dL_same_677 ?_
                refine vv_goto (tgt := 689) X (by decide) dL_same_678 ?_
                have hw2 : wLo z530 lo541 hi541 = 1 := if_pos (by omega)
                refine vv_icmp_ne (tgt := 725) X (by omega) (by omega) dL_same_689 (by decide) (fun c_689 => ?_) (fun c_689 => ?_)
                · skip
                  omega
                · skip
                  refine vv_aload_n X 5 rfl rfl dL_same_692 ?_
                  refine vv_iload X 4 rfl dL_same_693 ?_
                  refine vv_iconst (n := 3) X dL_same_695 ?_
                  refine vv_callVI (As := [.int (zI z530), .int (zI 3)]) (st := []) (Nf := 9) X 2 (c_X8_best l D cA had Mc667 z530 3 (by omega) (by omega) (RLL_q hR E667).2.1) gL_same_X8_best rfl (by decide +kernel) ⟨by decide, by decide⟩ (Nat.le_of_ble_eq_true rfl) ⟨by decide, by decide⟩ rfl (by decide) sh_90 rfl rfl dL_same_696 (fun z696 Mc696 q_696 => ?_)
                  obtain ⟨Q696, F696⟩ := q_696
                  have E696 : eqx M Mc696 E9 := eqx_tr E667 (eqx_mono F696 (by decide))
                  have e_z696 : z696 = wHi z530 lo541 hi541 := S_bst3 hR E667 (by omega) hB541 Q696
                  have wh9 := wHi_b hB541.1 (show 0 ≤ z530 ∧ z530 ≤ 100 by omega)
                  refine vv_iload X 2 rfl dL_same_699 ?_
                  refine vv_iload X 1 rfl dL_same_701 ?_
                  refine vv_icmp_ne (tgt := 710) X (by omega) (by omega) dL_same_703 (by decide) (fun c_703 => ?_) (fun c_703 => ?_)
                  · skip
                    omega
                  · skip
                    refine vv_iconst (n := 0) X dL_same_706 ?_
                    refine vv_goto (tgt := 718) X (by decide) dL_same_707 ?_
                    have hw3 : wHi z530 lo541 hi541 = 0 := if_pos (by omega)
                    refine vv_icmp_ne (tgt := 725) X (by omega) (by omega) dL_same_718 (by decide) (fun c_718 => ?_) (fun c_718 => ?_)
                    · skip
                      omega
                    · skip
                      refine vv_iconst (n := 1) X dL_same_721 ?_
                      refine vv_goto (tgt := 726) X (by decide) dL_same_722 ?_
                      exact vv_zret X hm (by omega) (⟨rfl, E696⟩) dL_same_726
