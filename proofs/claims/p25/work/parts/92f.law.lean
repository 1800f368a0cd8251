set_option maxRecDepth 100000 in
set_option maxHeartbeats 4000000 in
theorem law_joinw1 {p : Program} {l : Launch} {e : Env} {s : State} {m : MethodId} {below : List Frame} {meth : Method} {c : Code} {D : va_G} {ad : Nat → Nat} {cA : Nat → ClassId} {b : Nat} (X : Cx p s m #[Value.ref b] c cL_law RL 19 wsL_law D ad cA (AL s)) {i x jw jm : Int} {kz : Nat} (M : Mem) (hR : RLL M) (hk : 0 ≤ (kz : Int) ∧ (kz : Int) < M 105 2) (hnk : (kz : Int) + 1 < M 105 2) (hjw : jw = M 107 kz + M 107 (kz + 1)) (hjm : jm = M 107 kz * M 108 kz + M 107 (kz + 1) * M 108 (kz + 1)) (hbw : 2 ≤ jw ∧ jw ≤ 1998) (hbm : 0 ≤ jm ∧ jm ≤ 100 * jw) (hwh : jm.tmod jw = 0) (nx : ∀ M2 : Mem, RLL M2 → VV p l e room_1 s m #[Value.ref b] below meth c 19 D ad cA (AL s) 113 940 (lw_Z below #[Value.ref b] s) M2 1029 [(0, .ref b), (1, .ref (ad 90)), (2, .ref (ad 105)), (3, .ref (ad 106)), (4, .ref (ad 107)), (5, .ref (ad 108)), (6, .ref (ad 109)), (7, .ref (ad 110)), (8, .ref (ad 111)), (9, .ref (ad 112)), (10, .int (zI i)), (11, .int (zI x))] []) : VV p l e room_1 s m #[Value.ref b] below meth c 19 D ad cA (AL s) 113 940 (lw_Z below #[Value.ref b] s) M 704 [(0, .ref b), (1, .ref (ad 90)), (2, .ref (ad 105)), (3, .ref (ad 106)), (4, .ref (ad 107)), (5, .ref (ad 108)), (6, .ref (ad 109)), (7, .ref (ad 110)), (8, .ref (ad 111)), (9, .ref (ad 112)), (10, .int (zI i)), (11, .int (zI x)), (13, .int (zI (kz : Int))), (14, .int (zI 1)), (15, .int (zI jw)), (16, .int (zI jm)), (17, .int (zI 1))] [] := by
  have had := X.2.2.2.1
  have hwl := RLL_wl hR
  have hW : rWR M := hwl.2.1
  have h5 := hW.2.1
  have h50 := hW.1
  have hsm : 1 ≤ M 105 2 ∧ M 105 2 ≤ 6 := WFs_pos hwl.2.2
  have hwb : ∀ k : Nat, (k : Int) < M 105 2 → (1 ≤ M 107 k ∧ M 107 k ≤ 999) ∧ (0 ≤ M 108 k ∧ M 108 k ≤ 100) := fun k hk => WFs_b hwl.2.2 hk
  have hp9 : 1 ≤ M 105 0 ∧ M 105 0 ≤ 99 := hwl.1
  have hwJ : (jnM (vL M) ((kz : Int)).toNat).tmod (jnW (vL M) ((kz : Int)).toNat) = 0 := by
    show (M 107 kz * M 108 kz + M 107 (kz + 1) * M 108 (kz + 1)).tmod (M 107 kz + M 107 (kz + 1)) = 0
    rw [← hjm, ← hjw]
    exact hwh
  have hmd := tdiv_rng (s := jm) (a := jw) (by omega) (by omega)
  refine vv_iconst (n := 0) X dL_law_704 ?_
  refine vv_istore (lv' := [(18, .int (zI 0)), (0, .ref b), (1, .ref (ad 90)), (2, .ref (ad 105)), (3, .ref (ad 106)), (4, .ref (ad 107)), (5, .ref (ad 108)), (6, .ref (ad 109)), (7, .ref (ad 110)), (8, .ref (ad 111)), (9, .ref (ad 112)), (10, .int (zI i)), (11, .int (zI x)), (13, .int (zI (kz : Int))), (14, .int (zI 1)), (15, .int (zI jw)), (16, .int (zI jm)), (17, .int (zI 1))]) X (by decide) rfl dL_law_705 ?_
  have loop_707 : ∀ (n : Nat) (M_707 : Mem) (k : Nat) (i18 : Int), i18 = (k : Int) → (k : Int) ≤ M 105 2 → eqx M M_707 [110, 111] → (∀ q : Nat, q < k → M_707 110 q = M 107 q ∧ M_707 111 q = if q = kz ∨ q = kz + 1 then jm.tdiv jw else M 108 q) → (M 105 2 - i18).toNat < n → VV p l e room_1 s m #[Value.ref b] below meth c 19 D ad cA (AL s) 113 940 (lw_Z below #[Value.ref b] s) M_707 707 [(0, .ref b), (1, .ref (ad 90)), (2, .ref (ad 105)), (3, .ref (ad 106)), (4, .ref (ad 107)), (5, .ref (ad 108)), (6, .ref (ad 109)), (7, .ref (ad 110)), (8, .ref (ad 111)), (9, .ref (ad 112)), (10, .int (zI i)), (11, .int (zI x)), (13, .int (zI (kz : Int))), (14, .int (zI 1)), (15, .int (zI jw)), (16, .int (zI jm)), (17, .int (zI 1)), (18, .int (zI i18))] [] := by
    intro n
    induction n with
    | zero => intro M_707 k i18 l18 lk lE lj hn; exact absurd hn (Nat.not_lt_zero _)
    | succ n ih_707 =>
      intro M_707 k i18 l18 lk lE lj hn
      have e_707_105 : M_707 105 = M 105 := lE 105 (by decide)
      have e_707_106 : M_707 106 = M 106 := lE 106 (by decide)
      have e_707_107 : M_707 107 = M 107 := lE 107 (by decide)
      have e_707_108 : M_707 108 = M 108 := lE 108 (by decide)
      have i18n : i18.toNat = k := by omega
      refine vv_iload X 17 rfl dL_law_707 ?_
      refine vv_aload_n X 2 rfl rfl dL_law_709 ?_
      refine vv_iconst (n := 2) X dL_law_710 ?_
      refine vv_iald (z := (M 105 2)) X (by decide) sh_105 (by decide) (by omega) (show M_707 105 2 = M 105 2 from by rw [e_707_105]) dL_law_711 ?_
      refine vv_icmp_ge (tgt := 770) X (by omega) (by omega) dL_law_712 (by decide) (fun c_712 => ?_) (fun c_712 => ?_)
      · skip
        have cl_707 : ∀ a, a < 105 → M_707 a = M a := fun a ha => lE a (by simp; omega)
        have ekk : k = (M 105 2).toNat := by omega
        refine vv_aload_n X 2 rfl rfl dL_law_770 ?_
        refine vv_iconst (n := 2) X dL_law_771 ?_
        refine vv_iald (z := (M 105 2)) X (by decide) sh_105 (by decide) (by omega) (show M_707 105 2 = M 105 2 from by rw [e_707_105]) dL_law_772 ?_
        refine vv_aload X 7 rfl dL_law_773 ?_
        refine vv_aload X 8 rfl dL_law_775 ?_
        refine vv_aload X 9 rfl dL_law_777 ?_
        refine vv_callSI (As := [.int (zI (M 105 2)), .ref (ad 110), .ref (ad 111), .ref (ad 112)]) (st := []) X 4 (c_L_tidy l D cA had M_707 (M 105 2) (by omega) (fun q hq => by
            have h9 := hwb q hq
            have e9 := lj q (by omega)
            rw [e9.1, e9.2]
            exact ⟨⟨by omega, by omega⟩, by split <;> omega⟩)) gL_law_L_tidy rfl (by decide +kernel) ⟨by decide, by decide⟩ (Nat.le_of_ble_eq_true rfl) ⟨Nat.le_of_ble_eq_true rfl, Nat.le_of_ble_eq_true rfl⟩ rfl rfl dL_law_779 (fun z779 Mc779 q_779 => ?_)
        obtain ⟨T779, G779, S779, B779⟩ := q_779
        have cl_Mc779 : ∀ a, a < 105 → Mc779 a = M a := fun a ha => (G779 a (by simp; omega)).trans (cl_707 a ha)
        have hz01 : z779 = 0 ∨ z779 = 1 := by rcases T779 with q | q <;> omega
        have hred : ∀ j, j < 101 → red (SF (M_707 110) (M_707 111) (M 105 2).toNat) j = red (jnF (vL M) kz) j := fun j hj => red_cong (fun q _ => by
          have e1 := SF_jF (w := M 107) (p := M 108) (W := M_707 110) (Q := M_707 111) (x := kz) (n := (M 105 2).toNat) (md := jm.tdiv jw) (fun i9 hi9 => lj i9 (by omega)) q (M 105 2).toNat (Nat.le_refl _)
          rw [if_pos (show kz < (M 105 2).toNat by omega), if_pos (show kz + 1 < (M 105 2).toNat by omega)] at e1
          have e2 := jF_jn (c := vL M) (x := kz) (show kz + 1 < (M 105 2).toNat by omega) q
          rw [← e2]
          show (SF (M_707 110) (M_707 111) (M 105 2).toNat) q = jF (M 107) (M 108) kz ((M 107 kz * M 108 kz + M 107 (kz + 1) * M 108 (kz + 1)).tdiv (M 107 kz + M 107 (kz + 1))) (M 107 kz + M 107 (kz + 1)) (M 105 2).toNat q
          rw [← hjm, ← hjw]
          rw [← hjw] at e1
          rw [← e1]
          split <;> omega) hj
        refine vv_istore (lv' := [(18, .int (zI z779)), (0, .ref b), (1, .ref (ad 90)), (2, .ref (ad 105)), (3, .ref (ad 106)), (4, .ref (ad 107)), (5, .ref (ad 108)), (6, .ref (ad 109)), (7, .ref (ad 110)), (8, .ref (ad 111)), (9, .ref (ad 112)), (10, .int (zI i)), (11, .int (zI x)), (13, .int (zI (kz : Int))), (14, .int (zI 1)), (15, .int (zI jw)), (16, .int (zI jm)), (17, .int (zI 1))]) X (by decide) rfl dL_law_782 ?_
        refine vv_aload_n X 2 rfl rfl dL_law_784 ?_
        refine vv_iload X 13 rfl dL_law_785 ?_
        refine vv_callVI (As := [.int (zI (kz : Int))]) (st := []) (Nf := 9) X 1 (c_X8_join l D cA had Mc779 (kz : Int) (by omega) (HI_c hR.2.2 cl_Mc779) (WF_c hR.2.1 cl_Mc779)) gL_law_X8_join rfl (by decide +kernel) ⟨by decide, by decide⟩ (Nat.le_of_ble_eq_true rfl) ⟨Nat.le_of_ble_eq_true rfl, Nat.le_of_ble_eq_true rfl⟩ rfl (by decide) sh_90 rfl rfl dL_law_787 (fun z787 Mc787 q_787 => ?_)
        obtain ⟨⟨o787, _, _, hi787, kp787, _⟩, _⟩ := q_787
        rw [vC_c cl_Mc779] at o787
        refine vv_iload X 14 rfl dL_law_790 ?_
        refine vv_if_ne (tgt := 799) X (by omega) dL_law_792 (by decide) (fun c_792 => ?_) (fun c_792 => ?_)
        · skip
          refine vv_iload X 17 rfl dL_law_799 ?_
          refine vv_if_ne (tgt := 809) X (by omega) dL_law_801 (by decide) (fun c_801 => ?_) (fun c_801 => ?_)
          · skip
            refine vv_iload X 0 rfl dL_law_809 ?_
            refine vv_if_eq (tgt := 822) X (by omega) dL_law_811 (by decide) (fun c_811 => ?_) (fun c_811 => ?_)
            · skip
              have hnok : ¬ okF (red (SF (M_707 110) (M_707 111) (M 105 2).toNat)) := fun w => by
                rcases T779 with q | q
                · omega
                · exact q.1 w
              obtain ⟨ez, eA, eW⟩ := det_Jn hR.1 hR.2.1 o787 (law_J2 (c := vL M) (x := (kz : Int)) ⟨by omega, hnk⟩ hwJ (law_F0 hred hnok))
              refine vv_bipush (n := (-4)) X (by decide) dL_law_822 ?_
              refine vv_icmp_eq (tgt := 829) X (by omega) (by omega) dL_law_824 (by decide) (fun c_824 => ?_) (fun c_824 => ?_)
              · skip
                refine vv_iload X 14 rfl dL_law_829 ?_
                refine vv_if_eq (tgt := 854) X (by omega) dL_law_831 (by decide) (fun c_831 => ?_) (fun c_831 => ?_)
                · skip
                  exact absurd c_831 (by decide)
                · skip
                  refine vv_iload X 17 rfl dL_law_834 ?_
                  refine vv_if_eq (tgt := 854) X (by omega) dL_law_836 (by decide) (fun c_836 => ?_) (fun c_836 => ?_)
                  · skip
                    exact absurd c_836 (by decide)
                  · skip
                    refine vv_iload X 0 rfl dL_law_839 ?_
                    refine vv_if_eq (tgt := 854) X (by omega) dL_law_841 (by decide) (fun c_841 => ?_) (fun c_841 => ?_)
                    · skip
                      refine vv_goto (tgt := 1029) X (by decide) dL_law_854 ?_
                      refine vv_sub (lv' := [(0, .ref b), (1, .ref (ad 90)), (2, .ref (ad 105)), (3, .ref (ad 106)), (4, .ref (ad 107)), (5, .ref (ad 108)), (6, .ref (ad 109)), (7, .ref (ad 110)), (8, .ref (ad 111)), (9, .ref (ad 112)), (10, .int (zI i)), (11, .int (zI x))]) [1, 2, 3, 4, 5, 6, 7, 8, 9, 10, 11, 12] rfl ?_
                      exact nx _ (RLL_of hi787 eW eA (fun _ _ => rfl) (vL_k ((kp787 105 (by omega)).trans ((G779 105 (by decide)).trans e_707_105)) ((kp787 106 (by omega)).trans ((G779 106 (by decide)).trans e_707_106)) ((kp787 107 (by omega)).trans ((G779 107 (by decide)).trans e_707_107)) ((kp787 108 (by omega)).trans ((G779 108 (by decide)).trans e_707_108))))
                    · skip
                      omega
              · skip
                omega
            · skip
              have hok : okF (red (SF (M_707 110) (M_707 111) (M 105 2).toNat)) := by
                rcases T779 with q | q
                · exact q.1
                · omega
              obtain ⟨ez, eA, eW⟩ := det_Jn hR.1 hR.2.1 o787 (law_J2 (c := vL M) (x := (kz : Int)) ⟨by omega, hnk⟩ hwJ (law_F1 hred hok S779))
              refine vv_aload X 10 rfl dL_law_814 ?_
              refine vv_bipush (n := 16) X (by decide) dL_law_816 ?_
              refine vv_iald (z := (Mc779 112 16)) X (by decide) sh_112 (by decide) (by omega) (show Mc787 112 16 = Mc779 112 16 from by rw [(kp787 112 (by omega))]) dL_law_818 ?_
              refine vv_goto (tgt := 824) X (by decide) dL_law_819 ?_
              refine vv_icmp_eq (tgt := 829) X (by omega) (by omega) dL_law_824 (by decide) (fun c_824 => ?_) (fun c_824 => ?_)
              · skip
                refine vv_iload X 14 rfl dL_law_829 ?_
                refine vv_if_eq (tgt := 854) X (by omega) dL_law_831 (by decide) (fun c_831 => ?_) (fun c_831 => ?_)
                · skip
                  exact absurd c_831 (by decide)
                · skip
                  refine vv_iload X 17 rfl dL_law_834 ?_
                  refine vv_if_eq (tgt := 854) X (by omega) dL_law_836 (by decide) (fun c_836 => ?_) (fun c_836 => ?_)
                  · skip
                    exact absurd c_836 (by decide)
                  · skip
                    refine vv_iload X 0 rfl dL_law_839 ?_
                    refine vv_if_eq (tgt := 854) X (by omega) dL_law_841 (by decide) (fun c_841 => ?_) (fun c_841 => ?_)
                    · skip
                      omega
                    · skip
                      refine vv_aload X 10 rfl dL_law_844 ?_
                      refine vv_aload_n X 3 rfl rfl dL_law_846 ?_
                      refine vv_aload X 5 rfl dL_law_847 ?_
                      refine vv_aload X 6 rfl dL_law_849 ?_
                      refine vv_callSV (As := [.ref (ad 112), .ref (ad 105), .ref (ad 107), .ref (ad 108)]) (st := []) X 4 (c_L_take l D cA had Mc787 (by rw [kp787 112 (by omega)]; omega)) gL_law_L_take rfl (by decide +kernel) ⟨by decide, by decide⟩ (Nat.le_of_ble_eq_true rfl) ⟨Nat.le_of_ble_eq_true rfl, Nat.le_of_ble_eq_true rfl⟩ rfl rfl dL_law_851 (fun Mc851 q_851 => ?_)
                      obtain ⟨A851, U851, J851⟩ := q_851
                      refine vv_goto (tgt := 1029) X (by decide) dL_law_854 ?_
                      refine vv_sub (lv' := [(0, .ref b), (1, .ref (ad 90)), (2, .ref (ad 105)), (3, .ref (ad 106)), (4, .ref (ad 107)), (5, .ref (ad 108)), (6, .ref (ad 109)), (7, .ref (ad 110)), (8, .ref (ad 111)), (9, .ref (ad 112)), (10, .int (zI i)), (11, .int (zI x))]) [1, 2, 3, 4, 5, 6, 7, 8, 9, 10, 11, 12] rfl ?_
                      exact nx _ (RLL_of hi787 eW eA (fun a ha => A851 a (by simp; omega)) (prt_L (M := M) (m := Mc779 112 16) (by rw [U851, ((kp787 105 (by omega)).trans ((G779 105 (by decide)).trans e_707_105)), kp787 112 (by omega)]) ((A851 106 (by decide)).trans ((kp787 106 (by omega)).trans ((G779 106 (by decide)).trans e_707_106))) (fun k9 hk9 => by
                        obtain ⟨q1, q2⟩ := J851 k9 (by rw [kp787 112 (by omega)]; exact hk9)
                        rw [kp787 112 (by omega)] at q1 q2
                        exact ⟨q1.symm, q2.symm⟩)))
              · skip
                omega
          · skip
            exact absurd c_801 (by decide)
        · skip
          exact absurd c_792 (by decide)
      · skip
        refine vv_aload X 7 rfl dL_law_715 ?_
        refine vv_iload X 17 rfl dL_law_717 ?_
        refine vv_aload X 4 rfl dL_law_719 ?_
        refine vv_iload X 17 rfl dL_law_721 ?_
        refine vv_iald (z := (M 107 k)) X (by decide) sh_107 (by decide) (by omega) (by first | (rw [i18n]; done) | (rw [i18n]; exact (show M_707 107 k = M 107 k from by rw [e_707_107]))) dL_law_723 ?_
        refine vv_iast (ix := k) X (by decide) sh_110 (by decide) (by omega) (i18n) dL_law_724 ?_
        refine vv_aload X 8 rfl dL_law_725 ?_
        refine vv_iload X 17 rfl dL_law_727 ?_
        refine vv_iload X 13 rfl dL_law_729 ?_
        refine vv_if_eq (tgt := 758) X (by omega) dL_law_731 (by decide) (fun c_731 => ?_) (fun c_731 => ?_)
        · skip
          exact absurd c_731 (by decide)
        · skip
          refine vv_iload X 17 rfl dL_law_734 ?_
          refine vv_iload X 12 rfl dL_law_736 ?_
          refine vv_icmp_eq (tgt := 750) X (by omega) (by omega) dL_law_738 (by decide) (fun c_738 => ?_) (fun c_738 => ?_)
          · skip
            refine vv_iload X 15 rfl dL_law_750 ?_
            refine vv_iload X 14 rfl dL_law_752 ?_
            skip
            refine vv_idiv X (by omega) (by omega) (by omega) dL_law_754 ?_
            refine vv_goto (tgt := 763) X (by decide) dL_law_755 ?_
            refine vv_iast (ix := k) X (by decide) sh_111 (by decide) (by omega) (i18n) dL_law_763 ?_
            refine vv_iinc (lv' := [(18, .int (zI (i18 + 1))), (0, .ref b), (1, .ref (ad 90)), (2, .ref (ad 105)), (3, .ref (ad 106)), (4, .ref (ad 107)), (5, .ref (ad 108)), (6, .ref (ad 109)), (7, .ref (ad 110)), (8, .ref (ad 111)), (9, .ref (ad 112)), (10, .int (zI i)), (11, .int (zI x)), (13, .int (zI (kz : Int))), (14, .int (zI 1)), (15, .int (zI jw)), (16, .int (zI jm)), (17, .int (zI 1))]) X 17 rfl (by decide) rfl dL_law_764 ?_
            refine vv_goto (tgt := 707) X (by decide) dL_law_767 ?_
            refine vv_sub (lv' := [(0, .ref b), (1, .ref (ad 90)), (2, .ref (ad 105)), (3, .ref (ad 106)), (4, .ref (ad 107)), (5, .ref (ad 108)), (6, .ref (ad 109)), (7, .ref (ad 110)), (8, .ref (ad 111)), (9, .ref (ad 112)), (10, .int (zI i)), (11, .int (zI x)), (13, .int (zI (kz : Int))), (14, .int (zI 1)), (15, .int (zI jw)), (16, .int (zI jm)), (17, .int (zI 1)), (18, .int (zI (i18 + 1)))]) [1, 2, 3, 4, 5, 6, 7, 8, 9, 10, 11, 12, 13, 14, 15, 16, 17, 0] rfl ?_
            exact ih_707 (up2 (up2 M_707 110 k (M 107 k)) 111 k (Int.tdiv jm jw)) (k + 1) (i18 + 1) (by omega) (by omega) (eqx_up _ _ (eqx_up _ _ lE (by decide)) (by decide)) (fun q hq => by
              show uz (M_707 110) k _ q = _ ∧ uz (M_707 111) k _ q = _
              rcases (show q < k ∨ q = k by omega) with w | w
              · rw [uz_n _ _ (by omega), uz_n _ _ (by omega)]
                exact lj q w
              · subst w
                rw [uz_s, uz_s]
                exact ⟨rfl, (if_pos (by omega)).symm⟩) (by omega)
          · skip
            refine vv_iload X 17 rfl dL_law_741 ?_
            refine vv_iload X 12 rfl dL_law_743 ?_
            refine vv_iconst (n := 1) X dL_law_745 ?_
            refine vv_iadd X dL_law_746 ?_
            refine vv_icmp_ne (tgt := 758) X (by omega) (by omega) dL_law_747 (by decide) (fun c_747 => ?_) (fun c_747 => ?_)
            · skip
              refine vv_aload X 5 rfl dL_law_758 ?_
              refine vv_iload X 17 rfl dL_law_760 ?_
              refine vv_iald (z := (M 108 k)) X (by decide) sh_108 (by decide) (by omega) (by first | (rw [i18n]; done) | (rw [i18n]; exact (show M_707 108 k = M 108 k from by rw [e_707_108]))) dL_law_762 ?_
              refine vv_iast (ix := k) X (by decide) sh_111 (by decide) (by omega) (i18n) dL_law_763 ?_
              refine vv_iinc (lv' := [(18, .int (zI (i18 + 1))), (0, .ref b), (1, .ref (ad 90)), (2, .ref (ad 105)), (3, .ref (ad 106)), (4, .ref (ad 107)), (5, .ref (ad 108)), (6, .ref (ad 109)), (7, .ref (ad 110)), (8, .ref (ad 111)), (9, .ref (ad 112)), (10, .int (zI i)), (11, .int (zI x)), (13, .int (zI (kz : Int))), (14, .int (zI 1)), (15, .int (zI jw)), (16, .int (zI jm)), (17, .int (zI 1))]) X 17 rfl (by decide) rfl dL_law_764 ?_
              refine vv_goto (tgt := 707) X (by decide) dL_law_767 ?_
              refine vv_sub (lv' := [(0, .ref b), (1, .ref (ad 90)), (2, .ref (ad 105)), (3, .ref (ad 106)), (4, .ref (ad 107)), (5, .ref (ad 108)), (6, .ref (ad 109)), (7, .ref (ad 110)), (8, .ref (ad 111)), (9, .ref (ad 112)), (10, .int (zI i)), (11, .int (zI x)), (13, .int (zI (kz : Int))), (14, .int (zI 1)), (15, .int (zI jw)), (16, .int (zI jm)), (17, .int (zI 1)), (18, .int (zI (i18 + 1)))]) [1, 2, 3, 4, 5, 6, 7, 8, 9, 10, 11, 12, 13, 14, 15, 16, 17, 0] rfl ?_
              exact ih_707 (up2 (up2 M_707 110 k (M 107 k)) 111 k (M 108 k)) (k + 1) (i18 + 1) (by omega) (by omega) (eqx_up _ _ (eqx_up _ _ lE (by decide)) (by decide)) (fun q hq => by
                show uz (M_707 110) k _ q = _ ∧ uz (M_707 111) k _ q = _
                rcases (show q < k ∨ q = k by omega) with w | w
                · rw [uz_n _ _ (by omega), uz_n _ _ (by omega)]
                  exact lj q w
                · subst w
                  rw [uz_s, uz_s]
                  exact ⟨rfl, (if_neg (by omega)).symm⟩) (by omega)
            · skip
              refine vv_iload X 15 rfl dL_law_750 ?_
              refine vv_iload X 14 rfl dL_law_752 ?_
              skip
              refine vv_idiv X (by omega) (by omega) (by omega) dL_law_754 ?_
              refine vv_goto (tgt := 763) X (by decide) dL_law_755 ?_
              refine vv_iast (ix := k) X (by decide) sh_111 (by decide) (by omega) (i18n) dL_law_763 ?_
              refine vv_iinc (lv' := [(18, .int (zI (i18 + 1))), (0, .ref b), (1, .ref (ad 90)), (2, .ref (ad 105)), (3, .ref (ad 106)), (4, .ref (ad 107)), (5, .ref (ad 108)), (6, .ref (ad 109)), (7, .ref (ad 110)), (8, .ref (ad 111)), (9, .ref (ad 112)), (10, .int (zI i)), (11, .int (zI x)), (13, .int (zI (kz : Int))), (14, .int (zI 1)), (15, .int (zI jw)), (16, .int (zI jm)), (17, .int (zI 1))]) X 17 rfl (by decide) rfl dL_law_764 ?_
              refine vv_goto (tgt := 707) X (by decide) dL_law_767 ?_
              refine vv_sub (lv' := [(0, .ref b), (1, .ref (ad 90)), (2, .ref (ad 105)), (3, .ref (ad 106)), (4, .ref (ad 107)), (5, .ref (ad 108)), (6, .ref (ad 109)), (7, .ref (ad 110)), (8, .ref (ad 111)), (9, .ref (ad 112)), (10, .int (zI i)), (11, .int (zI x)), (13, .int (zI (kz : Int))), (14, .int (zI 1)), (15, .int (zI jw)), (16, .int (zI jm)), (17, .int (zI 1)), (18, .int (zI (i18 + 1)))]) [1, 2, 3, 4, 5, 6, 7, 8, 9, 10, 11, 12, 13, 14, 15, 16, 17, 0] rfl ?_
              exact ih_707 (up2 (up2 M_707 110 k (M 107 k)) 111 k (Int.tdiv jm jw)) (k + 1) (i18 + 1) (by omega) (by omega) (eqx_up _ _ (eqx_up _ _ lE (by decide)) (by decide)) (fun q hq => by
                show uz (M_707 110) k _ q = _ ∧ uz (M_707 111) k _ q = _
                rcases (show q < k ∨ q = k by omega) with w | w
                · rw [uz_n _ _ (by omega), uz_n _ _ (by omega)]
                  exact lj q w
                · subst w
                  rw [uz_s, uz_s]
                  exact ⟨rfl, (if_pos (by omega)).symm⟩) (by omega)
  refine vv_sub (lv' := [(0, .ref b), (1, .ref (ad 90)), (2, .ref (ad 105)), (3, .ref (ad 106)), (4, .ref (ad 107)), (5, .ref (ad 108)), (6, .ref (ad 109)), (7, .ref (ad 110)), (8, .ref (ad 111)), (9, .ref (ad 112)), (10, .int (zI i)), (11, .int (zI x)), (13, .int (zI (kz : Int))), (14, .int (zI 1)), (15, .int (zI jw)), (16, .int (zI jm)), (17, .int (zI 1)), (18, .int (zI 0))]) [1, 2, 3, 4, 5, 6, 7, 8, 9, 10, 11, 12, 13, 14, 15, 16, 17, 0] rfl ?_
  exact loop_707 _ M 0 0 rfl (by omega) (eqx_rf _ _) (fun q hq => absurd hq (by omega)) (Nat.lt_succ_self _)
