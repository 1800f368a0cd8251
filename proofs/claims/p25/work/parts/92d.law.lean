set_option maxRecDepth 100000 in
set_option maxHeartbeats 4000000 in
theorem law_refine {p : Program} {l : Launch} {e : Env} {s : State} {m : MethodId} {below : List Frame} {meth : Method} {c : Code} {D : va_G} {ad : Nat → Nat} {cA : Nat → ClassId} {b : Nat} (X : Cx p s m #[Value.ref b] c cL_law RL 19 wsL_law D ad cA (AL s)) {i x : Int} (M : Mem) (hR : RLL M) (nx : ∀ M2 : Mem, RLL M2 → VV p l e room_1 s m #[Value.ref b] below meth c 19 D ad cA (AL s) 113 940 (lw_Z below #[Value.ref b] s) M2 1029 [(0, .ref b), (1, .ref (ad 90)), (2, .ref (ad 105)), (3, .ref (ad 106)), (4, .ref (ad 107)), (5, .ref (ad 108)), (6, .ref (ad 109)), (7, .ref (ad 110)), (8, .ref (ad 111)), (9, .ref (ad 112)), (10, .int (zI i)), (11, .int (zI x))] []) : VV p l e room_1 s m #[Value.ref b] below meth c 19 D ad cA (AL s) 113 940 (lw_Z below #[Value.ref b] s) M 345 [(0, .ref b), (1, .ref (ad 90)), (2, .ref (ad 105)), (3, .ref (ad 106)), (4, .ref (ad 107)), (5, .ref (ad 108)), (6, .ref (ad 109)), (7, .ref (ad 110)), (8, .ref (ad 111)), (9, .ref (ad 112)), (10, .int (zI i)), (11, .int (zI x))] [] := by
  have had := X.2.2.2.1
  have hwl := RLL_wl hR
  have hW : rWR M := hwl.2.1
  have h5 := hW.2.1
  have h50 := hW.1
  have hsm : 1 ≤ M 105 2 ∧ M 105 2 ≤ 6 := WFs_pos hwl.2.2
  have hwb : ∀ k : Nat, (k : Int) < M 105 2 → (1 ≤ M 107 k ∧ M 107 k ≤ 999) ∧ (0 ≤ M 108 k ∧ M 108 k ≤ 100) := fun k hk => WFs_b hwl.2.2 hk
  have hp9 : 1 ≤ M 105 0 ∧ M 105 0 ≤ 99 := hwl.1
  refine vv_iload X 11 rfl dL_law_345 ?_
  refine vv_iconst (n := 3) X dL_law_347 ?_
  obtain ⟨v348, hv348, ev348⟩ := any32 (zI x >>> (zI 3 &&& 31))
  refine vv_ishr (a := v348) X (ev348) dL_law_348 ?_
  refine vv_aload_n X 2 rfl rfl dL_law_349 ?_
  refine vv_iconst (n := 2) X dL_law_350 ?_
  refine vv_iald (z := (M 105 2)) X (by decide) sh_105 (by decide) (by omega) (rfl) dL_law_351 ?_
  refine vv_callSI (As := [.int (zI v348), .int (zI (M 105 2))]) (st := []) X 2 (c_L_low l D cA had M v348 (M 105 2) (by omega)) gL_law_L_low rfl (by decide +kernel) ⟨by decide, by decide⟩ (Nat.le_of_ble_eq_true rfl) ⟨Nat.le_of_ble_eq_true rfl, Nat.le_of_ble_eq_true rfl⟩ rfl rfl dL_law_352 (fun z352 Mc352 q_352 => ?_)
  obtain ⟨e_z352, g_z352⟩ := q_352
  have g_z352 := g_z352.symm
  subst g_z352
  refine vv_istore (lv' := [(13, .int (zI z352)), (0, .ref b), (1, .ref (ad 90)), (2, .ref (ad 105)), (3, .ref (ad 106)), (4, .ref (ad 107)), (5, .ref (ad 108)), (6, .ref (ad 109)), (7, .ref (ad 110)), (8, .ref (ad 111)), (9, .ref (ad 112)), (10, .int (zI i)), (11, .int (zI x))]) X (by decide) rfl dL_law_355 ?_
  have hk2 := hwb z352.toNat (by omega)
  refine vv_iload X 12 rfl dL_law_357 ?_
  refine vv_bipush (n := 6) X (by decide) dL_law_359 ?_
  obtain ⟨v361, hv361, ev361⟩ := any32 (zI x >>> (zI 6 &&& 31))
  refine vv_ishr (a := v361) X (ev361) dL_law_361 ?_
  refine vv_aload X 6 rfl dL_law_362 ?_
  refine vv_iload X 0 rfl dL_law_364 ?_
  refine vv_iald (z := (M 108 (Int.toNat z352))) X (by decide) sh_108 (by decide) (by omega) (rfl) dL_law_366 ?_
  refine vv_iconst (n := 1) X dL_law_367 ?_
  refine vv_iadd X dL_law_368 ?_
  refine vv_callSI (As := [.int (zI v361), .int (zI ((M 108 (Int.toNat z352)) + 1))]) (st := []) X 2 (c_L_low l D cA had M v361 ((M 108 (Int.toNat z352)) + 1) (by omega)) gL_law_L_low rfl (by decide +kernel) ⟨by decide, by decide⟩ (Nat.le_of_ble_eq_true rfl) ⟨Nat.le_of_ble_eq_true rfl, Nat.le_of_ble_eq_true rfl⟩ rfl rfl dL_law_369 (fun z369 Mc369 q_369 => ?_)
  obtain ⟨e_z369, g_z369⟩ := q_369
  have g_z369 := g_z369.symm
  subst g_z369
  refine vv_istore (lv' := [(14, .int (zI z369)), (13, .int (zI z352)), (0, .ref b), (1, .ref (ad 90)), (2, .ref (ad 105)), (3, .ref (ad 106)), (4, .ref (ad 107)), (5, .ref (ad 108)), (6, .ref (ad 109)), (7, .ref (ad 110)), (8, .ref (ad 111)), (9, .ref (ad 112)), (10, .int (zI i)), (11, .int (zI x))]) X (by decide) rfl dL_law_372 ?_
  refine vv_aload X 7 rfl dL_law_374 ?_
  refine vv_iload X 1 rfl dL_law_376 ?_
  refine vv_iald (z := (M 108 (Int.toNat z352))) X (by decide) sh_108 (by decide) (by omega) (rfl) dL_law_378 ?_
  refine vv_iload X 13 rfl dL_law_379 ?_
  refine vv_bipush (n := 12) X (by decide) dL_law_381 ?_
  obtain ⟨v383, hv383, ev383⟩ := any32 (zI x >>> (zI 12 &&& 31))
  refine vv_ishr (a := v383) X (ev383) dL_law_383 ?_
  refine vv_bipush (n := 101) X (by decide) dL_law_384 ?_
  refine vv_aload X 7 rfl dL_law_386 ?_
  refine vv_iload X 1 rfl dL_law_388 ?_
  refine vv_iald (z := (M 108 (Int.toNat z352))) X (by decide) sh_108 (by decide) (by omega) (rfl) dL_law_390 ?_
  refine vv_isub X dL_law_391 ?_
  refine vv_callSI (As := [.int (zI v383), .int (zI (101 - (M 108 (Int.toNat z352))))]) (st := [.int (zI (M 108 (Int.toNat z352)))]) X 2 (c_L_low l D cA had M v383 (101 - (M 108 (Int.toNat z352))) (by omega)) gL_law_L_low rfl (by decide +kernel) ⟨by decide, by decide⟩ (Nat.le_of_ble_eq_true rfl) ⟨Nat.le_of_ble_eq_true rfl, Nat.le_of_ble_eq_true rfl⟩ rfl rfl dL_law_392 (fun z392 Mc392 q_392 => ?_)
  obtain ⟨e_z392, g_z392⟩ := q_392
  have g_z392 := g_z392.symm
  subst g_z392
  refine vv_iadd X dL_law_395 ?_
  obtain ⟨up, eup⟩ : ∃ z : Int, ((M 108 (Int.toNat z352)) + z392) = z := ⟨_, rfl⟩
  rw [eup]
  refine vv_istore (lv' := [(15, .int (zI up)), (14, .int (zI z369)), (13, .int (zI z352)), (0, .ref b), (1, .ref (ad 90)), (2, .ref (ad 105)), (3, .ref (ad 106)), (4, .ref (ad 107)), (5, .ref (ad 108)), (6, .ref (ad 109)), (7, .ref (ad 110)), (8, .ref (ad 111)), (9, .ref (ad 112)), (10, .int (zI i)), (11, .int (zI x))]) X (by decide) rfl dL_law_396 ?_
  have hab : (0 ≤ z369 ∧ z369 ≤ M 108 z352.toNat) ∧ (M 108 z352.toNat ≤ up ∧ up ≤ 100) := by
    refine ⟨⟨?_, ?_⟩, ?_, ?_⟩ <;> omega
  refine vv_iconst (n := 0) X dL_law_398 ?_
  refine vv_istore (lv' := [(16, .int (zI 0)), (15, .int (zI up)), (14, .int (zI z369)), (13, .int (zI z352)), (0, .ref b), (1, .ref (ad 90)), (2, .ref (ad 105)), (3, .ref (ad 106)), (4, .ref (ad 107)), (5, .ref (ad 108)), (6, .ref (ad 109)), (7, .ref (ad 110)), (8, .ref (ad 111)), (9, .ref (ad 112)), (10, .int (zI i)), (11, .int (zI x))]) X (by decide) rfl dL_law_399 ?_
  have join_419 : ∀ (w17 : Int), w17 = (if up = z369 then 1 else up - z369) → VV p l e room_1 s m #[Value.ref b] below meth c 19 D ad cA (AL s) 113 940 (lw_Z below #[Value.ref b] s) M 419 [(0, .ref b), (1, .ref (ad 90)), (2, .ref (ad 105)), (3, .ref (ad 106)), (4, .ref (ad 107)), (5, .ref (ad 108)), (6, .ref (ad 109)), (7, .ref (ad 110)), (8, .ref (ad 111)), (9, .ref (ad 112)), (10, .int (zI i)), (11, .int (zI x)), (13, .int (zI z352)), (14, .int (zI z369)), (15, .int (zI up)), (16, .int (zI 0)), (17, .int (zI w17))] [] := by
    intro w17 hw17
    have hw17b : 0 ≤ w17 ∧ w17 ≤ 100 := by rw [hw17]; split <;> omega
    refine vv_iconst (n := 0) X dL_law_419 ?_
    refine vv_istore (lv' := [(18, .int (zI 0)), (0, .ref b), (1, .ref (ad 90)), (2, .ref (ad 105)), (3, .ref (ad 106)), (4, .ref (ad 107)), (5, .ref (ad 108)), (6, .ref (ad 109)), (7, .ref (ad 110)), (8, .ref (ad 111)), (9, .ref (ad 112)), (10, .int (zI i)), (11, .int (zI x)), (13, .int (zI z352)), (14, .int (zI z369)), (15, .int (zI up)), (16, .int (zI 0)), (17, .int (zI w17))]) X (by decide) rfl dL_law_420 ?_
    have loop_422 : ∀ (n : Nat) (M_422 : Mem) (k : Nat) (nn : Nat) (n16 : Int) (i18 : Int), i18 = (k : Int) → n16 = (nn : Int) → (k : Int) ≤ M 105 2 → (nn ≤ k + 1 ∧ (k ≤ z352.toNat → nn = k)) → eqx M M_422 [110, 111] → (∀ j : Nat, SF (M_422 110) (M_422 111) nn j = rfF (M 107) (M 108) z352.toNat z369 up k j) → (∀ q : Nat, q < nn → (0 ≤ M_422 110 q ∧ M_422 110 q ≤ 1000000) ∧ (0 ≤ M_422 111 q ∧ M_422 111 q ≤ 100)) → (M 105 2 - i18).toNat < n → VV p l e room_1 s m #[Value.ref b] below meth c 19 D ad cA (AL s) 113 940 (lw_Z below #[Value.ref b] s) M_422 422 [(0, .ref b), (1, .ref (ad 90)), (2, .ref (ad 105)), (3, .ref (ad 106)), (4, .ref (ad 107)), (5, .ref (ad 108)), (6, .ref (ad 109)), (7, .ref (ad 110)), (8, .ref (ad 111)), (9, .ref (ad 112)), (10, .int (zI i)), (11, .int (zI x)), (13, .int (zI z352)), (14, .int (zI z369)), (15, .int (zI up)), (16, .int (zI n16)), (17, .int (zI w17)), (18, .int (zI i18))] [] := by
      intro n
      induction n with
      | zero => intro M_422 k nn n16 i18 l18 l16 lk ln lE lF lB hn; exact absurd hn (Nat.not_lt_zero _)
      | succ n ih_422 =>
        intro M_422 k nn n16 i18 l18 l16 lk ln lE lF lB hn
        have e_422_105 : M_422 105 = M 105 := lE 105 (by decide)
        have e_422_106 : M_422 106 = M 106 := lE 106 (by decide)
        have e_422_107 : M_422 107 = M 107 := lE 107 (by decide)
        have e_422_108 : M_422 108 = M 108 := lE 108 (by decide)
        have i18n : i18.toNat = k := by omega
        have i16 : n16.toNat = nn := by omega
        have i16b : (n16 + 1).toNat = nn + 1 := by omega
        refine vv_iload X 17 rfl dL_law_422 ?_
        refine vv_aload_n X 2 rfl rfl dL_law_424 ?_
        refine vv_iconst (n := 2) X dL_law_425 ?_
        refine vv_iald (z := (M 105 2)) X (by decide) sh_105 (by decide) (by omega) (show M_422 105 2 = M 105 2 from by rw [e_422_105]) dL_law_426 ?_
        refine vv_icmp_ge (tgt := 531) X (by omega) (by omega) dL_law_427 (by decide) (fun c_427 => ?_) (fun c_427 => ?_)
        · skip
          have cl_422 : ∀ a, a < 105 → M_422 a = M a := fun a ha => lE a (by simp; omega)
          have ekk : k = (M 105 2).toNat := by omega
          refine vv_iload X 15 rfl dL_law_531 ?_
          refine vv_aload X 7 rfl dL_law_533 ?_
          refine vv_aload X 8 rfl dL_law_535 ?_
          refine vv_aload X 9 rfl dL_law_537 ?_
          refine vv_callSI (As := [.int (zI n16), .ref (ad 110), .ref (ad 111), .ref (ad 112)]) (st := []) X 4 (c_L_tidy l D cA had M_422 n16 (by omega) (fun q hq => lB q (by omega))) gL_law_L_tidy rfl (by decide +kernel) ⟨by decide, by decide⟩ (Nat.le_of_ble_eq_true rfl) ⟨Nat.le_of_ble_eq_true rfl, Nat.le_of_ble_eq_true rfl⟩ rfl rfl dL_law_539 (fun z539 Mc539 q_539 => ?_)
          obtain ⟨T539, G539, S539, B539⟩ := q_539
          have cl_Mc539 : ∀ a, a < 105 → Mc539 a = M a := fun a ha => (G539 a (by simp; omega)).trans (cl_422 a ha)
          rw [i16] at T539 S539
          have hz01 : z539 = 0 ∨ z539 = 1 := by rcases T539 with q | q <;> omega
          have hred : ∀ j, j < 101 → red (SF (M_422 110) (M_422 111) nn) j = red (rfF (M 107) (M 108) z352.toNat z369 up (M 105 2).toNat) j := fun j hj => red_cong (fun q _ => by rw [lF q, ekk]) hj
          refine vv_istore (lv' := [(18, .int (zI z539)), (0, .ref b), (1, .ref (ad 90)), (2, .ref (ad 105)), (3, .ref (ad 106)), (4, .ref (ad 107)), (5, .ref (ad 108)), (6, .ref (ad 109)), (7, .ref (ad 110)), (8, .ref (ad 111)), (9, .ref (ad 112)), (10, .int (zI i)), (11, .int (zI x)), (13, .int (zI z352)), (14, .int (zI z369)), (15, .int (zI up)), (16, .int (zI n16)), (17, .int (zI w17))]) X (by decide) rfl dL_law_542 ?_
          refine vv_aload_n X 2 rfl rfl dL_law_544 ?_
          refine vv_iload X 13 rfl dL_law_545 ?_
          refine vv_iload X 14 rfl dL_law_547 ?_
          refine vv_iload X 15 rfl dL_law_549 ?_
          refine vv_callVI (As := [.int (zI z352), .int (zI z369), .int (zI up)]) (st := []) (Nf := 9) X 3 (c_X8_refine l D cA had Mc539 z352 z369 up (by omega) (by omega) (by omega) (HI_c hR.2.2 cl_Mc539) (WF_c hR.2.1 cl_Mc539)) gL_law_X8_refine rfl (by decide +kernel) ⟨by decide, by decide⟩ (Nat.le_of_ble_eq_true rfl) ⟨Nat.le_of_ble_eq_true rfl, Nat.le_of_ble_eq_true rfl⟩ rfl (by decide) sh_90 rfl rfl dL_law_551 (fun z551 Mc551 q_551 => ?_)
          obtain ⟨⟨o551, _, _, hi551, kp551, _⟩, _⟩ := q_551
          rw [vC_c cl_Mc539] at o551
          refine vv_iload X 0 rfl dL_law_554 ?_
          refine vv_if_eq (tgt := 567) X (by omega) dL_law_556 (by decide) (fun c_556 => ?_) (fun c_556 => ?_)
          · skip
            have hnok : ¬ okF (red (SF (M_422 110) (M_422 111) nn)) := fun w => by
              rcases T539 with q | q
              · omega
              · exact q.1 w
            obtain ⟨ez, eA, eW⟩ := det_Sp hR.1 hR.2.1 o551 (sp_no (c := vL M) hwl (show 0 ≤ z352 ∧ z352 < M 105 2 by omega) hab (fun w => hnok ((okF_cong hred).mpr w)))
            refine vv_bipush (n := (-4)) X (by decide) dL_law_567 ?_
            refine vv_icmp_eq (tgt := 574) X (by omega) (by omega) dL_law_569 (by decide) (fun c_569 => ?_) (fun c_569 => ?_)
            · skip
              refine vv_iload X 0 rfl dL_law_574 ?_
              refine vv_if_eq (tgt := 589) X (by omega) dL_law_576 (by decide) (fun c_576 => ?_) (fun c_576 => ?_)
              · skip
                refine vv_goto (tgt := 1029) X (by decide) dL_law_589 ?_
                refine vv_sub (lv' := [(0, .ref b), (1, .ref (ad 90)), (2, .ref (ad 105)), (3, .ref (ad 106)), (4, .ref (ad 107)), (5, .ref (ad 108)), (6, .ref (ad 109)), (7, .ref (ad 110)), (8, .ref (ad 111)), (9, .ref (ad 112)), (10, .int (zI i)), (11, .int (zI x))]) [1, 2, 3, 4, 5, 6, 7, 8, 9, 10, 11, 12] rfl ?_
                exact nx _ (RLL_of hi551 eW eA (fun _ _ => rfl) (vL_k ((kp551 105 (by omega)).trans ((G539 105 (by decide)).trans e_422_105)) ((kp551 106 (by omega)).trans ((G539 106 (by decide)).trans e_422_106)) ((kp551 107 (by omega)).trans ((G539 107 (by decide)).trans e_422_107)) ((kp551 108 (by omega)).trans ((G539 108 (by decide)).trans e_422_108))))
              · skip
                omega
            · skip
              omega
          · skip
            have hok : okF (red (SF (M_422 110) (M_422 111) nn)) := by
              rcases T539 with q | q
              · exact q.1
              · omega
            obtain ⟨ez, eA, eW⟩ := det_Sp hR.1 hR.2.1 o551 (sp_yes (c := vL M) (c' := ((vL M).1, (vL M).2.1, (vL M).2.2.1, Mc539 112 16, (fun i => Mc539 112 (2 * i)), (fun i => Mc539 112 (2 * i + 1)))) hwl (show 0 ≤ z352 ∧ z352 < M 105 2 by omega) hab ((okF_cong hred).mp hok) (SplitOf_cong S539 hred) (eqA_rf _))
            refine vv_aload X 10 rfl dL_law_559 ?_
            refine vv_bipush (n := 16) X (by decide) dL_law_561 ?_
            refine vv_iald (z := (Mc539 112 16)) X (by decide) sh_112 (by decide) (by omega) (show Mc551 112 16 = Mc539 112 16 from by rw [(kp551 112 (by omega))]) dL_law_563 ?_
            refine vv_goto (tgt := 569) X (by decide) dL_law_564 ?_
            refine vv_icmp_eq (tgt := 574) X (by omega) (by omega) dL_law_569 (by decide) (fun c_569 => ?_) (fun c_569 => ?_)
            · skip
              refine vv_iload X 0 rfl dL_law_574 ?_
              refine vv_if_eq (tgt := 589) X (by omega) dL_law_576 (by decide) (fun c_576 => ?_) (fun c_576 => ?_)
              · skip
                omega
              · skip
                refine vv_aload X 10 rfl dL_law_579 ?_
                refine vv_aload_n X 3 rfl rfl dL_law_581 ?_
                refine vv_aload X 5 rfl dL_law_582 ?_
                refine vv_aload X 6 rfl dL_law_584 ?_
                refine vv_callSV (As := [.ref (ad 112), .ref (ad 105), .ref (ad 107), .ref (ad 108)]) (st := []) X 4 (c_L_take l D cA had Mc551 (by rw [kp551 112 (by omega)]; omega)) gL_law_L_take rfl (by decide +kernel) ⟨by decide, by decide⟩ (Nat.le_of_ble_eq_true rfl) ⟨Nat.le_of_ble_eq_true rfl, Nat.le_of_ble_eq_true rfl⟩ rfl rfl dL_law_586 (fun Mc586 q_586 => ?_)
                obtain ⟨A586, U586, J586⟩ := q_586
                refine vv_goto (tgt := 1029) X (by decide) dL_law_589 ?_
                refine vv_sub (lv' := [(0, .ref b), (1, .ref (ad 90)), (2, .ref (ad 105)), (3, .ref (ad 106)), (4, .ref (ad 107)), (5, .ref (ad 108)), (6, .ref (ad 109)), (7, .ref (ad 110)), (8, .ref (ad 111)), (9, .ref (ad 112)), (10, .int (zI i)), (11, .int (zI x))]) [1, 2, 3, 4, 5, 6, 7, 8, 9, 10, 11, 12] rfl ?_
                exact nx _ (RLL_of hi551 eW eA (fun a ha => A586 a (by simp; omega)) (prt_L (M := M) (m := Mc539 112 16) (by rw [U586, ((kp551 105 (by omega)).trans ((G539 105 (by decide)).trans e_422_105)), kp551 112 (by omega)]) ((A586 106 (by decide)).trans ((kp551 106 (by omega)).trans ((G539 106 (by decide)).trans e_422_106))) (fun k9 hk9 => by
                  obtain ⟨q1, q2⟩ := J586 k9 (by rw [kp551 112 (by omega)]; exact hk9)
                  rw [kp551 112 (by omega)] at q1 q2
                  exact ⟨q1.symm, q2.symm⟩)))
            · skip
              omega
        · skip
          have hwk := hwb k (by omega)
          have mB1 := mulB (a := M 107 k) (A := 999) (b := w17) (B := 100) (by omega) hw17b
          refine vv_aload X 7 rfl dL_law_430 ?_
          refine vv_iload X 15 rfl dL_law_432 ?_
          refine vv_aload X 4 rfl dL_law_434 ?_
          refine vv_iload X 17 rfl dL_law_436 ?_
          refine vv_iald (z := (M 107 k)) X (by decide) sh_107 (by decide) (by omega) (by first | (rw [i18n]; done) | (rw [i18n]; exact (show M_422 107 k = M 107 k from by rw [e_422_107]))) dL_law_438 ?_
          refine vv_iload X 16 rfl dL_law_439 ?_
          refine vv_imul X dL_law_441 ?_
          refine vv_iast (ix := nn) X (by decide) sh_110 (by decide) (by omega) (i16) dL_law_442 ?_
          refine vv_aload X 8 rfl dL_law_443 ?_
          refine vv_iload X 15 rfl dL_law_445 ?_
          refine vv_aload X 5 rfl dL_law_447 ?_
          refine vv_iload X 17 rfl dL_law_449 ?_
          refine vv_iald (z := (M 108 k)) X (by decide) sh_108 (by decide) (by omega) (by first | (rw [i18n]; done) | (rw [i18n]; exact (show M_422 108 k = M 108 k from by rw [e_422_108]))) dL_law_451 ?_
          refine vv_iast (ix := nn) X (by decide) sh_111 (by decide) (by omega) (i16) dL_law_452 ?_
          refine vv_iload X 17 rfl dL_law_453 ?_
          refine vv_iload X 12 rfl dL_law_455 ?_
          refine vv_icmp_ne (tgt := 522) X (by omega) (by omega) dL_law_457 (by decide) (fun c_457 => ?_) (fun c_457 => ?_)
          · skip
            refine vv_iinc (lv' := [(16, .int (zI (n16 + 1))), (0, .ref b), (1, .ref (ad 90)), (2, .ref (ad 105)), (3, .ref (ad 106)), (4, .ref (ad 107)), (5, .ref (ad 108)), (6, .ref (ad 109)), (7, .ref (ad 110)), (8, .ref (ad 111)), (9, .ref (ad 112)), (10, .int (zI i)), (11, .int (zI x)), (13, .int (zI z352)), (14, .int (zI z369)), (15, .int (zI up)), (17, .int (zI w17)), (18, .int (zI i18))]) X 15 rfl (by decide) rfl dL_law_522 ?_
            refine vv_iinc (lv' := [(18, .int (zI (i18 + 1))), (16, .int (zI (n16 + 1))), (0, .ref b), (1, .ref (ad 90)), (2, .ref (ad 105)), (3, .ref (ad 106)), (4, .ref (ad 107)), (5, .ref (ad 108)), (6, .ref (ad 109)), (7, .ref (ad 110)), (8, .ref (ad 111)), (9, .ref (ad 112)), (10, .int (zI i)), (11, .int (zI x)), (13, .int (zI z352)), (14, .int (zI z369)), (15, .int (zI up)), (17, .int (zI w17))]) X 17 rfl (by decide) rfl dL_law_525 ?_
            refine vv_goto (tgt := 422) X (by decide) dL_law_528 ?_
            refine vv_sub (lv' := [(0, .ref b), (1, .ref (ad 90)), (2, .ref (ad 105)), (3, .ref (ad 106)), (4, .ref (ad 107)), (5, .ref (ad 108)), (6, .ref (ad 109)), (7, .ref (ad 110)), (8, .ref (ad 111)), (9, .ref (ad 112)), (10, .int (zI i)), (11, .int (zI x)), (13, .int (zI z352)), (14, .int (zI z369)), (15, .int (zI up)), (16, .int (zI (n16 + 1))), (17, .int (zI w17)), (18, .int (zI (i18 + 1)))]) [2, 3, 4, 5, 6, 7, 8, 9, 10, 11, 12, 13, 14, 15, 16, 1, 17, 0] rfl ?_
            exact ih_422 (up2 (up2 M_422 110 nn ((M 107 k) * w17)) 111 nn (M 108 k)) (k + 1) (nn + 1) (n16 + 1) (i18 + 1) (by omega) (by omega) (by omega) ⟨by omega, fun q => by have := ln.2 (by omega); omega⟩ (eqx_up _ _ (eqx_up _ _ lE (by decide)) (by decide)) (fun j => by
              have eS := SF_push (w := M_422 110) (p := M_422 111) (w' := (up2 (up2 M_422 110 nn ((M 107 k) * w17)) 111 nn (M 108 k)) 110) (p' := (up2 (up2 M_422 110 nn ((M 107 k) * w17)) 111 nn (M 108 k)) 111) (m := nn) (v := M 107 k * w17) (y := M 108 k) (fun i hi => ⟨(show uz (M_422 110) nn _ i = M_422 110 i from uz_n _ _ (by omega)), (show uz (M_422 111) nn _ i = M_422 111 i from uz_n _ _ (by omega))⟩) (uz_s _ _ _) (uz_s _ _ _) j
              have e9 : rfF (M 107) (M 108) z352.toNat z369 up (k + 1) = fadd (rfF (M 107) (M 108) z352.toNat z369 up k) (M 108 k) (M 107 k * (if up = z369 then 1 else up - z369)) := if_neg (by omega)
              rw [e9, eS, lF j, hw17]
              rfl) (fun q hq => by
              rcases (show q < nn ∨ q = nn by omega) with w | w
              · have := lB q w
                show (0 ≤ uz (M_422 110) nn _ q ∧ uz (M_422 110) nn _ q ≤ 1000000) ∧ (0 ≤ uz (M_422 111) nn _ q ∧ uz (M_422 111) nn _ q ≤ 100)
                rw [uz_n _ _ (by omega), uz_n _ _ (by omega)]
                exact this
              · subst w
                show (0 ≤ uz (M_422 110) q _ q ∧ uz (M_422 110) q _ q ≤ 1000000) ∧ (0 ≤ uz (M_422 111) q _ q ∧ uz (M_422 111) q _ q ≤ 100)
                rw [uz_s, uz_s]
                omega) (by omega)
          · skip
            refine vv_iload X 13 rfl dL_law_460 ?_
            refine vv_iload X 14 rfl dL_law_462 ?_
            refine vv_icmp_ge (tgt := 522) X (by omega) (by omega) dL_law_464 (by decide) (fun c_464 => ?_) (fun c_464 => ?_)
            · skip
              have lnk := ln.2 (by omega)
              refine vv_iinc (lv' := [(16, .int (zI (n16 + 1))), (0, .ref b), (1, .ref (ad 90)), (2, .ref (ad 105)), (3, .ref (ad 106)), (4, .ref (ad 107)), (5, .ref (ad 108)), (6, .ref (ad 109)), (7, .ref (ad 110)), (8, .ref (ad 111)), (9, .ref (ad 112)), (10, .int (zI i)), (11, .int (zI x)), (13, .int (zI z352)), (14, .int (zI z369)), (15, .int (zI up)), (17, .int (zI w17)), (18, .int (zI i18))]) X 15 rfl (by decide) rfl dL_law_522 ?_
              refine vv_iinc (lv' := [(18, .int (zI (i18 + 1))), (16, .int (zI (n16 + 1))), (0, .ref b), (1, .ref (ad 90)), (2, .ref (ad 105)), (3, .ref (ad 106)), (4, .ref (ad 107)), (5, .ref (ad 108)), (6, .ref (ad 109)), (7, .ref (ad 110)), (8, .ref (ad 111)), (9, .ref (ad 112)), (10, .int (zI i)), (11, .int (zI x)), (13, .int (zI z352)), (14, .int (zI z369)), (15, .int (zI up)), (17, .int (zI w17))]) X 17 rfl (by decide) rfl dL_law_525 ?_
              refine vv_goto (tgt := 422) X (by decide) dL_law_528 ?_
              refine vv_sub (lv' := [(0, .ref b), (1, .ref (ad 90)), (2, .ref (ad 105)), (3, .ref (ad 106)), (4, .ref (ad 107)), (5, .ref (ad 108)), (6, .ref (ad 109)), (7, .ref (ad 110)), (8, .ref (ad 111)), (9, .ref (ad 112)), (10, .int (zI i)), (11, .int (zI x)), (13, .int (zI z352)), (14, .int (zI z369)), (15, .int (zI up)), (16, .int (zI (n16 + 1))), (17, .int (zI w17)), (18, .int (zI (i18 + 1)))]) [2, 3, 4, 5, 6, 7, 8, 9, 10, 11, 12, 13, 14, 15, 16, 1, 17, 0] rfl ?_
              exact ih_422 (up2 (up2 M_422 110 nn ((M 107 k) * w17)) 111 nn (M 108 k)) (k + 1) (nn + 1) (n16 + 1) (i18 + 1) (by omega) (by omega) (by omega) ⟨by omega, fun q => by have := ln.2 (by omega); omega⟩ (eqx_up _ _ (eqx_up _ _ lE (by decide)) (by decide)) (fun j => by
                have eS := SF_push (w := M_422 110) (p := M_422 111) (w' := (up2 (up2 M_422 110 nn ((M 107 k) * w17)) 111 nn (M 108 k)) 110) (p' := (up2 (up2 M_422 110 nn ((M 107 k) * w17)) 111 nn (M 108 k)) 111) (m := nn) (v := M 107 k * w17) (y := M 108 k) (fun i hi => ⟨(show uz (M_422 110) nn _ i = M_422 110 i from uz_n _ _ (by omega)), (show uz (M_422 111) nn _ i = M_422 111 i from uz_n _ _ (by omega))⟩) (uz_s _ _ _) (uz_s _ _ _) j
                have e9 : rfF (M 107) (M 108) z352.toNat z369 up (k + 1) = fadd (rfF (M 107) (M 108) z352.toNat z369 up k) (M 108 z352.toNat) (M 107 z352.toNat) := (if_pos (by omega)).trans (if_pos (by omega))
                have hw1 : w17 = 1 := by rw [hw17]; exact if_pos (by omega)
                rw [e9, eS, lF j, hw1, Int.mul_one, show z352.toNat = k by omega]
                rfl) (fun q hq => by
                rcases (show q < nn ∨ q = nn by omega) with w | w
                · have := lB q w
                  show (0 ≤ uz (M_422 110) nn _ q ∧ uz (M_422 110) nn _ q ≤ 1000000) ∧ (0 ≤ uz (M_422 111) nn _ q ∧ uz (M_422 111) nn _ q ≤ 100)
                  rw [uz_n _ _ (by omega), uz_n _ _ (by omega)]
                  exact this
                · subst w
                  show (0 ≤ uz (M_422 110) q _ q ∧ uz (M_422 110) q _ q ≤ 1000000) ∧ (0 ≤ uz (M_422 111) q _ q ∧ uz (M_422 111) q _ q ≤ 100)
                  rw [uz_s, uz_s]
                  omega) (by omega)
            · skip
              have hzk0 : M 108 z352.toNat = M 108 k := by rw [show z352.toNat = k by omega]
              have mB2 := mulB (a := M 107 k) (A := 999) (b := up - M 108 k) (B := 100) (by omega) (by omega)
              have mB3 := mulB (a := M 107 k) (A := 999) (b := M 108 k - z369) (B := 100) (by omega) (by omega)
              have lnk := ln.2 (by omega)
              refine vv_aload X 7 rfl dL_law_467 ?_
              refine vv_iload X 15 rfl dL_law_469 ?_
              refine vv_aload X 4 rfl dL_law_471 ?_
              refine vv_iload X 17 rfl dL_law_473 ?_
              refine vv_iald (z := (M 107 k)) X (by decide) sh_107 (by decide) (by omega) (by first | (rw [i18n]; done) | (rw [i18n]; exact (show M_422 107 k = M 107 k from by rw [e_422_107]))) dL_law_475 ?_
              refine vv_iload X 14 rfl dL_law_476 ?_
              refine vv_aload X 5 rfl dL_law_478 ?_
              refine vv_iload X 17 rfl dL_law_480 ?_
              refine vv_iald (z := (M 108 k)) X (by decide) sh_108 (by decide) (by omega) (by first | (rw [i18n]; done) | (rw [i18n]; exact (show M_422 108 k = M 108 k from by rw [e_422_108]))) dL_law_482 ?_
              refine vv_isub X dL_law_483 ?_
              refine vv_imul X dL_law_484 ?_
              refine vv_iast (ix := nn) X (by decide) sh_110 (by decide) (by omega) (i16) dL_law_485 ?_
              refine vv_aload X 8 rfl dL_law_486 ?_
              refine vv_iload X 15 rfl dL_law_488 ?_
              refine vv_iinc (lv' := [(16, .int (zI (n16 + 1))), (0, .ref b), (1, .ref (ad 90)), (2, .ref (ad 105)), (3, .ref (ad 106)), (4, .ref (ad 107)), (5, .ref (ad 108)), (6, .ref (ad 109)), (7, .ref (ad 110)), (8, .ref (ad 111)), (9, .ref (ad 112)), (10, .int (zI i)), (11, .int (zI x)), (13, .int (zI z352)), (14, .int (zI z369)), (15, .int (zI up)), (17, .int (zI w17)), (18, .int (zI i18))]) X 15 rfl (by decide) rfl dL_law_490 ?_
              refine vv_iload X 14 rfl dL_law_493 ?_
              refine vv_iast (ix := nn) X (by decide) sh_111 (by decide) (by omega) (i16) dL_law_495 ?_
              refine vv_aload X 8 rfl dL_law_496 ?_
              refine vv_iload X 0 rfl dL_law_498 ?_
              refine vv_aload X 5 rfl dL_law_500 ?_
              refine vv_iload X 17 rfl dL_law_502 ?_
              refine vv_iald (z := (M 107 k)) X (by decide) sh_107 (by decide) (by omega) (by first | (rw [i18n]; done) | (rw [i18n]; exact (show M_422 107 k = M 107 k from by rw [e_422_107]))) dL_law_504 ?_
              refine vv_aload X 6 rfl dL_law_505 ?_
              refine vv_iload X 17 rfl dL_law_507 ?_
              refine vv_iald (z := (M 108 k)) X (by decide) sh_108 (by decide) (by omega) (by first | (rw [i18n]; done) | (rw [i18n]; exact (show M_422 108 k = M 108 k from by rw [e_422_108]))) dL_law_509 ?_
              refine vv_iload X 14 rfl dL_law_510 ?_
              refine vv_isub X dL_law_512 ?_
              refine vv_imul X dL_law_513 ?_
              refine vv_iast (ix := (nn + 1)) X (by decide) sh_110 (by decide) (by omega) (i16b) dL_law_514 ?_
              refine vv_aload X 9 rfl dL_law_515 ?_
              refine vv_iload X 0 rfl dL_law_517 ?_
              refine vv_iload X 15 rfl dL_law_519 ?_
              refine vv_iast (ix := (nn + 1)) X (by decide) sh_111 (by decide) (by omega) (i16b) dL_law_521 ?_
              refine vv_iinc (lv' := [(16, .int (zI ((n16 + 1) + 1))), (0, .ref b), (1, .ref (ad 90)), (2, .ref (ad 105)), (3, .ref (ad 106)), (4, .ref (ad 107)), (5, .ref (ad 108)), (6, .ref (ad 109)), (7, .ref (ad 110)), (8, .ref (ad 111)), (9, .ref (ad 112)), (10, .int (zI i)), (11, .int (zI x)), (13, .int (zI z352)), (14, .int (zI z369)), (15, .int (zI up)), (17, .int (zI w17)), (18, .int (zI i18))]) X 0 rfl (by decide) rfl dL_law_522 ?_
              refine vv_iinc (lv' := [(18, .int (zI (i18 + 1))), (16, .int (zI ((n16 + 1) + 1))), (0, .ref b), (1, .ref (ad 90)), (2, .ref (ad 105)), (3, .ref (ad 106)), (4, .ref (ad 107)), (5, .ref (ad 108)), (6, .ref (ad 109)), (7, .ref (ad 110)), (8, .ref (ad 111)), (9, .ref (ad 112)), (10, .int (zI i)), (11, .int (zI x)), (13, .int (zI z352)), (14, .int (zI z369)), (15, .int (zI up)), (17, .int (zI w17))]) X 17 rfl (by decide) rfl dL_law_525 ?_
              refine vv_goto (tgt := 422) X (by decide) dL_law_528 ?_
              refine vv_sub (lv' := [(0, .ref b), (1, .ref (ad 90)), (2, .ref (ad 105)), (3, .ref (ad 106)), (4, .ref (ad 107)), (5, .ref (ad 108)), (6, .ref (ad 109)), (7, .ref (ad 110)), (8, .ref (ad 111)), (9, .ref (ad 112)), (10, .int (zI i)), (11, .int (zI x)), (13, .int (zI z352)), (14, .int (zI z369)), (15, .int (zI up)), (16, .int (zI ((n16 + 1) + 1))), (17, .int (zI w17)), (18, .int (zI (i18 + 1)))]) [2, 3, 4, 5, 6, 7, 8, 9, 10, 11, 12, 13, 14, 15, 16, 1, 17, 0] rfl ?_
              exact ih_422 (up2 (up2 (up2 (up2 (up2 (up2 M_422 110 nn ((M 107 k) * w17)) 111 nn (M 108 k)) 110 nn ((M 107 k) * (up - (M 108 k)))) 111 nn z369) 110 (nn + 1) ((M 107 k) * ((M 108 k) - z369))) 111 (nn + 1) up) (k + 1) (nn + 1 + 1) ((n16 + 1) + 1) (i18 + 1) (by omega) (by omega) (by omega) ⟨by omega, fun q => by omega⟩ (eqx_up _ _ (eqx_up _ _ (eqx_up _ _ (eqx_up _ _ (eqx_up _ _ (eqx_up _ _ lE (by decide)) (by decide)) (by decide)) (by decide)) (by decide)) (by decide)) (fun j => by
                have eS2 := SF_push (w := uz (uz (M_422 110) nn (M 107 k * w17)) nn (M 107 k * (up - M 108 k))) (p := uz (uz (M_422 111) nn (M 108 k)) nn z369) (w' := (up2 (up2 (up2 (up2 (up2 (up2 M_422 110 nn ((M 107 k) * w17)) 111 nn (M 108 k)) 110 nn ((M 107 k) * (up - (M 108 k)))) 111 nn z369) 110 (nn + 1) ((M 107 k) * ((M 108 k) - z369))) 111 (nn + 1) up) 110) (p' := (up2 (up2 (up2 (up2 (up2 (up2 M_422 110 nn ((M 107 k) * w17)) 111 nn (M 108 k)) 110 nn ((M 107 k) * (up - (M 108 k)))) 111 nn z369) 110 (nn + 1) ((M 107 k) * ((M 108 k) - z369))) 111 (nn + 1) up) 111) (m := nn + 1) (v := M 107 k * (M 108 k - z369)) (y := up) (fun i hi => ⟨uz_n _ _ (by omega), uz_n _ _ (by omega)⟩) (uz_s _ _ _) (uz_s _ _ _) j
                have eS1 := SF_push (w := M_422 110) (p := M_422 111) (w' := uz (uz (M_422 110) nn (M 107 k * w17)) nn (M 107 k * (up - M 108 k))) (p' := uz (uz (M_422 111) nn (M 108 k)) nn z369) (m := nn) (v := M 107 k * (up - M 108 k)) (y := z369) (fun i hi => ⟨(uz_n _ _ (by omega)).trans (uz_n _ _ (by omega)), (uz_n _ _ (by omega)).trans (uz_n _ _ (by omega))⟩) (uz_s _ _ _) (uz_s _ _ _) j
                have hzk : z352.toNat = k := by omega
                have e9 : rfF (M 107) (M 108) z352.toNat z369 up (k + 1) = fadd (fadd (rfF (M 107) (M 108) z352.toNat z369 up k) z369 (M 107 z352.toNat * (up - M 108 z352.toNat))) up (M 107 z352.toNat * (M 108 z352.toNat - z369)) := (if_pos hzk.symm).trans (if_neg (by omega))
                rw [e9, eS2, eS1, lF j, hzk]
                rfl) (fun q hq => by
                show (0 ≤ uz (uz (uz (M_422 110) nn (M 107 k * w17)) nn (M 107 k * (up - M 108 k))) (nn + 1) (M 107 k * (M 108 k - z369)) q ∧ uz (uz (uz (M_422 110) nn (M 107 k * w17)) nn (M 107 k * (up - M 108 k))) (nn + 1) (M 107 k * (M 108 k - z369)) q ≤ 1000000) ∧ (0 ≤ uz (uz (uz (M_422 111) nn (M 108 k)) nn z369) (nn + 1) up q ∧ uz (uz (uz (M_422 111) nn (M 108 k)) nn z369) (nn + 1) up q ≤ 100)
                rcases (show q < nn ∨ q = nn ∨ q = nn + 1 by omega) with w | w | w
                · have := lB q w
                  rw [uz_n _ _ (by omega), uz_n _ _ (by omega), uz_n _ _ (by omega), uz_n _ _ (by omega), uz_n _ _ (by omega), uz_n _ _ (by omega)]
                  exact this
                · subst w
                  rw [uz_n _ _ (by omega), uz_s, uz_n _ _ (by omega), uz_s]
                  omega
                · subst w
                  rw [uz_s, uz_s]
                  omega) (by omega)
    refine vv_sub (lv' := [(0, .ref b), (1, .ref (ad 90)), (2, .ref (ad 105)), (3, .ref (ad 106)), (4, .ref (ad 107)), (5, .ref (ad 108)), (6, .ref (ad 109)), (7, .ref (ad 110)), (8, .ref (ad 111)), (9, .ref (ad 112)), (10, .int (zI i)), (11, .int (zI x)), (13, .int (zI z352)), (14, .int (zI z369)), (15, .int (zI up)), (16, .int (zI 0)), (17, .int (zI w17)), (18, .int (zI 0))]) [1, 2, 3, 4, 5, 6, 7, 8, 9, 10, 11, 12, 13, 14, 15, 16, 17, 0] rfl ?_
    exact loop_422 _ M 0 0 0 0 rfl rfl (by omega) ⟨by omega, fun _ => rfl⟩ (eqx_rf _ _) (fun j => rfl) (fun q hq => absurd hq (by omega)) (Nat.lt_succ_self _)
  refine vv_iload X 2 rfl dL_law_401 ?_
  refine vv_iload X 1 rfl dL_law_403 ?_
  refine vv_icmp_ne (tgt := 412) X (by omega) (by omega) dL_law_405 (by decide) (fun c_405 => ?_) (fun c_405 => ?_)
  · skip
    refine vv_iload X 1 rfl dL_law_412 ?_
    refine vv_iload X 2 rfl dL_law_414 ?_
    refine vv_isub X dL_law_416 ?_
    refine vv_istore (lv' := [(17, .int (zI (up - z369))), (16, .int (zI 0)), (15, .int (zI up)), (14, .int (zI z369)), (13, .int (zI z352)), (0, .ref b), (1, .ref (ad 90)), (2, .ref (ad 105)), (3, .ref (ad 106)), (4, .ref (ad 107)), (5, .ref (ad 108)), (6, .ref (ad 109)), (7, .ref (ad 110)), (8, .ref (ad 111)), (9, .ref (ad 112)), (10, .int (zI i)), (11, .int (zI x))]) X (by decide) rfl dL_law_417 ?_
    refine vv_sub (lv' := [(0, .ref b), (1, .ref (ad 90)), (2, .ref (ad 105)), (3, .ref (ad 106)), (4, .ref (ad 107)), (5, .ref (ad 108)), (6, .ref (ad 109)), (7, .ref (ad 110)), (8, .ref (ad 111)), (9, .ref (ad 112)), (10, .int (zI i)), (11, .int (zI x)), (13, .int (zI z352)), (14, .int (zI z369)), (15, .int (zI up)), (16, .int (zI 0)), (17, .int (zI (up - z369)))]) [5, 6, 7, 8, 9, 10, 11, 12, 13, 14, 15, 16, 4, 3, 2, 1, 0] rfl ?_
    exact join_419 (up - z369) (by first | rw [if_pos (by omega)] | rw [if_neg (by omega)])
  · skip
    refine vv_iconst (n := 1) X dL_law_408 ?_
    refine vv_goto (tgt := 417) X (by decide) dL_law_409 ?_
    refine vv_istore (lv' := [(17, .int (zI 1)), (16, .int (zI 0)), (15, .int (zI up)), (14, .int (zI z369)), (13, .int (zI z352)), (0, .ref b), (1, .ref (ad 90)), (2, .ref (ad 105)), (3, .ref (ad 106)), (4, .ref (ad 107)), (5, .ref (ad 108)), (6, .ref (ad 109)), (7, .ref (ad 110)), (8, .ref (ad 111)), (9, .ref (ad 112)), (10, .int (zI i)), (11, .int (zI x))]) X (by decide) rfl dL_law_417 ?_
    refine vv_sub (lv' := [(0, .ref b), (1, .ref (ad 90)), (2, .ref (ad 105)), (3, .ref (ad 106)), (4, .ref (ad 107)), (5, .ref (ad 108)), (6, .ref (ad 109)), (7, .ref (ad 110)), (8, .ref (ad 111)), (9, .ref (ad 112)), (10, .int (zI i)), (11, .int (zI x)), (13, .int (zI z352)), (14, .int (zI z369)), (15, .int (zI up)), (16, .int (zI 0)), (17, .int (zI 1))]) [5, 6, 7, 8, 9, 10, 11, 12, 13, 14, 15, 16, 4, 3, 2, 1, 0] rfl ?_
    exact join_419 1 (by first | rw [if_pos (by omega)] | rw [if_neg (by omega)])
