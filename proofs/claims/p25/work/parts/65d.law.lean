set_option maxRecDepth 100000 in
set_option maxHeartbeats 4000000 in
theorem same_C {p : Program} {l : Launch} {e : Env} {s : State} {m : MethodId} {args : Array Value} {below : List Frame} {meth : Method} {c : Code} {D : va_G} {ad : Nat → Nat} {cA : Nat → ClassId} (X : Cx p s m args c cL_same yL_same.cls 17 wsL_same D ad cA (Afr ad s.heap.size)) (hm : Mt meth (some .boolean)) {x a7 a8 : Int} (M Ms : Mem) (hR : RLL M) (hs : eqx M Ms E9) (e7 : a7 = mnT (vL M)) (e8 : a8 = mnS (vL M)) (nx : ∀ N : Mem, eqx M N E9 → VV p l e { frames := 6, cells := 0, slots := 0, locals := 133 } s m args below meth c 17 D ad cA (Afr ad s.heap.size) 0 0 (QI below args s D ad cA (fun z M1 => z = 1 ∧ eqx M M1 E9)) N 527 [(0, .ref (ad 90)), (1, .int (zI x)), (2, .ref (ad 105)), (3, .ref (ad 106)), (4, .ref (ad 107)), (5, .ref (ad 108)), (6, .ref (ad 109))] []) : VV p l e { frames := 6, cells := 0, slots := 0, locals := 133 } s m args below meth c 17 D ad cA (Afr ad s.heap.size) 0 0 (QI below args s D ad cA (fun z M1 => z = 1 ∧ eqx M M1 E9)) Ms 372 [(0, .ref (ad 90)), (1, .int (zI x)), (2, .ref (ad 105)), (3, .ref (ad 106)), (4, .ref (ad 107)), (5, .ref (ad 108)), (6, .ref (ad 109)), (7, .int (zI a7)), (8, .int (zI a8))] [] := by
  have had := X.2.2.2.1
  have hwl := RLL_wl hR
  have hW : rWR M := hwl.2.1
  have h5 := hW.2.1
  have h50 := hW.1
  have hsm : 1 ≤ M 105 2 ∧ M 105 2 ≤ 6 := WFs_pos hwl.2.2
  have hwb : ∀ k : Nat, (k : Int) < M 105 2 → (1 ≤ M 107 k ∧ M 107 k ≤ 999) ∧ (0 ≤ M 108 k ∧ M 108 k ≤ 100) := fun k hk => WFs_b hwl.2.2 hk
  have hp9 : 1 ≤ M 105 0 ∧ M 105 0 ≤ 99 := hwl.1
  have hvb : ∀ y : Int, -495 ≤ rvl M y ∧ rvl M y ≤ 990 := fun y => vl_b hW.2
  have hT := mnT_b hwl
  rw [← e7] at hT
  have e100 : 100 * a7 = mnT (vL M) * 100 := by rw [← e7]; omega
  have hmn := mn_b hwl
  rw [← e8] at hmn
  refine vv_iload X 8 rfl dL_same_372 ?_
  refine vv_iload X 7 rfl dL_same_374 ?_
  refine vv_aload X 6 rfl dL_same_376 ?_
  refine vv_callSV (As := [.int (zI a8), .int (zI a7), .ref (ad 109)]) (st := []) X 3 (c_L_least l D cA had Ms a8 a7 (by omega) (by omega) (by omega)) gL_same_L_least rfl (by decide +kernel) ⟨by decide, by decide⟩ (Nat.le_of_ble_eq_true rfl) ⟨by decide, by decide⟩ rfl rfl dL_same_378 (fun Mc378 q_378 => ?_)
  have q_378 := q_378.symm
  subst q_378
  obtain ⟨N381, h_N381⟩ : ∃ N : Mem, N = (up2 (up2 Ms 109 0 (frA a8 a7)) 109 1 (frB a8 a7)) := ⟨_, rfl⟩
  rw [← h_N381]
  have EN381 : eqx M N381 E9 := by rw [h_N381]; exact eqx_up _ _ (eqx_up _ _ hs (by decide)) (by decide)
  obtain ⟨mA, hmA⟩ : ∃ q : Int, q = frA (mnS (vL M)) (mnT (vL M)) := ⟨_, rfl⟩
  obtain ⟨mB, hmB⟩ : ∃ q : Int, q = frB (mnS (vL M)) (mnT (vL M)) := ⟨_, rfl⟩
  have f381a : N381 109 0 = mA := by rw [h_N381, hmA, ← e7, ← e8]; rfl
  have f381b : N381 109 1 = mB := by rw [h_N381, hmB, ← e7, ← e8]; rfl
  have hfm := fr_b2 (a := mnS (vL M)) (b := mnT (vL M)) (A := 1073741824) (by rw [← e8]; omega) (by rw [← e7]; omega)
  rw [← hmA, ← hmB, ← e7] at hfm
  refine vv_aload X 6 rfl dL_same_381 ?_
  refine vv_iconst (n := 0) X dL_same_383 ?_
  refine vv_iald (z := mA) X (by decide) sh_109 (by decide) (by omega) (f381a) dL_same_384 ?_
  refine vv_istore (lv' := [(9, .int (zI mA)), (0, .ref (ad 90)), (1, .int (zI x)), (2, .ref (ad 105)), (3, .ref (ad 106)), (4, .ref (ad 107)), (5, .ref (ad 108)), (6, .ref (ad 109)), (7, .int (zI a7)), (8, .int (zI a8))]) X (by decide) rfl dL_same_385 ?_
  refine vv_aload X 7 rfl dL_same_387 ?_
  refine vv_iconst (n := 1) X dL_same_389 ?_
  refine vv_iald (z := mB) X (by decide) sh_109 (by decide) (by omega) (f381b) dL_same_390 ?_
  refine vv_istore (lv' := [(10, .int (zI mB)), (9, .int (zI mA)), (0, .ref (ad 90)), (1, .int (zI x)), (2, .ref (ad 105)), (3, .ref (ad 106)), (4, .ref (ad 107)), (5, .ref (ad 108)), (6, .ref (ad 109)), (7, .int (zI a7)), (8, .int (zI a8))]) X (by decide) rfl dL_same_391 ?_
  refine vv_aload_n X 4 rfl rfl dL_same_393 ?_
  refine vv_iconst (n := 0) X dL_same_394 ?_
  refine vv_iald (z := (M 105 0)) X (by decide) sh_105 (by decide) (by omega) (show N381 105 0 = M 105 0 from by rw [(EN381 105 (by decide))]) dL_same_395 ?_
  refine vv_aload_n X 4 rfl rfl dL_same_396 ?_
  refine vv_aload_n X 5 rfl rfl dL_same_397 ?_
  refine vv_aload X 8 rfl dL_same_398 ?_
  refine vv_callSI (As := [.int (zI (M 105 0)), .ref (ad 105), .ref (ad 106), .ref (ad 109)]) (st := []) X 4 (c_L_envelope l D cA had N381 (M 105 0) (by omega) (W_E9 hW EN381)) gL_same_L_envelope rfl (by decide +kernel) ⟨by decide, by decide⟩ (Nat.le_of_ble_eq_true rfl) ⟨by decide, by decide⟩ rfl rfl dL_same_400 (fun z400 Mc400 q_400 => ?_)
  obtain ⟨lo400, hi400, hB400, e_z400, q_400⟩ := q_400
  have q_400 := q_400.symm
  subst q_400
  refine vv_pop X rfl dL_same_403 ?_
  obtain ⟨N404, h_N404⟩ : ∃ N : Mem, N = (up2 (up2 N381 109 0 (frA (sN (rvl N381) (M 105 0) lo400 hi400) (sD lo400 hi400))) 109 1 (frB (sN (rvl N381) (M 105 0) lo400 hi400) (sD lo400 hi400))) := ⟨_, rfl⟩
  rw [← h_N404]
  have EN404 : eqx M N404 E9 := by rw [h_N404]; exact eqx_up _ _ (eqx_up _ _ EN381 (by decide)) (by decide)
  rw [rvl_E9 EN381] at hB400 h_N404
  have f404a : N404 109 0 = frA (sN (rvl M) (M 105 0) lo400 hi400) (sD lo400 hi400) := by rw [h_N404]; rfl
  have f404b : N404 109 1 = frB (sN (rvl M) (M 105 0) lo400 hi400) (sD lo400 hi400) := by rw [h_N404]; rfl
  have hd400 := sD_b (show 0 ≤ M 105 0 ∧ M 105 0 ≤ 100 by omega) hB400.1
  have hfe := fr_b2 (a := sN (rvl M) (M 105 0) lo400 hi400) (b := sD lo400 hi400) (A := 198000) (sN_b hvb (by omega) hB400.1) (sD_pos hB400.1)
  refine vv_iload X 1 rfl dL_same_404 ?_
  have join_429 : ∀ (e11 : Int), e11 = (if mA = frA (sN (rvl M) (M 105 0) lo400 hi400) (sD lo400 hi400) ∧ mB = frB (sN (rvl M) (M 105 0) lo400 hi400) (sD lo400 hi400) then 1 else 0) → VV p l e { frames := 6, cells := 0, slots := 0, locals := 133 } s m args below meth c 17 D ad cA (Afr ad s.heap.size) 0 0 (QI below args s D ad cA (fun z M1 => z = 1 ∧ eqx M M1 E9)) N404 429 [(0, .ref (ad 90)), (1, .int (zI x)), (2, .ref (ad 105)), (3, .ref (ad 106)), (4, .ref (ad 107)), (5, .ref (ad 108)), (6, .ref (ad 109)), (7, .int (zI a7)), (8, .int (zI a8)), (9, .int (zI mA)), (10, .int (zI mB)), (11, .int (zI e11))] [] := by
    intro e11 he11
    have he01 : e11 = 0 ∨ e11 = 1 := by rw [he11]; split <;> omega
    refine vv_aload_n X 0 rfl rfl dL_same_429 ?_
    refine vv_iconst (n := 0) X dL_same_430 ?_
    refine vv_callVI (As := [.int (zI 0)]) (st := []) (Nf := 9) X 1 (c_X8_mean l D cA had N404 0 (by omega) (RLL_q hR EN404).2.1) gL_same_X8_mean rfl (by decide +kernel) ⟨by decide, by decide⟩ (Nat.le_of_ble_eq_true rfl) ⟨by decide, by decide⟩ rfl (by decide) sh_90 rfl rfl dL_same_431 (fun z431 Mc431 q_431 => ?_)
    obtain ⟨Q431, F431⟩ := q_431
    have E431 : eqx M Mc431 E9 := eqx_tr EN404 (eqx_mono F431 (by decide))
    have e_z431 : z431 = mA + 10000000 := by
      have q := S_mean0 hR EN404 Q431
      rw [← hmA] at q
      exact q
    refine vv_iload X 9 rfl dL_same_434 ?_
    refine vv_ldc (n := 10000000) (v := 10000000) X (by decide +kernel) (by decide) dL_same_436 ?_
    refine vv_iadd X dL_same_438 ?_
    refine vv_icmp_ne (tgt := 525) X (by omega) (by omega) dL_same_439 (by decide) (fun c_439 => ?_) (fun c_439 => ?_)
    · skip
      omega
    · skip
      refine vv_aload_n X 0 rfl rfl dL_same_442 ?_
      refine vv_iconst (n := 1) X dL_same_443 ?_
      refine vv_callVI (As := [.int (zI 1)]) (st := []) (Nf := 9) X 1 (c_X8_mean l D cA had Mc431 1 (by omega) (RLL_q hR E431).2.1) gL_same_X8_mean rfl (by decide +kernel) ⟨by decide, by decide⟩ (Nat.le_of_ble_eq_true rfl) ⟨by decide, by decide⟩ rfl (by decide) sh_90 rfl rfl dL_same_444 (fun z444 Mc444 q_444 => ?_)
      obtain ⟨Q444, F444⟩ := q_444
      have E444 : eqx M Mc444 E9 := eqx_tr E431 (eqx_mono F444 (by decide))
      have e_z444 : z444 = mB := by
        have q := S_mean1 hR E431 Q444
        rw [← hmB] at q
        exact q
      refine vv_iload X 10 rfl dL_same_447 ?_
      refine vv_icmp_ne (tgt := 525) X (by omega) (by omega) dL_same_449 (by decide) (fun c_449 => ?_) (fun c_449 => ?_)
      · skip
        omega
      · skip
        refine vv_aload_n X 0 rfl rfl dL_same_452 ?_
        refine vv_aload_n X 2 rfl rfl dL_same_453 ?_
        refine vv_iconst (n := 2) X dL_same_454 ?_
        refine vv_iald (z := (M 105 2)) X (by decide) sh_105 (by decide) (by omega) (show Mc444 105 2 = M 105 2 from by rw [(E444 105 (by decide))]) dL_same_455 ?_
        refine vv_iconst (n := 0) X dL_same_456 ?_
        refine vv_callVI (As := [.int (zI (M 105 2)), .int (zI 0)]) (st := []) (Nf := 9) X 2 (c_X8_part l D cA had Mc444 (M 105 2) 0 (by omega) (by omega) (RLL_q hR E444).2.1) gL_same_X8_part rfl (by decide +kernel) ⟨by decide, by decide⟩ (Nat.le_of_ble_eq_true rfl) ⟨by decide, by decide⟩ rfl (by decide) sh_90 rfl rfl dL_same_457 (fun z457 Mc457 q_457 => ?_)
        obtain ⟨Q457, F457⟩ := q_457
        have E457 : eqx M Mc457 E9 := eqx_tr E444 (eqx_mono F457 (by decide))
        have e_z457 : z457 = -1 := S_partN hR E444 (by omega) Q457
        refine vv_iconst (n := (-1)) X dL_same_460 ?_
        refine vv_icmp_ne (tgt := 525) X (by omega) (by omega) dL_same_461 (by decide) (fun c_461 => ?_) (fun c_461 => ?_)
        · skip
          omega
        · skip
          refine vv_aload_n X 0 rfl rfl dL_same_464 ?_
          refine vv_iconst (n := 0) X dL_same_465 ?_
          refine vv_callVI (As := [.int (zI 0)]) (st := []) (Nf := 9) X 1 (c_X8_count l D cA had Mc457 0 (by omega) (RLL_q hR E457).2.1) gL_same_X8_count rfl (by decide +kernel) ⟨by decide, by decide⟩ (Nat.le_of_ble_eq_true rfl) ⟨by decide, by decide⟩ rfl (by decide) sh_90 rfl rfl dL_same_466 (fun z466 Mc466 q_466 => ?_)
          obtain ⟨Q466, _, _, F466⟩ := q_466
          have E466 : eqx M Mc466 E9 := eqx_tr E457 (eqx_mono F466 (by decide))
          have e_z466 : z466 = M 105 0 := S_cnt0 hR E457 Q466
          refine vv_aload_n X 2 rfl rfl dL_same_469 ?_
          refine vv_iconst (n := 0) X dL_same_470 ?_
          refine vv_iald (z := (M 105 0)) X (by decide) sh_105 (by decide) (by omega) (show Mc466 105 0 = M 105 0 from by rw [(E466 105 (by decide))]) dL_same_471 ?_
          refine vv_icmp_ne (tgt := 525) X (by omega) (by omega) dL_same_472 (by decide) (fun c_472 => ?_) (fun c_472 => ?_)
          · skip
            omega
          · skip
            refine vv_aload_n X 0 rfl rfl dL_same_475 ?_
            refine vv_iconst (n := 1) X dL_same_476 ?_
            refine vv_callVI (As := [.int (zI 1)]) (st := []) (Nf := 9) X 1 (c_X8_count l D cA had Mc466 1 (by omega) (RLL_q hR E466).2.1) gL_same_X8_count rfl (by decide +kernel) ⟨by decide, by decide⟩ (Nat.le_of_ble_eq_true rfl) ⟨by decide, by decide⟩ rfl (by decide) sh_90 rfl rfl dL_same_477 (fun z477 Mc477 q_477 => ?_)
            obtain ⟨Q477, _, _, F477⟩ := q_477
            have E477 : eqx M Mc477 E9 := eqx_tr E466 (eqx_mono F477 (by decide))
            have e_z477 : z477 = M 105 1 := S_cnt1 hR E466 Q477
            refine vv_aload_n X 2 rfl rfl dL_same_480 ?_
            refine vv_iconst (n := 1) X dL_same_481 ?_
            refine vv_iald (z := (M 105 1)) X (by decide) sh_105 (by decide) (by omega) (show Mc477 105 1 = M 105 1 from by rw [(E477 105 (by decide))]) dL_same_482 ?_
            refine vv_icmp_ne (tgt := 525) X (by omega) (by omega) dL_same_483 (by decide) (fun c_483 => ?_) (fun c_483 => ?_)
            · skip
              omega
            · skip
              refine vv_aload_n X 0 rfl rfl dL_same_486 ?_
              refine vv_iconst (n := 2) X dL_same_487 ?_
              refine vv_callVI (As := [.int (zI 2)]) (st := []) (Nf := 9) X 1 (c_X8_count l D cA had Mc477 2 (by omega) (RLL_q hR E477).2.1) gL_same_X8_count rfl (by decide +kernel) ⟨by decide, by decide⟩ (Nat.le_of_ble_eq_true rfl) ⟨by decide, by decide⟩ rfl (by decide) sh_90 rfl rfl dL_same_488 (fun z488 Mc488 q_488 => ?_)
              obtain ⟨Q488, _, _, F488⟩ := q_488
              have E488 : eqx M Mc488 E9 := eqx_tr E477 (eqx_mono F488 (by decide))
              have e_z488 : z488 = M 105 2 := S_cnt2 hR E477 Q488
              refine vv_aload_n X 2 rfl rfl dL_same_491 ?_
              refine vv_iconst (n := 2) X dL_same_492 ?_
              refine vv_iald (z := (M 105 2)) X (by decide) sh_105 (by decide) (by omega) (show Mc488 105 2 = M 105 2 from by rw [(E488 105 (by decide))]) dL_same_493 ?_
              refine vv_icmp_ne (tgt := 525) X (by omega) (by omega) dL_same_494 (by decide) (fun c_494 => ?_) (fun c_494 => ?_)
              · skip
                omega
              · skip
                refine vv_aload_n X 0 rfl rfl dL_same_497 ?_
                refine vv_iconst (n := 3) X dL_same_498 ?_
                refine vv_callVI (As := [.int (zI 3)]) (st := []) (Nf := 9) X 1 (c_X8_count l D cA had Mc488 3 (by omega) (RLL_q hR E488).2.1) gL_same_X8_count rfl (by decide +kernel) ⟨by decide, by decide⟩ (Nat.le_of_ble_eq_true rfl) ⟨by decide, by decide⟩ rfl (by decide) sh_90 rfl rfl dL_same_499 (fun z499 Mc499 q_499 => ?_)
                obtain ⟨Q499, _, _, F499⟩ := q_499
                have E499 : eqx M Mc499 E9 := eqx_tr E488 (eqx_mono F499 (by decide))
                have e_z499 : z499 = a7 := by rw [e7]; exact S_cnt3 hR E488 Q499
                refine vv_iload X 7 rfl dL_same_502 ?_
                refine vv_icmp_ne (tgt := 525) X (by omega) (by omega) dL_same_504 (by decide) (fun c_504 => ?_) (fun c_504 => ?_)
                · skip
                  omega
                · skip
                  refine vv_aload_n X 0 rfl rfl dL_same_507 ?_
                  refine vv_iconst (n := 4) X dL_same_508 ?_
                  refine vv_callVI (As := [.int (zI 4)]) (st := []) (Nf := 9) X 1 (c_X8_count l D cA had Mc499 4 (by omega) (RLL_q hR E499).2.1) gL_same_X8_count rfl (by decide +kernel) ⟨by decide, by decide⟩ (Nat.le_of_ble_eq_true rfl) ⟨by decide, by decide⟩ rfl (by decide) sh_90 rfl rfl dL_same_509 (fun z509 Mc509 q_509 => ?_)
                  obtain ⟨Q509, _, _, F509⟩ := q_509
                  have E509 : eqx M Mc509 E9 := eqx_tr E499 (eqx_mono F509 (by decide))
                  have e_z509 : z509 = e11 := S_cnt4 hR E499 Q509 hB400 (by rw [he11, hmA, hmB])
                  clear he11
                  have hr11 : -2147483648 ≤ e11 ∧ e11 ≤ 2147483647 := by rcases he01 with q | q <;> rw [q] <;> decide
                  refine vv_iload X 11 rfl dL_same_512 ?_
                  refine vv_if_eq (tgt := 521) X (hr11) dL_same_514 (by decide) (fun c_514 => ?_) (fun c_514 => ?_)
                  · skip
                    refine vv_iconst (n := 0) X dL_same_521 ?_
                    refine vv_icmp_eq (tgt := 527) X (by first | (rw [e_z509]; exact hr11) | exact ⟨by decide, by decide⟩) (by first | (rw [e_z509]; exact hr11) | exact ⟨by decide, by decide⟩) dL_same_522 (by decide) (fun c_522 => ?_) (fun c_522 => ?_)
                    · skip
                      refine vv_sub (lv' := [(0, .ref (ad 90)), (1, .int (zI x)), (2, .ref (ad 105)), (3, .ref (ad 106)), (4, .ref (ad 107)), (5, .ref (ad 108)), (6, .ref (ad 109))]) [0, 1, 2, 3, 4, 5, 6] rfl ?_
                      exact nx Mc509 E509
                    · skip
                      exact absurd (e_z509.trans c_514) c_522
                  · skip
                    refine vv_iconst (n := 1) X dL_same_517 ?_
                    refine vv_goto (tgt := 522) X (by decide) dL_same_518 ?_
                    refine vv_icmp_eq (tgt := 527) X (by first | (rw [e_z509]; exact hr11) | exact ⟨by decide, by decide⟩) (by first | (rw [e_z509]; exact hr11) | exact ⟨by decide, by decide⟩) dL_same_522 (by decide) (fun c_522 => ?_) (fun c_522 => ?_)
                    · skip
                      refine vv_sub (lv' := [(0, .ref (ad 90)), (1, .int (zI x)), (2, .ref (ad 105)), (3, .ref (ad 106)), (4, .ref (ad 107)), (5, .ref (ad 108)), (6, .ref (ad 109))]) [0, 1, 2, 3, 4, 5, 6] rfl ?_
                      exact nx Mc509 E509
                    · skip
                      exact absurd (e_z509.trans (he01.resolve_left c_514)) c_522
  refine vv_aload X 8 rfl dL_same_406 ?_
  refine vv_iconst (n := 0) X dL_same_408 ?_
  refine vv_iald (z := (N404 109 0)) X (by decide) sh_109 (by decide) (by omega) (rfl) dL_same_409 ?_
  refine vv_icmp_ne (tgt := 426) X (by omega) (by omega) dL_same_410 (by decide) (fun c_410 => ?_) (fun c_410 => ?_)
  · skip
    refine vv_iconst (n := 0) X dL_same_426 ?_
    refine vv_istore (lv' := [(11, .int (zI 0)), (10, .int (zI mB)), (9, .int (zI mA)), (0, .ref (ad 90)), (1, .int (zI x)), (2, .ref (ad 105)), (3, .ref (ad 106)), (4, .ref (ad 107)), (5, .ref (ad 108)), (6, .ref (ad 109)), (7, .int (zI a7)), (8, .int (zI a8))]) X (by decide) rfl dL_same_427 ?_
    refine vv_sub (lv' := [(0, .ref (ad 90)), (1, .int (zI x)), (2, .ref (ad 105)), (3, .ref (ad 106)), (4, .ref (ad 107)), (5, .ref (ad 108)), (6, .ref (ad 109)), (7, .int (zI a7)), (8, .int (zI a8)), (9, .int (zI mA)), (10, .int (zI mB)), (11, .int (zI 0))]) [3, 4, 5, 6, 7, 8, 9, 10, 11, 2, 1, 0] rfl ?_
    exact join_429 0 (by rw [← f404a, ← f404b]; first | rw [if_pos ⟨by omega, by omega⟩] | rw [if_neg (fun q => by have q1 := q.1; have q2 := q.2; omega)])
  · skip
    refine vv_iload X 0 rfl dL_same_413 ?_
    refine vv_aload X 8 rfl dL_same_415 ?_
    refine vv_iconst (n := 1) X dL_same_417 ?_
    refine vv_iald (z := (N404 109 1)) X (by decide) sh_109 (by decide) (by omega) (rfl) dL_same_418 ?_
    refine vv_icmp_ne (tgt := 426) X (by omega) (by omega) dL_same_419 (by decide) (fun c_419 => ?_) (fun c_419 => ?_)
    · skip
      refine vv_iconst (n := 0) X dL_same_426 ?_
      refine vv_istore (lv' := [(11, .int (zI 0)), (10, .int (zI mB)), (9, .int (zI mA)), (0, .ref (ad 90)), (1, .int (zI x)), (2, .ref (ad 105)), (3, .ref (ad 106)), (4, .ref (ad 107)), (5, .ref (ad 108)), (6, .ref (ad 109)), (7, .int (zI a7)), (8, .int (zI a8))]) X (by decide) rfl dL_same_427 ?_
      refine vv_sub (lv' := [(0, .ref (ad 90)), (1, .int (zI x)), (2, .ref (ad 105)), (3, .ref (ad 106)), (4, .ref (ad 107)), (5, .ref (ad 108)), (6, .ref (ad 109)), (7, .int (zI a7)), (8, .int (zI a8)), (9, .int (zI mA)), (10, .int (zI mB)), (11, .int (zI 0))]) [3, 4, 5, 6, 7, 8, 9, 10, 11, 2, 1, 0] rfl ?_
      exact join_429 0 (by rw [← f404a, ← f404b]; first | rw [if_pos ⟨by omega, by omega⟩] | rw [if_neg (fun q => by have q1 := q.1; have q2 := q.2; omega)])
    · skip
      refine vv_iconst (n := 1) X dL_same_422 ?_
      refine vv_goto (tgt := 427) X (by decide) dL_same_423 ?_
      refine vv_istore (lv' := [(11, .int (zI 1)), (10, .int (zI mB)), (9, .int (zI mA)), (0, .ref (ad 90)), (1, .int (zI x)), (2, .ref (ad 105)), (3, .ref (ad 106)), (4, .ref (ad 107)), (5, .ref (ad 108)), (6, .ref (ad 109)), (7, .int (zI a7)), (8, .int (zI a8))]) X (by decide) rfl dL_same_427 ?_
      refine vv_sub (lv' := [(0, .ref (ad 90)), (1, .int (zI x)), (2, .ref (ad 105)), (3, .ref (ad 106)), (4, .ref (ad 107)), (5, .ref (ad 108)), (6, .ref (ad 109)), (7, .int (zI a7)), (8, .int (zI a8)), (9, .int (zI mA)), (10, .int (zI mB)), (11, .int (zI 1))]) [3, 4, 5, 6, 7, 8, 9, 10, 11, 2, 1, 0] rfl ?_
      exact join_429 1 (by rw [← f404a, ← f404b]; first | rw [if_pos ⟨by omega, by omega⟩] | rw [if_neg (fun q => by have q1 := q.1; have q2 := q.2; omega)])
