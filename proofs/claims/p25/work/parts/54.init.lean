theorem v_X8_init_0 : ∀ w ∈ u_ws RX0 TX0 7, w ∈ wsX8_init := by decide +kernel
theorem v_X8_init_1 : ∀ w ∈ u_ws RX1 TX1 2, w ∈ wsX8_init := by decide +kernel
theorem v_X8_init_2 : ∀ w ∈ u_ws RX2 TX2 3, w ∈ wsX8_init := by decide +kernel
theorem v_X8_init_3 : ∀ w ∈ u_ws RX3 TX3 1, w ∈ wsX8_init := by decide +kernel
theorem v_X8_init_4 : ∀ w ∈ u_ws RX4 TX4 6, w ∈ wsX8_init := by decide +kernel
theorem v_X8_init_7 : ∀ w ∈ u_ws RX7 TX7 3, w ∈ wsX8_init := by decide +kernel
theorem v_X8_init_8 : ∀ w ∈ u_ws RX8 TX8 9, w ∈ wsX8_init := by decide +kernel
theorem j_X8_init_10 : Cond.fieldLink yX8_init.cls 10 (TX8 0).1 (TX8 0).2.1 (TX8 0).2.2.1 ∈ wsX8_init := by decide +kernel
theorem j_X8_init_19 : Cond.fieldLink yX8_init.cls 19 (TX8 1).1 (TX8 1).2.1 (TX8 1).2.2.1 ∈ wsX8_init := by decide +kernel
theorem j_X8_init_23 : Cond.fieldLink yX8_init.cls 23 (TX8 2).1 (TX8 2).2.1 (TX8 2).2.2.1 ∈ wsX8_init := by decide +kernel
theorem j_X8_init_27 : Cond.fieldLink yX8_init.cls 27 (TX8 3).1 (TX8 3).2.1 (TX8 3).2.2.1 ∈ wsX8_init := by decide +kernel
theorem j_X8_init_34 : Cond.fieldLink yX8_init.cls 34 (TX8 4).1 (TX8 4).2.1 (TX8 4).2.2.1 ∈ wsX8_init := by decide +kernel
theorem j_X8_init_41 : Cond.fieldLink yX8_init.cls 41 (TX8 5).1 (TX8 5).2.1 (TX8 5).2.2.1 ∈ wsX8_init := by decide +kernel
theorem j_X8_init_48 : Cond.fieldLink yX8_init.cls 48 (TX8 6).1 (TX8 6).2.1 (TX8 6).2.2.1 ∈ wsX8_init := by decide +kernel
theorem j_X8_init_55 : Cond.fieldLink yX8_init.cls 55 (TX8 7).1 (TX8 7).2.1 (TX8 7).2.2.1 ∈ wsX8_init := by decide +kernel
theorem j_X8_init_59 : Cond.fieldLink yX8_init.cls 59 (TX8 8).1 (TX8 8).2.1 (TX8 8).2.2.1 ∈ wsX8_init := by decide +kernel
set_option maxRecDepth 100000 in
set_option maxHeartbeats 8000000 in
theorem i_X8 (l : Launch) (D : va_G) (cA : Nat → ClassId) (h : Nat) : CtN l yX8_init wsX8_init 4 104 857 84 D cA [.ref h] ([(h, .inr (8, [.null, .null, .null, .null, .null, .null, .null, .null, .null]))]) (fun u => u 90 = h) (wX8 cA) := by
  refine CtN.of (cc := cX8_init) (maxL := 2) (by decide) rfl (Nat.le_of_ble_eq_true rfl) ?_
  intro p e s m args below meth c X hm hin
  show LL p l e { frames := 4, cells := 104, slots := 857, locals := 84 } s m args below meth c 2 D (va_A ([(h, .inr (8, [.null, .null, .null, .null, .null, .null, .null, .null, .null]))]) s.heap.size) 0 0 (QN below args s D ([(h, .inr (8, [.null, .null, .null, .null, .null, .null, .null, .null, .null]))]) (fun u => u 90 = h) (wX8 cA) 104 857) ([(h, .inr (8, [.null, .null, .null, .null, .null, .null, .null, .null, .null]))]) 0 [(0, .ref h)] []
  refine ll_aload_n X 0 rfl rfl dX8_init_0 ?_
  refine ll_obj X (by decide +kernel) (by decide +kernel) (by decide +kernel) ⟨Nat.le_of_ble_eq_true rfl, Nat.le_of_ble_eq_true rfl⟩ dX8_init_1 ?_
  refine ll_aload_n X 0 rfl rfl dX8_init_4 ?_
  refine ll_new (C := RX7) (T := TX7) (N := 3) (ci := 7) (fs := [.null, .null, .int (zI 0)]) X v_X8_init_7 tyX7 tyX7_ok (by decide +kernel) (by decide +kernel) (by decide +kernel) rfl (fun j hj => by rcases (show j = 0 ∨ j = 1 ∨ j = 2 by omega) with rfl | rfl | rfl <;> rfl) ⟨Nat.le_of_ble_eq_true rfl, Nat.le_of_ble_eq_true rfl⟩ dX8_init_5 (fun q1 => ?_)
  refine ll_dup X rfl dX8_init_8 ?_
  refine ll_callI (As := []) (st := [.ref q1, .ref h]) X 0 (i_X7 l D cA q1) gX8_init_X7_init rfl (by decide +kernel) (by decide +kernel) (by decide +kernel) rfl (by decide +kernel) ⟨by decide, by decide⟩ (Nat.le_of_ble_eq_true rfl) ⟨Nat.le_of_ble_eq_true rfl, Nat.le_of_ble_eq_true rfl⟩ rfl rfl dX8_init_9 (fun u2 hu2 => ?_)
  subst hu2
  refine ll_putF (C := RX8) (T := TX8) (N := 9) (ref := (TX8 0).1) (ty := tyX8 0) (ws' := ([(h, .inr (8, [.ref (u2 0), .null, .null, .null, .null, .null, .null, .null, .null]))] ++ (wX7 cA u2))) X hin v_X8_init_8 tyX8 tyX8_ok nmX8 0 rfl rfl 0 (by decide) j_X8_init_10 rfl rfl rfl (tyX8_ok 0 (by decide)) rfl rfl (Nat.le_of_ble_eq_true rfl) rfl dX8_init_12 ?_
  refine ll_aload_n X 0 rfl rfl dX8_init_15 ?_
  refine ll_new (C := RX2) (T := TX2) (N := 3) (ci := 2) (fs := [.null, .int (zI 0), .int (zI 0)]) X v_X8_init_2 tyX2 tyX2_ok (by decide +kernel) (by decide +kernel) (by decide +kernel) rfl (fun j hj => by rcases (show j = 0 ∨ j = 1 ∨ j = 2 by omega) with rfl | rfl | rfl <;> rfl) ⟨Nat.le_of_ble_eq_true rfl, Nat.le_of_ble_eq_true rfl⟩ dX8_init_16 (fun q3 => ?_)
  refine ll_dup X rfl dX8_init_19 ?_
  refine ll_callI (As := []) (st := [.ref q3, .ref h]) X 0 (i_X2 l D cA q3) gX8_init_X2_init rfl (by decide +kernel) (by decide +kernel) (by decide +kernel) rfl (by decide +kernel) ⟨by decide, by decide⟩ (Nat.le_of_ble_eq_true rfl) ⟨Nat.le_of_ble_eq_true rfl, Nat.le_of_ble_eq_true rfl⟩ rfl rfl dX8_init_20 (fun u4 hu4 => ?_)
  subst hu4
  refine ll_putF (C := RX8) (T := TX8) (N := 9) (ref := (TX8 1).1) (ty := tyX8 1) (ws' := (([(h, .inr (8, [.ref (u2 0), .ref (u4 0), .null, .null, .null, .null, .null, .null, .null]))] ++ (wX7 cA u2)) ++ (wX2 cA u4))) X hin v_X8_init_8 tyX8 tyX8_ok nmX8 0 rfl rfl 1 (by decide) j_X8_init_19 rfl rfl rfl (tyX8_ok 1 (by decide)) rfl rfl (Nat.le_of_ble_eq_true rfl) rfl dX8_init_23 ?_
  refine ll_aload_n X 0 rfl rfl dX8_init_26 ?_
  refine ll_iconst (n := 2) X dX8_init_27 ?_
  refine ll_newq (N := 2) X (by decide +kernel) ⟨by decide, by decide⟩ rfl ⟨Nat.le_of_ble_eq_true rfl, Nat.le_of_ble_eq_true rfl⟩ dX8_init_28 (fun q5 => ?_)
  refine ll_putF (C := RX8) (T := TX8) (N := 9) (ref := (TX8 2).1) (ty := tyX8 2) (ws' := ((([(h, .inr (8, [.ref (u2 0), .ref (u4 0), .ref q5, .null, .null, .null, .null, .null, .null]))] ++ (wX7 cA u2)) ++ (wX2 cA u4)) ++ [(q5, .inl (cA 3, 2, .inr (.inr (.inr (.inr (fun _ => none))))))])) X hin v_X8_init_8 tyX8 tyX8_ok nmX8 0 rfl rfl 2 (by decide) j_X8_init_23 rfl rfl rfl (tyX8_ok 2 (by decide)) rfl rfl (Nat.le_of_ble_eq_true rfl) rfl dX8_init_31 ?_
  refine ll_iconst (n := 0) X dX8_init_34 ?_
  refine ll_istore_n (lv' := [(1, .int (zI 0)), (0, .ref h)]) X rfl (by decide) rfl dX8_init_35 ?_
  refine ll_iload_n X 0 rfl rfl dX8_init_36 ?_
  refine ll_iconst (n := 2) X dX8_init_37 ?_
  refine ll_icmp_ge (tgt := 60) X ⟨by decide, by decide⟩ ⟨by decide, by decide⟩ dX8_init_38 (by decide) (fun h9 => absurd h9 (by decide)) (fun _ => ?_)
  refine ll_aload_n X 1 rfl rfl dX8_init_41 ?_
  refine ll_get (C := RX8) (T := TX8) (N := 9) (ref := (TX8 2).1) (v := .ref q5) X v_X8_init_8 0 rfl rfl 2 (by decide) j_X8_init_23 rfl rfl dX8_init_42 ?_
  refine ll_iload_n X 0 rfl rfl dX8_init_45 ?_
  refine ll_new (C := RX7) (T := TX7) (N := 3) (ci := 7) (fs := [.null, .null, .int (zI 0)]) X v_X8_init_7 tyX7 tyX7_ok (by decide +kernel) (by decide +kernel) (by decide +kernel) rfl (fun j hj => by rcases (show j = 0 ∨ j = 1 ∨ j = 2 by omega) with rfl | rfl | rfl <;> rfl) ⟨Nat.le_of_ble_eq_true rfl, Nat.le_of_ble_eq_true rfl⟩ dX8_init_46 (fun q6 => ?_)
  refine ll_dup X rfl dX8_init_49 ?_
  refine ll_callI (As := []) (st := [.ref q6, .int (zI 0), .ref q5]) X 0 (i_X7 l D cA q6) gX8_init_X7_init rfl (by decide +kernel) (by decide +kernel) (by decide +kernel) rfl (by decide +kernel) ⟨by decide, by decide⟩ (Nat.le_of_ble_eq_true rfl) ⟨Nat.le_of_ble_eq_true rfl, Nat.le_of_ble_eq_true rfl⟩ rfl rfl dX8_init_50 (fun u7 hu7 => ?_)
  subst hu7
  refine ll_astq (g := (fun _ => none)) (ws' := (((([(h, .inr (8, [.ref (u2 0), .ref (u4 0), .ref q5, .null, .null, .null, .null, .null, .null]))] ++ (wX7 cA u2)) ++ (wX2 cA u4)) ++ [(q5, .inl (cA 3, 2, .inr (.inr (.inr (.inr (va_up (fun _ => none) 0 (some (u7 0))))))))]) ++ (wX7 cA u7))) X 75 76 rfl rfl (by decide) ⟨by decide, by decide⟩ rfl dX8_init_53 ?_
  refine ll_iinc (lv' := [(1, .int (zI 1)), (0, .ref h)]) X 0 rfl (by decide) rfl dX8_init_54 ?_
  refine ll_goto (tgt := 36) X (by decide) dX8_init_57 ?_
  refine ll_iload_n X 0 rfl rfl dX8_init_36 ?_
  refine ll_iconst (n := 2) X dX8_init_37 ?_
  refine ll_icmp_ge (tgt := 60) X ⟨by decide, by decide⟩ ⟨by decide, by decide⟩ dX8_init_38 (by decide) (fun h9 => absurd h9 (by decide)) (fun _ => ?_)
  refine ll_aload_n X 1 rfl rfl dX8_init_41 ?_
  refine ll_get (C := RX8) (T := TX8) (N := 9) (ref := (TX8 2).1) (v := .ref q5) X v_X8_init_8 0 rfl rfl 2 (by decide) j_X8_init_23 rfl rfl dX8_init_42 ?_
  refine ll_iload_n X 0 rfl rfl dX8_init_45 ?_
  refine ll_new (C := RX7) (T := TX7) (N := 3) (ci := 7) (fs := [.null, .null, .int (zI 0)]) X v_X8_init_7 tyX7 tyX7_ok (by decide +kernel) (by decide +kernel) (by decide +kernel) rfl (fun j hj => by rcases (show j = 0 ∨ j = 1 ∨ j = 2 by omega) with rfl | rfl | rfl <;> rfl) ⟨Nat.le_of_ble_eq_true rfl, Nat.le_of_ble_eq_true rfl⟩ dX8_init_46 (fun q8 => ?_)
  refine ll_dup X rfl dX8_init_49 ?_
  refine ll_callI (As := []) (st := [.ref q8, .int (zI 1), .ref q5]) X 0 (i_X7 l D cA q8) gX8_init_X7_init rfl (by decide +kernel) (by decide +kernel) (by decide +kernel) rfl (by decide +kernel) ⟨by decide, by decide⟩ (Nat.le_of_ble_eq_true rfl) ⟨Nat.le_of_ble_eq_true rfl, Nat.le_of_ble_eq_true rfl⟩ rfl rfl dX8_init_50 (fun u9 hu9 => ?_)
  subst hu9
  refine ll_astq (g := (va_up (fun _ => none) 0 (some (u7 0)))) (ws' := ((((([(h, .inr (8, [.ref (u2 0), .ref (u4 0), .ref q5, .null, .null, .null, .null, .null, .null]))] ++ (wX7 cA u2)) ++ (wX2 cA u4)) ++ [(q5, .inl (cA 3, 2, .inr (.inr (.inr (.inr (va_up (va_up (fun _ => none) 0 (some (u7 0))) 1 (some (u9 0))))))))]) ++ (wX7 cA u7)) ++ (wX7 cA u9))) X 75 85 rfl rfl (by decide) ⟨by decide, by decide⟩ rfl dX8_init_53 ?_
  refine ll_iinc (lv' := [(1, .int (zI 2)), (0, .ref h)]) X 0 rfl (by decide) rfl dX8_init_54 ?_
  refine ll_goto (tgt := 36) X (by decide) dX8_init_57 ?_
  refine ll_iload_n X 0 rfl rfl dX8_init_36 ?_
  refine ll_iconst (n := 2) X dX8_init_37 ?_
  refine ll_icmp_ge (tgt := 60) X ⟨by decide, by decide⟩ ⟨by decide, by decide⟩ dX8_init_38 (by decide) (fun _ => ?_) (fun h9 => absurd h9 (by decide))
  refine ll_aload_n X 1 rfl rfl dX8_init_60 ?_
  refine ll_iconst (n := 2) X dX8_init_61 ?_
  refine ll_newa (ty := .boolean) (t := 2) (N := 2) X (by decide +kernel) rfl rfl (fun _ h => h) rfl ⟨by decide, by decide⟩ rfl (Nat.le_of_ble_eq_true rfl) ⟨Nat.le_of_ble_eq_true rfl, Nat.le_of_ble_eq_true rfl⟩ dX8_init_62 (fun q10 => ?_)
  refine ll_putF (C := RX8) (T := TX8) (N := 9) (ref := (TX8 3).1) (ty := tyX8 3) (ws' := (((((([(h, .inr (8, [.ref (u2 0), .ref (u4 0), .ref q5, .ref q10, .null, .null, .null, .null, .null]))] ++ (wX7 cA u2)) ++ (wX2 cA u4)) ++ [(q5, .inl (cA 3, 2, .inr (.inr (.inr (.inr (va_up (va_up (fun _ => none) 0 (some (u7 0))) 1 (some (u9 0))))))))]) ++ (wX7 cA u7)) ++ (wX7 cA u9)) ++ [(q10, .inl (cA 2, 2, .inl (fun _ => zI 0)))])) X hin v_X8_init_8 tyX8 tyX8_ok nmX8 0 rfl rfl 3 (by decide) j_X8_init_27 rfl rfl rfl (tyX8_ok 3 (by decide)) rfl rfl (Nat.le_of_ble_eq_true rfl) rfl dX8_init_64 ?_
  refine ll_aload_n X 1 rfl rfl dX8_init_67 ?_
  refine ll_new (C := RX4) (T := TX4) (N := 6) (ci := 4) (fs := [.null, .null, .int (zI 0), .int (zI 0), .int (zI 0), .int (zI 0)]) X v_X8_init_4 tyX4 tyX4_ok (by decide +kernel) (by decide +kernel) (by decide +kernel) rfl (fun j hj => by rcases (show j = 0 ∨ j = 1 ∨ j = 2 ∨ j = 3 ∨ j = 4 ∨ j = 5 by omega) with rfl | rfl | rfl | rfl | rfl | rfl <;> rfl) ⟨Nat.le_of_ble_eq_true rfl, Nat.le_of_ble_eq_true rfl⟩ dX8_init_68 (fun q11 => ?_)
  refine ll_dup X rfl dX8_init_71 ?_
  refine ll_callN (As := []) (st := [.ref q11, .ref h]) (host := RX8) X 0 (i_X4 l D cA q11) gX8_init_X4_init_n33 rfl X.2.2.1.2.2.1 (by decide +kernel) (by decide +kernel) rfl (by decide +kernel) ⟨by decide, by decide⟩ (Nat.le_of_ble_eq_true rfl) ⟨Nat.le_of_ble_eq_true rfl, Nat.le_of_ble_eq_true rfl⟩ rfl rfl dX8_init_72 (fun u12 hu12 => ?_)
  subst hu12
  refine ll_putF (C := RX8) (T := TX8) (N := 9) (ref := (TX8 4).1) (ty := tyX8 4) (ws' := ((((((([(h, .inr (8, [.ref (u2 0), .ref (u4 0), .ref q5, .ref q10, .ref (u12 0), .null, .null, .null, .null]))] ++ (wX7 cA u2)) ++ (wX2 cA u4)) ++ [(q5, .inl (cA 3, 2, .inr (.inr (.inr (.inr (va_up (va_up (fun _ => none) 0 (some (u7 0))) 1 (some (u9 0))))))))]) ++ (wX7 cA u7)) ++ (wX7 cA u9)) ++ [(q10, .inl (cA 2, 2, .inl (fun _ => zI 0)))]) ++ (wX4 cA u12))) X hin v_X8_init_8 tyX8 tyX8_ok nmX8 0 rfl rfl 4 (by decide) j_X8_init_34 rfl rfl rfl (tyX8_ok 4 (by decide)) rfl rfl (Nat.le_of_ble_eq_true rfl) rfl dX8_init_75 ?_
  refine ll_aload_n X 1 rfl rfl dX8_init_78 ?_
  refine ll_new (C := RX3) (T := TX3) (N := 1) (ci := 3) (fs := [.null]) X v_X8_init_3 tyX3 tyX3_ok (by decide +kernel) (by decide +kernel) (by decide +kernel) rfl (fun j hj => by rcases (show j = 0 by omega) with rfl <;> rfl) ⟨Nat.le_of_ble_eq_true rfl, Nat.le_of_ble_eq_true rfl⟩ dX8_init_79 (fun q13 => ?_)
  refine ll_dup X rfl dX8_init_82 ?_
  refine ll_callN (As := []) (st := [.ref q13, .ref h]) (host := RX8) X 0 (i_X3 l D cA q13) gX8_init_X3_init_n40 rfl X.2.2.1.2.2.2.1 (by decide +kernel) (by decide +kernel) rfl (by decide +kernel) ⟨by decide, by decide⟩ (Nat.le_of_ble_eq_true rfl) ⟨Nat.le_of_ble_eq_true rfl, Nat.le_of_ble_eq_true rfl⟩ rfl rfl dX8_init_83 (fun u14 hu14 => ?_)
  subst hu14
  refine ll_putF (C := RX8) (T := TX8) (N := 9) (ref := (TX8 5).1) (ty := tyX8 5) (ws' := (((((((([(h, .inr (8, [.ref (u2 0), .ref (u4 0), .ref q5, .ref q10, .ref (u12 0), .ref (u14 0), .null, .null, .null]))] ++ (wX7 cA u2)) ++ (wX2 cA u4)) ++ [(q5, .inl (cA 3, 2, .inr (.inr (.inr (.inr (va_up (va_up (fun _ => none) 0 (some (u7 0))) 1 (some (u9 0))))))))]) ++ (wX7 cA u7)) ++ (wX7 cA u9)) ++ [(q10, .inl (cA 2, 2, .inl (fun _ => zI 0)))]) ++ (wX4 cA u12)) ++ (wX3 cA u14))) X hin v_X8_init_8 tyX8 tyX8_ok nmX8 0 rfl rfl 5 (by decide) j_X8_init_41 rfl rfl rfl (tyX8_ok 5 (by decide)) rfl rfl (Nat.le_of_ble_eq_true rfl) rfl dX8_init_86 ?_
  refine ll_aload_n X 1 rfl rfl dX8_init_89 ?_
  refine ll_new (C := RX0) (T := TX0) (N := 7) (ci := 0) (fs := [.null, .null, .int (zI 0), .int (zI 0), .int (zI 0), .int (zI 0), .int (zI 0)]) X v_X8_init_0 tyX0 tyX0_ok (by decide +kernel) (by decide +kernel) (by decide +kernel) rfl (fun j hj => by rcases (show j = 0 ∨ j = 1 ∨ j = 2 ∨ j = 3 ∨ j = 4 ∨ j = 5 ∨ j = 6 by omega) with rfl | rfl | rfl | rfl | rfl | rfl | rfl <;> rfl) ⟨Nat.le_of_ble_eq_true rfl, Nat.le_of_ble_eq_true rfl⟩ dX8_init_90 (fun q15 => ?_)
  refine ll_dup X rfl dX8_init_93 ?_
  refine ll_callN (As := []) (st := [.ref q15, .ref h]) (host := RX8) X 0 (i_X0 l D cA q15) gX8_init_X0_init_n47 rfl X.2.2.1.2.2.2.2.1 (by decide +kernel) (by decide +kernel) rfl (by decide +kernel) ⟨by decide, by decide⟩ (Nat.le_of_ble_eq_true rfl) ⟨Nat.le_of_ble_eq_true rfl, Nat.le_of_ble_eq_true rfl⟩ rfl rfl dX8_init_94 (fun u16 hu16 => ?_)
  subst hu16
  refine ll_putF (C := RX8) (T := TX8) (N := 9) (ref := (TX8 6).1) (ty := tyX8 6) (ws' := ((((((((([(h, .inr (8, [.ref (u2 0), .ref (u4 0), .ref q5, .ref q10, .ref (u12 0), .ref (u14 0), .ref (u16 0), .null, .null]))] ++ (wX7 cA u2)) ++ (wX2 cA u4)) ++ [(q5, .inl (cA 3, 2, .inr (.inr (.inr (.inr (va_up (va_up (fun _ => none) 0 (some (u7 0))) 1 (some (u9 0))))))))]) ++ (wX7 cA u7)) ++ (wX7 cA u9)) ++ [(q10, .inl (cA 2, 2, .inl (fun _ => zI 0)))]) ++ (wX4 cA u12)) ++ (wX3 cA u14)) ++ (wX0 cA u16))) X hin v_X8_init_8 tyX8 tyX8_ok nmX8 0 rfl rfl 6 (by decide) j_X8_init_48 rfl rfl rfl (tyX8_ok 6 (by decide)) rfl rfl (Nat.le_of_ble_eq_true rfl) rfl dX8_init_97 ?_
  refine ll_aload_n X 1 rfl rfl dX8_init_100 ?_
  refine ll_new (C := RX1) (T := TX1) (N := 2) (ci := 1) (fs := [.int (zI 0), .int (zI 0)]) X v_X8_init_1 tyX1 tyX1_ok (by decide +kernel) (by decide +kernel) (by decide +kernel) rfl (fun j hj => by rcases (show j = 0 ∨ j = 1 by omega) with rfl | rfl <;> rfl) ⟨Nat.le_of_ble_eq_true rfl, Nat.le_of_ble_eq_true rfl⟩ dX8_init_101 (fun q17 => ?_)
  refine ll_dup X rfl dX8_init_104 ?_
  refine ll_callN (As := []) (st := [.ref q17, .ref h]) (host := RX8) X 0 (i_X1 l D cA q17) gX8_init_X1_init_n54 rfl X.2.2.1.2.2.2.2.2.1 (by decide +kernel) (by decide +kernel) rfl (by decide +kernel) ⟨by decide, by decide⟩ (Nat.le_of_ble_eq_true rfl) ⟨Nat.le_of_ble_eq_true rfl, Nat.le_of_ble_eq_true rfl⟩ rfl rfl dX8_init_105 (fun u18 hu18 => ?_)
  subst hu18
  refine ll_putF (C := RX8) (T := TX8) (N := 9) (ref := (TX8 7).1) (ty := tyX8 7) (ws' := (((((((((([(h, .inr (8, [.ref (u2 0), .ref (u4 0), .ref q5, .ref q10, .ref (u12 0), .ref (u14 0), .ref (u16 0), .ref (u18 0), .null]))] ++ (wX7 cA u2)) ++ (wX2 cA u4)) ++ [(q5, .inl (cA 3, 2, .inr (.inr (.inr (.inr (va_up (va_up (fun _ => none) 0 (some (u7 0))) 1 (some (u9 0))))))))]) ++ (wX7 cA u7)) ++ (wX7 cA u9)) ++ [(q10, .inl (cA 2, 2, .inl (fun _ => zI 0)))]) ++ (wX4 cA u12)) ++ (wX3 cA u14)) ++ (wX0 cA u16)) ++ (wX1 cA u18))) X hin v_X8_init_8 tyX8 tyX8_ok nmX8 0 rfl rfl 7 (by decide) j_X8_init_55 rfl rfl rfl (tyX8_ok 7 (by decide)) rfl rfl (Nat.le_of_ble_eq_true rfl) rfl dX8_init_108 ?_
  refine ll_aload_n X 1 rfl rfl dX8_init_111 ?_
  refine ll_new (C := RX1) (T := TX1) (N := 2) (ci := 1) (fs := [.int (zI 0), .int (zI 0)]) X v_X8_init_1 tyX1 tyX1_ok (by decide +kernel) (by decide +kernel) (by decide +kernel) rfl (fun j hj => by rcases (show j = 0 ∨ j = 1 by omega) with rfl | rfl <;> rfl) ⟨Nat.le_of_ble_eq_true rfl, Nat.le_of_ble_eq_true rfl⟩ dX8_init_112 (fun q19 => ?_)
  refine ll_dup X rfl dX8_init_115 ?_
  refine ll_callN (As := []) (st := [.ref q19, .ref h]) (host := RX8) X 0 (i_X1 l D cA q19) gX8_init_X1_init_n54 rfl X.2.2.1.2.2.2.2.2.1 (by decide +kernel) (by decide +kernel) rfl (by decide +kernel) ⟨by decide, by decide⟩ (Nat.le_of_ble_eq_true rfl) ⟨Nat.le_of_ble_eq_true rfl, Nat.le_of_ble_eq_true rfl⟩ rfl rfl dX8_init_116 (fun u20 hu20 => ?_)
  subst hu20
  refine ll_putF (C := RX8) (T := TX8) (N := 9) (ref := (TX8 8).1) (ty := tyX8 8) (ws' := ((((((((((([(h, .inr (8, [.ref (u2 0), .ref (u4 0), .ref q5, .ref q10, .ref (u12 0), .ref (u14 0), .ref (u16 0), .ref (u18 0), .ref (u20 0)]))] ++ (wX7 cA u2)) ++ (wX2 cA u4)) ++ [(q5, .inl (cA 3, 2, .inr (.inr (.inr (.inr (va_up (va_up (fun _ => none) 0 (some (u7 0))) 1 (some (u9 0))))))))]) ++ (wX7 cA u7)) ++ (wX7 cA u9)) ++ [(q10, .inl (cA 2, 2, .inl (fun _ => zI 0)))]) ++ (wX4 cA u12)) ++ (wX3 cA u14)) ++ (wX0 cA u16)) ++ (wX1 cA u18)) ++ (wX1 cA u20))) X hin v_X8_init_8 tyX8 tyX8_ok nmX8 0 rfl rfl 8 (by decide) j_X8_init_59 rfl rfl rfl (tyX8_ok 8 (by decide)) rfl rfl (Nat.le_of_ble_eq_true rfl) rfl dX8_init_119 ?_
  refine ll_refs (f := (fun k => some (u4 (2 + 9 * k)))) (g := (fun k => some ((U8 h u2 u4 q5 u7 u9 q10 u12 u14 u16 u18 u20) (9 * (k + 3))))) (n := 7) (ws' := ((((((((((([(h, .inr (8, [.ref (u2 0), .ref (u4 0), .ref q5, .ref q10, .ref (u12 0), .ref (u14 0), .ref (u16 0), .ref (u18 0), .ref (u20 0)]))] ++ (wX7 cA u2)) ++ (wX2g cA u4 (fun k => some ((U8 h u2 u4 q5 u7 u9 q10 u12 u14 u16 u18 u20) (9 * (k + 3)))))) ++ [(q5, .inl (cA 3, 2, .inr (.inr (.inr (.inr (va_up (va_up (fun _ => none) 0 (some (u7 0))) 1 (some (u9 0))))))))]) ++ (wX7 cA u7)) ++ (wX7 cA u9)) ++ [(q10, .inl (cA 2, 2, .inl (fun _ => zI 0)))]) ++ (wX4 cA u12)) ++ (wX3 cA u14)) ++ (wX0 cA u16)) ++ (wX1 cA u18)) ++ (wX1 cA u20))) 11 rfl (fun j hj => by rcases (show j = 0 ∨ j = 1 ∨ j = 2 ∨ j = 3 ∨ j = 4 ∨ j = 5 ∨ j = 6 by omega) with rfl | rfl | rfl | rfl | rfl | rfl | rfl <;> rfl) rfl ?_
  refine ll_refs (f := (va_up (va_up (fun _ => none) 0 (some (u7 0))) 1 (some (u9 0)))) (g := (fun k => some ((U8 h u2 u4 q5 u7 u9 q10 u12 u14 u16 u18 u20) (9 * (k + 1))))) (n := 2) (ws' := ((((((((((([(h, .inr (8, [.ref (u2 0), .ref (u4 0), .ref q5, .ref q10, .ref (u12 0), .ref (u14 0), .ref (u16 0), .ref (u18 0), .ref (u20 0)]))] ++ (wX7 cA u2)) ++ (wX2g cA u4 (fun k => some ((U8 h u2 u4 q5 u7 u9 q10 u12 u14 u16 u18 u20) (9 * (k + 3)))))) ++ [(q5, .inl (cA 3, 2, .inr (.inr (.inr (.inr (fun k => some ((U8 h u2 u4 q5 u7 u9 q10 u12 u14 u16 u18 u20) (9 * (k + 1)))))))))]) ++ (wX7 cA u7)) ++ (wX7 cA u9)) ++ [(q10, .inl (cA 2, 2, .inl (fun _ => zI 0)))]) ++ (wX4 cA u12)) ++ (wX3 cA u14)) ++ (wX0 cA u16)) ++ (wX1 cA u18)) ++ (wX1 cA u20))) 75 rfl (fun j hj => by rcases (show j = 0 ∨ j = 1 by omega) with rfl | rfl <;> rfl) rfl ?_
  show LL _ _ _ _ _ _ _ _ _ _ _ _ _ _ _ _ (WS8 cA h u2 u4 q5 u7 u9 q10 u12 u14 u16 u18 u20) _ _ _
  refine ll_wid (cells' := 104) (slots' := 857) ⟨by decide, by decide⟩ ?_
  exact ll_vret X hm (U8 h u2 u4 q5 u7 u9 q10 u12 u14 u16 u18 u20) rfl ((List.range 105).map pl8) (hs8 cA h u2 u4 q5 u7 u9 q10 u12 u14 u16 u18 u20) nd8 dX8_init_122

