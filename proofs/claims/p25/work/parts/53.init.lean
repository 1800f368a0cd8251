theorem v_X7_init_5 : ∀ w ∈ u_ws RX5 TX5 5, w ∈ wsX7_init := by decide +kernel
theorem v_X7_init_6 : ∀ w ∈ u_ws RX6 TX6 3, w ∈ wsX7_init := by decide +kernel
theorem v_X7_init_7 : ∀ w ∈ u_ws RX7 TX7 3, w ∈ wsX7_init := by decide +kernel
theorem j_X7_init_12 : Cond.fieldLink yX7_init.cls 12 (TX7 0).1 (TX7 0).2.1 (TX7 0).2.2.1 ∈ wsX7_init := by decide +kernel
theorem j_X7_init_21 : Cond.fieldLink yX7_init.cls 21 (TX7 1).1 (TX7 1).2.1 (TX7 1).2.2.1 ∈ wsX7_init := by decide +kernel
theorem j_X7_init_25 : Cond.fieldLink yX7_init.cls 25 (TX7 2).1 (TX7 2).2.1 (TX7 2).2.2.1 ∈ wsX7_init := by decide +kernel
set_option maxRecDepth 100000 in
set_option maxHeartbeats 8000000 in
theorem i_X7 (l : Launch) (D : va_G) (cA : Nat → ClassId) (h : Nat) : CtN l yX7_init wsX7_init 2 8 40 43 D cA [.ref h] ([(h, .inr (7, [.null, .null, .int (zI 0)]))]) (fun u => u 0 = h) (wX7 cA) := by
  refine CtN.of (cc := cX7_init) (maxL := 1) (by decide) rfl (Nat.le_of_ble_eq_true rfl) ?_
  intro p e s m args below meth c X hm hin
  show LL p l e { frames := 2, cells := 8, slots := 40, locals := 43 } s m args below meth c 1 D (va_A ([(h, .inr (7, [.null, .null, .int (zI 0)]))]) s.heap.size) 0 0 (QN below args s D ([(h, .inr (7, [.null, .null, .int (zI 0)]))]) (fun u => u 0 = h) (wX7 cA) 8 40) ([(h, .inr (7, [.null, .null, .int (zI 0)]))]) 0 [(0, .ref h)] []
  refine ll_aload_n X 0 rfl rfl dX7_init_0 ?_
  refine ll_obj X (by decide +kernel) (by decide +kernel) (by decide +kernel) ⟨Nat.le_of_ble_eq_true rfl, Nat.le_of_ble_eq_true rfl⟩ dX7_init_1 ?_
  refine ll_aload_n X 0 rfl rfl dX7_init_4 ?_
  refine ll_new (C := RX5) (T := TX5) (N := 5) (ci := 5) (fs := [.null, .null, .null, .null, .int (zI 0)]) X v_X7_init_5 tyX5 tyX5_ok (by decide +kernel) (by decide +kernel) (by decide +kernel) rfl (fun j hj => by rcases (show j = 0 ∨ j = 1 ∨ j = 2 ∨ j = 3 ∨ j = 4 by omega) with rfl | rfl | rfl | rfl | rfl <;> rfl) ⟨Nat.le_of_ble_eq_true rfl, Nat.le_of_ble_eq_true rfl⟩ dX7_init_5 (fun q1 => ?_)
  refine ll_dup X rfl dX7_init_8 ?_
  refine ll_callN (As := []) (st := [.ref q1, .ref h]) (host := RX8) X 0 (i_X5 l D cA q1) gX7_init_X5_init_n11 rfl X.2.2.1.1 (by decide +kernel) (by decide +kernel) rfl (by decide +kernel) ⟨by decide, by decide⟩ (Nat.le_of_ble_eq_true rfl) ⟨Nat.le_of_ble_eq_true rfl, Nat.le_of_ble_eq_true rfl⟩ rfl rfl dX7_init_9 (fun u2 hu2 => ?_)
  subst hu2
  refine ll_putF (C := RX7) (T := TX7) (N := 3) (ref := (TX7 0).1) (ty := tyX7 0) (ws' := ([(h, .inr (7, [.ref (u2 0), .null, .int (zI 0)]))] ++ (wX5 cA u2))) X hin v_X7_init_7 tyX7 tyX7_ok nmX7 0 rfl rfl 0 (by decide) j_X7_init_12 rfl rfl rfl (tyX7_ok 0 (by decide)) rfl rfl (Nat.le_of_ble_eq_true rfl) rfl dX7_init_12 ?_
  refine ll_aload_n X 0 rfl rfl dX7_init_15 ?_
  refine ll_new (C := RX6) (T := TX6) (N := 3) (ci := 6) (fs := [.null, .null, .int (zI 0)]) X v_X7_init_6 tyX6 tyX6_ok (by decide +kernel) (by decide +kernel) (by decide +kernel) rfl (fun j hj => by rcases (show j = 0 ∨ j = 1 ∨ j = 2 by omega) with rfl | rfl | rfl <;> rfl) ⟨Nat.le_of_ble_eq_true rfl, Nat.le_of_ble_eq_true rfl⟩ dX7_init_16 (fun q3 => ?_)
  refine ll_dup X rfl dX7_init_19 ?_
  refine ll_callN (As := []) (st := [.ref q3, .ref h]) (host := RX8) X 0 (i_X6 l D cA q3) gX7_init_X6_init_n20 rfl X.2.2.1.2.1 (by decide +kernel) (by decide +kernel) rfl (by decide +kernel) ⟨by decide, by decide⟩ (Nat.le_of_ble_eq_true rfl) ⟨Nat.le_of_ble_eq_true rfl, Nat.le_of_ble_eq_true rfl⟩ rfl rfl dX7_init_20 (fun u4 hu4 => ?_)
  subst hu4
  refine ll_putF (C := RX7) (T := TX7) (N := 3) (ref := (TX7 1).1) (ty := tyX7 1) (ws' := (([(h, .inr (7, [.ref (u2 0), .ref (u4 0), .int (zI 0)]))] ++ (wX5 cA u2)) ++ (wX6 cA u4))) X hin v_X7_init_7 tyX7 tyX7_ok nmX7 0 rfl rfl 1 (by decide) j_X7_init_21 rfl rfl rfl (tyX7_ok 1 (by decide)) rfl rfl (Nat.le_of_ble_eq_true rfl) rfl dX7_init_23 ?_
  refine ll_aload_n X 0 rfl rfl dX7_init_26 ?_
  refine ll_bipush (n := 30) X (by decide) dX7_init_27 ?_
  refine ll_put (C := RX7) (T := TX7) (N := 3) (ref := (TX7 2).1) (ty := tyX7 2) (ws' := (([(h, .inr (7, [.ref (u2 0), .ref (u4 0), .int (zI 30)]))] ++ (wX5 cA u2)) ++ (wX6 cA u4))) X v_X7_init_7 tyX7 tyX7_ok nmX7 0 rfl rfl 2 (by decide) j_X7_init_25 rfl rfl (tyX7_ok 2 (by decide)) rfl rfl (Nat.le_of_ble_eq_true rfl) rfl dX7_init_29 ?_
  refine ll_aload_n X 0 rfl rfl dX7_init_32 ?_
  refine ll_get (C := RX7) (T := TX7) (N := 3) (ref := (TX7 1).1) (v := .ref (u4 0)) X v_X7_init_7 0 rfl rfl 1 (by decide) j_X7_init_21 rfl rfl dX7_init_33 ?_
  refine ll_bipush (n := 30) X (by decide) dX7_init_36 ?_
  refine ll_callV (As := [.int (zI 30)]) (st := []) (Nf := 3) (q0 := 0) X 1 (i_becomeOne l D cA u4) gX7_init_X6_becomeOne rfl (by decide +kernel) rfl rfl ⟨by decide, by decide⟩ (Nat.le_of_ble_eq_true rfl) ⟨Nat.le_of_ble_eq_true rfl, Nat.le_of_ble_eq_true rfl⟩ rfl rfl dX7_init_38 (fun u5 hu5 => ?_)
  have hu5 := hu5.symm
  subst hu5
  refine ll_wid (cells' := 8) (slots' := 40) ⟨by decide, by decide⟩ ?_
  exact ll_vret X hm (fun k => [h, u2 0, u2 1, u2 2, u2 3, u2 4, u4 0, u4 1, u4 2].getD k 0) rfl [0, 1, 2, 3, 4, 5, 6, 7, 8] rfl (by decide +kernel) dX7_init_41

theorem v_X2_init_2 : ∀ w ∈ u_ws RX2 TX2 3, w ∈ wsX2_init := by decide +kernel
theorem v_X2_init_7 : ∀ w ∈ u_ws RX7 TX7 3, w ∈ wsX2_init := by decide +kernel
theorem j_X2_init_11 : Cond.fieldLink yX2_init.cls 11 (TX2 0).1 (TX2 0).2.1 (TX2 0).2.2.1 ∈ wsX2_init := by decide +kernel
theorem j_X2_init_15 : Cond.fieldLink yX2_init.cls 15 (TX2 1).1 (TX2 1).2.1 (TX2 1).2.2.1 ∈ wsX2_init := by decide +kernel
theorem j_X2_init_19 : Cond.fieldLink yX2_init.cls 19 (TX2 2).1 (TX2 2).2.1 (TX2 2).2.2.1 ∈ wsX2_init := by decide +kernel
set_option maxRecDepth 100000 in
set_option maxHeartbeats 8000000 in
theorem i_X2 (l : Launch) (D : va_G) (cA : Nat → ClassId) (h : Nat) : CtN l yX2_init wsX2_init 3 64 308 63 D cA [.ref h] ([(h, .inr (2, [.null, .int (zI 0), .int (zI 0)]))]) (fun u => u 0 = h) (wX2 cA) := by
  refine CtN.of (cc := cX2_init) (maxL := 2) (by decide) rfl (Nat.le_of_ble_eq_true rfl) ?_
  intro p e s m args below meth c X hm hin
  show LL p l e { frames := 3, cells := 64, slots := 308, locals := 63 } s m args below meth c 2 D (va_A ([(h, .inr (2, [.null, .int (zI 0), .int (zI 0)]))]) s.heap.size) 0 0 (QN below args s D ([(h, .inr (2, [.null, .int (zI 0), .int (zI 0)]))]) (fun u => u 0 = h) (wX2 cA) 64 308) ([(h, .inr (2, [.null, .int (zI 0), .int (zI 0)]))]) 0 [(0, .ref h)] []
  refine ll_aload_n X 0 rfl rfl dX2_init_0 ?_
  refine ll_obj X (by decide +kernel) (by decide +kernel) (by decide +kernel) ⟨Nat.le_of_ble_eq_true rfl, Nat.le_of_ble_eq_true rfl⟩ dX2_init_1 ?_
  refine ll_aload_n X 0 rfl rfl dX2_init_4 ?_
  refine ll_bipush (n := 7) X (by decide) dX2_init_5 ?_
  refine ll_newq (N := 7) X (by decide +kernel) ⟨by decide, by decide⟩ rfl ⟨Nat.le_of_ble_eq_true rfl, Nat.le_of_ble_eq_true rfl⟩ dX2_init_7 (fun q1 => ?_)
  refine ll_putF (C := RX2) (T := TX2) (N := 3) (ref := (TX2 0).1) (ty := tyX2 0) (ws' := ([(h, .inr (2, [.ref q1, .int (zI 0), .int (zI 0)]))] ++ [(q1, .inl (cA 3, 7, .inr (.inr (.inr (.inr (fun _ => none))))))])) X hin v_X2_init_2 tyX2 tyX2_ok nmX2 0 rfl rfl 0 (by decide) j_X2_init_11 rfl rfl rfl (tyX2_ok 0 (by decide)) rfl rfl (Nat.le_of_ble_eq_true rfl) rfl dX2_init_10 ?_
  refine ll_aload_n X 0 rfl rfl dX2_init_13 ?_
  refine ll_iconst (n := 0) X dX2_init_14 ?_
  refine ll_put (C := RX2) (T := TX2) (N := 3) (ref := (TX2 1).1) (ty := tyX2 1) (ws' := ([(h, .inr (2, [.ref q1, .int (zI 0), .int (zI 0)]))] ++ [(q1, .inl (cA 3, 7, .inr (.inr (.inr (.inr (fun _ => none))))))])) X v_X2_init_2 tyX2 tyX2_ok nmX2 0 rfl rfl 1 (by decide) j_X2_init_15 rfl rfl (tyX2_ok 1 (by decide)) rfl rfl (Nat.le_of_ble_eq_true rfl) rfl dX2_init_15 ?_
  refine ll_aload_n X 0 rfl rfl dX2_init_18 ?_
  refine ll_iconst (n := 0) X dX2_init_19 ?_
  refine ll_put (C := RX2) (T := TX2) (N := 3) (ref := (TX2 2).1) (ty := tyX2 2) (ws' := ([(h, .inr (2, [.ref q1, .int (zI 0), .int (zI 0)]))] ++ [(q1, .inl (cA 3, 7, .inr (.inr (.inr (.inr (fun _ => none))))))])) X v_X2_init_2 tyX2 tyX2_ok nmX2 0 rfl rfl 2 (by decide) j_X2_init_19 rfl rfl (tyX2_ok 2 (by decide)) rfl rfl (Nat.le_of_ble_eq_true rfl) rfl dX2_init_20 ?_
  refine ll_iconst (n := 0) X dX2_init_23 ?_
  refine ll_istore_n (lv' := [(1, .int (zI 0)), (0, .ref h)]) X rfl (by decide) rfl dX2_init_24 ?_
  refine ll_iload_n X 0 rfl rfl dX2_init_25 ?_
  refine ll_bipush (n := 7) X (by decide) dX2_init_26 ?_
  refine ll_icmp_ge (tgt := 50) X ⟨by decide, by decide⟩ ⟨by decide, by decide⟩ dX2_init_28 (by decide) (fun h9 => absurd h9 (by decide)) (fun _ => ?_)
  refine ll_aload_n X 1 rfl rfl dX2_init_31 ?_
  refine ll_get (C := RX2) (T := TX2) (N := 3) (ref := (TX2 0).1) (v := .ref q1) X v_X2_init_2 0 rfl rfl 0 (by decide) j_X2_init_11 rfl rfl dX2_init_32 ?_
  refine ll_iload_n X 0 rfl rfl dX2_init_35 ?_
  refine ll_new (C := RX7) (T := TX7) (N := 3) (ci := 7) (fs := [.null, .null, .int (zI 0)]) X v_X2_init_7 tyX7 tyX7_ok (by decide +kernel) (by decide +kernel) (by decide +kernel) rfl (fun j hj => by rcases (show j = 0 ∨ j = 1 ∨ j = 2 by omega) with rfl | rfl | rfl <;> rfl) ⟨Nat.le_of_ble_eq_true rfl, Nat.le_of_ble_eq_true rfl⟩ dX2_init_36 (fun q2 => ?_)
  refine ll_dup X rfl dX2_init_39 ?_
  refine ll_callI (As := []) (st := [.ref q2, .int (zI 0), .ref q1]) X 0 (i_X7 l D cA q2) gX2_init_X7_init rfl (by decide +kernel) (by decide +kernel) (by decide +kernel) rfl (by decide +kernel) ⟨by decide, by decide⟩ (Nat.le_of_ble_eq_true rfl) ⟨Nat.le_of_ble_eq_true rfl, Nat.le_of_ble_eq_true rfl⟩ rfl rfl dX2_init_40 (fun u3 hu3 => ?_)
  subst hu3
  refine ll_astq (g := (fun _ => none)) (ws' := (([(h, .inr (2, [.ref q1, .int (zI 0), .int (zI 0)]))] ++ [(q1, .inl (cA 3, 7, .inr (.inr (.inr (.inr (va_up (fun _ => none) 0 (some (u3 0))))))))]) ++ (wX7 cA u3))) X 1 2 rfl rfl (by decide) ⟨by decide, by decide⟩ rfl dX2_init_43 ?_
  refine ll_iinc (lv' := [(1, .int (zI 1)), (0, .ref h)]) X 0 rfl (by decide) rfl dX2_init_44 ?_
  refine ll_goto (tgt := 25) X (by decide) dX2_init_47 ?_
  refine ll_iload_n X 0 rfl rfl dX2_init_25 ?_
  refine ll_bipush (n := 7) X (by decide) dX2_init_26 ?_
  refine ll_icmp_ge (tgt := 50) X ⟨by decide, by decide⟩ ⟨by decide, by decide⟩ dX2_init_28 (by decide) (fun h9 => absurd h9 (by decide)) (fun _ => ?_)
  refine ll_aload_n X 1 rfl rfl dX2_init_31 ?_
  refine ll_get (C := RX2) (T := TX2) (N := 3) (ref := (TX2 0).1) (v := .ref q1) X v_X2_init_2 0 rfl rfl 0 (by decide) j_X2_init_11 rfl rfl dX2_init_32 ?_
  refine ll_iload_n X 0 rfl rfl dX2_init_35 ?_
  refine ll_new (C := RX7) (T := TX7) (N := 3) (ci := 7) (fs := [.null, .null, .int (zI 0)]) X v_X2_init_7 tyX7 tyX7_ok (by decide +kernel) (by decide +kernel) (by decide +kernel) rfl (fun j hj => by rcases (show j = 0 ∨ j = 1 ∨ j = 2 by omega) with rfl | rfl | rfl <;> rfl) ⟨Nat.le_of_ble_eq_true rfl, Nat.le_of_ble_eq_true rfl⟩ dX2_init_36 (fun q4 => ?_)
  refine ll_dup X rfl dX2_init_39 ?_
  refine ll_callI (As := []) (st := [.ref q4, .int (zI 1), .ref q1]) X 0 (i_X7 l D cA q4) gX2_init_X7_init rfl (by decide +kernel) (by decide +kernel) (by decide +kernel) rfl (by decide +kernel) ⟨by decide, by decide⟩ (Nat.le_of_ble_eq_true rfl) ⟨Nat.le_of_ble_eq_true rfl, Nat.le_of_ble_eq_true rfl⟩ rfl rfl dX2_init_40 (fun u5 hu5 => ?_)
  subst hu5
  refine ll_astq (g := (va_up (fun _ => none) 0 (some (u3 0)))) (ws' := ((([(h, .inr (2, [.ref q1, .int (zI 0), .int (zI 0)]))] ++ [(q1, .inl (cA 3, 7, .inr (.inr (.inr (.inr (va_up (va_up (fun _ => none) 0 (some (u3 0))) 1 (some (u5 0))))))))]) ++ (wX7 cA u3)) ++ (wX7 cA u5))) X 1 11 rfl rfl (by decide) ⟨by decide, by decide⟩ rfl dX2_init_43 ?_
  refine ll_iinc (lv' := [(1, .int (zI 2)), (0, .ref h)]) X 0 rfl (by decide) rfl dX2_init_44 ?_
  refine ll_goto (tgt := 25) X (by decide) dX2_init_47 ?_
  refine ll_iload_n X 0 rfl rfl dX2_init_25 ?_
  refine ll_bipush (n := 7) X (by decide) dX2_init_26 ?_
  refine ll_icmp_ge (tgt := 50) X ⟨by decide, by decide⟩ ⟨by decide, by decide⟩ dX2_init_28 (by decide) (fun h9 => absurd h9 (by decide)) (fun _ => ?_)
  refine ll_aload_n X 1 rfl rfl dX2_init_31 ?_
  refine ll_get (C := RX2) (T := TX2) (N := 3) (ref := (TX2 0).1) (v := .ref q1) X v_X2_init_2 0 rfl rfl 0 (by decide) j_X2_init_11 rfl rfl dX2_init_32 ?_
  refine ll_iload_n X 0 rfl rfl dX2_init_35 ?_
  refine ll_new (C := RX7) (T := TX7) (N := 3) (ci := 7) (fs := [.null, .null, .int (zI 0)]) X v_X2_init_7 tyX7 tyX7_ok (by decide +kernel) (by decide +kernel) (by decide +kernel) rfl (fun j hj => by rcases (show j = 0 ∨ j = 1 ∨ j = 2 by omega) with rfl | rfl | rfl <;> rfl) ⟨Nat.le_of_ble_eq_true rfl, Nat.le_of_ble_eq_true rfl⟩ dX2_init_36 (fun q6 => ?_)
  refine ll_dup X rfl dX2_init_39 ?_
  refine ll_callI (As := []) (st := [.ref q6, .int (zI 2), .ref q1]) X 0 (i_X7 l D cA q6) gX2_init_X7_init rfl (by decide +kernel) (by decide +kernel) (by decide +kernel) rfl (by decide +kernel) ⟨by decide, by decide⟩ (Nat.le_of_ble_eq_true rfl) ⟨Nat.le_of_ble_eq_true rfl, Nat.le_of_ble_eq_true rfl⟩ rfl rfl dX2_init_40 (fun u7 hu7 => ?_)
  subst hu7
  refine ll_astq (g := (va_up (va_up (fun _ => none) 0 (some (u3 0))) 1 (some (u5 0)))) (ws' := (((([(h, .inr (2, [.ref q1, .int (zI 0), .int (zI 0)]))] ++ [(q1, .inl (cA 3, 7, .inr (.inr (.inr (.inr (va_up (va_up (va_up (fun _ => none) 0 (some (u3 0))) 1 (some (u5 0))) 2 (some (u7 0))))))))]) ++ (wX7 cA u3)) ++ (wX7 cA u5)) ++ (wX7 cA u7))) X 1 20 rfl rfl (by decide) ⟨by decide, by decide⟩ rfl dX2_init_43 ?_
  refine ll_iinc (lv' := [(1, .int (zI 3)), (0, .ref h)]) X 0 rfl (by decide) rfl dX2_init_44 ?_
  refine ll_goto (tgt := 25) X (by decide) dX2_init_47 ?_
  refine ll_iload_n X 0 rfl rfl dX2_init_25 ?_
  refine ll_bipush (n := 7) X (by decide) dX2_init_26 ?_
  refine ll_icmp_ge (tgt := 50) X ⟨by decide, by decide⟩ ⟨by decide, by decide⟩ dX2_init_28 (by decide) (fun h9 => absurd h9 (by decide)) (fun _ => ?_)
  refine ll_aload_n X 1 rfl rfl dX2_init_31 ?_
  refine ll_get (C := RX2) (T := TX2) (N := 3) (ref := (TX2 0).1) (v := .ref q1) X v_X2_init_2 0 rfl rfl 0 (by decide) j_X2_init_11 rfl rfl dX2_init_32 ?_
  refine ll_iload_n X 0 rfl rfl dX2_init_35 ?_
  refine ll_new (C := RX7) (T := TX7) (N := 3) (ci := 7) (fs := [.null, .null, .int (zI 0)]) X v_X2_init_7 tyX7 tyX7_ok (by decide +kernel) (by decide +kernel) (by decide +kernel) rfl (fun j hj => by rcases (show j = 0 ∨ j = 1 ∨ j = 2 by omega) with rfl | rfl | rfl <;> rfl) ⟨Nat.le_of_ble_eq_true rfl, Nat.le_of_ble_eq_true rfl⟩ dX2_init_36 (fun q8 => ?_)
  refine ll_dup X rfl dX2_init_39 ?_
  refine ll_callI (As := []) (st := [.ref q8, .int (zI 3), .ref q1]) X 0 (i_X7 l D cA q8) gX2_init_X7_init rfl (by decide +kernel) (by decide +kernel) (by decide +kernel) rfl (by decide +kernel) ⟨by decide, by decide⟩ (Nat.le_of_ble_eq_true rfl) ⟨Nat.le_of_ble_eq_true rfl, Nat.le_of_ble_eq_true rfl⟩ rfl rfl dX2_init_40 (fun u9 hu9 => ?_)
  subst hu9
  refine ll_astq (g := (va_up (va_up (va_up (fun _ => none) 0 (some (u3 0))) 1 (some (u5 0))) 2 (some (u7 0)))) (ws' := ((((([(h, .inr (2, [.ref q1, .int (zI 0), .int (zI 0)]))] ++ [(q1, .inl (cA 3, 7, .inr (.inr (.inr (.inr (va_up (va_up (va_up (va_up (fun _ => none) 0 (some (u3 0))) 1 (some (u5 0))) 2 (some (u7 0))) 3 (some (u9 0))))))))]) ++ (wX7 cA u3)) ++ (wX7 cA u5)) ++ (wX7 cA u7)) ++ (wX7 cA u9))) X 1 29 rfl rfl (by decide) ⟨by decide, by decide⟩ rfl dX2_init_43 ?_
  refine ll_iinc (lv' := [(1, .int (zI 4)), (0, .ref h)]) X 0 rfl (by decide) rfl dX2_init_44 ?_
  refine ll_goto (tgt := 25) X (by decide) dX2_init_47 ?_
  refine ll_iload_n X 0 rfl rfl dX2_init_25 ?_
  refine ll_bipush (n := 7) X (by decide) dX2_init_26 ?_
  refine ll_icmp_ge (tgt := 50) X ⟨by decide, by decide⟩ ⟨by decide, by decide⟩ dX2_init_28 (by decide) (fun h9 => absurd h9 (by decide)) (fun _ => ?_)
  refine ll_aload_n X 1 rfl rfl dX2_init_31 ?_
  refine ll_get (C := RX2) (T := TX2) (N := 3) (ref := (TX2 0).1) (v := .ref q1) X v_X2_init_2 0 rfl rfl 0 (by decide) j_X2_init_11 rfl rfl dX2_init_32 ?_
  refine ll_iload_n X 0 rfl rfl dX2_init_35 ?_
  refine ll_new (C := RX7) (T := TX7) (N := 3) (ci := 7) (fs := [.null, .null, .int (zI 0)]) X v_X2_init_7 tyX7 tyX7_ok (by decide +kernel) (by decide +kernel) (by decide +kernel) rfl (fun j hj => by rcases (show j = 0 ∨ j = 1 ∨ j = 2 by omega) with rfl | rfl | rfl <;> rfl) ⟨Nat.le_of_ble_eq_true rfl, Nat.le_of_ble_eq_true rfl⟩ dX2_init_36 (fun q10 => ?_)
  refine ll_dup X rfl dX2_init_39 ?_
  refine ll_callI (As := []) (st := [.ref q10, .int (zI 4), .ref q1]) X 0 (i_X7 l D cA q10) gX2_init_X7_init rfl (by decide +kernel) (by decide +kernel) (by decide +kernel) rfl (by decide +kernel) ⟨by decide, by decide⟩ (Nat.le_of_ble_eq_true rfl) ⟨Nat.le_of_ble_eq_true rfl, Nat.le_of_ble_eq_true rfl⟩ rfl rfl dX2_init_40 (fun u11 hu11 => ?_)
  subst hu11
  refine ll_astq (g := (va_up (va_up (va_up (va_up (fun _ => none) 0 (some (u3 0))) 1 (some (u5 0))) 2 (some (u7 0))) 3 (some (u9 0)))) (ws' := (((((([(h, .inr (2, [.ref q1, .int (zI 0), .int (zI 0)]))] ++ [(q1, .inl (cA 3, 7, .inr (.inr (.inr (.inr (va_up (va_up (va_up (va_up (va_up (fun _ => none) 0 (some (u3 0))) 1 (some (u5 0))) 2 (some (u7 0))) 3 (some (u9 0))) 4 (some (u11 0))))))))]) ++ (wX7 cA u3)) ++ (wX7 cA u5)) ++ (wX7 cA u7)) ++ (wX7 cA u9)) ++ (wX7 cA u11))) X 1 38 rfl rfl (by decide) ⟨by decide, by decide⟩ rfl dX2_init_43 ?_
  refine ll_iinc (lv' := [(1, .int (zI 5)), (0, .ref h)]) X 0 rfl (by decide) rfl dX2_init_44 ?_
  refine ll_goto (tgt := 25) X (by decide) dX2_init_47 ?_
  refine ll_iload_n X 0 rfl rfl dX2_init_25 ?_
  refine ll_bipush (n := 7) X (by decide) dX2_init_26 ?_
  refine ll_icmp_ge (tgt := 50) X ⟨by decide, by decide⟩ ⟨by decide, by decide⟩ dX2_init_28 (by decide) (fun h9 => absurd h9 (by decide)) (fun _ => ?_)
  refine ll_aload_n X 1 rfl rfl dX2_init_31 ?_
  refine ll_get (C := RX2) (T := TX2) (N := 3) (ref := (TX2 0).1) (v := .ref q1) X v_X2_init_2 0 rfl rfl 0 (by decide) j_X2_init_11 rfl rfl dX2_init_32 ?_
  refine ll_iload_n X 0 rfl rfl dX2_init_35 ?_
  refine ll_new (C := RX7) (T := TX7) (N := 3) (ci := 7) (fs := [.null, .null, .int (zI 0)]) X v_X2_init_7 tyX7 tyX7_ok (by decide +kernel) (by decide +kernel) (by decide +kernel) rfl (fun j hj => by rcases (show j = 0 ∨ j = 1 ∨ j = 2 by omega) with rfl | rfl | rfl <;> rfl) ⟨Nat.le_of_ble_eq_true rfl, Nat.le_of_ble_eq_true rfl⟩ dX2_init_36 (fun q12 => ?_)
  refine ll_dup X rfl dX2_init_39 ?_
  refine ll_callI (As := []) (st := [.ref q12, .int (zI 5), .ref q1]) X 0 (i_X7 l D cA q12) gX2_init_X7_init rfl (by decide +kernel) (by decide +kernel) (by decide +kernel) rfl (by decide +kernel) ⟨by decide, by decide⟩ (Nat.le_of_ble_eq_true rfl) ⟨Nat.le_of_ble_eq_true rfl, Nat.le_of_ble_eq_true rfl⟩ rfl rfl dX2_init_40 (fun u13 hu13 => ?_)
  subst hu13
  refine ll_astq (g := (va_up (va_up (va_up (va_up (va_up (fun _ => none) 0 (some (u3 0))) 1 (some (u5 0))) 2 (some (u7 0))) 3 (some (u9 0))) 4 (some (u11 0)))) (ws' := ((((((([(h, .inr (2, [.ref q1, .int (zI 0), .int (zI 0)]))] ++ [(q1, .inl (cA 3, 7, .inr (.inr (.inr (.inr (va_up (va_up (va_up (va_up (va_up (va_up (fun _ => none) 0 (some (u3 0))) 1 (some (u5 0))) 2 (some (u7 0))) 3 (some (u9 0))) 4 (some (u11 0))) 5 (some (u13 0))))))))]) ++ (wX7 cA u3)) ++ (wX7 cA u5)) ++ (wX7 cA u7)) ++ (wX7 cA u9)) ++ (wX7 cA u11)) ++ (wX7 cA u13))) X 1 47 rfl rfl (by decide) ⟨by decide, by decide⟩ rfl dX2_init_43 ?_
  refine ll_iinc (lv' := [(1, .int (zI 6)), (0, .ref h)]) X 0 rfl (by decide) rfl dX2_init_44 ?_
  refine ll_goto (tgt := 25) X (by decide) dX2_init_47 ?_
  refine ll_iload_n X 0 rfl rfl dX2_init_25 ?_
  refine ll_bipush (n := 7) X (by decide) dX2_init_26 ?_
  refine ll_icmp_ge (tgt := 50) X ⟨by decide, by decide⟩ ⟨by decide, by decide⟩ dX2_init_28 (by decide) (fun h9 => absurd h9 (by decide)) (fun _ => ?_)
  refine ll_aload_n X 1 rfl rfl dX2_init_31 ?_
  refine ll_get (C := RX2) (T := TX2) (N := 3) (ref := (TX2 0).1) (v := .ref q1) X v_X2_init_2 0 rfl rfl 0 (by decide) j_X2_init_11 rfl rfl dX2_init_32 ?_
  refine ll_iload_n X 0 rfl rfl dX2_init_35 ?_
  refine ll_new (C := RX7) (T := TX7) (N := 3) (ci := 7) (fs := [.null, .null, .int (zI 0)]) X v_X2_init_7 tyX7 tyX7_ok (by decide +kernel) (by decide +kernel) (by decide +kernel) rfl (fun j hj => by rcases (show j = 0 ∨ j = 1 ∨ j = 2 by omega) with rfl | rfl | rfl <;> rfl) ⟨Nat.le_of_ble_eq_true rfl, Nat.le_of_ble_eq_true rfl⟩ dX2_init_36 (fun q14 => ?_)
  refine ll_dup X rfl dX2_init_39 ?_
  refine ll_callI (As := []) (st := [.ref q14, .int (zI 6), .ref q1]) X 0 (i_X7 l D cA q14) gX2_init_X7_init rfl (by decide +kernel) (by decide +kernel) (by decide +kernel) rfl (by decide +kernel) ⟨by decide, by decide⟩ (Nat.le_of_ble_eq_true rfl) ⟨Nat.le_of_ble_eq_true rfl, Nat.le_of_ble_eq_true rfl⟩ rfl rfl dX2_init_40 (fun u15 hu15 => ?_)
  subst hu15
  refine ll_astq (g := (va_up (va_up (va_up (va_up (va_up (va_up (fun _ => none) 0 (some (u3 0))) 1 (some (u5 0))) 2 (some (u7 0))) 3 (some (u9 0))) 4 (some (u11 0))) 5 (some (u13 0)))) (ws' := (((((((([(h, .inr (2, [.ref q1, .int (zI 0), .int (zI 0)]))] ++ [(q1, .inl (cA 3, 7, .inr (.inr (.inr (.inr (va_up (va_up (va_up (va_up (va_up (va_up (va_up (fun _ => none) 0 (some (u3 0))) 1 (some (u5 0))) 2 (some (u7 0))) 3 (some (u9 0))) 4 (some (u11 0))) 5 (some (u13 0))) 6 (some (u15 0))))))))]) ++ (wX7 cA u3)) ++ (wX7 cA u5)) ++ (wX7 cA u7)) ++ (wX7 cA u9)) ++ (wX7 cA u11)) ++ (wX7 cA u13)) ++ (wX7 cA u15))) X 1 56 rfl rfl (by decide) ⟨by decide, by decide⟩ rfl dX2_init_43 ?_
  refine ll_iinc (lv' := [(1, .int (zI 7)), (0, .ref h)]) X 0 rfl (by decide) rfl dX2_init_44 ?_
  refine ll_goto (tgt := 25) X (by decide) dX2_init_47 ?_
  refine ll_iload_n X 0 rfl rfl dX2_init_25 ?_
  refine ll_bipush (n := 7) X (by decide) dX2_init_26 ?_
  refine ll_icmp_ge (tgt := 50) X ⟨by decide, by decide⟩ ⟨by decide, by decide⟩ dX2_init_28 (by decide) (fun _ => ?_) (fun h9 => absurd h9 (by decide))
  refine ll_refs (f := (va_up (va_up (va_up (va_up (va_up (va_up (va_up (fun _ => none) 0 (some (u3 0))) 1 (some (u5 0))) 2 (some (u7 0))) 3 (some (u9 0))) 4 (some (u11 0))) 5 (some (u13 0))) 6 (some (u15 0)))) (g := (fun k => some ((fun k => [h, q1, u3 0, u3 1, u3 2, u3 3, u3 4, u3 5, u3 6, u3 7, u3 8, u5 0, u5 1, u5 2, u5 3, u5 4, u5 5, u5 6, u5 7, u5 8, u7 0, u7 1, u7 2, u7 3, u7 4, u7 5, u7 6, u7 7, u7 8, u9 0, u9 1, u9 2, u9 3, u9 4, u9 5, u9 6, u9 7, u9 8, u11 0, u11 1, u11 2, u11 3, u11 4, u11 5, u11 6, u11 7, u11 8, u13 0, u13 1, u13 2, u13 3, u13 4, u13 5, u13 6, u13 7, u13 8, u15 0, u15 1, u15 2, u15 3, u15 4, u15 5, u15 6, u15 7, u15 8].getD k 0) (2 + 9 * k)))) (n := 7) (ws' := (((((((([(h, .inr (2, [.ref q1, .int (zI 0), .int (zI 0)]))] ++ [(q1, .inl (cA 3, 7, .inr (.inr (.inr (.inr (fun k => some ((fun k => [h, q1, u3 0, u3 1, u3 2, u3 3, u3 4, u3 5, u3 6, u3 7, u3 8, u5 0, u5 1, u5 2, u5 3, u5 4, u5 5, u5 6, u5 7, u5 8, u7 0, u7 1, u7 2, u7 3, u7 4, u7 5, u7 6, u7 7, u7 8, u9 0, u9 1, u9 2, u9 3, u9 4, u9 5, u9 6, u9 7, u9 8, u11 0, u11 1, u11 2, u11 3, u11 4, u11 5, u11 6, u11 7, u11 8, u13 0, u13 1, u13 2, u13 3, u13 4, u13 5, u13 6, u13 7, u13 8, u15 0, u15 1, u15 2, u15 3, u15 4, u15 5, u15 6, u15 7, u15 8].getD k 0) (2 + 9 * k))))))))]) ++ (wX7 cA u3)) ++ (wX7 cA u5)) ++ (wX7 cA u7)) ++ (wX7 cA u9)) ++ (wX7 cA u11)) ++ (wX7 cA u13)) ++ (wX7 cA u15))) 1 rfl (fun j hj => by rcases (show j = 0 ∨ j = 1 ∨ j = 2 ∨ j = 3 ∨ j = 4 ∨ j = 5 ∨ j = 6 by omega) with rfl | rfl | rfl | rfl | rfl | rfl | rfl <;> rfl) rfl ?_
  refine ll_wid (cells' := 64) (slots' := 308) ⟨by decide, by decide⟩ ?_
  exact ll_vret X hm (fun k => [h, q1, u3 0, u3 1, u3 2, u3 3, u3 4, u3 5, u3 6, u3 7, u3 8, u5 0, u5 1, u5 2, u5 3, u5 4, u5 5, u5 6, u5 7, u5 8, u7 0, u7 1, u7 2, u7 3, u7 4, u7 5, u7 6, u7 7, u7 8, u9 0, u9 1, u9 2, u9 3, u9 4, u9 5, u9 6, u9 7, u9 8, u11 0, u11 1, u11 2, u11 3, u11 4, u11 5, u11 6, u11 7, u11 8, u13 0, u13 1, u13 2, u13 3, u13 4, u13 5, u13 6, u13 7, u13 8, u15 0, u15 1, u15 2, u15 3, u15 4, u15 5, u15 6, u15 7, u15 8].getD k 0) rfl [0, 1, 2, 3, 4, 5, 6, 7, 8, 9, 10, 11, 12, 13, 14, 15, 16, 17, 18, 19, 20, 21, 22, 23, 24, 25, 26, 27, 28, 29, 30, 31, 32, 33, 34, 35, 36, 37, 38, 39, 40, 41, 42, 43, 44, 45, 46, 47, 48, 49, 50, 51, 52, 53, 54, 55, 56, 57, 58, 59, 60, 61, 62, 63, 64] rfl (by decide +kernel) dX2_init_50

