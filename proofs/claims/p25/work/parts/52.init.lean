/-! ===== what is made ===== -/
theorem arr_ext {c0 : ClassId} {n : Nat} {f g : Nat → Option Nat} (h : ∀ j, j < n → f j = g j) : vp_cell c0 (n, .inr (.inr (.inr (.inr f)))) = vp_cell c0 (n, .inr (.inr (.inr (.inr g)))) := by
  have e : (fun j : Fin n => va_rf (f j.val)) = (fun j : Fin n => va_rf (g j.val)) := funext fun j => by rw [h j.val j.isLt]
  rw [vp_cell_q, vp_cell_q]
  unfold arrV
  rw [e]
section LR2
variable {p : Program} {l : Launch} {e : Env} {R : Room} {s : State} {m : MethodId} {args : Array Value} {below : List Frame} {meth : Method} {c : Code} {Q : State → Prop} {cells slots : Nat}
variable {nL : Nat} {D : va_G} {A : Nat → Prop} {ws ws' : va_W} {pc : Nat} {lv : List (Nat × Value)} {st : List Value}
theorem ll_refs {c0 : ClassId} {a n : Nat} {f g : Nat → Option Nat} (q0 : Nat) (he : ws[q0]? = some (a, .inl (c0, n, .inr (.inr (.inr (.inr f)))))) (h : ∀ j, j < n → f j = g j) (hw : ws.set q0 (a, .inl (c0, n, .inr (.inr (.inr (.inr g))))) = ws') (k : LL p l e R s m args below meth c nL D A cells slots Q ws' pc lv st) : LL p l e R s m args below meth c nL D A cells slots Q ws pc lv st := fun H locs ls hP hD hS hl => by
  subst hw
  refine k H locs ls (hP.set hD he ?_ (fun _ _ => rfl)) (hD.set he) hS hl
  show H[a]? = some (vp_cell _ _)
  rw [← arr_ext h]
  exact hP q0 _ he
end LR2
def wX5 (cA : Nat → ClassId) (u : Nat → Nat) : va_W := [(u 0, .inr (5, [.ref (u 1), .ref (u 2), .ref (u 3), .ref (u 4), .int (zI 0)])), (u 1, .inl (cA 0, 5, .inl (fun _ => zI 0))), (u 2, .inl (cA 0, 5, .inl (fun _ => zI 0))), (u 3, .inl (cA 0, 5, .inl (fun _ => zI 0))), (u 4, .inl (cA 0, 5, .inl (fun _ => zI 0)))]
def wX6 (cA : Nat → ClassId) (u : Nat → Nat) : va_W := [(u 0, .inr (6, [.ref (u 1), .ref (u 2), .int (zI 0)])), (u 1, .inl (cA 0, 6, .inl (fun k => zI ((fun _ => (0 : Int)) k)))), (u 2, .inl (cA 0, 6, .inl (fun k => zI ((fun _ => (0 : Int)) k))))]
def wX6b (cA : Nat → ClassId) (u : Nat → Nat) : va_W := [(u 0, .inr (6, [.ref (u 1), .ref (u 2), .int (zI 1)])), (u 1, .inl (cA 0, 6, .inl (fun k => zI (uz (fun _ => 0) 0 1 k)))), (u 2, .inl (cA 0, 6, .inl (fun k => zI (uz (fun _ => 0) 0 30 k))))]
def wX7 (cA : Nat → ClassId) (u : Nat → Nat) : va_W := [(u 0, .inr (7, [.ref (u 1), .ref (u 6), .int (zI 30)])), (u 1, .inr (5, [.ref (u 2), .ref (u 3), .ref (u 4), .ref (u 5), .int (zI 0)])), (u 2, .inl (cA 0, 5, .inl (fun _ => zI 0))), (u 3, .inl (cA 0, 5, .inl (fun _ => zI 0))), (u 4, .inl (cA 0, 5, .inl (fun _ => zI 0))), (u 5, .inl (cA 0, 5, .inl (fun _ => zI 0))), (u 6, .inr (6, [.ref (u 7), .ref (u 8), .int (zI 1)])), (u 7, .inl (cA 0, 6, .inl (fun k => zI (uz (fun _ => 0) 0 1 k)))), (u 8, .inl (cA 0, 6, .inl (fun k => zI (uz (fun _ => 0) 0 30 k))))]
def wX2g (cA : Nat → ClassId) (u : Nat → Nat) (g : Nat → Option Nat) : va_W := [(u 0, .inr (2, [.ref (u 1), .int (zI 0), .int (zI 0)])), (u 1, .inl (cA 3, 7, .inr (.inr (.inr (.inr g)))))] ++ (wX7 cA (fun k => u (2 + k)) ++ (wX7 cA (fun k => u (11 + k)) ++ (wX7 cA (fun k => u (20 + k)) ++ (wX7 cA (fun k => u (29 + k)) ++ (wX7 cA (fun k => u (38 + k)) ++ (wX7 cA (fun k => u (47 + k)) ++ wX7 cA (fun k => u (56 + k))))))))
def wX2 (cA : Nat → ClassId) (u : Nat → Nat) : va_W := wX2g cA u (fun k => some (u (2 + 9 * k)))
def wX4 (cA : Nat → ClassId) (u : Nat → Nat) : va_W := [(u 0, .inr (4, [.ref (u 1), .ref (u 2), .int (zI 0), .int (zI 0), .int (zI 0), .int (zI 0)])), (u 1, .inl (cA 1, 80, .inl (fun _ => zI 0))), (u 2, .inl (cA 0, 12, .inl (fun _ => zI 0)))]
def wX3 (cA : Nat → ClassId) (u : Nat → Nat) : va_W := [(u 0, .inr (3, [.ref (u 1)])), (u 1, .inl (cA 0, 101, .inl (fun _ => zI 0)))]
def wX0 (cA : Nat → ClassId) (u : Nat → Nat) : va_W := [(u 0, .inr (0, [.ref (u 1), .ref (u 2), .int (zI 0), .int (zI 0), .int (zI 0), .int (zI 1), .int (zI 0)])), (u 1, .inl (cA 0, 101, .inl (fun _ => zI 0))), (u 2, .inl (cA 0, 101, .inl (fun _ => zI 0)))]
def wX1 (_ : Nat → ClassId) (u : Nat → Nat) : va_W := [(u 0, .inr (1, [.int (zI 0), .int (zI 1)]))]
/-- what the cells of a new object hold -/
def M0 : Mem := fun a k => if a < 90 then (if a % 9 = 0 then (if k = 2 then 30 else 0) else if a % 9 = 6 then (if k = 2 then 1 else 0) else if a % 9 = 7 then (if k = 0 then 1 else 0) else if a % 9 = 8 then (if k = 0 then 30 else 0) else 0) else if a = 100 then (if k = 5 then 1 else 0) else if a = 103 then (if k = 1 then 1 else 0) else if a = 104 then (if k = 1 then 1 else 0) else 0
def wldn (n : Nat) (ad : Nat → Nat) (cA : Nat → ClassId) (M : Mem) : va_W := (List.range n).map fun i => (ad i, cellV ad cA (sh i) (M i))
def wX8 (cA : Nat → ClassId) (u : Nat → Nat) : va_W := wldn 105 u cA M0
theorem v_X5_init_5 : ∀ w ∈ u_ws RX5 TX5 5, w ∈ wsX5_init := by decide +kernel
theorem j_X5_init_11 : Cond.fieldLink yX5_init.cls 11 (TX5 0).1 (TX5 0).2.1 (TX5 0).2.2.1 ∈ wsX5_init := by decide +kernel
theorem j_X5_init_15 : Cond.fieldLink yX5_init.cls 15 (TX5 1).1 (TX5 1).2.1 (TX5 1).2.2.1 ∈ wsX5_init := by decide +kernel
theorem j_X5_init_18 : Cond.fieldLink yX5_init.cls 18 (TX5 2).1 (TX5 2).2.1 (TX5 2).2.2.1 ∈ wsX5_init := by decide +kernel
theorem j_X5_init_21 : Cond.fieldLink yX5_init.cls 21 (TX5 3).1 (TX5 3).2.1 (TX5 3).2.2.1 ∈ wsX5_init := by decide +kernel
theorem j_X5_init_24 : Cond.fieldLink yX5_init.cls 24 (TX5 4).1 (TX5 4).2.1 (TX5 4).2.2.1 ∈ wsX5_init := by decide +kernel
set_option maxRecDepth 100000 in
set_option maxHeartbeats 8000000 in
theorem i_X5 (l : Launch) (D : va_G) (cA : Nat → ClassId) (h : Nat) : CtN l yX5_init wsX5_init 1 4 20 12 D cA [.ref h] ([(h, .inr (5, [.null, .null, .null, .null, .int (zI 0)]))]) (fun u => u 0 = h) (wX5 cA) := by
  refine CtN.of (cc := cX5_init) (maxL := 1) (by decide) rfl (Nat.le_of_ble_eq_true rfl) ?_
  intro p e s m args below meth c X hm hin
  show LL p l e { frames := 1, cells := 4, slots := 20, locals := 12 } s m args below meth c 1 D (va_A ([(h, .inr (5, [.null, .null, .null, .null, .int (zI 0)]))]) s.heap.size) 0 0 (QN below args s D ([(h, .inr (5, [.null, .null, .null, .null, .int (zI 0)]))]) (fun u => u 0 = h) (wX5 cA) 4 20) ([(h, .inr (5, [.null, .null, .null, .null, .int (zI 0)]))]) 0 [(0, .ref h)] []
  refine ll_aload_n X 0 rfl rfl dX5_init_0 ?_
  refine ll_obj X (by decide +kernel) (by decide +kernel) (by decide +kernel) ⟨Nat.le_of_ble_eq_true rfl, Nat.le_of_ble_eq_true rfl⟩ dX5_init_1 ?_
  refine ll_aload_n X 0 rfl rfl dX5_init_4 ?_
  refine ll_iconst (n := 5) X dX5_init_5 ?_
  refine ll_newa (ty := .int) (t := 0) (N := 5) X (by decide +kernel) rfl rfl (fun _ h => h) rfl ⟨by decide, by decide⟩ rfl (Nat.le_of_ble_eq_true rfl) ⟨Nat.le_of_ble_eq_true rfl, Nat.le_of_ble_eq_true rfl⟩ dX5_init_6 (fun q1 => ?_)
  refine ll_putF (C := RX5) (T := TX5) (N := 5) (ref := (TX5 0).1) (ty := tyX5 0) (ws' := ([(h, .inr (5, [.ref q1, .null, .null, .null, .int (zI 0)]))] ++ [(q1, .inl (cA 0, 5, .inl (fun _ => zI 0)))])) X hin v_X5_init_5 tyX5 tyX5_ok nmX5 0 rfl rfl 0 (by decide) j_X5_init_11 rfl rfl rfl (tyX5_ok 0 (by decide)) rfl rfl (Nat.le_of_ble_eq_true rfl) rfl dX5_init_8 ?_
  refine ll_aload_n X 0 rfl rfl dX5_init_11 ?_
  refine ll_iconst (n := 5) X dX5_init_12 ?_
  refine ll_newa (ty := .int) (t := 0) (N := 5) X (by decide +kernel) rfl rfl (fun _ h => h) rfl ⟨by decide, by decide⟩ rfl (Nat.le_of_ble_eq_true rfl) ⟨Nat.le_of_ble_eq_true rfl, Nat.le_of_ble_eq_true rfl⟩ dX5_init_13 (fun q2 => ?_)
  refine ll_putF (C := RX5) (T := TX5) (N := 5) (ref := (TX5 1).1) (ty := tyX5 1) (ws' := (([(h, .inr (5, [.ref q1, .ref q2, .null, .null, .int (zI 0)]))] ++ [(q1, .inl (cA 0, 5, .inl (fun _ => zI 0)))]) ++ [(q2, .inl (cA 0, 5, .inl (fun _ => zI 0)))])) X hin v_X5_init_5 tyX5 tyX5_ok nmX5 0 rfl rfl 1 (by decide) j_X5_init_15 rfl rfl rfl (tyX5_ok 1 (by decide)) rfl rfl (Nat.le_of_ble_eq_true rfl) rfl dX5_init_15 ?_
  refine ll_aload_n X 0 rfl rfl dX5_init_18 ?_
  refine ll_iconst (n := 5) X dX5_init_19 ?_
  refine ll_newa (ty := .int) (t := 0) (N := 5) X (by decide +kernel) rfl rfl (fun _ h => h) rfl ⟨by decide, by decide⟩ rfl (Nat.le_of_ble_eq_true rfl) ⟨Nat.le_of_ble_eq_true rfl, Nat.le_of_ble_eq_true rfl⟩ dX5_init_20 (fun q3 => ?_)
  refine ll_putF (C := RX5) (T := TX5) (N := 5) (ref := (TX5 2).1) (ty := tyX5 2) (ws' := ((([(h, .inr (5, [.ref q1, .ref q2, .ref q3, .null, .int (zI 0)]))] ++ [(q1, .inl (cA 0, 5, .inl (fun _ => zI 0)))]) ++ [(q2, .inl (cA 0, 5, .inl (fun _ => zI 0)))]) ++ [(q3, .inl (cA 0, 5, .inl (fun _ => zI 0)))])) X hin v_X5_init_5 tyX5 tyX5_ok nmX5 0 rfl rfl 2 (by decide) j_X5_init_18 rfl rfl rfl (tyX5_ok 2 (by decide)) rfl rfl (Nat.le_of_ble_eq_true rfl) rfl dX5_init_22 ?_
  refine ll_aload_n X 0 rfl rfl dX5_init_25 ?_
  refine ll_iconst (n := 5) X dX5_init_26 ?_
  refine ll_newa (ty := .int) (t := 0) (N := 5) X (by decide +kernel) rfl rfl (fun _ h => h) rfl ⟨by decide, by decide⟩ rfl (Nat.le_of_ble_eq_true rfl) ⟨Nat.le_of_ble_eq_true rfl, Nat.le_of_ble_eq_true rfl⟩ dX5_init_27 (fun q4 => ?_)
  refine ll_putF (C := RX5) (T := TX5) (N := 5) (ref := (TX5 3).1) (ty := tyX5 3) (ws' := (((([(h, .inr (5, [.ref q1, .ref q2, .ref q3, .ref q4, .int (zI 0)]))] ++ [(q1, .inl (cA 0, 5, .inl (fun _ => zI 0)))]) ++ [(q2, .inl (cA 0, 5, .inl (fun _ => zI 0)))]) ++ [(q3, .inl (cA 0, 5, .inl (fun _ => zI 0)))]) ++ [(q4, .inl (cA 0, 5, .inl (fun _ => zI 0)))])) X hin v_X5_init_5 tyX5 tyX5_ok nmX5 0 rfl rfl 3 (by decide) j_X5_init_21 rfl rfl rfl (tyX5_ok 3 (by decide)) rfl rfl (Nat.le_of_ble_eq_true rfl) rfl dX5_init_29 ?_
  refine ll_aload_n X 0 rfl rfl dX5_init_32 ?_
  refine ll_iconst (n := 0) X dX5_init_33 ?_
  refine ll_put (C := RX5) (T := TX5) (N := 5) (ref := (TX5 4).1) (ty := tyX5 4) (ws' := (((([(h, .inr (5, [.ref q1, .ref q2, .ref q3, .ref q4, .int (zI 0)]))] ++ [(q1, .inl (cA 0, 5, .inl (fun _ => zI 0)))]) ++ [(q2, .inl (cA 0, 5, .inl (fun _ => zI 0)))]) ++ [(q3, .inl (cA 0, 5, .inl (fun _ => zI 0)))]) ++ [(q4, .inl (cA 0, 5, .inl (fun _ => zI 0)))])) X v_X5_init_5 tyX5 tyX5_ok nmX5 0 rfl rfl 4 (by decide) j_X5_init_24 rfl rfl (tyX5_ok 4 (by decide)) rfl rfl (Nat.le_of_ble_eq_true rfl) rfl dX5_init_34 ?_
  refine ll_wid (cells' := 4) (slots' := 20) ⟨by decide, by decide⟩ ?_
  exact ll_vret X hm (fun k => [h, q1, q2, q3, q4].getD k 0) rfl [0, 1, 2, 3, 4] rfl (by decide +kernel) dX5_init_37

theorem v_X6_init_6 : ∀ w ∈ u_ws RX6 TX6 3, w ∈ wsX6_init := by decide +kernel
theorem j_X6_init_9 : Cond.fieldLink yX6_init.cls 9 (TX6 0).1 (TX6 0).2.1 (TX6 0).2.2.1 ∈ wsX6_init := by decide +kernel
theorem j_X6_init_13 : Cond.fieldLink yX6_init.cls 13 (TX6 1).1 (TX6 1).2.1 (TX6 1).2.2.1 ∈ wsX6_init := by decide +kernel
theorem j_X6_init_16 : Cond.fieldLink yX6_init.cls 16 (TX6 2).1 (TX6 2).2.1 (TX6 2).2.2.1 ∈ wsX6_init := by decide +kernel
set_option maxRecDepth 100000 in
set_option maxHeartbeats 8000000 in
theorem i_X6 (l : Launch) (D : va_G) (cA : Nat → ClassId) (h : Nat) : CtN l yX6_init wsX6_init 1 2 12 12 D cA [.ref h] ([(h, .inr (6, [.null, .null, .int (zI 0)]))]) (fun u => u 0 = h) (wX6 cA) := by
  refine CtN.of (cc := cX6_init) (maxL := 1) (by decide) rfl (Nat.le_of_ble_eq_true rfl) ?_
  intro p e s m args below meth c X hm hin
  show LL p l e { frames := 1, cells := 2, slots := 12, locals := 12 } s m args below meth c 1 D (va_A ([(h, .inr (6, [.null, .null, .int (zI 0)]))]) s.heap.size) 0 0 (QN below args s D ([(h, .inr (6, [.null, .null, .int (zI 0)]))]) (fun u => u 0 = h) (wX6 cA) 2 12) ([(h, .inr (6, [.null, .null, .int (zI 0)]))]) 0 [(0, .ref h)] []
  refine ll_aload_n X 0 rfl rfl dX6_init_0 ?_
  refine ll_obj X (by decide +kernel) (by decide +kernel) (by decide +kernel) ⟨Nat.le_of_ble_eq_true rfl, Nat.le_of_ble_eq_true rfl⟩ dX6_init_1 ?_
  refine ll_aload_n X 0 rfl rfl dX6_init_4 ?_
  refine ll_bipush (n := 6) X (by decide) dX6_init_5 ?_
  refine ll_newa (ty := .int) (t := 0) (N := 6) X (by decide +kernel) rfl rfl (fun _ h => h) rfl ⟨by decide, by decide⟩ rfl (Nat.le_of_ble_eq_true rfl) ⟨Nat.le_of_ble_eq_true rfl, Nat.le_of_ble_eq_true rfl⟩ dX6_init_7 (fun q1 => ?_)
  refine ll_putF (C := RX6) (T := TX6) (N := 3) (ref := (TX6 0).1) (ty := tyX6 0) (ws' := ([(h, .inr (6, [.ref q1, .null, .int (zI 0)]))] ++ [(q1, .inl (cA 0, 6, .inl (fun _ => zI 0)))])) X hin v_X6_init_6 tyX6 tyX6_ok nmX6 0 rfl rfl 0 (by decide) j_X6_init_9 rfl rfl rfl (tyX6_ok 0 (by decide)) rfl rfl (Nat.le_of_ble_eq_true rfl) rfl dX6_init_9 ?_
  refine ll_aload_n X 0 rfl rfl dX6_init_12 ?_
  refine ll_bipush (n := 6) X (by decide) dX6_init_13 ?_
  refine ll_newa (ty := .int) (t := 0) (N := 6) X (by decide +kernel) rfl rfl (fun _ h => h) rfl ⟨by decide, by decide⟩ rfl (Nat.le_of_ble_eq_true rfl) ⟨Nat.le_of_ble_eq_true rfl, Nat.le_of_ble_eq_true rfl⟩ dX6_init_15 (fun q2 => ?_)
  refine ll_putF (C := RX6) (T := TX6) (N := 3) (ref := (TX6 1).1) (ty := tyX6 1) (ws' := (([(h, .inr (6, [.ref q1, .ref q2, .int (zI 0)]))] ++ [(q1, .inl (cA 0, 6, .inl (fun _ => zI 0)))]) ++ [(q2, .inl (cA 0, 6, .inl (fun _ => zI 0)))])) X hin v_X6_init_6 tyX6 tyX6_ok nmX6 0 rfl rfl 1 (by decide) j_X6_init_13 rfl rfl rfl (tyX6_ok 1 (by decide)) rfl rfl (Nat.le_of_ble_eq_true rfl) rfl dX6_init_17 ?_
  refine ll_aload_n X 0 rfl rfl dX6_init_20 ?_
  refine ll_iconst (n := 0) X dX6_init_21 ?_
  refine ll_put (C := RX6) (T := TX6) (N := 3) (ref := (TX6 2).1) (ty := tyX6 2) (ws' := (([(h, .inr (6, [.ref q1, .ref q2, .int (zI 0)]))] ++ [(q1, .inl (cA 0, 6, .inl (fun _ => zI 0)))]) ++ [(q2, .inl (cA 0, 6, .inl (fun _ => zI 0)))])) X v_X6_init_6 tyX6 tyX6_ok nmX6 0 rfl rfl 2 (by decide) j_X6_init_16 rfl rfl (tyX6_ok 2 (by decide)) rfl rfl (Nat.le_of_ble_eq_true rfl) rfl dX6_init_22 ?_
  refine ll_wid (cells' := 2) (slots' := 12) ⟨by decide, by decide⟩ ?_
  exact ll_vret X hm (fun k => [h, q1, q2].getD k 0) rfl [0, 1, 2] rfl (by decide +kernel) dX6_init_25

theorem v_X4_init_4 : ∀ w ∈ u_ws RX4 TX4 6, w ∈ wsX4_init := by decide +kernel
theorem j_X4_init_11 : Cond.fieldLink yX4_init.cls 11 (TX4 0).1 (TX4 0).2.1 (TX4 0).2.2.1 ∈ wsX4_init := by decide +kernel
theorem j_X4_init_17 : Cond.fieldLink yX4_init.cls 17 (TX4 1).1 (TX4 1).2.1 (TX4 1).2.2.1 ∈ wsX4_init := by decide +kernel
theorem j_X4_init_21 : Cond.fieldLink yX4_init.cls 21 (TX4 2).1 (TX4 2).2.1 (TX4 2).2.2.1 ∈ wsX4_init := by decide +kernel
theorem j_X4_init_25 : Cond.fieldLink yX4_init.cls 25 (TX4 3).1 (TX4 3).2.1 (TX4 3).2.2.1 ∈ wsX4_init := by decide +kernel
theorem j_X4_init_28 : Cond.fieldLink yX4_init.cls 28 (TX4 4).1 (TX4 4).2.1 (TX4 4).2.2.1 ∈ wsX4_init := by decide +kernel
theorem j_X4_init_31 : Cond.fieldLink yX4_init.cls 31 (TX4 5).1 (TX4 5).2.1 (TX4 5).2.2.1 ∈ wsX4_init := by decide +kernel
set_option maxRecDepth 100000 in
set_option maxHeartbeats 8000000 in
theorem i_X4 (l : Launch) (D : va_G) (cA : Nat → ClassId) (h : Nat) : CtN l yX4_init wsX4_init 1 2 92 12 D cA [.ref h] ([(h, .inr (4, [.null, .null, .int (zI 0), .int (zI 0), .int (zI 0), .int (zI 0)]))]) (fun u => u 0 = h) (wX4 cA) := by
  refine CtN.of (cc := cX4_init) (maxL := 1) (by decide) rfl (Nat.le_of_ble_eq_true rfl) ?_
  intro p e s m args below meth c X hm hin
  show LL p l e { frames := 1, cells := 2, slots := 92, locals := 12 } s m args below meth c 1 D (va_A ([(h, .inr (4, [.null, .null, .int (zI 0), .int (zI 0), .int (zI 0), .int (zI 0)]))]) s.heap.size) 0 0 (QN below args s D ([(h, .inr (4, [.null, .null, .int (zI 0), .int (zI 0), .int (zI 0), .int (zI 0)]))]) (fun u => u 0 = h) (wX4 cA) 2 92) ([(h, .inr (4, [.null, .null, .int (zI 0), .int (zI 0), .int (zI 0), .int (zI 0)]))]) 0 [(0, .ref h)] []
  refine ll_aload_n X 0 rfl rfl dX4_init_0 ?_
  refine ll_obj X (by decide +kernel) (by decide +kernel) (by decide +kernel) ⟨Nat.le_of_ble_eq_true rfl, Nat.le_of_ble_eq_true rfl⟩ dX4_init_1 ?_
  refine ll_aload_n X 0 rfl rfl dX4_init_4 ?_
  refine ll_bipush (n := 80) X (by decide) dX4_init_5 ?_
  refine ll_newa (ty := .char) (t := 1) (N := 80) X (by decide +kernel) rfl rfl (fun _ h => h) rfl ⟨by decide, by decide⟩ rfl (Nat.le_of_ble_eq_true rfl) ⟨Nat.le_of_ble_eq_true rfl, Nat.le_of_ble_eq_true rfl⟩ dX4_init_7 (fun q1 => ?_)
  refine ll_putF (C := RX4) (T := TX4) (N := 6) (ref := (TX4 0).1) (ty := tyX4 0) (ws' := ([(h, .inr (4, [.ref q1, .null, .int (zI 0), .int (zI 0), .int (zI 0), .int (zI 0)]))] ++ [(q1, .inl (cA 1, 80, .inl (fun _ => zI 0)))])) X hin v_X4_init_4 tyX4 tyX4_ok nmX4 0 rfl rfl 0 (by decide) j_X4_init_11 rfl rfl rfl (tyX4_ok 0 (by decide)) rfl rfl (Nat.le_of_ble_eq_true rfl) rfl dX4_init_9 ?_
  refine ll_aload_n X 0 rfl rfl dX4_init_12 ?_
  refine ll_bipush (n := 12) X (by decide) dX4_init_13 ?_
  refine ll_newa (ty := .int) (t := 0) (N := 12) X (by decide +kernel) rfl rfl (fun _ h => h) rfl ⟨by decide, by decide⟩ rfl (Nat.le_of_ble_eq_true rfl) ⟨Nat.le_of_ble_eq_true rfl, Nat.le_of_ble_eq_true rfl⟩ dX4_init_15 (fun q2 => ?_)
  refine ll_putF (C := RX4) (T := TX4) (N := 6) (ref := (TX4 1).1) (ty := tyX4 1) (ws' := (([(h, .inr (4, [.ref q1, .ref q2, .int (zI 0), .int (zI 0), .int (zI 0), .int (zI 0)]))] ++ [(q1, .inl (cA 1, 80, .inl (fun _ => zI 0)))]) ++ [(q2, .inl (cA 0, 12, .inl (fun _ => zI 0)))])) X hin v_X4_init_4 tyX4 tyX4_ok nmX4 0 rfl rfl 1 (by decide) j_X4_init_17 rfl rfl rfl (tyX4_ok 1 (by decide)) rfl rfl (Nat.le_of_ble_eq_true rfl) rfl dX4_init_17 ?_
  refine ll_aload_n X 0 rfl rfl dX4_init_20 ?_
  refine ll_iconst (n := 0) X dX4_init_21 ?_
  refine ll_put (C := RX4) (T := TX4) (N := 6) (ref := (TX4 2).1) (ty := tyX4 2) (ws' := (([(h, .inr (4, [.ref q1, .ref q2, .int (zI 0), .int (zI 0), .int (zI 0), .int (zI 0)]))] ++ [(q1, .inl (cA 1, 80, .inl (fun _ => zI 0)))]) ++ [(q2, .inl (cA 0, 12, .inl (fun _ => zI 0)))])) X v_X4_init_4 tyX4 tyX4_ok nmX4 0 rfl rfl 2 (by decide) j_X4_init_21 rfl rfl (tyX4_ok 2 (by decide)) rfl rfl (Nat.le_of_ble_eq_true rfl) rfl dX4_init_22 ?_
  refine ll_aload_n X 0 rfl rfl dX4_init_25 ?_
  refine ll_iconst (n := 0) X dX4_init_26 ?_
  refine ll_put (C := RX4) (T := TX4) (N := 6) (ref := (TX4 3).1) (ty := tyX4 3) (ws' := (([(h, .inr (4, [.ref q1, .ref q2, .int (zI 0), .int (zI 0), .int (zI 0), .int (zI 0)]))] ++ [(q1, .inl (cA 1, 80, .inl (fun _ => zI 0)))]) ++ [(q2, .inl (cA 0, 12, .inl (fun _ => zI 0)))])) X v_X4_init_4 tyX4 tyX4_ok nmX4 0 rfl rfl 3 (by decide) j_X4_init_25 rfl rfl (tyX4_ok 3 (by decide)) rfl rfl (Nat.le_of_ble_eq_true rfl) rfl dX4_init_27 ?_
  refine ll_aload_n X 0 rfl rfl dX4_init_30 ?_
  refine ll_iconst (n := 0) X dX4_init_31 ?_
  refine ll_put (C := RX4) (T := TX4) (N := 6) (ref := (TX4 4).1) (ty := tyX4 4) (ws' := (([(h, .inr (4, [.ref q1, .ref q2, .int (zI 0), .int (zI 0), .int (zI 0), .int (zI 0)]))] ++ [(q1, .inl (cA 1, 80, .inl (fun _ => zI 0)))]) ++ [(q2, .inl (cA 0, 12, .inl (fun _ => zI 0)))])) X v_X4_init_4 tyX4 tyX4_ok nmX4 0 rfl rfl 4 (by decide) j_X4_init_28 rfl rfl (tyX4_ok 4 (by decide)) rfl rfl (Nat.le_of_ble_eq_true rfl) rfl dX4_init_32 ?_
  refine ll_aload_n X 0 rfl rfl dX4_init_35 ?_
  refine ll_iconst (n := 0) X dX4_init_36 ?_
  refine ll_put (C := RX4) (T := TX4) (N := 6) (ref := (TX4 5).1) (ty := tyX4 5) (ws' := (([(h, .inr (4, [.ref q1, .ref q2, .int (zI 0), .int (zI 0), .int (zI 0), .int (zI 0)]))] ++ [(q1, .inl (cA 1, 80, .inl (fun _ => zI 0)))]) ++ [(q2, .inl (cA 0, 12, .inl (fun _ => zI 0)))])) X v_X4_init_4 tyX4 tyX4_ok nmX4 0 rfl rfl 5 (by decide) j_X4_init_31 rfl rfl (tyX4_ok 5 (by decide)) rfl rfl (Nat.le_of_ble_eq_true rfl) rfl dX4_init_37 ?_
  refine ll_wid (cells' := 2) (slots' := 92) ⟨by decide, by decide⟩ ?_
  exact ll_vret X hm (fun k => [h, q1, q2].getD k 0) rfl [0, 1, 2] rfl (by decide +kernel) dX4_init_40

theorem v_X3_init_3 : ∀ w ∈ u_ws RX3 TX3 1, w ∈ wsX3_init := by decide +kernel
theorem j_X3_init_9 : Cond.fieldLink yX3_init.cls 9 (TX3 0).1 (TX3 0).2.1 (TX3 0).2.2.1 ∈ wsX3_init := by decide +kernel
set_option maxRecDepth 100000 in
set_option maxHeartbeats 8000000 in
theorem i_X3 (l : Launch) (D : va_G) (cA : Nat → ClassId) (h : Nat) : CtN l yX3_init wsX3_init 1 1 101 12 D cA [.ref h] ([(h, .inr (3, [.null]))]) (fun u => u 0 = h) (wX3 cA) := by
  refine CtN.of (cc := cX3_init) (maxL := 1) (by decide) rfl (Nat.le_of_ble_eq_true rfl) ?_
  intro p e s m args below meth c X hm hin
  show LL p l e { frames := 1, cells := 1, slots := 101, locals := 12 } s m args below meth c 1 D (va_A ([(h, .inr (3, [.null]))]) s.heap.size) 0 0 (QN below args s D ([(h, .inr (3, [.null]))]) (fun u => u 0 = h) (wX3 cA) 1 101) ([(h, .inr (3, [.null]))]) 0 [(0, .ref h)] []
  refine ll_aload_n X 0 rfl rfl dX3_init_0 ?_
  refine ll_obj X (by decide +kernel) (by decide +kernel) (by decide +kernel) ⟨Nat.le_of_ble_eq_true rfl, Nat.le_of_ble_eq_true rfl⟩ dX3_init_1 ?_
  refine ll_aload_n X 0 rfl rfl dX3_init_4 ?_
  refine ll_bipush (n := 101) X (by decide) dX3_init_5 ?_
  refine ll_newa (ty := .int) (t := 0) (N := 101) X (by decide +kernel) rfl rfl (fun _ h => h) rfl ⟨by decide, by decide⟩ rfl (Nat.le_of_ble_eq_true rfl) ⟨Nat.le_of_ble_eq_true rfl, Nat.le_of_ble_eq_true rfl⟩ dX3_init_7 (fun q1 => ?_)
  refine ll_putF (C := RX3) (T := TX3) (N := 1) (ref := (TX3 0).1) (ty := tyX3 0) (ws' := ([(h, .inr (3, [.ref q1]))] ++ [(q1, .inl (cA 0, 101, .inl (fun _ => zI 0)))])) X hin v_X3_init_3 tyX3 tyX3_ok nmX3 0 rfl rfl 0 (by decide) j_X3_init_9 rfl rfl rfl (tyX3_ok 0 (by decide)) rfl rfl (Nat.le_of_ble_eq_true rfl) rfl dX3_init_9 ?_
  refine ll_wid (cells' := 1) (slots' := 101) ⟨by decide, by decide⟩ ?_
  exact ll_vret X hm (fun k => [h, q1].getD k 0) rfl [0, 1] rfl (by decide +kernel) dX3_init_12

theorem v_X0_init_0 : ∀ w ∈ u_ws RX0 TX0 7, w ∈ wsX0_init := by decide +kernel
theorem j_X0_init_9 : Cond.fieldLink yX0_init.cls 9 (TX0 0).1 (TX0 0).2.1 (TX0 0).2.2.1 ∈ wsX0_init := by decide +kernel
theorem j_X0_init_15 : Cond.fieldLink yX0_init.cls 15 (TX0 1).1 (TX0 1).2.1 (TX0 1).2.2.1 ∈ wsX0_init := by decide +kernel
theorem j_X0_init_18 : Cond.fieldLink yX0_init.cls 18 (TX0 2).1 (TX0 2).2.1 (TX0 2).2.2.1 ∈ wsX0_init := by decide +kernel
theorem j_X0_init_22 : Cond.fieldLink yX0_init.cls 22 (TX0 3).1 (TX0 3).2.1 (TX0 3).2.2.1 ∈ wsX0_init := by decide +kernel
theorem j_X0_init_25 : Cond.fieldLink yX0_init.cls 25 (TX0 4).1 (TX0 4).2.1 (TX0 4).2.2.1 ∈ wsX0_init := by decide +kernel
theorem j_X0_init_28 : Cond.fieldLink yX0_init.cls 28 (TX0 5).1 (TX0 5).2.1 (TX0 5).2.2.1 ∈ wsX0_init := by decide +kernel
theorem j_X0_init_31 : Cond.fieldLink yX0_init.cls 31 (TX0 6).1 (TX0 6).2.1 (TX0 6).2.2.1 ∈ wsX0_init := by decide +kernel
set_option maxRecDepth 100000 in
set_option maxHeartbeats 8000000 in
theorem i_X0 (l : Launch) (D : va_G) (cA : Nat → ClassId) (h : Nat) : CtN l yX0_init wsX0_init 1 2 202 12 D cA [.ref h] ([(h, .inr (0, [.null, .null, .int (zI 0), .int (zI 0), .int (zI 0), .int (zI 0), .int (zI 0)]))]) (fun u => u 0 = h) (wX0 cA) := by
  refine CtN.of (cc := cX0_init) (maxL := 1) (by decide) rfl (Nat.le_of_ble_eq_true rfl) ?_
  intro p e s m args below meth c X hm hin
  show LL p l e { frames := 1, cells := 2, slots := 202, locals := 12 } s m args below meth c 1 D (va_A ([(h, .inr (0, [.null, .null, .int (zI 0), .int (zI 0), .int (zI 0), .int (zI 0), .int (zI 0)]))]) s.heap.size) 0 0 (QN below args s D ([(h, .inr (0, [.null, .null, .int (zI 0), .int (zI 0), .int (zI 0), .int (zI 0), .int (zI 0)]))]) (fun u => u 0 = h) (wX0 cA) 2 202) ([(h, .inr (0, [.null, .null, .int (zI 0), .int (zI 0), .int (zI 0), .int (zI 0), .int (zI 0)]))]) 0 [(0, .ref h)] []
  refine ll_aload_n X 0 rfl rfl dX0_init_0 ?_
  refine ll_obj X (by decide +kernel) (by decide +kernel) (by decide +kernel) ⟨Nat.le_of_ble_eq_true rfl, Nat.le_of_ble_eq_true rfl⟩ dX0_init_1 ?_
  refine ll_aload_n X 0 rfl rfl dX0_init_4 ?_
  refine ll_bipush (n := 101) X (by decide) dX0_init_5 ?_
  refine ll_newa (ty := .int) (t := 0) (N := 101) X (by decide +kernel) rfl rfl (fun _ h => h) rfl ⟨by decide, by decide⟩ rfl (Nat.le_of_ble_eq_true rfl) ⟨Nat.le_of_ble_eq_true rfl, Nat.le_of_ble_eq_true rfl⟩ dX0_init_7 (fun q1 => ?_)
  refine ll_putF (C := RX0) (T := TX0) (N := 7) (ref := (TX0 0).1) (ty := tyX0 0) (ws' := ([(h, .inr (0, [.ref q1, .null, .int (zI 0), .int (zI 0), .int (zI 0), .int (zI 0), .int (zI 0)]))] ++ [(q1, .inl (cA 0, 101, .inl (fun _ => zI 0)))])) X hin v_X0_init_0 tyX0 tyX0_ok nmX0 0 rfl rfl 0 (by decide) j_X0_init_9 rfl rfl rfl (tyX0_ok 0 (by decide)) rfl rfl (Nat.le_of_ble_eq_true rfl) rfl dX0_init_9 ?_
  refine ll_aload_n X 0 rfl rfl dX0_init_12 ?_
  refine ll_bipush (n := 101) X (by decide) dX0_init_13 ?_
  refine ll_newa (ty := .int) (t := 0) (N := 101) X (by decide +kernel) rfl rfl (fun _ h => h) rfl ⟨by decide, by decide⟩ rfl (Nat.le_of_ble_eq_true rfl) ⟨Nat.le_of_ble_eq_true rfl, Nat.le_of_ble_eq_true rfl⟩ dX0_init_15 (fun q2 => ?_)
  refine ll_putF (C := RX0) (T := TX0) (N := 7) (ref := (TX0 1).1) (ty := tyX0 1) (ws' := (([(h, .inr (0, [.ref q1, .ref q2, .int (zI 0), .int (zI 0), .int (zI 0), .int (zI 0), .int (zI 0)]))] ++ [(q1, .inl (cA 0, 101, .inl (fun _ => zI 0)))]) ++ [(q2, .inl (cA 0, 101, .inl (fun _ => zI 0)))])) X hin v_X0_init_0 tyX0 tyX0_ok nmX0 0 rfl rfl 1 (by decide) j_X0_init_15 rfl rfl rfl (tyX0_ok 1 (by decide)) rfl rfl (Nat.le_of_ble_eq_true rfl) rfl dX0_init_17 ?_
  refine ll_aload_n X 0 rfl rfl dX0_init_20 ?_
  refine ll_iconst (n := 0) X dX0_init_21 ?_
  refine ll_put (C := RX0) (T := TX0) (N := 7) (ref := (TX0 2).1) (ty := tyX0 2) (ws' := (([(h, .inr (0, [.ref q1, .ref q2, .int (zI 0), .int (zI 0), .int (zI 0), .int (zI 0), .int (zI 0)]))] ++ [(q1, .inl (cA 0, 101, .inl (fun _ => zI 0)))]) ++ [(q2, .inl (cA 0, 101, .inl (fun _ => zI 0)))])) X v_X0_init_0 tyX0 tyX0_ok nmX0 0 rfl rfl 2 (by decide) j_X0_init_18 rfl rfl (tyX0_ok 2 (by decide)) rfl rfl (Nat.le_of_ble_eq_true rfl) rfl dX0_init_22 ?_
  refine ll_aload_n X 0 rfl rfl dX0_init_25 ?_
  refine ll_iconst (n := 0) X dX0_init_26 ?_
  refine ll_put (C := RX0) (T := TX0) (N := 7) (ref := (TX0 3).1) (ty := tyX0 3) (ws' := (([(h, .inr (0, [.ref q1, .ref q2, .int (zI 0), .int (zI 0), .int (zI 0), .int (zI 0), .int (zI 0)]))] ++ [(q1, .inl (cA 0, 101, .inl (fun _ => zI 0)))]) ++ [(q2, .inl (cA 0, 101, .inl (fun _ => zI 0)))])) X v_X0_init_0 tyX0 tyX0_ok nmX0 0 rfl rfl 3 (by decide) j_X0_init_22 rfl rfl (tyX0_ok 3 (by decide)) rfl rfl (Nat.le_of_ble_eq_true rfl) rfl dX0_init_27 ?_
  refine ll_aload_n X 0 rfl rfl dX0_init_30 ?_
  refine ll_iconst (n := 0) X dX0_init_31 ?_
  refine ll_put (C := RX0) (T := TX0) (N := 7) (ref := (TX0 4).1) (ty := tyX0 4) (ws' := (([(h, .inr (0, [.ref q1, .ref q2, .int (zI 0), .int (zI 0), .int (zI 0), .int (zI 0), .int (zI 0)]))] ++ [(q1, .inl (cA 0, 101, .inl (fun _ => zI 0)))]) ++ [(q2, .inl (cA 0, 101, .inl (fun _ => zI 0)))])) X v_X0_init_0 tyX0 tyX0_ok nmX0 0 rfl rfl 4 (by decide) j_X0_init_25 rfl rfl (tyX0_ok 4 (by decide)) rfl rfl (Nat.le_of_ble_eq_true rfl) rfl dX0_init_32 ?_
  refine ll_aload_n X 0 rfl rfl dX0_init_35 ?_
  refine ll_iconst (n := 1) X dX0_init_36 ?_
  refine ll_put (C := RX0) (T := TX0) (N := 7) (ref := (TX0 5).1) (ty := tyX0 5) (ws' := (([(h, .inr (0, [.ref q1, .ref q2, .int (zI 0), .int (zI 0), .int (zI 0), .int (zI 1), .int (zI 0)]))] ++ [(q1, .inl (cA 0, 101, .inl (fun _ => zI 0)))]) ++ [(q2, .inl (cA 0, 101, .inl (fun _ => zI 0)))])) X v_X0_init_0 tyX0 tyX0_ok nmX0 0 rfl rfl 5 (by decide) j_X0_init_28 rfl rfl (tyX0_ok 5 (by decide)) rfl rfl (Nat.le_of_ble_eq_true rfl) rfl dX0_init_37 ?_
  refine ll_aload_n X 0 rfl rfl dX0_init_40 ?_
  refine ll_iconst (n := 0) X dX0_init_41 ?_
  refine ll_put (C := RX0) (T := TX0) (N := 7) (ref := (TX0 6).1) (ty := tyX0 6) (ws' := (([(h, .inr (0, [.ref q1, .ref q2, .int (zI 0), .int (zI 0), .int (zI 0), .int (zI 1), .int (zI 0)]))] ++ [(q1, .inl (cA 0, 101, .inl (fun _ => zI 0)))]) ++ [(q2, .inl (cA 0, 101, .inl (fun _ => zI 0)))])) X v_X0_init_0 tyX0 tyX0_ok nmX0 0 rfl rfl 6 (by decide) j_X0_init_31 rfl rfl (tyX0_ok 6 (by decide)) rfl rfl (Nat.le_of_ble_eq_true rfl) rfl dX0_init_42 ?_
  refine ll_wid (cells' := 2) (slots' := 202) ⟨by decide, by decide⟩ ?_
  exact ll_vret X hm (fun k => [h, q1, q2].getD k 0) rfl [0, 1, 2] rfl (by decide +kernel) dX0_init_45

theorem v_X1_init_1 : ∀ w ∈ u_ws RX1 TX1 2, w ∈ wsX1_init := by decide +kernel
theorem j_X1_init_7 : Cond.fieldLink yX1_init.cls 7 (TX1 0).1 (TX1 0).2.1 (TX1 0).2.2.1 ∈ wsX1_init := by decide +kernel
theorem j_X1_init_13 : Cond.fieldLink yX1_init.cls 13 (TX1 1).1 (TX1 1).2.1 (TX1 1).2.2.1 ∈ wsX1_init := by decide +kernel
set_option maxRecDepth 100000 in
set_option maxHeartbeats 8000000 in
theorem i_X1 (l : Launch) (D : va_G) (cA : Nat → ClassId) (h : Nat) : CtN l yX1_init wsX1_init 1 0 0 12 D cA [.ref h] ([(h, .inr (1, [.int (zI 0), .int (zI 0)]))]) (fun u => u 0 = h) (wX1 cA) := by
  refine CtN.of (cc := cX1_init) (maxL := 1) (by decide) rfl (Nat.le_of_ble_eq_true rfl) ?_
  intro p e s m args below meth c X hm hin
  show LL p l e { frames := 1, cells := 0, slots := 0, locals := 12 } s m args below meth c 1 D (va_A ([(h, .inr (1, [.int (zI 0), .int (zI 0)]))]) s.heap.size) 0 0 (QN below args s D ([(h, .inr (1, [.int (zI 0), .int (zI 0)]))]) (fun u => u 0 = h) (wX1 cA) 0 0) ([(h, .inr (1, [.int (zI 0), .int (zI 0)]))]) 0 [(0, .ref h)] []
  refine ll_aload_n X 0 rfl rfl dX1_init_0 ?_
  refine ll_obj X (by decide +kernel) (by decide +kernel) (by decide +kernel) ⟨Nat.le_of_ble_eq_true rfl, Nat.le_of_ble_eq_true rfl⟩ dX1_init_1 ?_
  refine ll_aload_n X 0 rfl rfl dX1_init_4 ?_
  refine ll_iconst (n := 0) X dX1_init_5 ?_
  refine ll_put (C := RX1) (T := TX1) (N := 2) (ref := (TX1 0).1) (ty := tyX1 0) (ws' := [(h, .inr (1, [.int (zI 0), .int (zI 0)]))]) X v_X1_init_1 tyX1 tyX1_ok nmX1 0 rfl rfl 0 (by decide) j_X1_init_7 rfl rfl (tyX1_ok 0 (by decide)) rfl rfl (Nat.le_of_ble_eq_true rfl) rfl dX1_init_6 ?_
  refine ll_aload_n X 0 rfl rfl dX1_init_9 ?_
  refine ll_iconst (n := 1) X dX1_init_10 ?_
  refine ll_put (C := RX1) (T := TX1) (N := 2) (ref := (TX1 1).1) (ty := tyX1 1) (ws' := [(h, .inr (1, [.int (zI 0), .int (zI 1)]))]) X v_X1_init_1 tyX1 tyX1_ok nmX1 0 rfl rfl 1 (by decide) j_X1_init_13 rfl rfl (tyX1_ok 1 (by decide)) rfl rfl (Nat.le_of_ble_eq_true rfl) rfl dX1_init_11 ?_
  refine ll_wid (cells' := 0) (slots' := 0) ⟨by decide, by decide⟩ ?_
  exact ll_vret X hm (fun k => [h].getD k 0) rfl [0] rfl (by decide +kernel) dX1_init_14

theorem v_X6_append_6 : ∀ w ∈ u_ws RX6 TX6 3, w ∈ wsX6_append := by decide +kernel
theorem j_X6_append_9 : Cond.fieldLink yX6_append.cls 9 (TX6 0).1 (TX6 0).2.1 (TX6 0).2.2.1 ∈ wsX6_append := by decide +kernel
theorem j_X6_append_13 : Cond.fieldLink yX6_append.cls 13 (TX6 1).1 (TX6 1).2.1 (TX6 1).2.2.1 ∈ wsX6_append := by decide +kernel
theorem j_X6_append_16 : Cond.fieldLink yX6_append.cls 16 (TX6 2).1 (TX6 2).2.1 (TX6 2).2.2.1 ∈ wsX6_append := by decide +kernel
set_option maxRecDepth 100000 in
set_option maxHeartbeats 8000000 in
theorem i_append (l : Launch) (D : va_G) (cA : Nat → ClassId) (u : Nat → Nat) : CtN l yX6_append wsX6_append 0 0 0 0 D cA [.ref (u 0), .int (zI 30), .int (zI 1)] (wX6 cA u) (fun v => v = u) (wX6b cA) := by
  refine CtN.of (cc := cX6_append) (maxL := 3) (by decide) rfl (Nat.le_of_ble_eq_true rfl) ?_
  intro p e s m args below meth c X hm hin
  show LL p l e { frames := 0, cells := 0, slots := 0, locals := 0 } s m args below meth c 3 D (va_A (wX6 cA u) s.heap.size) 0 0 (QN below args s D (wX6 cA u) (fun v => v = u) (wX6b cA) 0 0) (wX6 cA u) 0 [(0, .ref (u 0)), (1, .int (zI 30)), (2, .int (zI 1))] []
  refine ll_aload_n X 0 rfl rfl dX6_append_0 ?_
  refine ll_get (C := RX6) (T := TX6) (N := 3) (ref := (TX6 2).1) (v := .int (zI 0)) X v_X6_append_6 0 rfl rfl 2 (by decide) j_X6_append_16 rfl rfl dX6_append_1 ?_
  refine ll_bipush (n := 6) X (by decide) dX6_append_4 ?_
  refine ll_icmp_ge (tgt := 39) X ⟨by decide, by decide⟩ ⟨by decide, by decide⟩ dX6_append_6 (by decide) (fun h9 => absurd h9 (by decide)) (fun _ => ?_)
  refine ll_aload_n X 0 rfl rfl dX6_append_9 ?_
  refine ll_get (C := RX6) (T := TX6) (N := 3) (ref := (TX6 0).1) (v := .ref (u 1)) X v_X6_append_6 0 rfl rfl 0 (by decide) j_X6_append_9 rfl rfl dX6_append_10 ?_
  refine ll_aload_n X 0 rfl rfl dX6_append_13 ?_
  refine ll_get (C := RX6) (T := TX6) (N := 3) (ref := (TX6 2).1) (v := .int (zI 0)) X v_X6_append_6 0 rfl rfl 2 (by decide) j_X6_append_16 rfl rfl dX6_append_14 ?_
  refine ll_iload_n X 2 rfl rfl dX6_append_17 ?_
  refine ll_iast (F := (fun _ => (0 : Int))) (n := 6) (ws' := [(u 0, .inr (6, [.ref (u 1), .ref (u 2), .int (zI 0)])), (u 1, .inl (cA 0, 6, .inl (fun k => zI (uz (fun _ => (0 : Int)) 0 1 k)))), (u 2, .inl (cA 0, 6, .inl (fun k => zI ((fun _ => (0 : Int)) k))))]) X 1 rfl (by decide) ⟨by decide, by decide⟩ rfl dX6_append_18 ?_
  refine ll_aload_n X 0 rfl rfl dX6_append_19 ?_
  refine ll_get (C := RX6) (T := TX6) (N := 3) (ref := (TX6 1).1) (v := .ref (u 2)) X v_X6_append_6 0 rfl rfl 1 (by decide) j_X6_append_13 rfl rfl dX6_append_20 ?_
  refine ll_aload_n X 0 rfl rfl dX6_append_23 ?_
  refine ll_get (C := RX6) (T := TX6) (N := 3) (ref := (TX6 2).1) (v := .int (zI 0)) X v_X6_append_6 0 rfl rfl 2 (by decide) j_X6_append_16 rfl rfl dX6_append_24 ?_
  refine ll_iload_n X 1 rfl rfl dX6_append_27 ?_
  refine ll_iast (F := (fun _ => (0 : Int))) (n := 6) (ws' := [(u 0, .inr (6, [.ref (u 1), .ref (u 2), .int (zI 0)])), (u 1, .inl (cA 0, 6, .inl (fun k => zI (uz (fun _ => (0 : Int)) 0 1 k)))), (u 2, .inl (cA 0, 6, .inl (fun k => zI (uz (fun _ => (0 : Int)) 0 30 k))))]) X 2 rfl (by decide) ⟨by decide, by decide⟩ rfl dX6_append_28 ?_
  refine ll_aload_n X 0 rfl rfl dX6_append_29 ?_
  refine ll_dup X rfl dX6_append_30 ?_
  refine ll_get (C := RX6) (T := TX6) (N := 3) (ref := (TX6 2).1) (v := .int (zI 0)) X v_X6_append_6 0 rfl rfl 2 (by decide) j_X6_append_16 rfl rfl dX6_append_31 ?_
  refine ll_iconst (n := 1) X dX6_append_34 ?_
  refine ll_iadd X dX6_append_35 ?_
  refine ll_put (C := RX6) (T := TX6) (N := 3) (ref := (TX6 2).1) (ty := tyX6 2) (ws' := [(u 0, .inr (6, [.ref (u 1), .ref (u 2), .int (zI 1)])), (u 1, .inl (cA 0, 6, .inl (fun k => zI (uz (fun _ => (0 : Int)) 0 1 k)))), (u 2, .inl (cA 0, 6, .inl (fun k => zI (uz (fun _ => (0 : Int)) 0 30 k))))]) X v_X6_append_6 tyX6 tyX6_ok nmX6 0 rfl rfl 2 (by decide) j_X6_append_16 rfl rfl (tyX6_ok 2 (by decide)) rfl rfl (Nat.le_of_ble_eq_true rfl) rfl dX6_append_36 ?_
  exact ll_vret X hm u rfl [0, 1, 2] rfl (by decide +kernel) dX6_append_39

theorem v_X6_becomeOne_6 : ∀ w ∈ u_ws RX6 TX6 3, w ∈ wsX6_becomeOne := by decide +kernel
theorem j_X6_becomeOne_16 : Cond.fieldLink yX6_becomeOne.cls 16 (TX6 2).1 (TX6 2).2.1 (TX6 2).2.2.1 ∈ wsX6_becomeOne := by decide +kernel
set_option maxRecDepth 100000 in
set_option maxHeartbeats 8000000 in
theorem i_becomeOne (l : Launch) (D : va_G) (cA : Nat → ClassId) (u : Nat → Nat) : CtN l yX6_becomeOne wsX6_becomeOne 1 0 0 22 D cA [.ref (u 0), .int (zI 30)] (wX6 cA u) (fun v => v = u) (wX6b cA) := by
  refine CtN.of (cc := cX6_becomeOne) (maxL := 2) (by decide) rfl (Nat.le_of_ble_eq_true rfl) ?_
  intro p e s m args below meth c X hm hin
  show LL p l e { frames := 1, cells := 0, slots := 0, locals := 22 } s m args below meth c 2 D (va_A (wX6 cA u) s.heap.size) 0 0 (QN below args s D (wX6 cA u) (fun v => v = u) (wX6b cA) 0 0) (wX6 cA u) 0 [(0, .ref (u 0)), (1, .int (zI 30))] []
  refine ll_aload_n X 0 rfl rfl dX6_becomeOne_0 ?_
  refine ll_iconst (n := 0) X dX6_becomeOne_1 ?_
  refine ll_put (C := RX6) (T := TX6) (N := 3) (ref := (TX6 2).1) (ty := tyX6 2) (ws' := (wX6 cA u)) X v_X6_becomeOne_6 tyX6 tyX6_ok nmX6 0 rfl rfl 2 (by decide) j_X6_becomeOne_16 rfl rfl (tyX6_ok 2 (by decide)) rfl rfl (Nat.le_of_ble_eq_true rfl) rfl dX6_becomeOne_2 ?_
  refine ll_aload_n X 0 rfl rfl dX6_becomeOne_5 ?_
  refine ll_iload_n X 1 rfl rfl dX6_becomeOne_6 ?_
  refine ll_iconst (n := 1) X dX6_becomeOne_7 ?_
  show LL _ _ _ _ _ _ _ _ _ _ _ _ _ _ _ _ ([] ++ (wX6 cA u)) _ _ _
  refine ll_callV (As := [.int (zI 30), .int (zI 1)]) (st := []) (Nf := 3) (q0 := 0) X 2 (i_append l D cA u) gX6_becomeOne_X6_append rfl (by decide +kernel) rfl rfl ⟨by decide, by decide⟩ (Nat.le_of_ble_eq_true rfl) ⟨Nat.le_of_ble_eq_true rfl, Nat.le_of_ble_eq_true rfl⟩ rfl rfl dX6_becomeOne_8 (fun u1 hu1 => ?_)
  have hu1 := hu1.symm
  subst hu1
  exact ll_vret X hm u rfl [0, 1, 2] rfl (by decide +kernel) dX6_becomeOne_11

