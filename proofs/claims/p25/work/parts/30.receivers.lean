theorem u_X5_has_5 : ∀ w ∈ u_ws RX5 TX5 5, w ∈ wsX5_has := by decide +kernel
theorem k_X5_has_24 : Cond.fieldLink yX5_has.cls 24 (TX5 4).1 (TX5 4).2.1 (TX5 4).2.2.1 ∈ wsX5_has := by decide +kernel
set_option maxRecDepth 100000 in
set_option maxHeartbeats 4000000 in
theorem c_X5_has (l : Launch) (D : va_G) {ad : Nat → Nat} (cA : Nat → ClassId) (had : adok ad) (M : Mem) (r : Int) (hr : -2147483648 ≤ r ∧ r ≤ 2147483647) (hn : 0 ≤ M 1 4 ∧ M 1 4 ≤ 5) : CtI l yX5_has wsX5_has 0 0 D ad cA [.ref (ad 1), .int (zI r)] M (fun z M1 => z = (if 0 ≤ r ∧ r < M 1 4 then 1 else 0) ∧ M1 = M) := by
  refine CtI.of (cc := cX5_has) (maxL := 2) (ret := (some .boolean)) had (by decide) rfl (Nat.le_of_ble_eq_true rfl) ?_
  intro p e s m args below meth c X hm
  show VV p l e { frames := 0, cells := 0, slots := 0, locals := 0 } s m args below meth c 2 D ad cA (Afr ad s.heap.size) 0 0 (QI below args s D ad cA (fun z M1 => z = (if 0 ≤ r ∧ r < M 1 4 then 1 else 0) ∧ M1 = M)) M 0 [(0, .ref (ad 1)), (1, .int (zI r))] []
  refine vv_iload_n X 1 rfl rfl dX5_has_0 ?_
  refine vv_if_lt (tgt := 16) X (by omega) dX5_has_1 (by decide) (fun c_1 => ?_) (fun c_1 => ?_)
  · skip
    refine vv_iconst (n := 0) X dX5_has_16 ?_
    exact vv_zret X hm (by omega) (⟨by first | rw [if_pos (by omega)] | rw [if_neg (by omega)], rfl⟩) dX5_has_17
  · skip
    refine vv_iload_n X 1 rfl rfl dX5_has_4 ?_
    refine vv_aload_n X 0 rfl rfl dX5_has_5 ?_
    refine vv_geti (Nf := 5) (ref := (TX5 4).1) (z := (M 1 4)) X (by decide) sh_1 rfl 4 (by decide) u_X5_has_5 k_X5_has_24 rfl rfl (rfl) dX5_has_6 ?_
    refine vv_icmp_ge (tgt := 16) X (by omega) (by omega) dX5_has_9 (by decide) (fun c_9 => ?_) (fun c_9 => ?_)
    · skip
      refine vv_iconst (n := 0) X dX5_has_16 ?_
      exact vv_zret X hm (by omega) (⟨by first | rw [if_pos (by omega)] | rw [if_neg (by omega)], rfl⟩) dX5_has_17
    · skip
      refine vv_iconst (n := 1) X dX5_has_12 ?_
      refine vv_goto (tgt := 17) X (by decide) dX5_has_13 ?_
      exact vv_zret X hm (by omega) (⟨by first | rw [if_pos (by omega)] | rw [if_neg (by omega)], rfl⟩) dX5_has_17
theorem u_X5_acts_5 : ∀ w ∈ u_ws RX5 TX5 5, w ∈ wsX5_acts := by decide +kernel
theorem k_X5_acts_11 : Cond.fieldLink yX5_acts.cls 11 (TX5 0).1 (TX5 0).2.1 (TX5 0).2.2.1 ∈ wsX5_acts := by decide +kernel
theorem k_X5_acts_15 : Cond.fieldLink yX5_acts.cls 15 (TX5 1).1 (TX5 1).2.1 (TX5 1).2.2.1 ∈ wsX5_acts := by decide +kernel
set_option maxRecDepth 100000 in
set_option maxHeartbeats 4000000 in
theorem c_X5_acts (l : Launch) (D : va_G) {ad : Nat → Nat} (cA : Nat → ClassId) (had : adok ad) (M : Mem) (r x : Int) (hr : 0 ≤ r ∧ r < 5) (hx : 0 ≤ x ∧ x ≤ 100) (hL : 1 ≤ M 2 r.toNat ∧ M 2 r.toNat ≤ 99) (hG : 1 ≤ M 3 r.toNat ∧ M 3 r.toNat ≤ 99) : CtI l yX5_acts wsX5_acts 0 0 D ad cA [.ref (ad 1), .int (zI r), .int (zI x)] M (fun z M1 => z = (if ac (M 2) (M 3) x r.toNat then 1 else 0) ∧ M1 = M) := by
  refine CtI.of (cc := cX5_acts) (maxL := 3) (ret := (some .boolean)) had (by decide) rfl (Nat.le_of_ble_eq_true rfl) ?_
  intro p e s m args below meth c X hm
  show VV p l e { frames := 0, cells := 0, slots := 0, locals := 0 } s m args below meth c 3 D ad cA (Afr ad s.heap.size) 0 0 (QI below args s D ad cA (fun z M1 => z = (if ac (M 2) (M 3) x r.toNat then 1 else 0) ∧ M1 = M)) M 0 [(0, .ref (ad 1)), (1, .int (zI r)), (2, .int (zI x))] []
  refine vv_iload_n X 2 rfl rfl dX5_acts_0 ?_
  refine vv_aload_n X 0 rfl rfl dX5_acts_1 ?_
  refine vv_getr (Nf := 5) (ref := (TX5 1).1) X (by decide) sh_1 rfl 1 (by decide) u_X5_acts_5 k_X5_acts_15 rfl rfl dX5_acts_2 ?_
  refine vv_iload_n X 1 rfl rfl dX5_acts_5 ?_
  refine vv_iald (z := (M 3 (Int.toNat r))) X (by decide) sh_3 (by decide) (by omega) (rfl) dX5_acts_6 ?_
  refine vv_imul X dX5_acts_7 ?_
  refine vv_bipush (n := 100) X (by decide) dX5_acts_8 ?_
  refine vv_iload_n X 2 rfl rfl dX5_acts_10 ?_
  refine vv_isub X dX5_acts_11 ?_
  refine vv_aload_n X 0 rfl rfl dX5_acts_12 ?_
  refine vv_getr (Nf := 5) (ref := (TX5 0).1) X (by decide) sh_1 rfl 0 (by decide) u_X5_acts_5 k_X5_acts_11 rfl rfl dX5_acts_13 ?_
  refine vv_iload_n X 1 rfl rfl dX5_acts_16 ?_
  refine vv_iald (z := (M 2 (Int.toNat r))) X (by decide) sh_2 (by decide) (by omega) (rfl) dX5_acts_17 ?_
  refine vv_imul X dX5_acts_18 ?_
  have b1 := mulB hx (show 0 ≤ M 3 r.toNat ∧ M 3 r.toNat ≤ 99 by omega)
  have b2 := mulB (a := 100 - x) (A := 100) (by omega) (show 0 ≤ M 2 r.toNat ∧ M 2 r.toNat ≤ 99 by omega)
  refine vv_icmp_lt (tgt := 26) X (by omega) (by omega) dX5_acts_19 (by decide) (fun c_19 => ?_) (fun c_19 => ?_)
  · skip
    refine vv_iconst (n := 0) X dX5_acts_26 ?_
    exact vv_zret X hm (by omega) (⟨by first | rw [if_pos (by unfold ac; omega)] | rw [if_neg (by unfold ac; omega)], rfl⟩) dX5_acts_27
  · skip
    refine vv_iconst (n := 1) X dX5_acts_22 ?_
    refine vv_goto (tgt := 27) X (by decide) dX5_acts_23 ?_
    exact vv_zret X hm (by omega) (⟨by first | rw [if_pos (by unfold ac; omega)] | rw [if_neg (by unfold ac; omega)], rfl⟩) dX5_acts_27
theorem u_X5_worthAt_5 : ∀ w ∈ u_ws RX5 TX5 5, w ∈ wsX5_worthAt := by decide +kernel
theorem k_X5_worthAt_11 : Cond.fieldLink yX5_worthAt.cls 11 (TX5 0).1 (TX5 0).2.1 (TX5 0).2.2.1 ∈ wsX5_worthAt := by decide +kernel
theorem k_X5_worthAt_15 : Cond.fieldLink yX5_worthAt.cls 15 (TX5 1).1 (TX5 1).2.1 (TX5 1).2.2.1 ∈ wsX5_worthAt := by decide +kernel
set_option maxRecDepth 100000 in
set_option maxHeartbeats 4000000 in
theorem c_X5_worthAt (l : Launch) (D : va_G) {ad : Nat → Nat} (cA : Nat → ClassId) (had : adok ad) (M : Mem) (r x : Int) (hr : 0 ≤ r ∧ r < M 1 4) (hx : 0 ≤ x ∧ x ≤ 100) (hW : cWR M) : CtI l yX5_worthAt wsX5_worthAt 1 21 D ad cA [.ref (ad 1), .int (zI r), .int (zI x)] M (fun z M1 => z = (if x * M 3 r.toNat - (100 - x) * M 2 r.toNat < 0 then 0 else x * M 3 r.toNat - (100 - x) * M 2 r.toNat) ∧ M1 = M) := by
  refine CtI.of (cc := cX5_worthAt) (maxL := 3) (ret := (some .int)) had (by decide) rfl (Nat.le_of_ble_eq_true rfl) ?_
  intro p e s m args below meth c X hm
  show VV p l e { frames := 1, cells := 0, slots := 0, locals := 21 } s m args below meth c 3 D ad cA (Afr ad s.heap.size) 0 0 (QI below args s D ad cA (fun z M1 => z = (if x * M 3 r.toNat - (100 - x) * M 2 r.toNat < 0 then 0 else x * M 3 r.toNat - (100 - x) * M 2 r.toNat) ∧ M1 = M)) M 0 [(0, .ref (ad 1)), (1, .int (zI r)), (2, .int (zI x))] []
  have hw := hW.2.2 r.toNat (by omega)
  have h5 := hW.2.1
  have b1 := mulB hx (show 0 ≤ M 3 r.toNat ∧ M 3 r.toNat ≤ 99 by omega)
  have b2 := mulB (a := 100 - x) (A := 100) (by omega) (show 0 ≤ M 2 r.toNat ∧ M 2 r.toNat ≤ 99 by omega)
  refine vv_iconst (n := 0) X dX5_worthAt_0 ?_
  refine vv_iload_n X 2 rfl rfl dX5_worthAt_1 ?_
  refine vv_aload_n X 0 rfl rfl dX5_worthAt_2 ?_
  refine vv_getr (Nf := 5) (ref := (TX5 1).1) X (by decide) sh_1 rfl 1 (by decide) u_X5_worthAt_5 k_X5_worthAt_15 rfl rfl dX5_worthAt_3 ?_
  refine vv_iload_n X 1 rfl rfl dX5_worthAt_6 ?_
  refine vv_iald (z := (M 3 (Int.toNat r))) X (by decide) sh_3 (by decide) (by omega) (rfl) dX5_worthAt_7 ?_
  refine vv_imul X dX5_worthAt_8 ?_
  refine vv_bipush (n := 100) X (by decide) dX5_worthAt_9 ?_
  refine vv_iload_n X 2 rfl rfl dX5_worthAt_11 ?_
  refine vv_isub X dX5_worthAt_12 ?_
  refine vv_aload_n X 0 rfl rfl dX5_worthAt_13 ?_
  refine vv_getr (Nf := 5) (ref := (TX5 0).1) X (by decide) sh_1 rfl 0 (by decide) u_X5_worthAt_5 k_X5_worthAt_11 rfl rfl dX5_worthAt_14 ?_
  refine vv_iload_n X 1 rfl rfl dX5_worthAt_17 ?_
  refine vv_iald (z := (M 2 (Int.toNat r))) X (by decide) sh_2 (by decide) (by omega) (rfl) dX5_worthAt_18 ?_
  refine vv_imul X dX5_worthAt_19 ?_
  refine vv_isub X dX5_worthAt_20 ?_
  refine vv_mmax X (by omega) (by omega) (by decide +kernel) (by decide +kernel) (by decide +kernel) (by decide +kernel) (by decide) (Nat.le_of_ble_eq_true rfl) ⟨by decide, by decide⟩ dX5_worthAt_21 ?_
  exact vv_iret X hm (⟨by first | (repeat' split) <;> omega | omega, rfl⟩) dX5_worthAt_24
set_option maxRecDepth 100000 in
set_option maxHeartbeats 4000000 in
theorem c_X5_leastActing (l : Launch) (D : va_G) {ad : Nat → Nat} (cA : Nat → ClassId) (had : adok ad) (M : Mem) (r : Int) (hr : 0 ≤ r ∧ r < M 1 4) (hW : cWR M) : CtI l yX5_leastActing wsX5_leastActing 1 22 D ad cA [.ref (ad 1), .int (zI r)] M (fun z M1 => ((0 ≤ z ∧ z ≤ 100) ∧ ac (M 2) (M 3) z r.toNat ∧ ∀ y : Int, 0 ≤ y → y < z → ¬ ac (M 2) (M 3) y r.toNat) ∧ M1 = M) := by
  refine CtI.of (cc := cX5_leastActing) (maxL := 3) (ret := (some .int)) had (by decide) rfl (Nat.le_of_ble_eq_true rfl) ?_
  intro p e s m args below meth c X hm
  show VV p l e { frames := 1, cells := 0, slots := 0, locals := 22 } s m args below meth c 3 D ad cA (Afr ad s.heap.size) 0 0 (QI below args s D ad cA (fun z M1 => ((0 ≤ z ∧ z ≤ 100) ∧ ac (M 2) (M 3) z r.toNat ∧ ∀ y : Int, 0 ≤ y → y < z → ¬ ac (M 2) (M 3) y r.toNat) ∧ M1 = M)) M 0 [(0, .ref (ad 1)), (1, .int (zI r))] []
  have hw := hW.2.2 r.toNat (by omega)
  have h5 := hW.2.1
  refine vv_iconst (n := 0) X dX5_leastActing_0 ?_
  refine vv_istore_n (lv' := [(2, .int (zI 0)), (0, .ref (ad 1)), (1, .int (zI r))]) X rfl (by decide) rfl dX5_leastActing_1 ?_
  have loop_2 : ∀ (n : Nat)  (x : Int), 0 ≤ x ∧ x ≤ 100 → (∀ y : Int, 0 ≤ y → y < x → ¬ ac (M 2) (M 3) y r.toNat) → (100 - x).toNat < n → VV p l e { frames := 1, cells := 0, slots := 0, locals := 22 } s m args below meth c 3 D ad cA (Afr ad s.heap.size) 0 0 (QI below args s D ad cA (fun z M1 => ((0 ≤ z ∧ z ≤ 100) ∧ ac (M 2) (M 3) z r.toNat ∧ ∀ y : Int, 0 ≤ y → y < z → ¬ ac (M 2) (M 3) y r.toNat) ∧ M1 = M)) M 2 [(0, .ref (ad 1)), (1, .int (zI r)), (2, .int (zI x))] [] := by
    intro n
    induction n with
    | zero => intro x hx hy hn; exact absurd hn (Nat.not_lt_zero _)
    | succ n ih_2 =>
      intro x hx hy hn
      refine vv_iload_n X 2 rfl rfl dX5_leastActing_2 ?_
      refine vv_bipush (n := 100) X (by decide) dX5_leastActing_3 ?_
      refine vv_icmp_ge (tgt := 23) X (by omega) (by omega) dX5_leastActing_5 (by decide) (fun c_5 => ?_) (fun c_5 => ?_)
      · skip
        refine vv_iload_n X 2 rfl rfl dX5_leastActing_23 ?_
        exact vv_iret X hm (⟨⟨hx, by first | (have e : x = 100 := (by omega); rw [e]; show (100 - 100 : Int) * M 2 r.toNat ≤ 100 * M 3 r.toNat; omega) | exact Classical.byContradiction fun q => by rw [if_neg q] at e_z11; omega, hy⟩, rfl⟩) dX5_leastActing_24
      · skip
        refine vv_aload_n X 0 rfl rfl dX5_leastActing_8 ?_
        refine vv_iload_n X 1 rfl rfl dX5_leastActing_9 ?_
        refine vv_iload_n X 2 rfl rfl dX5_leastActing_10 ?_
        refine vv_callVI (As := [.int (zI r), .int (zI x)]) (st := []) (Nf := 5) X 2 (c_X5_acts l D cA had M r x (by omega) (by omega) (by omega) (by omega)) gX5_leastActing_X5_acts rfl (by decide +kernel) ⟨by decide, by decide⟩ (Nat.le_of_ble_eq_true rfl) ⟨by decide, by decide⟩ rfl (by decide) sh_1 rfl rfl dX5_leastActing_11 (fun z11 Mc11 q_11 => ?_)
        obtain ⟨e_z11, g_z11⟩ := q_11
        have g_z11 := g_z11.symm
        subst g_z11
        refine vv_if_ne (tgt := 23) X (by rw [e_z11]; split <;> omega) dX5_leastActing_14 (by decide) (fun c_14 => ?_) (fun c_14 => ?_)
        · skip
          refine vv_iload_n X 2 rfl rfl dX5_leastActing_23 ?_
          exact vv_iret X hm (⟨⟨hx, by first | (have e : x = 100 := (by omega); rw [e]; show (100 - 100 : Int) * M 2 r.toNat ≤ 100 * M 3 r.toNat; omega) | exact Classical.byContradiction fun q => by rw [if_neg q] at e_z11; omega, hy⟩, rfl⟩) dX5_leastActing_24
        · skip
          have hna : ¬ ac (M 2) (M 3) x r.toNat := fun q => by rw [if_pos q] at e_z11; omega
          refine vv_iinc (lv' := [(2, .int (zI (x + 1))), (0, .ref (ad 1)), (1, .int (zI r))]) X 2 rfl (by decide) rfl dX5_leastActing_17 ?_
          refine vv_goto (tgt := 2) X (by decide) dX5_leastActing_20 ?_
          refine vv_sub (lv' := [(0, .ref (ad 1)), (1, .int (zI r)), (2, .int (zI (x + 1)))]) [1, 2, 0] rfl ?_
          exact ih_2 (x + 1) (by omega) (fun y h1 h2 => by
            rcases (show y < x ∨ y = x by omega) with q | q
            · exact hy y h1 q
            · rw [q]; exact hna) (by omega)
  refine vv_sub (lv' := [(0, .ref (ad 1)), (1, .int (zI r)), (2, .int (zI 0))]) [1, 2, 0] rfl ?_
  exact loop_2 _ 0 (by omega) (fun y h1 h2 => absurd h2 (by omega)) (Nat.lt_succ_self _)
theorem u_X5_actingAt_5 : ∀ w ∈ u_ws RX5 TX5 5, w ∈ wsX5_actingAt := by decide +kernel
theorem k_X5_actingAt_24 : Cond.fieldLink yX5_actingAt.cls 24 (TX5 4).1 (TX5 4).2.1 (TX5 4).2.2.1 ∈ wsX5_actingAt := by decide +kernel
set_option maxRecDepth 100000 in
set_option maxHeartbeats 4000000 in
theorem c_X5_actingAt (l : Launch) (D : va_G) {ad : Nat → Nat} (cA : Nat → ClassId) (had : adok ad) (M : Mem) (x : Int) (hx : 0 ≤ x ∧ x ≤ 100) (hW : cWR M) : CtI l yX5_actingAt wsX5_actingAt 1 22 D ad cA [.ref (ad 1), .int (zI x)] M (fun z M1 => z = mk (M 2) (M 3) x (M 1 4).toNat ∧ M1 = M) := by
  refine CtI.of (cc := cX5_actingAt) (maxL := 4) (ret := (some .int)) had (by decide) rfl (Nat.le_of_ble_eq_true rfl) ?_
  intro p e s m args below meth c X hm
  show VV p l e { frames := 1, cells := 0, slots := 0, locals := 22 } s m args below meth c 4 D ad cA (Afr ad s.heap.size) 0 0 (QI below args s D ad cA (fun z M1 => z = mk (M 2) (M 3) x (M 1 4).toNat ∧ M1 = M)) M 0 [(0, .ref (ad 1)), (1, .int (zI x))] []
  have h5 := hW.2.1
  refine vv_iconst (n := 0) X dX5_actingAt_0 ?_
  refine vv_istore_n (lv' := [(2, .int (zI 0)), (0, .ref (ad 1)), (1, .int (zI x))]) X rfl (by decide) rfl dX5_actingAt_1 ?_
  refine vv_iconst (n := 0) X dX5_actingAt_2 ?_
  refine vv_istore_n (lv' := [(3, .int (zI 0)), (2, .int (zI 0)), (0, .ref (ad 1)), (1, .int (zI x))]) X rfl (by decide) rfl dX5_actingAt_3 ?_
  have loop_4 : ∀ (n : Nat)  (k : Nat) (a2 : Int) (a3 : Int), a3 = (k : Int) → (k : Int) ≤ M 1 4 → a2 = mk (M 2) (M 3) x k → (M 1 4 - a3).toNat < n → VV p l e { frames := 1, cells := 0, slots := 0, locals := 22 } s m args below meth c 4 D ad cA (Afr ad s.heap.size) 0 0 (QI below args s D ad cA (fun z M1 => z = mk (M 2) (M 3) x (M 1 4).toNat ∧ M1 = M)) M 4 [(0, .ref (ad 1)), (1, .int (zI x)), (2, .int (zI a2)), (3, .int (zI a3))] [] := by
    intro n
    induction n with
    | zero => intro k a2 a3 h3 hk h2 hn; exact absurd hn (Nat.not_lt_zero _)
    | succ n ih_4 =>
      intro k a2 a3 h3 hk h2 hn
      have h6 : a3.toNat = k := by omega
      refine vv_iload_n X 3 rfl rfl dX5_actingAt_4 ?_
      refine vv_aload_n X 0 rfl rfl dX5_actingAt_5 ?_
      refine vv_geti (Nf := 5) (ref := (TX5 4).1) (z := (M 1 4)) X (by decide) sh_1 rfl 4 (by decide) u_X5_actingAt_5 k_X5_actingAt_24 rfl rfl (rfl) dX5_actingAt_6 ?_
      refine vv_icmp_ge (tgt := 33) X (by omega) (by omega) dX5_actingAt_9 (by decide) (fun c_9 => ?_) (fun c_9 => ?_)
      · skip
        refine vv_iload_n X 2 rfl rfl dX5_actingAt_33 ?_
        exact vv_iret X hm (⟨by rw [h2, show (M 1 4).toNat = k by omega], rfl⟩) dX5_actingAt_34
      · skip
        refine vv_aload_n X 0 rfl rfl dX5_actingAt_12 ?_
        refine vv_iload_n X 3 rfl rfl dX5_actingAt_13 ?_
        refine vv_iload_n X 1 rfl rfl dX5_actingAt_14 ?_
        refine vv_callVI (As := [.int (zI a3), .int (zI x)]) (st := []) (Nf := 5) X 2 (c_X5_acts l D cA had M a3 x (by omega) (by omega) ((hW.2.2 a3.toNat (by omega)).1) ((hW.2.2 a3.toNat (by omega)).2.1)) gX5_actingAt_X5_acts rfl (by decide +kernel) ⟨by decide, by decide⟩ (Nat.le_of_ble_eq_true rfl) ⟨by decide, by decide⟩ rfl (by decide) sh_1 rfl rfl dX5_actingAt_15 (fun z15 Mc15 q_15 => ?_)
        obtain ⟨e_z15, g_z15⟩ := q_15
        have g_z15 := g_z15.symm
        subst g_z15
        refine vv_if_eq (tgt := 27) X (by rw [e_z15]; split <;> omega) dX5_actingAt_18 (by decide) (fun c_18 => ?_) (fun c_18 => ?_)
        · skip
          rw [h6] at e_z15
          have hac : (if ac (M 2) (M 3) x k then ((2 ^ k : Nat) : Int) else 0) = 0 := if_neg (fun q => by rw [if_pos q] at e_z15; omega)
          refine vv_iinc (lv' := [(3, .int (zI (a3 + 1))), (0, .ref (ad 1)), (1, .int (zI x)), (2, .int (zI a2))]) X 3 rfl (by decide) rfl dX5_actingAt_27 ?_
          refine vv_goto (tgt := 4) X (by decide) dX5_actingAt_30 ?_
          refine vv_sub (lv' := [(0, .ref (ad 1)), (1, .int (zI x)), (2, .int (zI a2)), (3, .int (zI (a3 + 1)))]) [1, 2, 3, 0] rfl ?_
          exact ih_4 (k + 1) a2 (a3 + 1) (by omega) (by omega) (by
            have e : mk (M 2) (M 3) x (k + 1) = mk (M 2) (M 3) x k + (if ac (M 2) (M 3) x k then ((2 ^ k : Nat) : Int) else 0) := rfl
            rw [e, hac]
            omega) (by omega)
        · skip
          rw [h6] at e_z15
          have hac : (if ac (M 2) (M 3) x k then ((2 ^ k : Nat) : Int) else 0) = ((2 ^ k : Nat) : Int) := if_pos (Classical.byContradiction fun q => by rw [if_neg q] at e_z15; omega)
          have hm := mk_b (L := M 2) (G := M 3) (x := x) k
          refine vv_iload_n X 2 rfl rfl dX5_actingAt_21 ?_
          refine vv_iconst (n := 1) X dX5_actingAt_22 ?_
          refine vv_iload_n X 3 rfl rfl dX5_actingAt_23 ?_
          refine vv_ishl (a := ((2 ^ k : Nat) : Int)) X (by rw [h3]; exact shl1 k (by omega)) dX5_actingAt_24 ?_
          refine vv_ior (a := (a2 + ((2 ^ k : Nat) : Int))) X (by rw [h2]; exact or1 k (by omega) _ hm) dX5_actingAt_25 ?_
          refine vv_istore_n (lv' := [(2, .int (zI (a2 + ((2 ^ k : Nat) : Int)))), (0, .ref (ad 1)), (1, .int (zI x)), (3, .int (zI a3))]) X rfl (by decide) rfl dX5_actingAt_26 ?_
          refine vv_iinc (lv' := [(3, .int (zI (a3 + 1))), (2, .int (zI (a2 + ((2 ^ k : Nat) : Int)))), (0, .ref (ad 1)), (1, .int (zI x))]) X 3 rfl (by decide) rfl dX5_actingAt_27 ?_
          refine vv_goto (tgt := 4) X (by decide) dX5_actingAt_30 ?_
          refine vv_sub (lv' := [(0, .ref (ad 1)), (1, .int (zI x)), (2, .int (zI (a2 + ((2 ^ k : Nat) : Int)))), (3, .int (zI (a3 + 1)))]) [2, 3, 1, 0] rfl ?_
          exact ih_4 (k + 1) (a2 + ((2 ^ k : Nat) : Int)) (a3 + 1) (by omega) (by omega) (by
            have e : mk (M 2) (M 3) x (k + 1) = mk (M 2) (M 3) x k + (if ac (M 2) (M 3) x k then ((2 ^ k : Nat) : Int) else 0) := rfl
            rw [e, hac]
            omega) (by omega)
  refine vv_sub (lv' := [(0, .ref (ad 1)), (1, .int (zI x)), (2, .int (zI 0)), (3, .int (zI 0))]) [2, 3, 1, 0] rfl ?_
  exact loop_4 _ 0 0 0 rfl (by omega) rfl (Nat.lt_succ_self _)
theorem u_X5_valueAt_5 : ∀ w ∈ u_ws RX5 TX5 5, w ∈ wsX5_valueAt := by decide +kernel
theorem k_X5_valueAt_18 : Cond.fieldLink yX5_valueAt.cls 18 (TX5 2).1 (TX5 2).2.1 (TX5 2).2.2.1 ∈ wsX5_valueAt := by decide +kernel
theorem k_X5_valueAt_21 : Cond.fieldLink yX5_valueAt.cls 21 (TX5 3).1 (TX5 3).2.1 (TX5 3).2.2.1 ∈ wsX5_valueAt := by decide +kernel
theorem k_X5_valueAt_24 : Cond.fieldLink yX5_valueAt.cls 24 (TX5 4).1 (TX5 4).2.1 (TX5 4).2.2.1 ∈ wsX5_valueAt := by decide +kernel
set_option maxRecDepth 100000 in
set_option maxHeartbeats 4000000 in
theorem c_X5_valueAt (l : Launch) (D : va_G) {ad : Nat → Nat} (cA : Nat → ClassId) (had : adok ad) (M : Mem) (x : Int) (hx : 0 ≤ x ∧ x ≤ 100) (hW : cWR M) : CtI l yX5_valueAt wsX5_valueAt 1 22 D ad cA [.ref (ad 1), .int (zI x)] M (fun z M1 => z = cvl M x ∧ M1 = M) := by
  refine CtI.of (cc := cX5_valueAt) (maxL := 6) (ret := (some .int)) had (by decide) rfl (Nat.le_of_ble_eq_true rfl) ?_
  intro p e s m args below meth c X hm
  show VV p l e { frames := 1, cells := 0, slots := 0, locals := 22 } s m args below meth c 6 D ad cA (Afr ad s.heap.size) 0 0 (QI below args s D ad cA (fun z M1 => z = cvl M x ∧ M1 = M)) M 0 [(0, .ref (ad 1)), (1, .int (zI x))] []
  have h5 := hW.2.1
  refine vv_iconst (n := 0) X dX5_valueAt_0 ?_
  refine vv_istore_n (lv' := [(2, .int (zI 0)), (0, .ref (ad 1)), (1, .int (zI x))]) X rfl (by decide) rfl dX5_valueAt_1 ?_
  refine vv_iconst (n := 0) X dX5_valueAt_2 ?_
  refine vv_istore_n (lv' := [(3, .int (zI 0)), (2, .int (zI 0)), (0, .ref (ad 1)), (1, .int (zI x))]) X rfl (by decide) rfl dX5_valueAt_3 ?_
  refine vv_iconst (n := 1) X dX5_valueAt_4 ?_
  refine vv_istore (lv' := [(4, .int (zI 1)), (3, .int (zI 0)), (2, .int (zI 0)), (0, .ref (ad 1)), (1, .int (zI x))]) X (by decide) rfl dX5_valueAt_5 ?_
  refine vv_iconst (n := 0) X dX5_valueAt_7 ?_
  refine vv_istore (lv' := [(5, .int (zI 0)), (4, .int (zI 1)), (3, .int (zI 0)), (2, .int (zI 0)), (0, .ref (ad 1)), (1, .int (zI x))]) X (by decide) rfl dX5_valueAt_8 ?_
  have loop_10 : ∀ (n : Nat)  (k : Nat) (a2 : Int) (a3 : Int) (a4 : Int) (a5 : Int), a5 = (k : Int) → (k : Int) ≤ M 1 4 → a2 = sm (fun r => if ac (M 2) (M 3) x r then M 4 r else 0) k → a3 = sm (M 5) k → a4 = (if alla (M 2) (M 3) x k = true then 1 else 0) → (M 1 4 - a5).toNat < n → VV p l e { frames := 1, cells := 0, slots := 0, locals := 22 } s m args below meth c 6 D ad cA (Afr ad s.heap.size) 0 0 (QI below args s D ad cA (fun z M1 => z = cvl M x ∧ M1 = M)) M 10 [(0, .ref (ad 1)), (1, .int (zI x)), (2, .int (zI a2)), (3, .int (zI a3)), (4, .int (zI a4)), (5, .int (zI a5))] [] := by
    intro n
    induction n with
    | zero => intro k a2 a3 a4 a5 g5 hk g2 g3 g4 hn; exact absurd hn (Nat.not_lt_zero _)
    | succ n ih_10 =>
      intro k a2 a3 a4 a5 g5 hk g2 g3 g4 hn
      have h6 : a5.toNat = k := by omega
      refine vv_iload X 5 rfl dX5_valueAt_10 ?_
      refine vv_aload_n X 0 rfl rfl dX5_valueAt_12 ?_
      refine vv_geti (Nf := 5) (ref := (TX5 4).1) (z := (M 1 4)) X (by decide) sh_1 rfl 4 (by decide) u_X5_valueAt_5 k_X5_valueAt_24 rfl rfl (rfl) dX5_valueAt_13 ?_
      refine vv_icmp_ge (tgt := 61) X (by omega) (by omega) dX5_valueAt_16 (by decide) (fun c_16 => ?_) (fun c_16 => ?_)
      · skip
        refine vv_iload X 4 rfl dX5_valueAt_61 ?_
        refine vv_if_eq (tgt := 72) X (by rw [g4]; split <;> omega) dX5_valueAt_63 (by decide) (fun c_63 => ?_) (fun c_63 => ?_)
        · skip
          refine vv_iload_n X 2 rfl rfl dX5_valueAt_72 ?_
          exact vv_iret X hm (⟨by
            have e : (M 1 4).toNat = k := by omega
            unfold cvl vl
            rw [e, g2]
            first | (rw [if_pos (Classical.byContradiction fun q => by rw [if_neg q] at g4; omega), g3]) | (rw [if_neg (fun q => by rw [if_pos q] at g4; omega)]; omega), rfl⟩) dX5_valueAt_73
        · skip
          refine vv_iload_n X 2 rfl rfl dX5_valueAt_66 ?_
          refine vv_iload_n X 3 rfl rfl dX5_valueAt_67 ?_
          refine vv_iadd X dX5_valueAt_68 ?_
          refine vv_goto (tgt := 73) X (by decide) dX5_valueAt_69 ?_
          exact vv_iret X hm (⟨by
            have e : (M 1 4).toNat = k := by omega
            unfold cvl vl
            rw [e, g2]
            first | (rw [if_pos (Classical.byContradiction fun q => by rw [if_neg q] at g4; omega), g3]) | (rw [if_neg (fun q => by rw [if_pos q] at g4; omega)]; omega), rfl⟩) dX5_valueAt_73
      · skip
        refine vv_iload_n X 3 rfl rfl dX5_valueAt_19 ?_
        refine vv_aload_n X 0 rfl rfl dX5_valueAt_20 ?_
        refine vv_getr (Nf := 5) (ref := (TX5 3).1) X (by decide) sh_1 rfl 3 (by decide) u_X5_valueAt_5 k_X5_valueAt_21 rfl rfl dX5_valueAt_21 ?_
        refine vv_iload X 5 rfl dX5_valueAt_24 ?_
        refine vv_iald (z := (M 5 (Int.toNat a5))) X (by decide) sh_5 (by decide) (by omega) (rfl) dX5_valueAt_26 ?_
        refine vv_iadd X dX5_valueAt_27 ?_
        refine vv_istore_n (lv' := [(3, .int (zI (a3 + (M 5 (Int.toNat a5))))), (0, .ref (ad 1)), (1, .int (zI x)), (2, .int (zI a2)), (4, .int (zI a4)), (5, .int (zI a5))]) X rfl (by decide) rfl dX5_valueAt_28 ?_
        refine vv_aload_n X 1 rfl rfl dX5_valueAt_29 ?_
        refine vv_iload X 5 rfl dX5_valueAt_30 ?_
        refine vv_iload_n X 2 rfl rfl dX5_valueAt_32 ?_
        refine vv_callVI (As := [.int (zI a5), .int (zI x)]) (st := []) (Nf := 5) X 2 (c_X5_acts l D cA had M a5 x (by omega) (by omega) ((hW.2.2 a5.toNat (by omega)).1) ((hW.2.2 a5.toNat (by omega)).2.1)) gX5_valueAt_X5_acts rfl (by decide +kernel) ⟨by decide, by decide⟩ (Nat.le_of_ble_eq_true rfl) ⟨by decide, by decide⟩ rfl (by decide) sh_1 rfl rfl dX5_valueAt_33 (fun z33 Mc33 q_33 => ?_)
        obtain ⟨e_z33, g_z33⟩ := q_33
        have g_z33 := g_z33.symm
        subst g_z33
        refine vv_if_eq (tgt := 52) X (by rw [e_z33]; split <;> omega) dX5_valueAt_36 (by decide) (fun c_36 => ?_) (fun c_36 => ?_)
        · skip
          rw [h6] at e_z33
          have hac : ¬ ac (M 2) (M 3) x k := fun q => by rw [if_pos q] at e_z33; omega
          refine vv_iconst (n := 0) X dX5_valueAt_52 ?_
          refine vv_istore (lv' := [(4, .int (zI 0)), (3, .int (zI (a3 + (M 5 (Int.toNat a5))))), (0, .ref (ad 1)), (1, .int (zI x)), (2, .int (zI a2)), (5, .int (zI a5))]) X (by decide) rfl dX5_valueAt_53 ?_
          refine vv_iinc (lv' := [(5, .int (zI (a5 + 1))), (4, .int (zI 0)), (3, .int (zI (a3 + (M 5 (Int.toNat a5))))), (0, .ref (ad 1)), (1, .int (zI x)), (2, .int (zI a2))]) X 5 rfl (by decide) rfl dX5_valueAt_55 ?_
          refine vv_goto (tgt := 10) X (by decide) dX5_valueAt_58 ?_
          refine vv_sub (lv' := [(0, .ref (ad 1)), (1, .int (zI x)), (2, .int (zI a2)), (3, .int (zI (a3 + (M 5 (Int.toNat a5))))), (4, .int (zI 0)), (5, .int (zI (a5 + 1)))]) [3, 4, 5, 2, 1, 0] rfl ?_
          exact ih_10 (k + 1) a2 (a3 + (M 5 (Int.toNat a5))) 0 (a5 + 1) (by omega) (by omega) (by rw [h6] at *; simp only [sm, g2, hac]; try simp) (by rw [h6]; simp only [sm, g3]) (by simp only [alla, g4, hac]; simp) (by omega)
        · skip
          rw [h6] at e_z33
          have hac : ac (M 2) (M 3) x k := Classical.byContradiction fun q => by rw [if_neg q] at e_z33; omega
          refine vv_iload_n X 3 rfl rfl dX5_valueAt_39 ?_
          refine vv_aload_n X 1 rfl rfl dX5_valueAt_40 ?_
          refine vv_getr (Nf := 5) (ref := (TX5 2).1) X (by decide) sh_1 rfl 2 (by decide) u_X5_valueAt_5 k_X5_valueAt_18 rfl rfl dX5_valueAt_41 ?_
          refine vv_iload X 5 rfl dX5_valueAt_44 ?_
          refine vv_iald (z := (M 4 (Int.toNat a5))) X (by decide) sh_4 (by decide) (by omega) (rfl) dX5_valueAt_46 ?_
          refine vv_iadd X dX5_valueAt_47 ?_
          refine vv_istore_n (lv' := [(2, .int (zI (a2 + (M 4 (Int.toNat a5))))), (3, .int (zI (a3 + (M 5 (Int.toNat a5))))), (0, .ref (ad 1)), (1, .int (zI x)), (4, .int (zI a4)), (5, .int (zI a5))]) X rfl (by decide) rfl dX5_valueAt_48 ?_
          refine vv_goto (tgt := 55) X (by decide) dX5_valueAt_49 ?_
          refine vv_iinc (lv' := [(5, .int (zI (a5 + 1))), (2, .int (zI (a2 + (M 4 (Int.toNat a5))))), (3, .int (zI (a3 + (M 5 (Int.toNat a5))))), (0, .ref (ad 1)), (1, .int (zI x)), (4, .int (zI a4))]) X 5 rfl (by decide) rfl dX5_valueAt_55 ?_
          refine vv_goto (tgt := 10) X (by decide) dX5_valueAt_58 ?_
          refine vv_sub (lv' := [(0, .ref (ad 1)), (1, .int (zI x)), (2, .int (zI (a2 + (M 4 (Int.toNat a5))))), (3, .int (zI (a3 + (M 5 (Int.toNat a5))))), (4, .int (zI a4)), (5, .int (zI (a5 + 1)))]) [3, 4, 1, 2, 5, 0] rfl ?_
          exact ih_10 (k + 1) (a2 + (M 4 (Int.toNat a5))) (a3 + (M 5 (Int.toNat a5))) a4 (a5 + 1) (by omega) (by omega) (by rw [h6] at *; simp only [sm, g2, hac]; try simp) (by rw [h6]; simp only [sm, g3]) (by simp only [alla, g4, hac]; simp) (by omega)
  refine vv_sub (lv' := [(0, .ref (ad 1)), (1, .int (zI x)), (2, .int (zI 0)), (3, .int (zI 0)), (4, .int (zI 1)), (5, .int (zI 0))]) [4, 5, 3, 2, 1, 0] rfl ?_
  exact loop_10 _ 0 0 0 1 0 rfl (by omega) rfl rfl rfl (Nat.lt_succ_self _)
