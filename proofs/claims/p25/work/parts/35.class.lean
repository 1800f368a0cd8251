theorem u_X8_takeMix_6 : ∀ w ∈ u_ws RX6 TX6 3, w ∈ wsX8_takeMix := by decide +kernel
theorem u_X8_takeMix_7 : ∀ w ∈ u_ws RX7 TX7 3, w ∈ wsX8_takeMix := by decide +kernel
theorem u_X8_takeMix_8 : ∀ w ∈ u_ws RX8 TX8 9, w ∈ wsX8_takeMix := by decide +kernel
theorem k_X8_takeMix_10 : Cond.fieldLink yX8_takeMix.cls 10 (TX8 0).1 (TX8 0).2.1 (TX8 0).2.2.1 ∈ wsX8_takeMix := by decide +kernel
theorem k_X8_takeMix_41 : Cond.fieldLink yX8_takeMix.cls 41 (TX8 5).1 (TX8 5).2.1 (TX8 5).2.2.1 ∈ wsX8_takeMix := by decide +kernel
theorem k_X8_takeMix_117 : Cond.fieldLink yX8_takeMix.cls 117 (TX7 1).1 (TX7 1).2.1 (TX7 1).2.2.1 ∈ wsX8_takeMix := by decide +kernel
theorem k_X8_takeMix_164 : Cond.fieldLink yX8_takeMix.cls 164 (TX6 2).1 (TX6 2).2.1 (TX6 2).2.2.1 ∈ wsX8_takeMix := by decide +kernel
set_option maxRecDepth 100000 in
set_option maxHeartbeats 4000000 in
theorem c_X8_takeMix (l : Launch) (D : va_G) {ad : Nat → Nat} (cA : Nat → ClassId) (had : adok ad) (M : Mem) (hB : ∀ j : Nat, j < 101 → 0 ≤ M 99 j ∧ M 99 j ≤ 1073741824) : CtI l yX8_takeMix wsX8_takeMix 3 68 D ad cA [.ref (ad 90)] M (fun z M1 => opF (M 99) (vC M 0) z (vC M1 0) ∧ eqx M M1 [6, 7, 8, 99]) := by
  refine CtI.of (cc := cX8_takeMix) (maxL := 1) (ret := (some .int)) had (by decide) rfl (Nat.le_of_ble_eq_true rfl) ?_
  intro p e s m args below meth c X hm
  show VV p l e { frames := 3, cells := 0, slots := 0, locals := 68 } s m args below meth c 1 D ad cA (Afr ad s.heap.size) 0 0 (QI below args s D ad cA (fun z M1 => opF (M 99) (vC M 0) z (vC M1 0) ∧ eqx M M1 [6, 7, 8, 99])) M 0 [(0, .ref (ad 90))] []
  refine vv_aload_n X 0 rfl rfl dX8_takeMix_0 ?_
  refine vv_getr (Nf := 9) (ref := (TX8 5).1) X (by decide) sh_90 rfl 5 (by decide) u_X8_takeMix_8 k_X8_takeMix_41 rfl rfl dX8_takeMix_1 ?_
  refine vv_callVV (As := []) (st := []) (Nf := 1) X 0 (c_X3_reduce l D cA had M (by assumption)) gX8_takeMix_X3_reduce rfl (by decide +kernel) ⟨by decide, by decide⟩ (Nat.le_of_ble_eq_true rfl) ⟨by decide, by decide⟩ rfl (by decide) sh_98 rfl rfl dX8_takeMix_4 (fun Mc4 q_4 => ?_)
  obtain ⟨G_4, g_4, hG_4⟩ := q_4
  have g_4 := g_4.symm
  subst g_4
  have hR : ∀ j, j < 101 → G_4 j = red (M 99) j := fun j hj => hG_4 j hj
  have hRb : ∀ j : Nat, j < 101 → -1073741824 ≤ stc M 99 G_4 99 j ∧ stc M 99 G_4 99 j ≤ 1073741824 := fun j hj => by
    have h1 := hB j hj
    have h2 := tdiv_b h1 (gfo_nn (M 99) 101)
    rw [stc_s, hR j hj]
    unfold red
    omega
  refine vv_aload_n X 0 rfl rfl dX8_takeMix_7 ?_
  refine vv_getr (Nf := 9) (ref := (TX8 5).1) X (by decide) sh_90 rfl 5 (by decide) u_X8_takeMix_8 k_X8_takeMix_41 rfl rfl dX8_takeMix_8 ?_
  refine vv_callVI (As := []) (st := []) (Nf := 1) X 0 (c_X3_fits l D cA had (stc M 99 G_4) (hRb)) gX8_takeMix_X3_fits rfl (by decide +kernel) ⟨by decide, by decide⟩ (Nat.le_of_ble_eq_true rfl) ⟨by decide, by decide⟩ rfl (by decide) sh_98 rfl rfl dX8_takeMix_11 (fun z11 Mc11 q_11 => ?_)
  obtain ⟨e_z11, g_z11⟩ := q_11
  have g_z11 := g_z11.symm
  subst g_z11
  refine vv_if_ne (tgt := 20) X (by rw [e_z11]; split <;> omega) dX8_takeMix_14 (by decide) (fun c_14 => ?_) (fun c_14 => ?_)
  · skip
    have hok : okF (red (M 99)) := (okF_cong hR).mp (Classical.byContradiction fun q => by unfold okF at q; rw [stc_s, if_neg q] at e_z11; omega)
    refine vv_aload_n X 0 rfl rfl dX8_takeMix_20 ?_
    refine vv_getr (Nf := 9) (ref := (TX8 5).1) X (by decide) sh_90 rfl 5 (by decide) u_X8_takeMix_8 k_X8_takeMix_41 rfl rfl dX8_takeMix_21 ?_
    refine vv_aload_n X 0 rfl rfl dX8_takeMix_24 ?_
    refine vv_getr (Nf := 9) (ref := (TX8 0).1) X (by decide) sh_90 rfl 0 (by decide) u_X8_takeMix_8 k_X8_takeMix_10 rfl rfl dX8_takeMix_25 ?_
    refine vv_getr (Nf := 3) (ref := (TX7 1).1) X (by decide) sh_0 rfl 1 (by decide) u_X8_takeMix_7 k_X8_takeMix_117 rfl rfl dX8_takeMix_28 ?_
    refine vv_callVV (As := [.ref (ad 6)]) (st := []) (Nf := 1) X 1 (c_X3_pourInto l D cA had (stc M 99 G_4) (by
      rw [stc_s]
      have := ((okF_cong hR).mpr hok).2
      exact this) (hRb)) gX8_takeMix_X3_pourInto rfl (by decide +kernel) ⟨by decide, by decide⟩ (Nat.le_of_ble_eq_true rfl) ⟨by decide, by decide⟩ rfl (by decide) sh_98 rfl rfl dX8_takeMix_31 (fun Mp q_31 => ?_)
    refine vv_aload_n X 0 rfl rfl dX8_takeMix_34 ?_
    refine vv_getr (Nf := 9) (ref := (TX8 0).1) X (by decide) sh_90 rfl 0 (by decide) u_X8_takeMix_8 k_X8_takeMix_10 rfl rfl dX8_takeMix_35 ?_
    refine vv_getr (Nf := 3) (ref := (TX7 1).1) X (by decide) sh_0 rfl 1 (by decide) u_X8_takeMix_7 k_X8_takeMix_117 rfl rfl dX8_takeMix_38 ?_
    refine vv_geti (Nf := 3) (ref := (TX6 2).1) (z := (Mp 6 2)) X (by decide) sh_6 rfl 2 (by decide) u_X8_takeMix_6 k_X8_takeMix_164 rfl rfl (rfl) dX8_takeMix_41 ?_
    exact vv_iret X hm (by
      obtain ⟨hE, hS⟩ := q_31
      rw [stc_s] at hS
      have hx : eqx M Mp [6, 7, 8, 99] := eqx_tr (eqx_stc G_4 (eqx_rf M _) (by decide)) (eqx_mono hE (by decide))
      refine ⟨⟨fun q => absurd hok q, fun _ => ⟨Mp 6 2, Mp 7, Mp 8, SplitOf_cong hS hR, rfl, vC_set (eqx_lt hx (by decide))⟩⟩, hx⟩) dX8_takeMix_44
  · skip
    have hok : ¬ okF (red (M 99)) := fun q => by
      have := (okF_cong hR).mpr q
      unfold okF at this
      rw [stc_s, if_pos this] at e_z11
      omega
    refine vv_bipush (n := (-4)) X (by decide) dX8_takeMix_17 ?_
    exact vv_iret X hm (⟨⟨fun _ => ⟨rfl, vC_same (fun a h1 h2 => stc_n _ _ (by omega))⟩, fun q => absurd q hok⟩, eqx_stc _ (eqx_rf _ _) (by decide)⟩) dX8_takeMix_19
theorem u_X8_splitPart_6 : ∀ w ∈ u_ws RX6 TX6 3, w ∈ wsX8_splitPart := by decide +kernel
theorem u_X8_splitPart_7 : ∀ w ∈ u_ws RX7 TX7 3, w ∈ wsX8_splitPart := by decide +kernel
theorem u_X8_splitPart_8 : ∀ w ∈ u_ws RX8 TX8 9, w ∈ wsX8_splitPart := by decide +kernel
theorem k_X8_splitPart_10 : Cond.fieldLink yX8_splitPart.cls 10 (TX8 0).1 (TX8 0).2.1 (TX8 0).2.2.1 ∈ wsX8_splitPart := by decide +kernel
theorem k_X8_splitPart_41 : Cond.fieldLink yX8_splitPart.cls 41 (TX8 5).1 (TX8 5).2.1 (TX8 5).2.2.1 ∈ wsX8_splitPart := by decide +kernel
theorem k_X8_splitPart_117 : Cond.fieldLink yX8_splitPart.cls 117 (TX7 1).1 (TX7 1).2.1 (TX7 1).2.2.1 ∈ wsX8_splitPart := by decide +kernel
theorem k_X8_splitPart_124 : Cond.fieldLink yX8_splitPart.cls 124 (TX6 0).1 (TX6 0).2.1 (TX6 0).2.2.1 ∈ wsX8_splitPart := by decide +kernel
theorem k_X8_splitPart_127 : Cond.fieldLink yX8_splitPart.cls 127 (TX6 1).1 (TX6 1).2.1 (TX6 1).2.2.1 ∈ wsX8_splitPart := by decide +kernel
theorem k_X8_splitPart_164 : Cond.fieldLink yX8_splitPart.cls 164 (TX6 2).1 (TX6 2).2.1 (TX6 2).2.2.1 ∈ wsX8_splitPart := by decide +kernel
set_option maxRecDepth 100000 in
set_option maxHeartbeats 4000000 in
theorem c_X8_splitPart (l : Launch) (D : va_G) {ad : Nat → Nat} (cA : Nat → ClassId) (had : adok ad) (M : Mem) (x a b : Int) (hx : -2147483648 ≤ x ∧ x ≤ 2147483647) (ha : -2147483648 ≤ a ∧ a ≤ 2147483647) (hb : -2147483648 ≤ b ∧ b ≤ 2147483647) (hs : WFs (vC M 0)) : CtI l yX8_splitPart wsX8_splitPart 4 88 D ad cA [.ref (ad 90), .int (zI x), .int (zI a), .int (zI b)] M (fun z M1 => opSp x a b (vC M 0) z (vC M1 0) ∧ eqx M M1 [6, 7, 8, 99]) := by
  refine CtI.of (cc := cX8_splitPart) (maxL := 8) (ret := (some .int)) had (by decide) rfl (Nat.le_of_ble_eq_true rfl) ?_
  intro p e s m args below meth c X hm
  show VV p l e { frames := 4, cells := 0, slots := 0, locals := 88 } s m args below meth c 8 D ad cA (Afr ad s.heap.size) 0 0 (QI below args s D ad cA (fun z M1 => opSp x a b (vC M 0) z (vC M1 0) ∧ eqx M M1 [6, 7, 8, 99])) M 0 [(0, .ref (ad 90)), (1, .int (zI x)), (2, .int (zI a)), (3, .int (zI b))] []
  have hsm : 1 ≤ M 6 2 ∧ M 6 2 ≤ 6 := WFs_pos hs
  have hwb : ∀ k : Nat, (k : Int) < M 6 2 → (1 ≤ M 7 k ∧ M 7 k ≤ 999) ∧ (0 ≤ M 8 k ∧ M 8 k ≤ 100) := fun k hk => WFs_b hs hk
  refine vv_aload_n X 0 rfl rfl dX8_splitPart_0 ?_
  refine vv_getr (Nf := 9) (ref := (TX8 0).1) X (by decide) sh_90 rfl 0 (by decide) u_X8_splitPart_8 k_X8_splitPart_10 rfl rfl dX8_splitPart_1 ?_
  refine vv_getr (Nf := 3) (ref := (TX7 1).1) X (by decide) sh_0 rfl 1 (by decide) u_X8_splitPart_7 k_X8_splitPart_117 rfl rfl dX8_splitPart_4 ?_
  refine vv_astore (lv' := [(4, .ref (ad 6)), (0, .ref (ad 90)), (1, .int (zI x)), (2, .int (zI a)), (3, .int (zI b))]) X (by decide) rfl dX8_splitPart_7 ?_
  refine vv_aload X 0 rfl dX8_splitPart_9 ?_
  refine vv_iload_n X 2 rfl rfl dX8_splitPart_11 ?_
  refine vv_callVI (As := [.int (zI x)]) (st := []) (Nf := 3) X 1 (c_X6_has l D cA had M x (by omega) (by omega)) gX8_splitPart_X6_has rfl (by decide +kernel) ⟨by decide, by decide⟩ (Nat.le_of_ble_eq_true rfl) ⟨by decide, by decide⟩ rfl (by decide) sh_6 rfl rfl dX8_splitPart_12 (fun z12 Mc12 q_12 => ?_)
  obtain ⟨e_z12, g_z12⟩ := q_12
  have g_z12 := g_z12.symm
  subst g_z12
  refine vv_if_ne (tgt := 20) X (by rw [e_z12]; split <;> omega) dX8_splitPart_15 (by decide) (fun c_15 => ?_) (fun c_15 => ?_)
  · skip
    have hin : 0 ≤ x ∧ x < M 6 2 := Classical.byContradiction fun q => by rw [if_neg q] at e_z12; omega
    have hwx := hwb x.toNat (by omega)
    refine vv_aload X 0 rfl dX8_splitPart_20 ?_
    refine vv_getr (Nf := 3) (ref := (TX6 1).1) X (by decide) sh_6 rfl 1 (by decide) u_X8_splitPart_6 k_X8_splitPart_127 rfl rfl dX8_splitPart_22 ?_
    refine vv_iload_n X 2 rfl rfl dX8_splitPart_25 ?_
    refine vv_iald (z := (M 8 (Int.toNat x))) X (by decide) sh_8 (by decide) (by omega) (rfl) dX8_splitPart_26 ?_
    refine vv_istore (lv' := [(5, .int (zI (M 8 (Int.toNat x)))), (4, .ref (ad 6)), (0, .ref (ad 90)), (1, .int (zI x)), (2, .int (zI a)), (3, .int (zI b))]) X (by decide) rfl dX8_splitPart_27 ?_
    refine vv_iload_n X 4 rfl rfl dX8_splitPart_29 ?_
    refine vv_if_lt (tgt := 51) X (by omega) dX8_splitPart_30 (by decide) (fun c_30 => ?_) (fun c_30 => ?_)
    · skip
      refine vv_bipush (n := (-2)) X (by decide) dX8_splitPart_51 ?_
      exact vv_iret X hm (⟨⟨fun q => absurd hin q, fun _ => ⟨fun _ => ⟨rfl, eqA_rf _⟩, fun q => by
        exfalso
        have q1 : (0 ≤ a ∧ a ≤ M 8 x.toNat) ∧ (M 8 x.toNat ≤ b ∧ b ≤ 100) := q
        omega⟩⟩, eqx_rf _ _⟩) dX8_splitPart_53
    · skip
      refine vv_iload_n X 4 rfl rfl dX8_splitPart_33 ?_
      refine vv_iload X 0 rfl dX8_splitPart_34 ?_
      refine vv_icmp_gt (tgt := 51) X (by omega) (by omega) dX8_splitPart_36 (by decide) (fun c_36 => ?_) (fun c_36 => ?_)
      · skip
        refine vv_bipush (n := (-2)) X (by decide) dX8_splitPart_51 ?_
        exact vv_iret X hm (⟨⟨fun q => absurd hin q, fun _ => ⟨fun _ => ⟨rfl, eqA_rf _⟩, fun q => by
          exfalso
          have q1 : (0 ≤ a ∧ a ≤ M 8 x.toNat) ∧ (M 8 x.toNat ≤ b ∧ b ≤ 100) := q
          omega⟩⟩, eqx_rf _ _⟩) dX8_splitPart_53
      · skip
        refine vv_iload_n X 5 rfl rfl dX8_splitPart_39 ?_
        refine vv_iload X 0 rfl dX8_splitPart_40 ?_
        refine vv_icmp_lt (tgt := 51) X (by omega) (by omega) dX8_splitPart_42 (by decide) (fun c_42 => ?_) (fun c_42 => ?_)
        · skip
          refine vv_bipush (n := (-2)) X (by decide) dX8_splitPart_51 ?_
          exact vv_iret X hm (⟨⟨fun q => absurd hin q, fun _ => ⟨fun _ => ⟨rfl, eqA_rf _⟩, fun q => by
            exfalso
            have q1 : (0 ≤ a ∧ a ≤ M 8 x.toNat) ∧ (M 8 x.toNat ≤ b ∧ b ≤ 100) := q
            omega⟩⟩, eqx_rf _ _⟩) dX8_splitPart_53
        · skip
          refine vv_iload_n X 5 rfl rfl dX8_splitPart_45 ?_
          refine vv_bipush (n := 100) X (by decide) dX8_splitPart_46 ?_
          refine vv_icmp_le (tgt := 54) X (by omega) (by omega) dX8_splitPart_48 (by decide) (fun c_48 => ?_) (fun c_48 => ?_)
          · skip
            refine vv_iload_n X 4 rfl rfl dX8_splitPart_54 ?_
            refine vv_iload_n X 5 rfl rfl dX8_splitPart_55 ?_
            refine vv_icmp_ne (tgt := 65) X (by omega) (by omega) dX8_splitPart_56 (by decide) (fun c_56 => ?_) (fun c_56 => ?_)
            · skip
              refine vv_iload_n X 5 rfl rfl dX8_splitPart_65 ?_
              refine vv_iload_n X 4 rfl rfl dX8_splitPart_66 ?_
              refine vv_isub X dX8_splitPart_67 ?_
              refine vv_istore (lv' := [(6, .int (zI (b - a))), (5, .int (zI (M 8 (Int.toNat x)))), (4, .ref (ad 6)), (0, .ref (ad 90)), (1, .int (zI x)), (2, .int (zI a)), (3, .int (zI b))]) X (by decide) rfl dX8_splitPart_68 ?_
              refine vv_aload X 2 rfl dX8_splitPart_70 ?_
              refine vv_getr (Nf := 3) (ref := (TX6 0).1) X (by decide) sh_6 rfl 0 (by decide) u_X8_splitPart_6 k_X8_splitPart_124 rfl rfl dX8_splitPart_72 ?_
              refine vv_iload_n X 4 rfl rfl dX8_splitPart_75 ?_
              refine vv_iald (z := (M 7 (Int.toNat x))) X (by decide) sh_7 (by decide) (by omega) (rfl) dX8_splitPart_76 ?_
              refine vv_istore (lv' := [(7, .int (zI (M 7 (Int.toNat x)))), (6, .int (zI (b - a))), (5, .int (zI (M 8 (Int.toNat x)))), (4, .ref (ad 6)), (0, .ref (ad 90)), (1, .int (zI x)), (2, .int (zI a)), (3, .int (zI b))]) X (by decide) rfl dX8_splitPart_77 ?_
              refine vv_aload_n X 4 rfl rfl dX8_splitPart_79 ?_
              refine vv_getr (Nf := 9) (ref := (TX8 5).1) X (by decide) sh_90 rfl 5 (by decide) u_X8_splitPart_8 k_X8_splitPart_41 rfl rfl dX8_splitPart_80 ?_
              refine vv_aload X 3 rfl dX8_splitPart_83 ?_
              refine vv_iload X 1 rfl dX8_splitPart_85 ?_
              refine vv_callVV (As := [.ref (ad 6), .int (zI (b - a))]) (st := []) (Nf := 1) X 2 (c_X3_gather l D cA had M (b - a) (by omega) (fun k hk => (hwb k hk).2)) gX8_splitPart_X3_gather rfl (by decide +kernel) ⟨by decide, by decide⟩ (Nat.le_of_ble_eq_true rfl) ⟨by decide, by decide⟩ rfl (by decide) sh_98 rfl rfl dX8_splitPart_87 (fun Mc87 q_87 => ?_)
              obtain ⟨G_87, g_87, hG_87⟩ := q_87
              have g_87 := g_87.symm
              subst g_87
              have hGb : ∀ j : Nat, j < 101 → 0 ≤ G_87 j ∧ G_87 j ≤ 599400 := fun j hj => by
                have h1 := SF_b (w := M 7) (p := M 8) (m := (M 6 2).toNat) (j := j) (fun k hk => by have := hwb k (by omega); omega) (by omega)
                have h2 := mulB h1 (show 0 ≤ b - a ∧ b - a ≤ 100 by omega)
                rw [hG_87 j hj]
                omega
              have hGx : M 7 x.toNat * (b - a) ≤ G_87 (M 8 x.toNat).toNat := by
                rw [hG_87 _ (by omega)]
                exact Int.mul_le_mul_of_nonneg_right (SF_ge (fun i hi => by have := hwb i (by omega); omega) (by omega) _ (by omega)) (by omega)
              have m1 := mulB (a := M 7 x.toNat) (A := 999) (b := b - a) (B := 100) (by omega) (by omega)
              have m2 := mulB (a := M 7 x.toNat) (A := 999) (b := b - M 8 x.toNat) (B := 100) (by omega) (by omega)
              have m3 := mulB (a := M 7 x.toNat) (A := 999) (b := M 8 x.toNat - a) (B := 100) (by omega) (by omega)
              refine vv_aload_n X 4 rfl rfl dX8_splitPart_90 ?_
              refine vv_getr (Nf := 9) (ref := (TX8 5).1) X (by decide) sh_90 rfl 5 (by decide) u_X8_splitPart_8 k_X8_splitPart_41 rfl rfl dX8_splitPart_91 ?_
              refine vv_iload X 2 rfl dX8_splitPart_94 ?_
              refine vv_iload X 0 rfl dX8_splitPart_96 ?_
              refine vv_ineg X dX8_splitPart_98 ?_
              refine vv_iload X 1 rfl dX8_splitPart_99 ?_
              refine vv_imul X dX8_splitPart_101 ?_
              refine vv_callVV (As := [.int (zI (M 8 (Int.toNat x))), .int (zI ((-(M 7 (Int.toNat x))) * (b - a)))]) (st := []) (Nf := 1) X 2 (c_X3_add l D cA had (stc M 99 G_87) (M 8 (Int.toNat x)) ((-(M 7 (Int.toNat x))) * (b - a)) (by omega)) gX8_splitPart_X3_add rfl (by decide +kernel) ⟨by decide, by decide⟩ (Nat.le_of_ble_eq_true rfl) ⟨by decide, by decide⟩ rfl (by decide) sh_98 rfl rfl dX8_splitPart_102 (fun Ma qa => ?_)
              refine vv_aload_n X 4 rfl rfl dX8_splitPart_105 ?_
              refine vv_getr (Nf := 9) (ref := (TX8 5).1) X (by decide) sh_90 rfl 5 (by decide) u_X8_splitPart_8 k_X8_splitPart_41 rfl rfl dX8_splitPart_106 ?_
              refine vv_iload_n X 6 rfl rfl dX8_splitPart_109 ?_
              refine vv_iload X 0 rfl dX8_splitPart_110 ?_
              refine vv_iload_n X 7 rfl rfl dX8_splitPart_112 ?_
              refine vv_iload X 2 rfl dX8_splitPart_113 ?_
              refine vv_isub X dX8_splitPart_115 ?_
              refine vv_imul X dX8_splitPart_116 ?_
              refine vv_callVV (As := [.int (zI a), .int (zI ((M 7 (Int.toNat x)) * (b - (M 8 (Int.toNat x)))))]) (st := []) (Nf := 1) X 2 (c_X3_add l D cA had Ma a ((M 7 (Int.toNat x)) * (b - (M 8 (Int.toNat x)))) (by omega)) gX8_splitPart_X3_add rfl (by decide +kernel) ⟨by decide, by decide⟩ (Nat.le_of_ble_eq_true rfl) ⟨by decide, by decide⟩ rfl (by decide) sh_98 rfl rfl dX8_splitPart_117 (fun Mb qb => ?_)
              refine vv_aload_n X 4 rfl rfl dX8_splitPart_120 ?_
              refine vv_getr (Nf := 9) (ref := (TX8 5).1) X (by decide) sh_90 rfl 5 (by decide) u_X8_splitPart_8 k_X8_splitPart_41 rfl rfl dX8_splitPart_121 ?_
              refine vv_iload_n X 7 rfl rfl dX8_splitPart_124 ?_
              refine vv_iload X 0 rfl dX8_splitPart_125 ?_
              refine vv_iload X 2 rfl dX8_splitPart_127 ?_
              refine vv_iload_n X 6 rfl rfl dX8_splitPart_129 ?_
              refine vv_isub X dX8_splitPart_130 ?_
              refine vv_imul X dX8_splitPart_131 ?_
              refine vv_callVV (As := [.int (zI b), .int (zI ((M 7 (Int.toNat x)) * ((M 8 (Int.toNat x)) - a)))]) (st := []) (Nf := 1) X 2 (c_X3_add l D cA had Mb b ((M 7 (Int.toNat x)) * ((M 8 (Int.toNat x)) - a)) (by omega)) gX8_splitPart_X3_add rfl (by decide +kernel) ⟨by decide, by decide⟩ (Nat.le_of_ble_eq_true rfl) ⟨by decide, by decide⟩ rfl (by decide) sh_98 rfl rfl dX8_splitPart_132 (fun Mc qc => ?_)
              obtain ⟨H, hH⟩ : ∃ H : Nat → Int, H = uz (uz (uz G_87 (M 8 x.toNat).toNat (G_87 (M 8 x.toNat).toNat + -(M 7 x.toNat) * (b - a))) a.toNat (uz G_87 (M 8 x.toNat).toNat (G_87 (M 8 x.toNat).toNat + -(M 7 x.toNat) * (b - a)) a.toNat + M 7 x.toNat * (b - M 8 x.toNat))) b.toNat (uz (uz G_87 (M 8 x.toNat).toNat (G_87 (M 8 x.toNat).toNat + -(M 7 x.toNat) * (b - a))) a.toNat (uz G_87 (M 8 x.toNat).toNat (G_87 (M 8 x.toNat).toNat + -(M 7 x.toNat) * (b - a)) a.toNat + M 7 x.toNat * (b - M 8 x.toNat)) b.toNat + M 7 x.toNat * (M 8 x.toNat - a)) := ⟨_, rfl⟩
              have hMc : Mc = stc M 99 H := by
                rw [qc, qb, qa, hH]
                simp only [up2_stc, stc_s]
              have hFr : ∀ j, j < 101 → H j = refF (vC M 0) x.toNat a b j := fun j hj => by
                have hg := hG_87 j hj
                show H j = SF (M 7) (M 8) (M 6 2).toNat j * (b - a) + (if (j : Int) = M 8 x.toNat then -(M 7 x.toNat * (b - a)) else 0) + (if (j : Int) = a then M 7 x.toNat * (b - M 8 x.toNat) else 0) + (if (j : Int) = b then M 7 x.toNat * (M 8 x.toNat - a) else 0)
                rw [← hg, hH]
                rw [uzadd, uzadd, uzadd, Int.neg_mul]
                simp only [iff_nat (j := j) hwx.2.1, iff_nat (j := j) (show 0 ≤ a by omega), iff_nat (j := j) (show 0 ≤ b by omega)]
              have hfb : ∀ j : Nat, j < 101 → 0 ≤ Mc 99 j ∧ Mc 99 j ≤ 1073741824 := fun j hj => by
                rw [hMc, stc_s, hFr j hj]
                have hg := hG_87 j hj
                have hb2 := hGb j hj
                show 0 ≤ SF (M 7) (M 8) (M 6 2).toNat j * (b - a) + (if (j : Int) = M 8 x.toNat then -(M 7 x.toNat * (b - a)) else 0) + (if (j : Int) = a then M 7 x.toNat * (b - M 8 x.toNat) else 0) + (if (j : Int) = b then M 7 x.toNat * (M 8 x.toNat - a) else 0) ∧ SF (M 7) (M 8) (M 6 2).toNat j * (b - a) + (if (j : Int) = M 8 x.toNat then -(M 7 x.toNat * (b - a)) else 0) + (if (j : Int) = a then M 7 x.toNat * (b - M 8 x.toNat) else 0) + (if (j : Int) = b then M 7 x.toNat * (M 8 x.toNat - a) else 0) ≤ 1073741824
                rw [← hg]
                have hx9 : (j : Int) = M 8 x.toNat → M 7 x.toNat * (b - a) ≤ G_87 j := fun q => by
                  rw [show j = (M 8 x.toNat).toNat by omega]
                  exact hGx
                by_cases c1 : (j : Int) = M 8 x.toNat
                · have := hx9 c1
                  rw [if_pos c1]
                  split <;> split <;> omega
                · rw [if_neg c1]
                  split <;> split <;> omega
              refine vv_aload_n X 4 rfl rfl dX8_splitPart_135 ?_
              refine vv_callVI (As := []) (st := []) (Nf := 9) X 0 (c_X8_takeMix l D cA had Mc (hfb)) gX8_splitPart_X8_takeMix rfl (by decide +kernel) ⟨by decide, by decide⟩ (Nat.le_of_ble_eq_true rfl) ⟨by decide, by decide⟩ rfl (by decide) sh_90 rfl rfl dX8_splitPart_136 (fun z136 Md qd => ?_)
              exact vv_iret X hm (by
                obtain ⟨hO, hE⟩ := qd
                have hx3 : eqx M Mc [99] := by rw [hMc]; exact eqx_stc _ (eqx_rf _ _) (by decide)
                refine ⟨⟨fun q => absurd hin q, fun _ => ⟨fun q => ?_, fun _ => ⟨fun q => absurd q (by omega), fun _ => ?_⟩⟩⟩, eqx_tr (eqx_mono hx3 (by decide)) hE⟩
                · exfalso
                  have q1 : ¬ ((0 ≤ a ∧ a ≤ M 8 x.toNat) ∧ (M 8 x.toNat ≤ b ∧ b ≤ 100)) := q
                  omega
                · have e9 : Mc 99 = H := by rw [hMc, stc_s]
                  rw [e9] at hO
                  exact opF_cong hFr (opF_l (eqA_sy (vC_same (fun a _ _ => hx3 a (by simp; omega)))) hO)) dX8_splitPart_139
            · skip
              refine vv_aload X 1 rfl dX8_splitPart_59 ?_
              refine vv_geti (Nf := 3) (ref := (TX6 2).1) (z := (M 6 2)) X (by decide) sh_6 rfl 2 (by decide) u_X8_splitPart_6 k_X8_splitPart_164 rfl rfl (rfl) dX8_splitPart_61 ?_
              exact vv_iret X hm (⟨⟨fun q => absurd hin q, fun _ => ⟨fun q => by
                exfalso
                have q1 : ¬ ((0 ≤ a ∧ a ≤ M 8 x.toNat) ∧ (M 8 x.toNat ≤ b ∧ b ≤ 100)) := q
                omega, fun _ => ⟨fun _ => ⟨rfl, eqA_rf _⟩, fun q => absurd (show a = b by omega) q⟩⟩⟩, eqx_rf _ _⟩) dX8_splitPart_64
          · skip
            refine vv_bipush (n := (-2)) X (by decide) dX8_splitPart_51 ?_
            exact vv_iret X hm (⟨⟨fun q => absurd hin q, fun _ => ⟨fun _ => ⟨rfl, eqA_rf _⟩, fun q => by
              exfalso
              have q1 : (0 ≤ a ∧ a ≤ M 8 x.toNat) ∧ (M 8 x.toNat ≤ b ∧ b ≤ 100) := q
              omega⟩⟩, eqx_rf _ _⟩) dX8_splitPart_53
  · skip
    have hin : ¬ (0 ≤ x ∧ x < M 6 2) := fun q => by rw [if_pos q] at e_z12; omega
    refine vv_iconst (n := (-1)) X dX8_splitPart_18 ?_
    exact vv_iret X hm (⟨⟨fun _ => ⟨rfl, eqA_rf _⟩, fun q => absurd q hin⟩, eqx_rf _ _⟩) dX8_splitPart_19
theorem u_X8_recorded_8 : ∀ w ∈ u_ws RX8 TX8 9, w ∈ wsX8_recorded := by decide +kernel
theorem k_X8_recorded_19 : Cond.fieldLink yX8_recorded.cls 19 (TX8 1).1 (TX8 1).2.1 (TX8 1).2.2.1 ∈ wsX8_recorded := by decide +kernel
set_option maxRecDepth 100000 in
set_option maxHeartbeats 4000000 in
theorem c_X8_recorded (l : Launch) (D : va_G) {ad : Nat → Nat} (cA : Nat → ClassId) (had : adok ad) (M : Mem) (r : Int) (hr : -2147483648 ≤ r ∧ r ≤ 2147483647) (hnx : 0 ≤ M 91 1 ∧ M 91 1 < 7) (hk : 0 ≤ M 91 2 ∧ M 91 2 ≤ 6) : CtI l yX8_recorded wsX8_recorded 2 41 D ad cA [.ref (ad 90), .int (zI r)] M (fun z M1 => z = r ∧ (r < 0 → M1 = M) ∧ (0 ≤ r → M1 = up2 (up2 M 91 1 (if M 91 1 + 1 < 7 then M 91 1 + 1 else 0)) 91 2 (if M 91 2 + 1 < 6 then M 91 2 + 1 else 6))) := by
  refine CtI.of (cc := cX8_recorded) (maxL := 2) (ret := (some .int)) had (by decide) rfl (Nat.le_of_ble_eq_true rfl) ?_
  intro p e s m args below meth c X hm
  show VV p l e { frames := 2, cells := 0, slots := 0, locals := 41 } s m args below meth c 2 D ad cA (Afr ad s.heap.size) 0 0 (QI below args s D ad cA (fun z M1 => z = r ∧ (r < 0 → M1 = M) ∧ (0 ≤ r → M1 = up2 (up2 M 91 1 (if M 91 1 + 1 < 7 then M 91 1 + 1 else 0)) 91 2 (if M 91 2 + 1 < 6 then M 91 2 + 1 else 6)))) M 0 [(0, .ref (ad 90)), (1, .int (zI r))] []
  refine vv_iload_n X 1 rfl rfl dX8_recorded_0 ?_
  refine vv_if_lt (tgt := 11) X (by omega) dX8_recorded_1 (by decide) (fun c_1 => ?_) (fun c_1 => ?_)
  · skip
    refine vv_iload_n X 1 rfl rfl dX8_recorded_11 ?_
    exact vv_iret X hm (⟨rfl, fun _ => rfl, fun q => absurd q (by omega)⟩) dX8_recorded_12
  · skip
    refine vv_aload_n X 0 rfl rfl dX8_recorded_4 ?_
    refine vv_getr (Nf := 9) (ref := (TX8 1).1) X (by decide) sh_90 rfl 1 (by decide) u_X8_recorded_8 k_X8_recorded_19 rfl rfl dX8_recorded_5 ?_
    refine vv_callVV (As := []) (st := []) (Nf := 3) X 0 (c_X2_keep l D cA had M (by omega) (by omega)) gX8_recorded_X2_keep rfl (by decide +kernel) ⟨by decide, by decide⟩ (Nat.le_of_ble_eq_true rfl) ⟨by decide, by decide⟩ rfl (by decide) sh_91 rfl rfl dX8_recorded_8 (fun Mc8 q_8 => ?_)
    refine vv_iload_n X 1 rfl rfl dX8_recorded_11 ?_
    exact vv_iret X hm (⟨rfl, fun q => absurd q (by omega), fun _ => q_8⟩) dX8_recorded_12
theorem u_X8_joinWithNext_6 : ∀ w ∈ u_ws RX6 TX6 3, w ∈ wsX8_joinWithNext := by decide +kernel
theorem u_X8_joinWithNext_7 : ∀ w ∈ u_ws RX7 TX7 3, w ∈ wsX8_joinWithNext := by decide +kernel
theorem u_X8_joinWithNext_8 : ∀ w ∈ u_ws RX8 TX8 9, w ∈ wsX8_joinWithNext := by decide +kernel
theorem k_X8_joinWithNext_10 : Cond.fieldLink yX8_joinWithNext.cls 10 (TX8 0).1 (TX8 0).2.1 (TX8 0).2.2.1 ∈ wsX8_joinWithNext := by decide +kernel
theorem k_X8_joinWithNext_41 : Cond.fieldLink yX8_joinWithNext.cls 41 (TX8 5).1 (TX8 5).2.1 (TX8 5).2.2.1 ∈ wsX8_joinWithNext := by decide +kernel
theorem k_X8_joinWithNext_117 : Cond.fieldLink yX8_joinWithNext.cls 117 (TX7 1).1 (TX7 1).2.1 (TX7 1).2.2.1 ∈ wsX8_joinWithNext := by decide +kernel
theorem k_X8_joinWithNext_124 : Cond.fieldLink yX8_joinWithNext.cls 124 (TX6 0).1 (TX6 0).2.1 (TX6 0).2.2.1 ∈ wsX8_joinWithNext := by decide +kernel
theorem k_X8_joinWithNext_127 : Cond.fieldLink yX8_joinWithNext.cls 127 (TX6 1).1 (TX6 1).2.1 (TX6 1).2.2.1 ∈ wsX8_joinWithNext := by decide +kernel
set_option maxRecDepth 100000 in
set_option maxHeartbeats 4000000 in
theorem c_X8_joinWithNext (l : Launch) (D : va_G) {ad : Nat → Nat} (cA : Nat → ClassId) (had : adok ad) (M : Mem) (x : Int) (hx : -2147483648 ≤ x ∧ x ≤ 2147483647) (hs : WFs (vC M 0)) : CtI l yX8_joinWithNext wsX8_joinWithNext 4 88 D ad cA [.ref (ad 90), .int (zI x)] M (fun z M1 => opJn x (vC M 0) z (vC M1 0) ∧ eqx M M1 [6, 7, 8, 99]) := by
  refine CtI.of (cc := cX8_joinWithNext) (maxL := 9) (ret := (some .int)) had (by decide) rfl (Nat.le_of_ble_eq_true rfl) ?_
  intro p e s m args below meth c X hm
  show VV p l e { frames := 4, cells := 0, slots := 0, locals := 88 } s m args below meth c 9 D ad cA (Afr ad s.heap.size) 0 0 (QI below args s D ad cA (fun z M1 => opJn x (vC M 0) z (vC M1 0) ∧ eqx M M1 [6, 7, 8, 99])) M 0 [(0, .ref (ad 90)), (1, .int (zI x))] []
  have hsm : 1 ≤ M 6 2 ∧ M 6 2 ≤ 6 := WFs_pos hs
  have hwb : ∀ k : Nat, (k : Int) < M 6 2 → (1 ≤ M 7 k ∧ M 7 k ≤ 999) ∧ (0 ≤ M 8 k ∧ M 8 k ≤ 100) := fun k hk => WFs_b hs hk
  have hinc : ∀ i j : Nat, i < j → (j : Int) < M 6 2 → M 8 i < M 8 j := fun i j q1 q2 => by
    obtain ⟨F, h1, h2, h3, h4⟩ := hs
    exact SplitOf_inc h4 q1 q2
  refine vv_aload_n X 0 rfl rfl dX8_joinWithNext_0 ?_
  refine vv_getr (Nf := 9) (ref := (TX8 0).1) X (by decide) sh_90 rfl 0 (by decide) u_X8_joinWithNext_8 k_X8_joinWithNext_10 rfl rfl dX8_joinWithNext_1 ?_
  refine vv_getr (Nf := 3) (ref := (TX7 1).1) X (by decide) sh_0 rfl 1 (by decide) u_X8_joinWithNext_7 k_X8_joinWithNext_117 rfl rfl dX8_joinWithNext_4 ?_
  refine vv_astore_n (lv' := [(2, .ref (ad 6)), (0, .ref (ad 90)), (1, .int (zI x))]) X rfl (by decide) rfl dX8_joinWithNext_7 ?_
  refine vv_aload_n X 0 rfl rfl dX8_joinWithNext_8 ?_
  refine vv_iload_n X 2 rfl rfl dX8_joinWithNext_9 ?_
  refine vv_callVI (As := [.int (zI x)]) (st := []) (Nf := 3) X 1 (c_X6_has l D cA had M x (by omega) (by omega)) gX8_joinWithNext_X6_has rfl (by decide +kernel) ⟨by decide, by decide⟩ (Nat.le_of_ble_eq_true rfl) ⟨by decide, by decide⟩ rfl (by decide) sh_6 rfl rfl dX8_joinWithNext_10 (fun z10 Mc10 q_10 => ?_)
  obtain ⟨e_z10, g_z10⟩ := q_10
  have g_z10 := g_z10.symm
  subst g_z10
  refine vv_if_eq (tgt := 26) X (by rw [e_z10]; split <;> omega) dX8_joinWithNext_13 (by decide) (fun c_13 => ?_) (fun c_13 => ?_)
  · skip
    have hin : ¬ (0 ≤ x ∧ x + 1 < M 6 2) := fun q => by rw [if_pos (show 0 ≤ x ∧ x < M 6 2 by omega)] at e_z10; omega
    refine vv_iconst (n := (-1)) X dX8_joinWithNext_26 ?_
    exact vv_iret X hm (⟨⟨fun _ => ⟨rfl, eqA_rf _⟩, fun q => absurd q hin⟩, eqx_rf _ _⟩) dX8_joinWithNext_27
  · skip
    have hi1 : 0 ≤ x ∧ x < M 6 2 := Classical.byContradiction fun q => by rw [if_neg q] at e_z10; omega
    refine vv_aload_n X 0 rfl rfl dX8_joinWithNext_16 ?_
    refine vv_iload_n X 2 rfl rfl dX8_joinWithNext_17 ?_
    refine vv_iconst (n := 1) X dX8_joinWithNext_18 ?_
    refine vv_iadd X dX8_joinWithNext_19 ?_
    refine vv_callVI (As := [.int (zI (x + 1))]) (st := []) (Nf := 3) X 1 (c_X6_has l D cA had M (x + 1) (by omega) (by omega)) gX8_joinWithNext_X6_has rfl (by decide +kernel) ⟨by decide, by decide⟩ (Nat.le_of_ble_eq_true rfl) ⟨by decide, by decide⟩ rfl (by decide) sh_6 rfl rfl dX8_joinWithNext_20 (fun z20 Mc20 q_20 => ?_)
    obtain ⟨e_z20, g_z20⟩ := q_20
    have g_z20 := g_z20.symm
    subst g_z20
    refine vv_if_ne (tgt := 28) X (by rw [e_z20]; split <;> omega) dX8_joinWithNext_23 (by decide) (fun c_23 => ?_) (fun c_23 => ?_)
    · skip
      have hin : 0 ≤ x ∧ x + 1 < M 6 2 := Classical.byContradiction fun q => by rw [if_neg (by omega)] at e_z20; omega
      have hwx := hwb x.toNat (by omega)
      have hwy := hwb (x.toNat + 1) (by omega)
      have hlu := hinc x.toNat (x.toNat + 1) (by omega) (by omega)
      have m1 := mulB (a := M 7 x.toNat) (A := 999) (b := M 8 x.toNat) (B := 100) (by omega) (by omega)
      have m2 := mulB (a := M 7 (x.toNat + 1)) (A := 999) (b := M 8 (x.toNat + 1)) (B := 100) (by omega) (by omega)
      refine vv_aload_n X 0 rfl rfl dX8_joinWithNext_28 ?_
      refine vv_getr (Nf := 3) (ref := (TX6 0).1) X (by decide) sh_6 rfl 0 (by decide) u_X8_joinWithNext_6 k_X8_joinWithNext_124 rfl rfl dX8_joinWithNext_29 ?_
      refine vv_iload_n X 2 rfl rfl dX8_joinWithNext_32 ?_
      refine vv_iald (z := (M 7 (Int.toNat x))) X (by decide) sh_7 (by decide) (by omega) (rfl) dX8_joinWithNext_33 ?_
      refine vv_istore_n (lv' := [(3, .int (zI (M 7 (Int.toNat x)))), (2, .ref (ad 6)), (0, .ref (ad 90)), (1, .int (zI x))]) X rfl (by decide) rfl dX8_joinWithNext_34 ?_
      refine vv_aload_n X 1 rfl rfl dX8_joinWithNext_35 ?_
      refine vv_getr (Nf := 3) (ref := (TX6 0).1) X (by decide) sh_6 rfl 0 (by decide) u_X8_joinWithNext_6 k_X8_joinWithNext_124 rfl rfl dX8_joinWithNext_36 ?_
      refine vv_iload_n X 3 rfl rfl dX8_joinWithNext_39 ?_
      refine vv_iconst (n := 1) X dX8_joinWithNext_40 ?_
      refine vv_iadd X dX8_joinWithNext_41 ?_
      refine vv_iald (z := (M 7 (x.toNat + 1))) X (by decide) sh_7 (by decide) (by omega) (by first | (rw [show (x + 1).toNat = x.toNat + 1 by omega]; done) | (rw [show (x + 1).toNat = x.toNat + 1 by omega]; exact (rfl))) dX8_joinWithNext_42 ?_
      refine vv_istore (lv' := [(4, .int (zI (M 7 (x.toNat + 1)))), (3, .int (zI (M 7 (Int.toNat x)))), (2, .ref (ad 6)), (0, .ref (ad 90)), (1, .int (zI x))]) X (by decide) rfl dX8_joinWithNext_43 ?_
      refine vv_aload_n X 2 rfl rfl dX8_joinWithNext_45 ?_
      refine vv_getr (Nf := 3) (ref := (TX6 1).1) X (by decide) sh_6 rfl 1 (by decide) u_X8_joinWithNext_6 k_X8_joinWithNext_127 rfl rfl dX8_joinWithNext_46 ?_
      refine vv_iload_n X 4 rfl rfl dX8_joinWithNext_49 ?_
      refine vv_iald (z := (M 8 (Int.toNat x))) X (by decide) sh_8 (by decide) (by omega) (rfl) dX8_joinWithNext_50 ?_
      refine vv_istore (lv' := [(5, .int (zI (M 8 (Int.toNat x)))), (4, .int (zI (M 7 (x.toNat + 1)))), (3, .int (zI (M 7 (Int.toNat x)))), (2, .ref (ad 6)), (0, .ref (ad 90)), (1, .int (zI x))]) X (by decide) rfl dX8_joinWithNext_51 ?_
      refine vv_aload_n X 3 rfl rfl dX8_joinWithNext_53 ?_
      refine vv_getr (Nf := 3) (ref := (TX6 1).1) X (by decide) sh_6 rfl 1 (by decide) u_X8_joinWithNext_6 k_X8_joinWithNext_127 rfl rfl dX8_joinWithNext_54 ?_
      refine vv_iload_n X 5 rfl rfl dX8_joinWithNext_57 ?_
      refine vv_iconst (n := 1) X dX8_joinWithNext_58 ?_
      refine vv_iadd X dX8_joinWithNext_59 ?_
      refine vv_iald (z := (M 8 (x.toNat + 1))) X (by decide) sh_8 (by decide) (by omega) (by first | (rw [show (x + 1).toNat = x.toNat + 1 by omega]; done) | (rw [show (x + 1).toNat = x.toNat + 1 by omega]; exact (rfl))) dX8_joinWithNext_60 ?_
      refine vv_istore (lv' := [(6, .int (zI (M 8 (x.toNat + 1)))), (5, .int (zI (M 8 (Int.toNat x)))), (4, .int (zI (M 7 (x.toNat + 1)))), (3, .int (zI (M 7 (Int.toNat x)))), (2, .ref (ad 6)), (0, .ref (ad 90)), (1, .int (zI x))]) X (by decide) rfl dX8_joinWithNext_61 ?_
      refine vv_iload_n X 3 rfl rfl dX8_joinWithNext_63 ?_
      refine vv_iload X 2 rfl dX8_joinWithNext_64 ?_
      refine vv_iadd X dX8_joinWithNext_66 ?_
      refine vv_istore (lv' := [(7, .int (zI ((M 7 (Int.toNat x)) + (M 7 (x.toNat + 1))))), (6, .int (zI (M 8 (x.toNat + 1)))), (5, .int (zI (M 8 (Int.toNat x)))), (4, .int (zI (M 7 (x.toNat + 1)))), (3, .int (zI (M 7 (Int.toNat x)))), (2, .ref (ad 6)), (0, .ref (ad 90)), (1, .int (zI x))]) X (by decide) rfl dX8_joinWithNext_67 ?_
      refine vv_iload_n X 4 rfl rfl dX8_joinWithNext_69 ?_
      refine vv_iload X 2 rfl dX8_joinWithNext_70 ?_
      refine vv_imul X dX8_joinWithNext_72 ?_
      refine vv_iload X 3 rfl dX8_joinWithNext_73 ?_
      refine vv_iload X 1 rfl dX8_joinWithNext_75 ?_
      refine vv_imul X dX8_joinWithNext_77 ?_
      refine vv_iadd X dX8_joinWithNext_78 ?_
      refine vv_istore (lv' := [(8, .int (zI (((M 7 (Int.toNat x)) * (M 8 (Int.toNat x))) + ((M 7 (x.toNat + 1)) * (M 8 (x.toNat + 1)))))), (7, .int (zI ((M 7 (Int.toNat x)) + (M 7 (x.toNat + 1))))), (6, .int (zI (M 8 (x.toNat + 1)))), (5, .int (zI (M 8 (Int.toNat x)))), (4, .int (zI (M 7 (x.toNat + 1)))), (3, .int (zI (M 7 (Int.toNat x)))), (2, .ref (ad 6)), (0, .ref (ad 90)), (1, .int (zI x))]) X (by decide) rfl dX8_joinWithNext_79 ?_
      obtain ⟨jwt, ejw⟩ : ∃ q : Int, q = M 7 x.toNat + M 7 (x.toNat + 1) := ⟨_, rfl⟩
      obtain ⟨jmo, ejm⟩ : ∃ q : Int, q = M 7 x.toNat * M 8 x.toNat + M 7 (x.toNat + 1) * M 8 (x.toNat + 1) := ⟨_, rfl⟩
      rw [← ejw, ← ejm]
      refine vv_iload X 1 rfl dX8_joinWithNext_81 ?_
      refine vv_if_le (tgt := 94) X (by omega) dX8_joinWithNext_83 (by decide) (fun c_83 => ?_) (fun c_83 => ?_)
      · skip
        omega
      · skip
        refine vv_iload X 0 rfl dX8_joinWithNext_86 ?_
        refine vv_iload X 1 rfl dX8_joinWithNext_88 ?_
        refine vv_irem X (by omega) (by omega) (by omega) dX8_joinWithNext_90 ?_
        refine vv_if_eq (tgt := 97) X (by have := gcdM (x := jmo) (y := jwt) (by omega) (by omega); omega) dX8_joinWithNext_91 (by decide) (fun c_91 => ?_) (fun c_91 => ?_)
        · skip
          have hmid : 0 ≤ jmo.tdiv jwt ∧ jmo.tdiv jwt ≤ 100 := by
            rw [ejm, ejw]
            refine jn_rng hwx.1 hwy.1 hwx.2 hwy.2 ?_
            rw [← ejm, ← ejw]
            exact c_91
          refine vv_aload_n X 7 rfl rfl dX8_joinWithNext_97 ?_
          refine vv_getr (Nf := 9) (ref := (TX8 5).1) X (by decide) sh_90 rfl 5 (by decide) u_X8_joinWithNext_8 k_X8_joinWithNext_41 rfl rfl dX8_joinWithNext_98 ?_
          refine vv_aload_n X 6 rfl rfl dX8_joinWithNext_101 ?_
          refine vv_iconst (n := 1) X dX8_joinWithNext_102 ?_
          refine vv_callVV (As := [.ref (ad 6), .int (zI 1)]) (st := []) (Nf := 1) X 2 (c_X3_gather l D cA had M 1 (by omega) (fun k hk => (hwb k hk).2)) gX8_joinWithNext_X3_gather rfl (by decide +kernel) ⟨by decide, by decide⟩ (Nat.le_of_ble_eq_true rfl) ⟨by decide, by decide⟩ rfl (by decide) sh_98 rfl rfl dX8_joinWithNext_103 (fun Mc103 q_103 => ?_)
          obtain ⟨G_103, g_103, hG_103⟩ := q_103
          have g_103 := g_103.symm
          subst g_103
          have hGb : ∀ j : Nat, j < 101 → 0 ≤ SF (M 7) (M 8) (M 6 2).toNat j ∧ SF (M 7) (M 8) (M 6 2).toNat j ≤ 5994 := fun j hj => SF_b (fun k hk => by have := hwb k (by omega); omega) (by omega)
          refine vv_aload_n X 7 rfl rfl dX8_joinWithNext_106 ?_
          refine vv_getr (Nf := 9) (ref := (TX8 5).1) X (by decide) sh_90 rfl 5 (by decide) u_X8_joinWithNext_8 k_X8_joinWithNext_41 rfl rfl dX8_joinWithNext_107 ?_
          refine vv_iload X 3 rfl dX8_joinWithNext_110 ?_
          refine vv_iload_n X 5 rfl rfl dX8_joinWithNext_112 ?_
          refine vv_ineg X dX8_joinWithNext_113 ?_
          refine vv_callVV (As := [.int (zI (M 8 (Int.toNat x))), .int (zI (-(M 7 (Int.toNat x))))]) (st := []) (Nf := 1) X 2 (c_X3_add l D cA had (stc M 99 G_103) (M 8 (Int.toNat x)) (-(M 7 (Int.toNat x))) (by omega)) gX8_joinWithNext_X3_add rfl (by decide +kernel) ⟨by decide, by decide⟩ (Nat.le_of_ble_eq_true rfl) ⟨by decide, by decide⟩ rfl (by decide) sh_98 rfl rfl dX8_joinWithNext_114 (fun Ma qa => ?_)
          refine vv_aload_n X 7 rfl rfl dX8_joinWithNext_117 ?_
          refine vv_getr (Nf := 9) (ref := (TX8 5).1) X (by decide) sh_90 rfl 5 (by decide) u_X8_joinWithNext_8 k_X8_joinWithNext_41 rfl rfl dX8_joinWithNext_118 ?_
          refine vv_iload X 2 rfl dX8_joinWithNext_121 ?_
          refine vv_iload X 4 rfl dX8_joinWithNext_123 ?_
          refine vv_ineg X dX8_joinWithNext_125 ?_
          refine vv_callVV (As := [.int (zI (M 8 (x.toNat + 1))), .int (zI (-(M 7 (x.toNat + 1))))]) (st := []) (Nf := 1) X 2 (c_X3_add l D cA had Ma (M 8 (x.toNat + 1)) (-(M 7 (x.toNat + 1))) (by omega)) gX8_joinWithNext_X3_add rfl (by decide +kernel) ⟨by decide, by decide⟩ (Nat.le_of_ble_eq_true rfl) ⟨by decide, by decide⟩ rfl (by decide) sh_98 rfl rfl dX8_joinWithNext_126 (fun Mb qb => ?_)
          refine vv_aload_n X 7 rfl rfl dX8_joinWithNext_129 ?_
          refine vv_getr (Nf := 9) (ref := (TX8 5).1) X (by decide) sh_90 rfl 5 (by decide) u_X8_joinWithNext_8 k_X8_joinWithNext_41 rfl rfl dX8_joinWithNext_130 ?_
          refine vv_iload X 0 rfl dX8_joinWithNext_133 ?_
          refine vv_iload X 1 rfl dX8_joinWithNext_135 ?_
          refine vv_idiv X (by omega) (by omega) (by omega) dX8_joinWithNext_137 ?_
          refine vv_iload X 1 rfl dX8_joinWithNext_138 ?_
          refine vv_callVV (As := [.int (zI (Int.tdiv jmo jwt)), .int (zI jwt)]) (st := []) (Nf := 1) X 2 (c_X3_add l D cA had Mb (Int.tdiv jmo jwt) jwt (by omega)) gX8_joinWithNext_X3_add rfl (by decide +kernel) ⟨by decide, by decide⟩ (Nat.le_of_ble_eq_true rfl) ⟨by decide, by decide⟩ rfl (by decide) sh_98 rfl rfl dX8_joinWithNext_140 (fun Mc qc => ?_)
          obtain ⟨H, hH⟩ : ∃ H : Nat → Int, H = uz (uz (uz G_103 (M 8 x.toNat).toNat (G_103 (M 8 x.toNat).toNat + -(M 7 x.toNat))) (M 8 (x.toNat + 1)).toNat (uz G_103 (M 8 x.toNat).toNat (G_103 (M 8 x.toNat).toNat + -(M 7 x.toNat)) (M 8 (x.toNat + 1)).toNat + -(M 7 (x.toNat + 1)))) (jmo.tdiv jwt).toNat (uz (uz G_103 (M 8 x.toNat).toNat (G_103 (M 8 x.toNat).toNat + -(M 7 x.toNat))) (M 8 (x.toNat + 1)).toNat (uz G_103 (M 8 x.toNat).toNat (G_103 (M 8 x.toNat).toNat + -(M 7 x.toNat)) (M 8 (x.toNat + 1)).toNat + -(M 7 (x.toNat + 1))) (jmo.tdiv jwt).toNat + jwt) := ⟨_, rfl⟩
          have hMc : Mc = stc M 99 H := by
            rw [qc, qb, qa, hH]
            simp only [up2_stc, stc_s]
          have hFr : ∀ j, j < 101 → H j = jnF (vC M 0) x.toNat j := fun j hj => by
            have hg := hG_103 j hj
            rw [Int.mul_one] at hg
            show H j = SF (M 7) (M 8) (M 6 2).toNat j + (if (j : Int) = M 8 x.toNat then -M 7 x.toNat else 0) + (if (j : Int) = M 8 (x.toNat + 1) then -M 7 (x.toNat + 1) else 0) + (if (j : Int) = (M 7 x.toNat * M 8 x.toNat + M 7 (x.toNat + 1) * M 8 (x.toNat + 1)).tdiv (M 7 x.toNat + M 7 (x.toNat + 1)) then M 7 x.toNat + M 7 (x.toNat + 1) else 0)
            rw [← hg, hH, uzadd, uzadd, uzadd, ← ejm, ← ejw]
            simp only [iff_nat (j := j) hwx.2.1, iff_nat (j := j) hwy.2.1, iff_nat (j := j) hmid.1]
          have hfb : ∀ j : Nat, j < 101 → 0 ≤ Mc 99 j ∧ Mc 99 j ≤ 1073741824 := fun j hj => by
            rw [hMc, stc_s, hFr j hj]
            have hg := hG_103 j hj
            rw [Int.mul_one] at hg
            have hb2 := hGb j hj
            show 0 ≤ SF (M 7) (M 8) (M 6 2).toNat j + (if (j : Int) = M 8 x.toNat then -M 7 x.toNat else 0) + (if (j : Int) = M 8 (x.toNat + 1) then -M 7 (x.toNat + 1) else 0) + (if (j : Int) = (M 7 x.toNat * M 8 x.toNat + M 7 (x.toNat + 1) * M 8 (x.toNat + 1)).tdiv (M 7 x.toNat + M 7 (x.toNat + 1)) then M 7 x.toNat + M 7 (x.toNat + 1) else 0) ∧ SF (M 7) (M 8) (M 6 2).toNat j + (if (j : Int) = M 8 x.toNat then -M 7 x.toNat else 0) + (if (j : Int) = M 8 (x.toNat + 1) then -M 7 (x.toNat + 1) else 0) + (if (j : Int) = (M 7 x.toNat * M 8 x.toNat + M 7 (x.toNat + 1) * M 8 (x.toNat + 1)).tdiv (M 7 x.toNat + M 7 (x.toNat + 1)) then M 7 x.toNat + M 7 (x.toNat + 1) else 0) ≤ 1073741824
            have hx9 : (j : Int) = M 8 x.toNat → M 7 x.toNat ≤ SF (M 7) (M 8) (M 6 2).toNat j := fun q => SF_ge (fun i hi => by have := hwb i (by omega); omega) (by omega) j q.symm
            have hy9 : (j : Int) = M 8 (x.toNat + 1) → M 7 (x.toNat + 1) ≤ SF (M 7) (M 8) (M 6 2).toNat j := fun q => SF_ge (fun i hi => by have := hwb i (by omega); omega) (by omega) j q.symm
            by_cases c1 : (j : Int) = M 8 x.toNat
            · have := hx9 c1
              rw [if_pos c1, if_neg (show ¬ (j : Int) = M 8 (x.toNat + 1) by omega)]
              split <;> omega
            · rw [if_neg c1]
              by_cases c2 : (j : Int) = M 8 (x.toNat + 1)
              · have := hy9 c2
                rw [if_pos c2]
                split <;> omega
              · rw [if_neg c2]
                split <;> omega
          refine vv_aload_n X 7 rfl rfl dX8_joinWithNext_143 ?_
          refine vv_callVI (As := []) (st := []) (Nf := 9) X 0 (c_X8_takeMix l D cA had Mc (hfb)) gX8_joinWithNext_X8_takeMix rfl (by decide +kernel) ⟨by decide, by decide⟩ (Nat.le_of_ble_eq_true rfl) ⟨by decide, by decide⟩ rfl (by decide) sh_90 rfl rfl dX8_joinWithNext_144 (fun z144 Md qd => ?_)
          exact vv_iret X hm (by
            obtain ⟨hO, hE⟩ := qd
            have hx3 : eqx M Mc [99] := by rw [hMc]; exact eqx_stc _ (eqx_rf _ _) (by decide)
            have e9 : Mc 99 = H := by rw [hMc, stc_s]
            rw [e9] at hO
            refine ⟨⟨fun q => absurd hin q, fun _ => ⟨fun q => ?_, fun _ => ?_⟩⟩, eqx_tr (eqx_mono hx3 (by decide)) hE⟩
            · exfalso
              have q1 : (M 7 x.toNat * M 8 x.toNat + M 7 (x.toNat + 1) * M 8 (x.toNat + 1)).tmod (M 7 x.toNat + M 7 (x.toNat + 1)) ≠ 0 := q
              rw [← ejm, ← ejw] at q1
              exact q1 c_91
            · exact opF_cong hFr (opF_l (eqA_sy (vC_same (fun a _ _ => hx3 a (by simp; omega)))) hO)) dX8_joinWithNext_147
        · skip
          refine vv_bipush (n := (-5)) X (by decide) dX8_joinWithNext_94 ?_
          exact vv_iret X hm (⟨⟨fun q => absurd hin q, fun _ => ⟨fun _ => ⟨rfl, eqA_rf _⟩, fun q => by
            exfalso
            have q1 : (M 7 x.toNat * M 8 x.toNat + M 7 (x.toNat + 1) * M 8 (x.toNat + 1)).tmod (M 7 x.toNat + M 7 (x.toNat + 1)) = 0 := q
            rw [← ejm, ← ejw] at q1
            exact c_91 q1⟩⟩, eqx_rf _ _⟩) dX8_joinWithNext_96
    · skip
      have hin : ¬ (0 ≤ x ∧ x + 1 < M 6 2) := fun q => by rw [if_pos (by omega)] at e_z20; omega
      refine vv_iconst (n := (-1)) X dX8_joinWithNext_26 ?_
      exact vv_iret X hm (⟨⟨fun _ => ⟨rfl, eqA_rf _⟩, fun q => absurd q hin⟩, eqx_rf _ _⟩) dX8_joinWithNext_27
theorem u_X8_aimAt_7 : ∀ w ∈ u_ws RX7 TX7 3, w ∈ wsX8_aimAt := by decide +kernel
theorem u_X8_aimAt_8 : ∀ w ∈ u_ws RX8 TX8 9, w ∈ wsX8_aimAt := by decide +kernel
theorem k_X8_aimAt_10 : Cond.fieldLink yX8_aimAt.cls 10 (TX8 0).1 (TX8 0).2.1 (TX8 0).2.2.1 ∈ wsX8_aimAt := by decide +kernel
theorem k_X8_aimAt_48 : Cond.fieldLink yX8_aimAt.cls 48 (TX8 6).1 (TX8 6).2.1 (TX8 6).2.2.1 ∈ wsX8_aimAt := by decide +kernel
theorem k_X8_aimAt_73 : Cond.fieldLink yX8_aimAt.cls 73 (TX7 0).1 (TX7 0).2.1 (TX7 0).2.2.1 ∈ wsX8_aimAt := by decide +kernel
set_option maxRecDepth 100000 in
set_option maxHeartbeats 4000000 in
theorem c_X8_aimAt (l : Launch) (D : va_G) {ad : Nat → Nat} (cA : Nat → ClassId) (had : adok ad) (M : Mem) (x : Int) (hx : 0 ≤ x ∧ x ≤ 100) (hW : cWR M) : CtV l yX8_aimAt wsX8_aimAt 3 70 D ad cA [.ref (ad 90), .int (zI x)] M (fun M1 => CU M M1 x) := by
  refine CtV.of (cc := cX8_aimAt) (maxL := 2) (ret := none) had (by decide) rfl (Nat.le_of_ble_eq_true rfl) ?_
  intro p e s m args below meth c X hm
  show VV p l e { frames := 3, cells := 0, slots := 0, locals := 70 } s m args below meth c 2 D ad cA (Afr ad s.heap.size) 0 0 (QV below args s D ad cA (fun M1 => CU M M1 x)) M 0 [(0, .ref (ad 90)), (1, .int (zI x))] []
  refine vv_aload_n X 0 rfl rfl dX8_aimAt_0 ?_
  refine vv_getr (Nf := 9) (ref := (TX8 6).1) X (by decide) sh_90 rfl 6 (by decide) u_X8_aimAt_8 k_X8_aimAt_48 rfl rfl dX8_aimAt_1 ?_
  refine vv_aload_n X 0 rfl rfl dX8_aimAt_4 ?_
  refine vv_getr (Nf := 9) (ref := (TX8 0).1) X (by decide) sh_90 rfl 0 (by decide) u_X8_aimAt_8 k_X8_aimAt_10 rfl rfl dX8_aimAt_5 ?_
  refine vv_getr (Nf := 3) (ref := (TX7 0).1) X (by decide) sh_0 rfl 0 (by decide) u_X8_aimAt_7 k_X8_aimAt_73 rfl rfl dX8_aimAt_8 ?_
  refine vv_callVV (As := [.ref (ad 1)]) (st := []) (Nf := 7) X 1 (c_X0_draw l D cA had M (by assumption)) gX8_aimAt_X0_draw rfl (by decide +kernel) ⟨by decide, by decide⟩ (Nat.le_of_ble_eq_true rfl) ⟨by decide, by decide⟩ rfl (by decide) sh_100 rfl rfl dX8_aimAt_11 (fun Mc11 q_11 => ?_)
  obtain ⟨E11, V11, H11, N11⟩ := q_11
  have e_Mc11_0 : Mc11 0 = M 0 := (E11 0 (by decide)).trans (show M 0 = M 0 from rfl)
  have e_Mc11_1 : Mc11 1 = M 1 := (E11 1 (by decide)).trans (show M 1 = M 1 from rfl)
  have e_Mc11_2 : Mc11 2 = M 2 := (E11 2 (by decide)).trans (show M 2 = M 2 from rfl)
  have e_Mc11_3 : Mc11 3 = M 3 := (E11 3 (by decide)).trans (show M 3 = M 3 from rfl)
  have e_Mc11_4 : Mc11 4 = M 4 := (E11 4 (by decide)).trans (show M 4 = M 4 from rfl)
  have e_Mc11_5 : Mc11 5 = M 5 := (E11 5 (by decide)).trans (show M 5 = M 5 from rfl)
  have e_Mc11_6 : Mc11 6 = M 6 := (E11 6 (by decide)).trans (show M 6 = M 6 from rfl)
  have e_Mc11_7 : Mc11 7 = M 7 := (E11 7 (by decide)).trans (show M 7 = M 7 from rfl)
  have e_Mc11_8 : Mc11 8 = M 8 := (E11 8 (by decide)).trans (show M 8 = M 8 from rfl)
  have e_Mc11_99 : Mc11 99 = M 99 := (E11 99 (by decide)).trans (show M 99 = M 99 from rfl)
  have e_Mc11_103 : Mc11 103 = M 103 := (E11 103 (by decide)).trans (show M 103 = M 103 from rfl)
  have e_Mc11_104 : Mc11 104 = M 104 := (E11 104 (by decide)).trans (show M 104 = M 104 from rfl)
  have hvb : ∀ y : Int, (0 ≤ y ∧ y ≤ 100) → -990 ≤ vM Mc11 y ∧ vM Mc11 y ≤ 990 := fun y hy => by
    have := V11 y.toNat (by omega)
    have h2 := vl_b (x := ((y.toNat : Nat) : Int)) hW.2
    show -990 ≤ Mc11 101 y.toNat ∧ Mc11 101 y.toNat ≤ 990
    rw [this]
    unfold cvl
    omega
  refine vv_aload_n X 0 rfl rfl dX8_aimAt_14 ?_
  refine vv_getr (Nf := 9) (ref := (TX8 6).1) X (by decide) sh_90 rfl 6 (by decide) u_X8_aimAt_8 k_X8_aimAt_48 rfl rfl dX8_aimAt_15 ?_
  refine vv_iload_n X 1 rfl rfl dX8_aimAt_18 ?_
  refine vv_callVV (As := [.int (zI x)]) (st := []) (Nf := 7) X 1 (c_X0_aim l D cA had Mc11 x (by omega) (by omega) (by assumption) (by assumption)) gX8_aimAt_X0_aim rfl (by decide +kernel) ⟨by decide, by decide⟩ (Nat.le_of_ble_eq_true rfl) ⟨by decide, by decide⟩ rfl (by decide) sh_100 rfl rfl dX8_aimAt_19 (fun Mc19 q_19 => ?_)
  obtain ⟨E19, C19, B19, L19, U19⟩ := q_19
  have e_Mc19_0 : Mc19 0 = M 0 := (E19 0 (by decide)).trans (show Mc11 0 = M 0 from e_Mc11_0)
  have e_Mc19_1 : Mc19 1 = M 1 := (E19 1 (by decide)).trans (show Mc11 1 = M 1 from e_Mc11_1)
  have e_Mc19_2 : Mc19 2 = M 2 := (E19 2 (by decide)).trans (show Mc11 2 = M 2 from e_Mc11_2)
  have e_Mc19_3 : Mc19 3 = M 3 := (E19 3 (by decide)).trans (show Mc11 3 = M 3 from e_Mc11_3)
  have e_Mc19_4 : Mc19 4 = M 4 := (E19 4 (by decide)).trans (show Mc11 4 = M 4 from e_Mc11_4)
  have e_Mc19_5 : Mc19 5 = M 5 := (E19 5 (by decide)).trans (show Mc11 5 = M 5 from e_Mc11_5)
  have e_Mc19_6 : Mc19 6 = M 6 := (E19 6 (by decide)).trans (show Mc11 6 = M 6 from e_Mc11_6)
  have e_Mc19_7 : Mc19 7 = M 7 := (E19 7 (by decide)).trans (show Mc11 7 = M 7 from e_Mc11_7)
  have e_Mc19_8 : Mc19 8 = M 8 := (E19 8 (by decide)).trans (show Mc11 8 = M 8 from e_Mc11_8)
  have e_Mc19_99 : Mc19 99 = M 99 := (E19 99 (by decide)).trans (show Mc11 99 = M 99 from e_Mc11_99)
  have e_Mc19_101 : Mc19 101 = Mc11 101 := (E19 101 (by decide)).trans (show Mc11 101 = Mc11 101 from rfl)
  have e_Mc19_102 : Mc19 102 = Mc11 102 := (E19 102 (by decide)).trans (show Mc11 102 = Mc11 102 from rfl)
  have e_Mc19_103 : Mc19 103 = M 103 := (E19 103 (by decide)).trans (show Mc11 103 = M 103 from e_Mc11_103)
  have e_Mc19_104 : Mc19 104 = M 104 := (E19 104 (by decide)).trans (show Mc11 104 = M 104 from e_Mc11_104)
  exact vv_vret X hm (CU_of hx E11 V11 E19 B19 L19 U19) dX8_aimAt_22
